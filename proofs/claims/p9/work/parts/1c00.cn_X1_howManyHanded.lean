set_option maxHeartbeats 4000000 in
set_option maxRecDepth 100000 in
theorem cn_X1_howManyHanded (l : Launch) (D : va_G) (cB cI cZ : ClassId) (N : Nat) (a0 : Nat → Nat) (I0 : Nat → Int32) (M0 : Nat → Nat → Int32) (x1 : Int32) (x2 : Int32) (x3 : Int32) (R : Int32) (hf : fX1_howManyHanded N I0 M0 x1 x2 x3 = some R) : Met l yX1_howManyHanded wsX1_howManyHanded ({ frames := 0, cells := 0, slots := 0, locals := 0 }) (va_Pc [.ref (a0 0), .int x1, .int x2, .int x3] (wb_pre D [(cB, .byte), (cI, .int), (cZ, .boolean)] (wWX1 cB cI cZ a0 I0 M0))) (vp_Si (fun r => r = R)) 0 0 (fun _ => False) := by
  refine Met.ofW (cc := cX1_howManyHanded) (maxL := 9) (ret := (some .int)) (by decide) rfl ?_
  intro p e s m args below meth c s₁ B hml hv
  obtain ⟨rfl, hP, hK⟩ := hv
  have hx := B.exec
  have hb := B.bytes
  have hr := B.returns
  have hts := atoms_spec (ws := wsX1_howManyHanded) B.pre
  have hown : s.vm.findClass RX1 = some m.cls := findClass_of_methodNamed B.named
  have hlocks := B.notSynchronized
  have hinX1 : ∀ w ∈ u_ws RX1 TX1 2, w ∈ wsX1_howManyHanded := fun w h => List.mem_cons_of_mem _ (List.mem_append_right _ h)
  have hl := lv_entry ([.ref (a0 0), .int x1, .int x2, .int x3]) (n := 9) (Nat.le_of_ble_eq_true rfl)
  rw [lg_entry_eq]
  generalize (lg_sl ([.ref (a0 0), .int x1, .int x2, .int x3]) ++ List.replicate (9 - (lg_sl ([.ref (a0 0), .int x1, .int x2, .int x3])).length) Slot.unset).toArray = ls at hl ⊢
  have hl : lv_has ls 9 [(0, .ref (a0 0)), (1, .int x1), (2, .int x2), (3, .int x3)] := hl
  unfold fX1_howManyHanded at hf
  refine lv_iconst (v := (0 : Int32)) hx hb dX1_howManyHanded_0 (by decide) ?_
  refine lv_istore (lv' := [(4, .int (0 : Int32)), (0, .ref (a0 0)), (1, .int x1), (2, .int x2), (3, .int x3)]) hx hb dX1_howManyHanded_1 hl (by decide) rfl (fun ls hl => ?_)
  refine lv_iconst (v := (0 : Int32)) hx hb dX1_howManyHanded_3 (by decide) ?_
  refine lv_istore (lv' := [(5, .int (0 : Int32)), (4, .int (0 : Int32)), (0, .ref (a0 0)), (1, .int x1), (2, .int x2), (3, .int x3)]) hx hb dX1_howManyHanded_4 hl (by decide) rfl (fun ls hl => ?_)
  have L6 : ∀ (fu6 : Nat) (y6_4 : Int32) (y6_5 : Int32), ∀ (ls : Array Slot), lv_has ls 9 [(0, .ref (a0 0)), (1, .int x1), (2, .int x2), (3, .int x3), (4, .int y6_4), (5, .int y6_5)] → fX1_howManyHanded_L6 N I0 M0 x1 x2 x3 fu6 y6_4 y6_5 = some R → W p l e (headSpec wsX1_howManyHanded { frames := 0, cells := 0, slots := 0, locals := 0 }).room s m [.ref (a0 0), .int x1, .int x2, .int x3].toArray below meth c s.heap [] 0 0 (MQ below (vp_Si (fun r => r = R)) [.ref (a0 0), .int x1, .int x2, .int x3].toArray s 0 0 (fun _ => False)) (F0 m 6 ls []) := by
    intro fu6
    induction fu6 with
    | zero =>
      intro y6_4 y6_5 ls hl hf
      exact absurd hf (by rw [fX1_howManyHanded_L6.eq_1]; exact fun h => nomatch h)
    | succ fu6 ih6 =>
      intro y6_4 y6_5 ls hl hf
      rw [fX1_howManyHanded_L6.eq_2] at hf
      refine lv_iload hx hb dX1_howManyHanded_6 (lv_at hl 5 rfl) ?_
      refine lv_sipush (v := (440 : Int32)) hx hb dX1_howManyHanded_8 (by decide) ?_
      refine lv_icmp_ge (tgt := 94) hx hb dX1_howManyHanded_11 (by decide) (fun hc => ?_) (fun hc => ?_)
      · replace hf := wb_t hc hf
        refine lv_iload hx hb dX1_howManyHanded_94 (lv_at hl 4 rfl) ?_
        exact W.iret (v := y6_4) hx hb hr (fun t ht hW => ⟨_, rfl, Option.some.inj hf, ht⟩) (fun _ h => nomatch h) dX1_howManyHanded_96
      · replace hf := wb_f hc hf
        refine lv_aload_n hx hb dX1_howManyHanded_14 rfl (lv_at hl 0 rfl) ?_
        refine va_get (D := D) (ci := 1) (v := .ref (a0 1)) (C := RX1) (T := TX1) (N := 2) hx hb hts hinX1 hown hK hP 0 rfl rfl 0 (by decide) (hts (.fieldLink RX1 9 "WheelBook$Books" "degrees" "[I") (List.mem_of_getElem? (i := 1) rfl)) (fun _ h9 => h9) rfl dX1_howManyHanded_15 ?_
        refine lv_sipush (v := (440 : Int32)) hx hb dX1_howManyHanded_18 (by decide) ?_
        refine lv_iload_n hx hb dX1_howManyHanded_21 rfl (lv_at hl 1 rfl) ?_
        refine lv_imul hx hb dX1_howManyHanded_22 ?_
        refine lv_iload hx hb dX1_howManyHanded_23 (lv_at hl 5 rfl) ?_
        refine lv_iadd hx hb dX1_howManyHanded_25 ?_
        obtain ⟨hin, hf⟩ := wb_n hf
        refine va_iald hx hb hK hP 1 1 rfl rfl hin dX1_howManyHanded_26 ?_
        obtain ⟨v1, ev1, hf⟩ := wb_v hf
        refine wb_topi ev1 ?_
        refine lv_istore (lv' := [(6, .int v1), (0, .ref (a0 0)), (1, .int x1), (2, .int x2), (3, .int x3), (4, .int y6_4), (5, .int y6_5)]) hx hb dX1_howManyHanded_27 hl (by decide) rfl (fun ls hl => ?_)
        refine lv_aload_n hx hb dX1_howManyHanded_29 rfl (lv_at hl 1 rfl) ?_
        refine va_get (D := D) (ci := 1) (v := .ref (a0 1)) (C := RX1) (T := TX1) (N := 2) hx hb hts hinX1 hown hK hP 0 rfl rfl 0 (by decide) (hts (.fieldLink RX1 9 "WheelBook$Books" "degrees" "[I") (List.mem_of_getElem? (i := 1) rfl)) (fun _ h9 => h9) rfl dX1_howManyHanded_30 ?_
        refine lv_sipush (v := (440 : Int32)) hx hb dX1_howManyHanded_33 (by decide) ?_
        refine lv_iload_n hx hb dX1_howManyHanded_36 rfl (lv_at hl 3 rfl) ?_
        refine lv_imul hx hb dX1_howManyHanded_37 ?_
        refine lv_iload hx hb dX1_howManyHanded_38 (lv_at hl 6 rfl) ?_
        refine lv_iadd hx hb dX1_howManyHanded_40 ?_
        obtain ⟨hin, hf⟩ := wb_n hf
        refine va_iald hx hb hK hP 1 1 rfl rfl hin dX1_howManyHanded_41 ?_
        obtain ⟨v2, ev2, hf⟩ := wb_v hf
        refine wb_topi ev2 ?_
        refine lv_istore (lv' := [(7, .int v2), (6, .int v1), (0, .ref (a0 0)), (1, .int x1), (2, .int x2), (3, .int x3), (4, .int y6_4), (5, .int y6_5)]) hx hb dX1_howManyHanded_42 hl (by decide) rfl (fun ls hl => ?_)
        refine lv_aload_n hx hb dX1_howManyHanded_44 rfl (lv_at hl 2 rfl) ?_
        refine va_get (D := D) (ci := 1) (v := .ref (a0 1)) (C := RX1) (T := TX1) (N := 2) hx hb hts hinX1 hown hK hP 0 rfl rfl 0 (by decide) (hts (.fieldLink RX1 9 "WheelBook$Books" "degrees" "[I") (List.mem_of_getElem? (i := 1) rfl)) (fun _ h9 => h9) rfl dX1_howManyHanded_45 ?_
        refine lv_sipush (v := (440 : Int32)) hx hb dX1_howManyHanded_48 (by decide) ?_
        refine lv_iload_n hx hb dX1_howManyHanded_51 rfl (lv_at hl 5 rfl) ?_
        refine lv_imul hx hb dX1_howManyHanded_52 ?_
        refine lv_iload hx hb dX1_howManyHanded_53 (lv_at hl 7 rfl) ?_
        refine lv_iadd hx hb dX1_howManyHanded_55 ?_
        obtain ⟨hin, hf⟩ := wb_n hf
        refine va_iald hx hb hK hP 1 1 rfl rfl hin dX1_howManyHanded_56 ?_
        obtain ⟨v3, ev3, hf⟩ := wb_v hf
        refine wb_topi ev3 ?_
        refine lv_istore (lv' := [(8, .int v3), (7, .int v2), (6, .int v1), (0, .ref (a0 0)), (1, .int x1), (2, .int x2), (3, .int x3), (4, .int y6_4), (5, .int y6_5)]) hx hb dX1_howManyHanded_57 hl (by decide) rfl (fun ls hl => ?_)
        refine lv_iload hx hb dX1_howManyHanded_59 (lv_at hl 2 rfl) ?_
        refine lv_iconst (v := (-1 : Int32)) hx hb dX1_howManyHanded_61 (by decide) ?_
        refine lv_icmp_eq (tgt := 88) hx hb dX1_howManyHanded_62 (by decide) (fun hc => ?_) (fun hc => ?_)
        · replace hf := wb_t hc hf
          obtain ⟨v4, ev4, hf⟩ := wb_v hf
          refine lv_iinc (v := v4) (lv' := [(5, .int v4), (8, .int v3), (7, .int v2), (6, .int v1), (0, .ref (a0 0)), (1, .int x1), (2, .int x2), (3, .int x3), (4, .int y6_4)]) hx hb dX1_howManyHanded_88 hl (k := 8) rfl (by rw [ev4]; rfl) (by decide) rfl (fun ls hl => ?_)
          refine lv_goto (tgt := 6) hx hb dX1_howManyHanded_91 (by decide) ?_
          exact ih6 y6_4 v4 ls (lv_sub hl [4, 5, 6, 7, 8, 0] rfl) hf
        · replace hf := wb_f hc hf
          refine lv_iload hx hb dX1_howManyHanded_65 (lv_at hl 2 rfl) ?_
          refine lv_iload hx hb dX1_howManyHanded_67 (lv_at hl 1 rfl) ?_
          refine lv_icmp_ne (tgt := 88) hx hb dX1_howManyHanded_69 (by decide) (fun hc => ?_) (fun hc => ?_)
          · replace hf := wb_f hc hf
            obtain ⟨v5, ev5, hf⟩ := wb_v hf
            refine lv_iinc (v := v5) (lv' := [(5, .int v5), (8, .int v3), (7, .int v2), (6, .int v1), (0, .ref (a0 0)), (1, .int x1), (2, .int x2), (3, .int x3), (4, .int y6_4)]) hx hb dX1_howManyHanded_88 hl (k := 8) rfl (by rw [ev5]; rfl) (by decide) rfl (fun ls hl => ?_)
            refine lv_goto (tgt := 6) hx hb dX1_howManyHanded_91 (by decide) ?_
            exact ih6 y6_4 v5 ls (lv_sub hl [4, 5, 6, 7, 8, 0] rfl) hf
          · replace hf := wb_t hc hf
            refine lv_iload hx hb dX1_howManyHanded_72 (lv_at hl 0 rfl) ?_
            refine lv_iconst (v := (-1 : Int32)) hx hb dX1_howManyHanded_74 (by decide) ?_
            refine lv_icmp_eq (tgt := 88) hx hb dX1_howManyHanded_75 (by decide) (fun hc => ?_) (fun hc => ?_)
            · replace hf := wb_t hc hf
              obtain ⟨v6, ev6, hf⟩ := wb_v hf
              refine lv_iinc (v := v6) (lv' := [(5, .int v6), (8, .int v3), (7, .int v2), (6, .int v1), (0, .ref (a0 0)), (1, .int x1), (2, .int x2), (3, .int x3), (4, .int y6_4)]) hx hb dX1_howManyHanded_88 hl (k := 8) rfl (by rw [ev6]; rfl) (by decide) rfl (fun ls hl => ?_)
              refine lv_goto (tgt := 6) hx hb dX1_howManyHanded_91 (by decide) ?_
              exact ih6 y6_4 v6 ls (lv_sub hl [4, 5, 6, 7, 8, 0] rfl) hf
            · replace hf := wb_f hc hf
              refine lv_iload hx hb dX1_howManyHanded_78 (lv_at hl 0 rfl) ?_
              refine lv_iload hx hb dX1_howManyHanded_80 (lv_at hl 2 rfl) ?_
              refine lv_icmp_eq (tgt := 88) hx hb dX1_howManyHanded_82 (by decide) (fun hc => ?_) (fun hc => ?_)
              · replace hf := wb_t hc hf
                obtain ⟨v7, ev7, hf⟩ := wb_v hf
                refine lv_iinc (v := v7) (lv' := [(5, .int v7), (8, .int v3), (7, .int v2), (6, .int v1), (0, .ref (a0 0)), (1, .int x1), (2, .int x2), (3, .int x3), (4, .int y6_4)]) hx hb dX1_howManyHanded_88 hl (k := 8) rfl (by rw [ev7]; rfl) (by decide) rfl (fun ls hl => ?_)
                refine lv_goto (tgt := 6) hx hb dX1_howManyHanded_91 (by decide) ?_
                exact ih6 y6_4 v7 ls (lv_sub hl [4, 5, 6, 7, 8, 0] rfl) hf
              · replace hf := wb_f hc hf
                obtain ⟨v8, ev8, hf⟩ := wb_v hf
                refine lv_iinc (v := v8) (lv' := [(4, .int v8), (8, .int v3), (7, .int v2), (6, .int v1), (0, .ref (a0 0)), (1, .int x1), (2, .int x2), (3, .int x3), (5, .int y6_5)]) hx hb dX1_howManyHanded_85 hl (k := 7) rfl (by rw [ev8]; rfl) (by decide) rfl (fun ls hl => ?_)
                obtain ⟨v9, ev9, hf⟩ := wb_v hf
                refine lv_iinc (v := v9) (lv' := [(5, .int v9), (4, .int v8), (8, .int v3), (7, .int v2), (6, .int v1), (0, .ref (a0 0)), (1, .int x1), (2, .int x2), (3, .int x3)]) hx hb dX1_howManyHanded_88 hl (k := 8) rfl (by rw [ev9]; rfl) (by decide) rfl (fun ls hl => ?_)
                refine lv_goto (tgt := 6) hx hb dX1_howManyHanded_91 (by decide) ?_
                exact ih6 v8 v9 ls (lv_sub hl [5, 6, 7, 8, 1, 0] rfl) hf
  exact L6 N (0 : Int32) (0 : Int32) ls (lv_sub hl [2, 3, 4, 5, 1, 0] rfl) hf

