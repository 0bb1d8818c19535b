set_option maxHeartbeats 4000000 in
set_option maxRecDepth 100000 in
theorem cn_X2_placeOf (l : Launch) (D : va_G) (cB cI cZ : ClassId) (N : Nat) (a0 : Nat → Nat) (I0 : Nat → Int32) (M0 : Nat → Nat → Int32) (x1 : Int32) (x2 : Int32) (R : Int32) (hf : fX2_placeOf N I0 M0 x1 x2 = some R) : Met l yX2_placeOf wsX2_placeOf ({ frames := 0, cells := 0, slots := 0, locals := 0 }) (va_Pc [.ref (a0 0), .int x1, .int x2] (wb_pre D [(cB, .byte), (cI, .int), (cZ, .boolean)] (wWX2 cB cI cZ a0 I0 M0))) (vp_Si (fun r => r = R)) 0 0 (fun _ => False) := by
  refine Met.ofW (cc := cX2_placeOf) (maxL := 6) (ret := (some .int)) (by decide) rfl ?_
  intro p e s m args below meth c s₁ B hml hv
  obtain ⟨rfl, hP, hK⟩ := hv
  have hx := B.exec
  have hb := B.bytes
  have hr := B.returns
  have hts := atoms_spec (ws := wsX2_placeOf) B.pre
  have hown : s.vm.findClass RX2 = some m.cls := findClass_of_methodNamed B.named
  have hlocks := B.notSynchronized
  have hinX2 : ∀ w ∈ u_ws RX2 TX2 2, w ∈ wsX2_placeOf := fun w h => List.mem_cons_of_mem _ (List.mem_append_right _ h)
  have hl := lv_entry ([.ref (a0 0), .int x1, .int x2]) (n := 6) (Nat.le_of_ble_eq_true rfl)
  rw [lg_entry_eq]
  generalize (lg_sl ([.ref (a0 0), .int x1, .int x2]) ++ List.replicate (6 - (lg_sl ([.ref (a0 0), .int x1, .int x2])).length) Slot.unset).toArray = ls at hl ⊢
  have hl : lv_has ls 6 [(0, .ref (a0 0)), (1, .int x1), (2, .int x2)] := hl
  unfold fX2_placeOf at hf
  have J41 : ∀ (y41_3 : Int32), ∀ (ls : Array Slot), lv_has ls 6 [(0, .ref (a0 0)), (1, .int x1), (2, .int x2), (3, .int y41_3)] → fX2_placeOf_J41 N I0 M0 x1 x2 y41_3 = some R → W p l e (headSpec wsX2_placeOf { frames := 0, cells := 0, slots := 0, locals := 0 }).room s m [.ref (a0 0), .int x1, .int x2].toArray below meth c s.heap [] 0 0 (MQ below (vp_Si (fun r => r = R)) [.ref (a0 0), .int x1, .int x2].toArray s 0 0 (fun _ => False)) (F0 m 41 ls []) := by
    intro y41_3 ls hl hf
    unfold fX2_placeOf_J41 at hf
    refine lv_aload_n hx hb dX2_placeOf_41 rfl (lv_at hl 0 rfl) ?_
    refine va_get (D := D) (ci := 2) (v := .ref (a0 1)) (C := RX2) (T := TX2) (N := 2) hx hb hts hinX2 hown hK hP 0 rfl rfl 0 (by decide) (hts (.fieldLink RX2 11 "WheelBook$Climates" "ahead" "[I") (List.mem_of_getElem? (i := 1) rfl)) (fun _ h9 => h9) rfl dX2_placeOf_42 ?_
    refine lv_bipush (v := (13 : Int32)) hx hb dX2_placeOf_45 (by decide) ?_
    refine lv_iload_n hx hb dX2_placeOf_47 rfl (lv_at hl 1 rfl) ?_
    refine lv_imul hx hb dX2_placeOf_48 ?_
    refine lv_iload_n hx hb dX2_placeOf_49 rfl (lv_at hl 3 rfl) ?_
    refine lv_iadd hx hb dX2_placeOf_50 ?_
    obtain ⟨hin, hf⟩ := wb_n hf
    refine va_iald hx hb hK hP 1 1 rfl rfl hin dX2_placeOf_51 ?_
    obtain ⟨v1, ev1, hf⟩ := wb_v hf
    refine wb_topi ev1 ?_
    refine lv_istore (lv' := [(4, .int v1), (0, .ref (a0 0)), (1, .int x1), (2, .int x2), (3, .int y41_3)]) hx hb dX2_placeOf_52 hl (by decide) rfl (fun ls hl => ?_)
    refine lv_aload_n hx hb dX2_placeOf_54 rfl (lv_at hl 1 rfl) ?_
    refine va_get (D := D) (ci := 2) (v := .ref (a0 1)) (C := RX2) (T := TX2) (N := 2) hx hb hts hinX2 hown hK hP 0 rfl rfl 0 (by decide) (hts (.fieldLink RX2 11 "WheelBook$Climates" "ahead" "[I") (List.mem_of_getElem? (i := 1) rfl)) (fun _ h9 => h9) rfl dX2_placeOf_55 ?_
    refine lv_bipush (v := (13 : Int32)) hx hb dX2_placeOf_58 (by decide) ?_
    refine lv_iload_n hx hb dX2_placeOf_60 rfl (lv_at hl 2 rfl) ?_
    refine lv_imul hx hb dX2_placeOf_61 ?_
    refine lv_iload_n hx hb dX2_placeOf_62 rfl (lv_at hl 4 rfl) ?_
    refine lv_iadd hx hb dX2_placeOf_63 ?_
    refine lv_iconst (v := (1 : Int32)) hx hb dX2_placeOf_64 (by decide) ?_
    refine lv_iadd hx hb dX2_placeOf_65 ?_
    obtain ⟨hin, hf⟩ := wb_n hf
    refine va_iald hx hb hK hP 1 1 rfl rfl hin dX2_placeOf_66 ?_
    refine lv_iload hx hb dX2_placeOf_67 (lv_at hl 0 rfl) ?_
    refine lv_isub hx hb dX2_placeOf_69 ?_
    obtain ⟨v2, ev2, hf⟩ := wb_v hf
    refine wb_topi ev2 ?_
    refine lv_istore (lv' := [(5, .int v2), (4, .int v1), (0, .ref (a0 0)), (1, .int x1), (2, .int x2), (3, .int y41_3)]) hx hb dX2_placeOf_70 hl (by decide) rfl (fun ls hl => ?_)
    refine lv_iload hx hb dX2_placeOf_72 (lv_at hl 0 rfl) ?_
    refine lv_iconst (v := (1 : Int32)) hx hb dX2_placeOf_74 (by decide) ?_
    refine lv_icmp_ge (tgt := 80) hx hb dX2_placeOf_75 (by decide) (fun hc => ?_) (fun hc => ?_)
    · replace hf := wb_t hc hf
      refine lv_sipush (v := (1800 : Int32)) hx hb dX2_placeOf_80 (by decide) ?_
      refine lv_iload_n hx hb dX2_placeOf_83 rfl (lv_at hl 5 rfl) ?_
      refine lv_imul hx hb dX2_placeOf_84 ?_
      refine lv_iload_n hx hb dX2_placeOf_85 rfl (lv_at hl 4 rfl) ?_
      refine lv_sipush (v := (1800 : Int32)) hx hb dX2_placeOf_86 (by decide) ?_
      refine lv_iload hx hb dX2_placeOf_89 (lv_at hl 1 rfl) ?_
      refine lv_imul hx hb dX2_placeOf_91 ?_
      refine lv_isub hx hb dX2_placeOf_92 ?_
      refine lv_iload hx hb dX2_placeOf_93 (lv_at hl 0 rfl) ?_
      obtain ⟨hz, hf⟩ := wb_n hf
      refine lv_idiv hx hb dX2_placeOf_95 hz ?_
      refine lv_iadd hx hb dX2_placeOf_96 ?_
      exact W.iret (v := (((1800 : Int32) * y41_3) + ((x2 - ((1800 : Int32) * v1)) / v2))) hx hb hr (fun t ht hW => ⟨_, rfl, Option.some.inj hf, ht⟩) (fun _ h => nomatch h) dX2_placeOf_97
    · replace hf := wb_f hc hf
      refine lv_iconst (v := (0 : Int32)) hx hb dX2_placeOf_78 (by decide) ?_
      exact W.iret (v := (0 : Int32)) hx hb hr (fun t ht hW => ⟨_, rfl, Option.some.inj hf, ht⟩) (fun _ h => nomatch h) dX2_placeOf_79
  refine lv_iconst (v := (0 : Int32)) hx hb dX2_placeOf_0 (by decide) ?_
  refine lv_istore_n (lv' := [(3, .int (0 : Int32)), (0, .ref (a0 0)), (1, .int x1), (2, .int x2)]) hx hb dX2_placeOf_1 rfl hl (by decide) rfl (fun ls hl => ?_)
  refine lv_iconst (v := (1 : Int32)) hx hb dX2_placeOf_2 (by decide) ?_
  refine lv_istore (lv' := [(4, .int (1 : Int32)), (3, .int (0 : Int32)), (0, .ref (a0 0)), (1, .int x1), (2, .int x2)]) hx hb dX2_placeOf_3 hl (by decide) rfl (fun ls hl => ?_)
  have L5 : ∀ (fu5 : Nat) (y5_3 : Int32) (y5_4 : Int32), ∀ (ls : Array Slot), lv_has ls 6 [(0, .ref (a0 0)), (1, .int x1), (2, .int x2), (3, .int y5_3), (4, .int y5_4)] → fX2_placeOf_L5 N I0 M0 x1 x2 fu5 y5_3 y5_4 = some R → W p l e (headSpec wsX2_placeOf { frames := 0, cells := 0, slots := 0, locals := 0 }).room s m [.ref (a0 0), .int x1, .int x2].toArray below meth c s.heap [] 0 0 (MQ below (vp_Si (fun r => r = R)) [.ref (a0 0), .int x1, .int x2].toArray s 0 0 (fun _ => False)) (F0 m 5 ls []) := by
    intro fu5
    induction fu5 with
    | zero =>
      intro y5_3 y5_4 ls hl hf
      exact absurd hf (by rw [fX2_placeOf_L5.eq_1]; exact fun h => nomatch h)
    | succ fu5 ih5 =>
      intro y5_3 y5_4 ls hl hf
      rw [fX2_placeOf_L5.eq_2] at hf
      refine lv_iload hx hb dX2_placeOf_5 (lv_at hl 4 rfl) ?_
      refine lv_bipush (v := (12 : Int32)) hx hb dX2_placeOf_7 (by decide) ?_
      refine lv_icmp_ge (tgt := 41) hx hb dX2_placeOf_9 (by decide) (fun hc => ?_) (fun hc => ?_)
      · replace hf := wb_t hc hf
        exact J41 y5_3 ls (lv_sub hl [0, 1, 2, 3] rfl) hf
      · replace hf := wb_f hc hf
        refine lv_sipush (v := (1800 : Int32)) hx hb dX2_placeOf_12 (by decide) ?_
        refine lv_aload_n hx hb dX2_placeOf_15 rfl (lv_at hl 0 rfl) ?_
        refine va_get (D := D) (ci := 2) (v := .ref (a0 1)) (C := RX2) (T := TX2) (N := 2) hx hb hts hinX2 hown hK hP 0 rfl rfl 0 (by decide) (hts (.fieldLink RX2 11 "WheelBook$Climates" "ahead" "[I") (List.mem_of_getElem? (i := 1) rfl)) (fun _ h9 => h9) rfl dX2_placeOf_16 ?_
        refine lv_bipush (v := (13 : Int32)) hx hb dX2_placeOf_19 (by decide) ?_
        refine lv_iload_n hx hb dX2_placeOf_21 rfl (lv_at hl 1 rfl) ?_
        refine lv_imul hx hb dX2_placeOf_22 ?_
        refine lv_iload hx hb dX2_placeOf_23 (lv_at hl 4 rfl) ?_
        refine lv_iadd hx hb dX2_placeOf_25 ?_
        obtain ⟨hin, hf⟩ := wb_n hf
        refine va_iald hx hb hK hP 1 1 rfl rfl hin dX2_placeOf_26 ?_
        refine lv_imul hx hb dX2_placeOf_27 ?_
        refine lv_iload_n hx hb dX2_placeOf_28 rfl (lv_at hl 2 rfl) ?_
        refine lv_icmp_gt (tgt := 41) hx hb dX2_placeOf_29 (by decide) (fun hc => ?_) (fun hc => ?_)
        · replace hf := wb_t hc hf
          exact J41 y5_3 ls (lv_sub hl [0, 1, 2, 3] rfl) hf
        · replace hf := wb_f hc hf
          refine lv_iload hx hb dX2_placeOf_32 (lv_at hl 4 rfl) ?_
          refine lv_istore_n (lv' := [(3, .int y5_4), (0, .ref (a0 0)), (1, .int x1), (2, .int x2), (4, .int y5_4)]) hx hb dX2_placeOf_34 rfl hl (by decide) rfl (fun ls hl => ?_)
          obtain ⟨v3, ev3, hf⟩ := wb_v hf
          refine lv_iinc (v := v3) (lv' := [(4, .int v3), (3, .int y5_4), (0, .ref (a0 0)), (1, .int x1), (2, .int x2)]) hx hb dX2_placeOf_35 hl (k := 4) rfl (by rw [ev3]; rfl) (by decide) rfl (fun ls hl => ?_)
          refine lv_goto (tgt := 5) hx hb dX2_placeOf_38 (by decide) ?_
          exact ih5 y5_4 v3 ls (lv_sub hl [2, 3, 4, 1, 0] rfl) hf
  exact L5 N (0 : Int32) (1 : Int32) ls (lv_sub hl [2, 3, 4, 1, 0] rfl) hf

