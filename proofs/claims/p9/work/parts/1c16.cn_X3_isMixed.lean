set_option maxHeartbeats 4000000 in
set_option maxRecDepth 100000 in
theorem cn_X3_isMixed (l : Launch) (D : va_G) (cB cI cZ : ClassId) (N : Nat) (a0 : Nat → Nat) (I0 : Nat → Int32) (M0 : Nat → Nat → Int32) (a1 : Nat → Nat) (I1 : Nat → Int32) (M1 : Nat → Nat → Int32) (x2 : Int32) (x3 : Int32) (R : Int32) (hf : fX3_isMixed N I0 M0 I1 M1 x2 x3 = some R) : Met l yX3_isMixed wsX3_isMixed ({ frames := 5, cells := 0, slots := 0, locals := 140 }) (va_Pc [.ref (a0 0), .ref (a1 0), .int x2, .int x3] (wb_pre D [(cB, .byte), (cI, .int), (cZ, .boolean)] ((wWX5 cB cI cZ a0 I0 M0) ++ (wWX1 cB cI cZ a1 I1 M1)))) (vp_Si (fun r => r = R)) 0 0 (fun _ => False) := by
  refine Met.ofW (cc := cX3_isMixed) (maxL := 8) (ret := (some .boolean)) (by decide) rfl ?_
  intro p e s m args below meth c s₁ B hml hv
  obtain ⟨rfl, hP, hK⟩ := hv
  have hx := B.exec
  have hb := B.bytes
  have hr := B.returns
  have hts := atoms_spec (ws := wsX3_isMixed) B.pre
  have hown : s.vm.findClass RX3 = some m.cls := findClass_of_methodNamed B.named
  have hlocks := B.notSynchronized
  have hl := lv_entry ([.ref (a0 0), .ref (a1 0), .int x2, .int x3]) (n := 8) (Nat.le_of_ble_eq_true rfl)
  rw [lg_entry_eq]
  generalize (lg_sl ([.ref (a0 0), .ref (a1 0), .int x2, .int x3]) ++ List.replicate (8 - (lg_sl ([.ref (a0 0), .ref (a1 0), .int x2, .int x3])).length) Slot.unset).toArray = ls at hl ⊢
  have hl : lv_has ls 8 [(0, .ref (a0 0)), (1, .ref (a1 0)), (2, .int x2), (3, .int x3)] := hl
  unfold fX3_isMixed at hf
  refine lv_bipush (v := (15 : Int32)) hx hb dX3_isMixed_0 (by decide) ?_
  refine lv_istore (lv' := [(4, .int (15 : Int32)), (0, .ref (a0 0)), (1, .ref (a1 0)), (2, .int x2), (3, .int x3)]) hx hb dX3_isMixed_2 hl (by decide) rfl (fun ls hl => ?_)
  refine lv_iconst (v := (0 : Int32)) hx hb dX3_isMixed_4 (by decide) ?_
  refine lv_istore (lv' := [(5, .int (0 : Int32)), (4, .int (15 : Int32)), (0, .ref (a0 0)), (1, .ref (a1 0)), (2, .int x2), (3, .int x3)]) hx hb dX3_isMixed_5 hl (by decide) rfl (fun ls hl => ?_)
  have L7 : ∀ (fu7 : Nat) (y7_4 : Int32) (y7_5 : Int32), ∀ (ls : Array Slot), lv_has ls 8 [(0, .ref (a0 0)), (1, .ref (a1 0)), (2, .int x2), (3, .int x3), (4, .int y7_4), (5, .int y7_5)] → fX3_isMixed_L7 N I0 M0 I1 M1 x2 x3 fu7 y7_4 y7_5 = some R → W p l e (headSpec wsX3_isMixed { frames := 5, cells := 0, slots := 0, locals := 140 }).room s m [.ref (a0 0), .ref (a1 0), .int x2, .int x3].toArray below meth c s.heap [] 0 0 (MQ below (vp_Si (fun r => r = R)) [.ref (a0 0), .ref (a1 0), .int x2, .int x3].toArray s 0 0 (fun _ => False)) (F0 m 7 ls []) := by
    intro fu7
    induction fu7 with
    | zero =>
      intro y7_4 y7_5 ls hl hf
      exact absurd hf (by rw [fX3_isMixed_L7.eq_1]; exact fun h => nomatch h)
    | succ fu7 ih7 =>
      intro y7_4 y7_5 ls hl hf
      rw [fX3_isMixed_L7.eq_2] at hf
      refine lv_iload hx hb dX3_isMixed_7 (lv_at hl 5 rfl) ?_
      refine lv_bipush (v := (7 : Int32)) hx hb dX3_isMixed_9 (by decide) ?_
      refine lv_icmp_ge (tgt := 60) hx hb dX3_isMixed_11 (by decide) (fun hc => ?_) (fun hc => ?_)
      · replace hf := wb_t hc hf
        refine lv_iload hx hb dX3_isMixed_60 (lv_at hl 4 rfl) ?_
        refine lv_if_ne (tgt := 69) hx hb dX3_isMixed_62 (by decide) (fun hc => ?_) (fun hc => ?_)
        · replace hf := wb_f hc hf
          refine lv_iconst (v := (0 : Int32)) hx hb dX3_isMixed_69 (by decide) ?_
          exact W.zret (v := (0 : Int32)) hx hb hr (by decide) (fun t ht hW => ⟨_, rfl, Option.some.inj hf, ht⟩) (fun _ h => nomatch h) dX3_isMixed_70
        · replace hf := wb_t hc hf
          refine lv_iconst (v := (1 : Int32)) hx hb dX3_isMixed_65 (by decide) ?_
          refine lv_goto (tgt := 70) hx hb dX3_isMixed_66 (by decide) ?_
          exact W.zret (v := (1 : Int32)) hx hb hr (by decide) (fun t ht hW => ⟨_, rfl, Option.some.inj hf, ht⟩) (fun _ h => nomatch h) dX3_isMixed_70
      · replace hf := wb_f hc hf
        refine lv_aload_n hx hb dX3_isMixed_14 rfl (lv_at hl 1 rfl) ?_
        refine lv_iload_n hx hb dX3_isMixed_15 rfl (lv_at hl 2 rfl) ?_
        refine lv_iload hx hb dX3_isMixed_16 (lv_at hl 5 rfl) ?_
        obtain ⟨r1, hr1, hf⟩ := wb_b hf
        refine vp_callSi (W.runV (As := [.int x2, .int y7_5]) (rest := []) ⟨hx, hb, hml, hown, hts⟩ (cn_X1_degreeOf l D cB cI cZ N a1 I1 M1 x2 y7_5 r1 hr1) (cwV 2 hts gX3_isMixed_X1_degreeOf rfl rfl rfl cdX1_degreeOf ⟨Nat.le_of_ble_eq_true rfl, Nat.le_of_ble_eq_true rfl⟩) (wb_preV (hP.sub (ws' := (wWX1 cB cI cZ a1 I1 M1)) [9, 10, 11] rfl) hK (va_recv hK hP (ci := 1) (q0 := 9) rfl rfl)) rfl rfl hl.1 rfl (lv_room (Nat.le_of_ble_eq_true rfl)) dX3_isMixed_18 ⟨Nat.le_of_ble_eq_true rfl, Nat.le_of_ble_eq_true rfl⟩) (fun r9 e9 => ?_)
        rw [e9]
        refine lv_istore (lv' := [(6, .int r1), (0, .ref (a0 0)), (1, .ref (a1 0)), (2, .int x2), (3, .int x3), (4, .int y7_4), (5, .int y7_5)]) hx hb dX3_isMixed_21 hl (by decide) rfl (fun ls hl => ?_)
        refine lv_iload hx hb dX3_isMixed_23 (lv_at hl 0 rfl) ?_
        refine lv_iconst (v := (-1 : Int32)) hx hb dX3_isMixed_25 (by decide) ?_
        refine lv_icmp_eq (tgt := 54) hx hb dX3_isMixed_26 (by decide) (fun hc => ?_) (fun hc => ?_)
        · replace hf := wb_t hc hf
          obtain ⟨v2, ev2, hf⟩ := wb_v hf
          refine lv_iinc (v := v2) (lv' := [(5, .int v2), (6, .int r1), (0, .ref (a0 0)), (1, .ref (a1 0)), (2, .int x2), (3, .int x3), (4, .int y7_4)]) hx hb dX3_isMixed_54 hl (k := 6) rfl (by rw [ev2]; rfl) (by decide) rfl (fun ls hl => ?_)
          refine lv_goto (tgt := 7) hx hb dX3_isMixed_57 (by decide) ?_
          exact ih7 y7_4 v2 ls (lv_sub hl [2, 3, 4, 5, 6, 0] rfl) hf
        · replace hf := wb_f hc hf
          refine lv_aload_n hx hb dX3_isMixed_29 rfl (lv_at hl 1 rfl) ?_
          refine lv_iload hx hb dX3_isMixed_30 (lv_at hl 0 rfl) ?_
          refine lv_iload hx hb dX3_isMixed_32 (lv_at hl 6 rfl) ?_
          refine lv_iload_n hx hb dX3_isMixed_34 rfl (lv_at hl 4 rfl) ?_
          obtain ⟨r3, hr3, hf⟩ := wb_b hf
          refine vp_callSi (W.runS (As := [.ref (a0 0), .int r1, .int y7_5, .int x3]) (rest := []) ⟨hx, hb, hml, hown, hts⟩ (cn_X3_setsAt l D cB cI cZ N a0 I0 M0 r1 y7_5 x3 r3 hr3) (va_cwS 4 hts gX3_isMixed_X3_setsAt rfl rfl rfl csX3_setsAt ⟨Nat.le_of_ble_eq_true rfl, Nat.le_of_ble_eq_true rfl⟩) (wb_preS (hP.sub (ws' := (wWX5 cB cI cZ a0 I0 M0)) [0, 1, 2, 3, 4, 5, 6, 7, 8] rfl) hK) rfl rfl hl.1 rfl (lv_room (Nat.le_of_ble_eq_true rfl)) dX3_isMixed_35 ⟨Nat.le_of_ble_eq_true rfl, Nat.le_of_ble_eq_true rfl⟩) (fun r9 e9 => ?_)
          rw [e9]
          refine lv_istore (lv' := [(7, .int r3), (6, .int r1), (0, .ref (a0 0)), (1, .ref (a1 0)), (2, .int x2), (3, .int x3), (4, .int y7_4), (5, .int y7_5)]) hx hb dX3_isMixed_38 hl (by decide) rfl (fun ls hl => ?_)
          refine lv_iload hx hb dX3_isMixed_40 (lv_at hl 0 rfl) ?_
          refine lv_if_ne (tgt := 47) hx hb dX3_isMixed_42 (by decide) (fun hc => ?_) (fun hc => ?_)
          · replace hf := wb_f hc hf
            refine lv_iload hx hb dX3_isMixed_47 (lv_at hl 6 rfl) ?_
            refine lv_iload hx hb dX3_isMixed_49 (lv_at hl 0 rfl) ?_
            refine lv_iand hx hb dX3_isMixed_51 ?_
            obtain ⟨v4, ev4, hf⟩ := wb_v hf
            refine wb_topi ev4 ?_
            refine lv_istore (lv' := [(4, .int v4), (7, .int r3), (6, .int r1), (0, .ref (a0 0)), (1, .ref (a1 0)), (2, .int x2), (3, .int x3), (5, .int y7_5)]) hx hb dX3_isMixed_52 hl (by decide) rfl (fun ls hl => ?_)
            obtain ⟨v5, ev5, hf⟩ := wb_v hf
            refine lv_iinc (v := v5) (lv' := [(5, .int v5), (4, .int v4), (7, .int r3), (6, .int r1), (0, .ref (a0 0)), (1, .ref (a1 0)), (2, .int x2), (3, .int x3)]) hx hb dX3_isMixed_54 hl (k := 7) rfl (by rw [ev5]; rfl) (by decide) rfl (fun ls hl => ?_)
            refine lv_goto (tgt := 7) hx hb dX3_isMixed_57 (by decide) ?_
            exact ih7 v4 v5 ls (lv_sub hl [4, 5, 6, 7, 1, 0] rfl) hf
          · replace hf := wb_t hc hf
            refine lv_iconst (v := (0 : Int32)) hx hb dX3_isMixed_45 (by decide) ?_
            exact W.zret (v := (0 : Int32)) hx hb hr (by decide) (fun t ht hW => ⟨_, rfl, Option.some.inj hf, ht⟩) (fun _ h => nomatch h) dX3_isMixed_46
  exact L7 N (15 : Int32) (0 : Int32) ls (lv_sub hl [2, 3, 4, 5, 1, 0] rfl) hf

