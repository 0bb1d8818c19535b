set_option maxHeartbeats 4000000 in
set_option maxRecDepth 100000 in
theorem cn_X1_howManyDiffer (l : Launch) (D : va_G) (cB cI cZ : ClassId) (N : Nat) (a0 : Nat → Nat) (I0 : Nat → Int32) (M0 : Nat → Nat → Int32) (a1 : Nat → Nat) (I1 : Nat → Int32) (M1 : Nat → Nat → Int32) (x2 : Int32) (x3 : Int32) (x4 : Int32) (R : Int32) (hf : fX1_howManyDiffer N I0 M0 I1 M1 x2 x3 x4 = some R) : Met l yX1_howManyDiffer wsX1_howManyDiffer ({ frames := 4, cells := 0, slots := 0, locals := 98 }) (va_Pc [.ref (a0 0), .ref (a1 0), .int x2, .int x3, .int x4] (wb_pre D [(cB, .byte), (cI, .int), (cZ, .boolean)] ((wWX1 cB cI cZ a0 I0 M0) ++ (wWX2 cB cI cZ a1 I1 M1)))) (vp_Si (fun r => r = R)) 0 0 (fun _ => False) := by
  refine Met.ofW (cc := cX1_howManyDiffer) (maxL := 9) (ret := (some .int)) (by decide) rfl ?_
  intro p e s m args below meth c s₁ B hml hv
  obtain ⟨rfl, hP, hK⟩ := hv
  have hx := B.exec
  have hb := B.bytes
  have hr := B.returns
  have hts := atoms_spec (ws := wsX1_howManyDiffer) B.pre
  have hown : s.vm.findClass RX1 = some m.cls := findClass_of_methodNamed B.named
  have hlocks := B.notSynchronized
  have hl := lv_entry ([.ref (a0 0), .ref (a1 0), .int x2, .int x3, .int x4]) (n := 9) (Nat.le_of_ble_eq_true rfl)
  rw [lg_entry_eq]
  generalize (lg_sl ([.ref (a0 0), .ref (a1 0), .int x2, .int x3, .int x4]) ++ List.replicate (9 - (lg_sl ([.ref (a0 0), .ref (a1 0), .int x2, .int x3, .int x4])).length) Slot.unset).toArray = ls at hl ⊢
  have hl : lv_has ls 9 [(0, .ref (a0 0)), (1, .ref (a1 0)), (2, .int x2), (3, .int x3), (4, .int x4)] := hl
  unfold fX1_howManyDiffer at hf
  refine lv_aload_n hx hb dX1_howManyDiffer_0 rfl (lv_at hl 0 rfl) ?_
  refine lv_iload_n hx hb dX1_howManyDiffer_1 rfl (lv_at hl 2 rfl) ?_
  refine lv_bipush (v := (7 : Int32)) hx hb dX1_howManyDiffer_2 (by decide) ?_
  obtain ⟨r1, hr1, hf⟩ := wb_b hf
  refine vp_callSi (W.runV (As := [.int x2, .int (7 : Int32)]) (rest := []) ⟨hx, hb, hml, hown, hts⟩ (cn_X1_degreeOf l D cB cI cZ N a0 I0 M0 x2 (7 : Int32) r1 hr1) (cwV 2 hts gX1_howManyDiffer_X1_degreeOf rfl rfl rfl cdX1_degreeOf ⟨Nat.le_of_ble_eq_true rfl, Nat.le_of_ble_eq_true rfl⟩) (wb_preV (hP.sub (ws' := (wWX1 cB cI cZ a0 I0 M0)) [0, 1, 2] rfl) hK (va_recv hK hP (ci := 1) (q0 := 0) rfl rfl)) rfl rfl hl.1 rfl (lv_room (Nat.le_of_ble_eq_true rfl)) dX1_howManyDiffer_4 ⟨Nat.le_of_ble_eq_true rfl, Nat.le_of_ble_eq_true rfl⟩) (fun r9 e9 => ?_)
  rw [e9]
  refine lv_istore (lv' := [(5, .int r1), (0, .ref (a0 0)), (1, .ref (a1 0)), (2, .int x2), (3, .int x3), (4, .int x4)]) hx hb dX1_howManyDiffer_7 hl (by decide) rfl (fun ls hl => ?_)
  refine lv_iconst (v := (0 : Int32)) hx hb dX1_howManyDiffer_9 (by decide) ?_
  refine lv_istore (lv' := [(6, .int (0 : Int32)), (5, .int r1), (0, .ref (a0 0)), (1, .ref (a1 0)), (2, .int x2), (3, .int x3), (4, .int x4)]) hx hb dX1_howManyDiffer_10 hl (by decide) rfl (fun ls hl => ?_)
  refine lv_iconst (v := (1 : Int32)) hx hb dX1_howManyDiffer_12 (by decide) ?_
  refine lv_istore (lv' := [(7, .int (1 : Int32)), (6, .int (0 : Int32)), (5, .int r1), (0, .ref (a0 0)), (1, .ref (a1 0)), (2, .int x2), (3, .int x3), (4, .int x4)]) hx hb dX1_howManyDiffer_13 hl (by decide) rfl (fun ls hl => ?_)
  have L15 : ∀ (fu15 : Nat) (y15_6 : Int32) (y15_7 : Int32), ∀ (ls : Array Slot), lv_has ls 9 [(0, .ref (a0 0)), (1, .ref (a1 0)), (2, .int x2), (3, .int x3), (4, .int x4), (5, .int r1), (6, .int y15_6), (7, .int y15_7)] → fX1_howManyDiffer_L15 N I0 M0 I1 M1 x2 x3 x4 r1 fu15 y15_6 y15_7 = some R → W p l e (headSpec wsX1_howManyDiffer { frames := 4, cells := 0, slots := 0, locals := 98 }).room s m [.ref (a0 0), .ref (a1 0), .int x2, .int x3, .int x4].toArray below meth c s.heap [] 0 0 (MQ below (vp_Si (fun r => r = R)) [.ref (a0 0), .ref (a1 0), .int x2, .int x3, .int x4].toArray s 0 0 (fun _ => False)) (F0 m 15 ls []) := by
    intro fu15
    induction fu15 with
    | zero =>
      intro y15_6 y15_7 ls hl hf
      exact absurd hf (by rw [fX1_howManyDiffer_L15.eq_1]; exact fun h => nomatch h)
    | succ fu15 ih15 =>
      intro y15_6 y15_7 ls hl hf
      rw [fX1_howManyDiffer_L15.eq_2] at hf
      refine lv_iload hx hb dX1_howManyDiffer_15 (lv_at hl 7 rfl) ?_
      refine lv_bipush (v := (12 : Int32)) hx hb dX1_howManyDiffer_17 (by decide) ?_
      refine lv_icmp_gt (tgt := 65) hx hb dX1_howManyDiffer_19 (by decide) (fun hc => ?_) (fun hc => ?_)
      · replace hf := wb_t hc hf
        refine lv_iload hx hb dX1_howManyDiffer_65 (lv_at hl 6 rfl) ?_
        exact W.iret (v := y15_6) hx hb hr (fun t ht hW => ⟨_, rfl, Option.some.inj hf, ht⟩) (fun _ h => nomatch h) dX1_howManyDiffer_67
      · replace hf := wb_f hc hf
        refine lv_aload_n hx hb dX1_howManyDiffer_22 rfl (lv_at hl 0 rfl) ?_
        refine lv_iload_n hx hb dX1_howManyDiffer_23 rfl (lv_at hl 2 rfl) ?_
        refine lv_bipush (v := (8 : Int32)) hx hb dX1_howManyDiffer_24 (by decide) ?_
        refine lv_iload hx hb dX1_howManyDiffer_26 (lv_at hl 7 rfl) ?_
        refine lv_iadd hx hb dX1_howManyDiffer_28 ?_
        obtain ⟨r2, hr2, hf⟩ := wb_b hf
        refine vp_callSi (W.runV (As := [.int x2, .int ((8 : Int32) + y15_7)]) (rest := []) ⟨hx, hb, hml, hown, hts⟩ (cn_X1_degreeOf l D cB cI cZ N a0 I0 M0 x2 ((8 : Int32) + y15_7) r2 hr2) (cwV 2 hts gX1_howManyDiffer_X1_degreeOf rfl rfl rfl cdX1_degreeOf ⟨Nat.le_of_ble_eq_true rfl, Nat.le_of_ble_eq_true rfl⟩) (wb_preV (hP.sub (ws' := (wWX1 cB cI cZ a0 I0 M0)) [0, 1, 2] rfl) hK (va_recv hK hP (ci := 1) (q0 := 0) rfl rfl)) rfl rfl hl.1 rfl (lv_room (Nat.le_of_ble_eq_true rfl)) dX1_howManyDiffer_29 ⟨Nat.le_of_ble_eq_true rfl, Nat.le_of_ble_eq_true rfl⟩) (fun r9 e9 => ?_)
        rw [e9]
        refine lv_istore (lv' := [(8, .int r2), (0, .ref (a0 0)), (1, .ref (a1 0)), (2, .int x2), (3, .int x3), (4, .int x4), (5, .int r1), (6, .int y15_6), (7, .int y15_7)]) hx hb dX1_howManyDiffer_32 hl (by decide) rfl (fun ls hl => ?_)
        refine lv_iload hx hb dX1_howManyDiffer_34 (lv_at hl 0 rfl) ?_
        refine lv_iconst (v := (-1 : Int32)) hx hb dX1_howManyDiffer_36 (by decide) ?_
        refine lv_icmp_eq (tgt := 59) hx hb dX1_howManyDiffer_37 (by decide) (fun hc => ?_) (fun hc => ?_)
        · replace hf := wb_t hc hf
          obtain ⟨v3, ev3, hf⟩ := wb_v hf
          refine lv_iinc (v := v3) (lv' := [(7, .int v3), (8, .int r2), (0, .ref (a0 0)), (1, .ref (a1 0)), (2, .int x2), (3, .int x3), (4, .int x4), (5, .int r1), (6, .int y15_6)]) hx hb dX1_howManyDiffer_59 hl (k := 8) rfl (by rw [ev3]; rfl) (by decide) rfl (fun ls hl => ?_)
          refine lv_goto (tgt := 15) hx hb dX1_howManyDiffer_62 (by decide) ?_
          exact ih15 y15_6 v3 ls (lv_sub hl [2, 3, 4, 5, 6, 7, 8, 0] rfl) hf
        · replace hf := wb_f hc hf
          refine lv_iload hx hb dX1_howManyDiffer_40 (lv_at hl 0 rfl) ?_
          refine lv_aload_n hx hb dX1_howManyDiffer_42 rfl (lv_at hl 2 rfl) ?_
          refine lv_iload hx hb dX1_howManyDiffer_43 (lv_at hl 6 rfl) ?_
          refine lv_iload_n hx hb dX1_howManyDiffer_45 rfl (lv_at hl 4 rfl) ?_
          refine lv_iload hx hb dX1_howManyDiffer_46 (lv_at hl 5 rfl) ?_
          refine lv_iload hx hb dX1_howManyDiffer_48 (lv_at hl 8 rfl) ?_
          obtain ⟨r4, hr4, hf⟩ := wb_b hf
          refine vp_callSi (W.runV (As := [.int r1, .int x3, .int x4, .int y15_7]) (rest := [.int r2]) ⟨hx, hb, hml, hown, hts⟩ (cn_X2_houseDegree l D cB cI cZ N a1 I1 M1 r1 x3 x4 y15_7 r4 hr4) (cwV 4 hts gX1_howManyDiffer_X2_houseDegree rfl rfl rfl cdX2_houseDegree ⟨Nat.le_of_ble_eq_true rfl, Nat.le_of_ble_eq_true rfl⟩) (wb_preV (hP.sub (ws' := (wWX2 cB cI cZ a1 I1 M1)) [3, 4] rfl) hK (va_recv hK hP (ci := 2) (q0 := 3) rfl rfl)) rfl rfl hl.1 rfl (lv_room (Nat.le_of_ble_eq_true rfl)) dX1_howManyDiffer_50 ⟨Nat.le_of_ble_eq_true rfl, Nat.le_of_ble_eq_true rfl⟩) (fun r9 e9 => ?_)
          rw [e9]
          refine lv_icmp_eq (tgt := 59) hx hb dX1_howManyDiffer_53 (by decide) (fun hc => ?_) (fun hc => ?_)
          · replace hf := wb_t hc hf
            obtain ⟨v5, ev5, hf⟩ := wb_v hf
            refine lv_iinc (v := v5) (lv' := [(7, .int v5), (8, .int r2), (0, .ref (a0 0)), (1, .ref (a1 0)), (2, .int x2), (3, .int x3), (4, .int x4), (5, .int r1), (6, .int y15_6)]) hx hb dX1_howManyDiffer_59 hl (k := 8) rfl (by rw [ev5]; rfl) (by decide) rfl (fun ls hl => ?_)
            refine lv_goto (tgt := 15) hx hb dX1_howManyDiffer_62 (by decide) ?_
            exact ih15 y15_6 v5 ls (lv_sub hl [2, 3, 4, 5, 6, 7, 8, 0] rfl) hf
          · replace hf := wb_f hc hf
            obtain ⟨v6, ev6, hf⟩ := wb_v hf
            refine lv_iinc (v := v6) (lv' := [(6, .int v6), (8, .int r2), (0, .ref (a0 0)), (1, .ref (a1 0)), (2, .int x2), (3, .int x3), (4, .int x4), (5, .int r1), (7, .int y15_7)]) hx hb dX1_howManyDiffer_56 hl (k := 7) rfl (by rw [ev6]; rfl) (by decide) rfl (fun ls hl => ?_)
            obtain ⟨v7, ev7, hf⟩ := wb_v hf
            refine lv_iinc (v := v7) (lv' := [(7, .int v7), (6, .int v6), (8, .int r2), (0, .ref (a0 0)), (1, .ref (a1 0)), (2, .int x2), (3, .int x3), (4, .int x4), (5, .int r1)]) hx hb dX1_howManyDiffer_59 hl (k := 8) rfl (by rw [ev7]; rfl) (by decide) rfl (fun ls hl => ?_)
            refine lv_goto (tgt := 15) hx hb dX1_howManyDiffer_62 (by decide) ?_
            exact ih15 v6 v7 ls (lv_sub hl [3, 4, 5, 6, 7, 8, 1, 0] rfl) hf
  exact L15 N (0 : Int32) (1 : Int32) ls (lv_sub hl [3, 4, 5, 6, 7, 2, 1, 0] rfl) hf

