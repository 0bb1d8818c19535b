set_option maxHeartbeats 4000000 in
set_option maxRecDepth 100000 in
theorem cn_X3_setSharers (l : Launch) (D : va_G) (cB cI cZ : ClassId) (N : Nat) (a0 : Nat → Nat) (I0 : Nat → Int32) (M0 : Nat → Nat → Int32) (a1 : Nat → Nat) (I1 : Nat → Int32) (M1 : Nat → Nat → Int32) (a2 : Nat → Nat) (I2 : Nat → Int32) (M2 : Nat → Nat → Int32) (x3 : Int32) (x4 : Int32) (sz : Nat) (R : (Nat → Int32) × (Nat → Nat → Int32)) (hf : fX3_setSharers N I0 M0 I1 M1 I2 M2 x3 x4 = some R) : Met l yX3_setSharers wsX3_setSharers ({ frames := 5, cells := 0, slots := 0, locals := 140 }) (va_Pc [.ref (a0 0), .ref (a1 0), .ref (a2 0), .int x3, .int x4] (wb_preD D [(cB, .byte), (cI, .int), (cZ, .boolean)] ((wWX3 cB cI cZ a0 I0 M0) ++ ((wWX5 cB cI cZ a1 I1 M1) ++ (wWX1 cB cI cZ a2 I2 M2))) sz)) (va_Qv (fun _ : Unit => True) (fun _ t => wb_post D [(cB, .byte), (cI, .int), (cZ, .boolean)] (va_A ((wWX3 cB cI cZ a0 I0 M0) ++ ((wWX5 cB cI cZ a1 I1 M1) ++ (wWX1 cB cI cZ a2 I2 M2))) sz) ((wWX3 cB cI cZ a0 R.1 R.2) ++ ((wWX5 cB cI cZ a1 I1 M1) ++ (wWX1 cB cI cZ a2 I2 M2))) t) (va_A ((wWX3 cB cI cZ a0 I0 M0) ++ ((wWX5 cB cI cZ a1 I1 M1) ++ (wWX1 cB cI cZ a2 I2 M2))) sz)) 0 0 (va_A ((wWX3 cB cI cZ a0 I0 M0) ++ ((wWX5 cB cI cZ a1 I1 M1) ++ (wWX1 cB cI cZ a2 I2 M2))) sz) := by
  refine Met.ofW (cc := cX3_setSharers) (maxL := 8) (ret := none) (by decide) rfl ?_
  intro p e s m args below meth c s₁ B hml hv
  obtain ⟨rfl, hsz, hP, hK, hD0⟩ := hv
  have hx := B.exec
  have hb := B.bytes
  have hr := B.returns
  have hts := atoms_spec (ws := wsX3_setSharers) B.pre
  have hown : s.vm.findClass RX3 = some m.cls := findClass_of_methodNamed B.named
  have hlocks := B.notSynchronized
  have hinX3 : ∀ w ∈ u_ws RX3 TX3 1, w ∈ wsX3_setSharers := fun w h => List.mem_cons_of_mem _ (List.mem_append_left _ (List.mem_append_left _ (List.mem_append_right _ h)))
  subst hsz
  have hD := hD0.self (sz := s.heap.size)
  generalize hAe : va_A ((wWX3 cB cI cZ a0 I0 M0) ++ ((wWX5 cB cI cZ a1 I1 M1) ++ (wWX1 cB cI cZ a2 I2 M2))) s.heap.size = A at hD ⊢
  have hA : ∀ q : Nat, s.heap.size ≤ q → A q := fun q h => by rw [← hAe]; exact Or.inr h
  have hS : va_S A s.heap s.heap [] := va_S.rf
  have hl := lv_entry ([.ref (a0 0), .ref (a1 0), .ref (a2 0), .int x3, .int x4]) (n := 8) (Nat.le_of_ble_eq_true rfl)
  rw [lg_entry_eq]
  generalize (lg_sl ([.ref (a0 0), .ref (a1 0), .ref (a2 0), .int x3, .int x4]) ++ List.replicate (8 - (lg_sl ([.ref (a0 0), .ref (a1 0), .ref (a2 0), .int x3, .int x4])).length) Slot.unset).toArray = ls at hl ⊢
  have hl : lv_has ls 8 [(0, .ref (a0 0)), (1, .ref (a1 0)), (2, .ref (a2 0)), (3, .int x3), (4, .int x4)] := hl
  unfold fX3_setSharers at hf
  obtain ⟨H, hHe⟩ : ∃ H : Heap, H = s.heap := ⟨_, rfl⟩
  obtain ⟨locs, hle⟩ : ∃ locs : List Loc, locs = [] := ⟨_, rfl⟩
  refine wb_start (H := H) (locs := locs) hHe hle ?_
  rw [← hHe] at hP
  have hS : va_S A s.heap H locs := by rw [hHe, hle]; exact va_S.rf
  refine lv_iconst (v := (0 : Int32)) hx hb dX3_setSharers_0 (by decide) ?_
  refine lv_istore (lv' := [(5, .int (0 : Int32)), (0, .ref (a0 0)), (1, .ref (a1 0)), (2, .ref (a2 0)), (3, .int x3), (4, .int x4)]) hx hb dX3_setSharers_1 hl (by decide) rfl (fun ls hl => ?_)
  have L3 : ∀ (fu3 : Nat) (I0_l3 : Nat → Int32) (M0_l3 : Nat → Nat → Int32) (y3_5 : Int32) (H : Heap) (locs : List Loc), va_P D vwCl ((wWX3 cB cI cZ a0 I0_l3 M0_l3) ++ ((wWX5 cB cI cZ a1 I1 M1) ++ (wWX1 cB cI cZ a2 I2 M2))) H → va_D A ((wWX3 cB cI cZ a0 I0_l3 M0_l3) ++ ((wWX5 cB cI cZ a1 I1 M1) ++ (wWX1 cB cI cZ a2 I2 M2))) → va_S A s.heap H locs → ∀ (ls : Array Slot), lv_has ls 8 [(0, .ref (a0 0)), (1, .ref (a1 0)), (2, .ref (a2 0)), (3, .int x3), (4, .int x4), (5, .int y3_5)] → fX3_setSharers_L3 N I1 M1 I2 M2 x3 x4 fu3 I0_l3 M0_l3 y3_5 = some R → W p l e (headSpec wsX3_setSharers { frames := 5, cells := 0, slots := 0, locals := 140 }).room s m [.ref (a0 0), .ref (a1 0), .ref (a2 0), .int x3, .int x4].toArray below meth c H locs 0 0 (MQ below (va_Qv (fun _ : Unit => True) (fun _ t => wb_post D [(cB, .byte), (cI, .int), (cZ, .boolean)] A ((wWX3 cB cI cZ a0 R.1 R.2) ++ ((wWX5 cB cI cZ a1 I1 M1) ++ (wWX1 cB cI cZ a2 I2 M2))) t) A) [.ref (a0 0), .ref (a1 0), .ref (a2 0), .int x3, .int x4].toArray s 0 0 A) (F0 m 3 ls []) := by
    intro fu3
    induction fu3 with
    | zero =>
      intro I0_l3 M0_l3 y3_5 H locs hP hD hS ls hl hf
      exact absurd hf (by rw [fX3_setSharers_L3.eq_1]; exact fun h => nomatch h)
    | succ fu3 ih3 =>
      have J39 : ∀ (I0_j39 : Nat → Int32) (M0_j39 : Nat → Nat → Int32) (y39_5 : Int32) (z39_0 : Int32) (H : Heap) (locs : List Loc), va_P D vwCl ((wWX3 cB cI cZ a0 I0_j39 M0_j39) ++ ((wWX5 cB cI cZ a1 I1 M1) ++ (wWX1 cB cI cZ a2 I2 M2))) H → va_D A ((wWX3 cB cI cZ a0 I0_j39 M0_j39) ++ ((wWX5 cB cI cZ a1 I1 M1) ++ (wWX1 cB cI cZ a2 I2 M2))) → va_S A s.heap H locs → ∀ (ls : Array Slot), lv_has ls 8 [(0, .ref (a0 0)), (1, .ref (a1 0)), (2, .ref (a2 0)), (3, .int x3), (4, .int x4), (5, .int y39_5)] → fX3_setSharers_J39 N I1 M1 I2 M2 x3 x4 (fX3_setSharers_L3 N I1 M1 I2 M2 x3 x4 fu3) I0_j39 M0_j39 y39_5 z39_0 = some R → W p l e (headSpec wsX3_setSharers { frames := 5, cells := 0, slots := 0, locals := 140 }).room s m [.ref (a0 0), .ref (a1 0), .ref (a2 0), .int x3, .int x4].toArray below meth c H locs 0 0 (MQ below (va_Qv (fun _ : Unit => True) (fun _ t => wb_post D [(cB, .byte), (cI, .int), (cZ, .boolean)] A ((wWX3 cB cI cZ a0 R.1 R.2) ++ ((wWX5 cB cI cZ a1 I1 M1) ++ (wWX1 cB cI cZ a2 I2 M2))) t) A) [.ref (a0 0), .ref (a1 0), .ref (a2 0), .int x3, .int x4].toArray s 0 0 A) (F0 m 39 ls [.int z39_0]) := by
        intro I0_j39 M0_j39 y39_5 z39_0 H locs hP hD hS ls hl hf
        unfold fX3_setSharers_J39 at hf
        refine lv_istore (lv' := [(7, .int z39_0), (0, .ref (a0 0)), (1, .ref (a1 0)), (2, .ref (a2 0)), (3, .int x3), (4, .int x4), (5, .int y39_5)]) hx hb dX3_setSharers_39 hl (by decide) rfl (fun ls hl => ?_)
        refine lv_aload_n hx hb dX3_setSharers_41 rfl (lv_at hl 1 rfl) ?_
        refine va_get (D := D) (ci := 3) (v := .ref (a0 1)) (C := RX3) (T := TX3) (N := 1) hx hb hts hinX3 hown hK hP 0 rfl rfl 0 (by decide) (hts (.fieldLink RX3 9 "WheelBook$Fit" "sharers" "[I") (List.mem_of_getElem? (i := 1) rfl)) (fun _ h9 => h9) rfl dX3_setSharers_42 ?_
        refine lv_iload hx hb dX3_setSharers_45 (lv_at hl 6 rfl) ?_
        refine lv_iload hx hb dX3_setSharers_47 (lv_at hl 0 rfl) ?_
        refine lv_iconst (v := (1 : Int32)) hx hb dX3_setSharers_49 (by decide) ?_
        refine lv_iand hx hb dX3_setSharers_50 ?_
        refine lv_iconst (v := (1 : Int32)) hx hb dX3_setSharers_51 (by decide) ?_
        refine lv_icmp_ne (tgt := 59) hx hb dX3_setSharers_52 (by decide) (fun hc => ?_) (fun hc => ?_)
        · replace hf := wb_f hc hf
          refine lv_iload hx hb dX3_setSharers_59 (lv_at hl 0 rfl) ?_
          obtain ⟨hin, hf⟩ := wb_n hf
          refine va_iast hx hb hK hP hD hS 1 1 rfl rfl hin dX3_setSharers_61 (fun H locs hP hD hS => ?_)
          have hP : va_P D vwCl ((wWX3 cB cI cZ a0 I0_j39 (wb_um M0_j39 0 (y39_5).toNatClampNeg z39_0)) ++ ((wWX5 cB cI cZ a1 I1 M1) ++ (wWX1 cB cI cZ a2 I2 M2))) H := hP
          have hD : va_D A ((wWX3 cB cI cZ a0 I0_j39 (wb_um M0_j39 0 (y39_5).toNatClampNeg z39_0)) ++ ((wWX5 cB cI cZ a1 I1 M1) ++ (wWX1 cB cI cZ a2 I2 M2))) := hD
          obtain ⟨M0_1, eM0_1, hf⟩ := wb_v hf
          rw [← eM0_1] at hP hD
          obtain ⟨v2, ev2, hf⟩ := wb_v hf
          refine lv_iinc (v := v2) (lv' := [(5, .int v2), (7, .int z39_0), (0, .ref (a0 0)), (1, .ref (a1 0)), (2, .ref (a2 0)), (3, .int x3), (4, .int x4)]) hx hb dX3_setSharers_62 hl (k := 6) rfl (by rw [ev2]; rfl) (by decide) rfl (fun ls hl => ?_)
          refine lv_goto (tgt := 3) hx hb dX3_setSharers_65 (by decide) ?_
          exact ih3 I0_j39 M0_1 v2 H locs hP hD hS ls (lv_sub hl [2, 3, 4, 5, 6, 0] rfl) hf
        · replace hf := wb_t hc hf
          refine lv_iconst (v := (-1 : Int32)) hx hb dX3_setSharers_55 (by decide) ?_
          refine lv_goto (tgt := 61) hx hb dX3_setSharers_56 (by decide) ?_
          obtain ⟨hin, hf⟩ := wb_n hf
          refine va_iast hx hb hK hP hD hS 1 1 rfl rfl hin dX3_setSharers_61 (fun H locs hP hD hS => ?_)
          have hP : va_P D vwCl ((wWX3 cB cI cZ a0 I0_j39 (wb_um M0_j39 0 (y39_5).toNatClampNeg (-1 : Int32))) ++ ((wWX5 cB cI cZ a1 I1 M1) ++ (wWX1 cB cI cZ a2 I2 M2))) H := hP
          have hD : va_D A ((wWX3 cB cI cZ a0 I0_j39 (wb_um M0_j39 0 (y39_5).toNatClampNeg (-1 : Int32))) ++ ((wWX5 cB cI cZ a1 I1 M1) ++ (wWX1 cB cI cZ a2 I2 M2))) := hD
          obtain ⟨M0_3, eM0_3, hf⟩ := wb_v hf
          rw [← eM0_3] at hP hD
          obtain ⟨v4, ev4, hf⟩ := wb_v hf
          refine lv_iinc (v := v4) (lv' := [(5, .int v4), (7, .int z39_0), (0, .ref (a0 0)), (1, .ref (a1 0)), (2, .ref (a2 0)), (3, .int x3), (4, .int x4)]) hx hb dX3_setSharers_62 hl (k := 6) rfl (by rw [ev4]; rfl) (by decide) rfl (fun ls hl => ?_)
          refine lv_goto (tgt := 3) hx hb dX3_setSharers_65 (by decide) ?_
          exact ih3 I0_j39 M0_3 v4 H locs hP hD hS ls (lv_sub hl [2, 3, 4, 5, 6, 0] rfl) hf
      intro I0_l3 M0_l3 y3_5 H locs hP hD hS ls hl hf
      rw [fX3_setSharers_L3.eq_2] at hf
      refine lv_iload hx hb dX3_setSharers_3 (lv_at hl 5 rfl) ?_
      refine lv_bipush (v := (7 : Int32)) hx hb dX3_setSharers_5 (by decide) ?_
      refine lv_icmp_ge (tgt := 68) hx hb dX3_setSharers_7 (by decide) (fun hc => ?_) (fun hc => ?_)
      · replace hf := wb_t hc hf
        exact W.vret hx hb hr (fun t ht hW => by rw [← Option.some.inj hf]; exact ⟨⟨(), rfl, trivial, by rw [ht]; exact hP, va_K.moved hW.alike hK, hD⟩, hS.F ht⟩) hS.2.2 dX3_setSharers_68
      · replace hf := wb_f hc hf
        refine lv_aload_n hx hb dX3_setSharers_10 rfl (lv_at hl 2 rfl) ?_
        refine lv_iload_n hx hb dX3_setSharers_11 rfl (lv_at hl 3 rfl) ?_
        refine lv_iload hx hb dX3_setSharers_12 (lv_at hl 5 rfl) ?_
        obtain ⟨r5, hr5, hf⟩ := wb_b hf
        refine vp_callSi (W.runV (As := [.int x3, .int y3_5]) (rest := []) ⟨hx, hb, hml, hown, hts⟩ (cn_X1_degreeOf l D cB cI cZ N a2 I2 M2 x3 y3_5 r5 hr5) (cwV 2 hts gX3_setSharers_X1_degreeOf rfl rfl rfl cdX1_degreeOf ⟨Nat.le_of_ble_eq_true rfl, Nat.le_of_ble_eq_true rfl⟩) (wb_preV (hP.sub (ws' := (wWX1 cB cI cZ a2 I2 M2)) [11, 12, 13] rfl) hK (va_recv hK hP (ci := 1) (q0 := 11) rfl rfl)) rfl rfl hl.1 rfl (lv_room (Nat.le_of_ble_eq_true rfl)) dX3_setSharers_14 ⟨Nat.le_of_ble_eq_true rfl, Nat.le_of_ble_eq_true rfl⟩) (fun r9 e9 => ?_)
        rw [e9]
        refine lv_istore (lv' := [(6, .int r5), (0, .ref (a0 0)), (1, .ref (a1 0)), (2, .ref (a2 0)), (3, .int x3), (4, .int x4), (5, .int y3_5)]) hx hb dX3_setSharers_17 hl (by decide) rfl (fun ls hl => ?_)
        refine lv_iload hx hb dX3_setSharers_19 (lv_at hl 0 rfl) ?_
        refine lv_iconst (v := (-1 : Int32)) hx hb dX3_setSharers_21 (by decide) ?_
        refine lv_icmp_ne (tgt := 29) hx hb dX3_setSharers_22 (by decide) (fun hc => ?_) (fun hc => ?_)
        · replace hf := wb_f hc hf
          refine lv_aload_n hx hb dX3_setSharers_29 rfl (lv_at hl 2 rfl) ?_
          refine lv_iload hx hb dX3_setSharers_30 (lv_at hl 0 rfl) ?_
          refine lv_iload hx hb dX3_setSharers_32 (lv_at hl 6 rfl) ?_
          refine lv_iload hx hb dX3_setSharers_34 (lv_at hl 5 rfl) ?_
          obtain ⟨r6, hr6, hf⟩ := wb_b hf
          refine vp_callSi (W.runS (As := [.ref (a1 0), .int r5, .int y3_5, .int x4]) (rest := []) ⟨hx, hb, hml, hown, hts⟩ (cn_X3_setsAt l D cB cI cZ N a1 I1 M1 r5 y3_5 x4 r6 hr6) (va_cwS 4 hts gX3_setSharers_X3_setsAt rfl rfl rfl csX3_setsAt ⟨Nat.le_of_ble_eq_true rfl, Nat.le_of_ble_eq_true rfl⟩) (wb_preS (hP.sub (ws' := (wWX5 cB cI cZ a1 I1 M1)) [2, 3, 4, 5, 6, 7, 8, 9, 10] rfl) hK) rfl rfl hl.1 rfl (lv_room (Nat.le_of_ble_eq_true rfl)) dX3_setSharers_36 ⟨Nat.le_of_ble_eq_true rfl, Nat.le_of_ble_eq_true rfl⟩) (fun r9 e9 => ?_)
          rw [e9]
          exact J39 I0_l3 M0_l3 y3_5 r6 H locs hP hD hS ls (lv_sub hl [1, 2, 3, 4, 5, 6] rfl) hf
        · replace hf := wb_t hc hf
          refine lv_iconst (v := (1 : Int32)) hx hb dX3_setSharers_25 (by decide) ?_
          refine lv_goto (tgt := 39) hx hb dX3_setSharers_26 (by decide) ?_
          exact J39 I0_l3 M0_l3 y3_5 (1 : Int32) H locs hP hD hS ls (lv_sub hl [1, 2, 3, 4, 5, 6] rfl) hf
  exact L3 N I0 M0 (0 : Int32) H locs hP hD hS ls (lv_sub hl [1, 2, 3, 4, 5, 0] rfl) hf

