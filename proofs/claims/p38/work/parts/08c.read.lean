set_option maxHeartbeats 4000000 in
set_option maxRecDepth 100000 in
theorem cn_X1_readDegree (l : Launch) (D : va_G) (cB cI cZ : ClassId) (N : Nat) (a0 : Nat → Nat) (I0 : Nat → Int32) (M0 : Nat → Nat → Int32) (a1 : Nat → Nat) (I1 : Nat → Int32) (M1 : Nat → Nat → Int32) (x2 : Int32) (sz : Nat) (R : Int32 × (Nat → Int32) × (Nat → Nat → Int32) × (Nat → Int32) × (Nat → Nat → Int32)) (hf : fX1_readDegree N I0 M0 I1 M1 x2 = some R) : Met l yX1_readDegree wsX1_readDegree ({ frames := 3, cells := 0, slots := 0, locals := 65 }) (va_Pc [.ref (a0 0), .ref (a1 0), .int x2] (wb_preD D [(cB, .byte), (cI, .int), (cZ, .boolean)] ((wWX1 cB cI cZ a0 I0 M0) ++ (wWX9 cB cI cZ a1 I1 M1)) sz)) (va_Qi (fun r (_ : Unit) => r = R.1) (fun _ t => wb_post D [(cB, .byte), (cI, .int), (cZ, .boolean)] (va_A ((wWX1 cB cI cZ a0 I0 M0) ++ (wWX9 cB cI cZ a1 I1 M1)) sz) ((wWX1 cB cI cZ a0 R.2.1 R.2.2.1) ++ (wWX9 cB cI cZ a1 R.2.2.2.1 R.2.2.2.2)) t) (va_A ((wWX1 cB cI cZ a0 I0 M0) ++ (wWX9 cB cI cZ a1 I1 M1)) sz)) 0 0 (va_A ((wWX1 cB cI cZ a0 I0 M0) ++ (wWX9 cB cI cZ a1 I1 M1)) sz) := by
  refine Met.ofW (cc := cX1_readDegree) (maxL := 4) (ret := (some .boolean)) (by decide) rfl ?_
  intro p e s m args below meth c s₁ B hml hv
  obtain ⟨rfl, hsz, hP, hK, hD0⟩ := hv
  have hx := B.exec
  have hb := B.bytes
  have hr := B.returns
  have hts := atoms_spec (ws := wsX1_readDegree) B.pre
  have hown : s.vm.findClass RX1 = some m.cls := findClass_of_methodNamed B.named
  have hlocks := B.notSynchronized
  have hinX1 : ∀ w ∈ u_ws RX1 TX1 2, w ∈ wsX1_readDegree := fun w h => List.mem_cons_of_mem _ (List.mem_append_right _ h)
  have hinX9 : ∀ w ∈ u_ws RX9 TX9 10, w ∈ wsX1_readDegree := fun w h => List.mem_cons_of_mem _ (List.mem_append_left _ (List.mem_append_right _ h))
  subst hsz
  have hD := hD0.self (sz := s.heap.size)
  generalize hAe : va_A ((wWX1 cB cI cZ a0 I0 M0) ++ (wWX9 cB cI cZ a1 I1 M1)) s.heap.size = A at hD ⊢
  have hA : ∀ q : Nat, s.heap.size ≤ q → A q := fun q h => by rw [← hAe]; exact Or.inr h
  have hS : va_S A s.heap s.heap [] := va_S.rf
  have hl := lv_entry ([.ref (a0 0), .ref (a1 0), .int x2]) (n := 4) (Nat.le_of_ble_eq_true rfl)
  rw [lg_entry_eq]
  generalize (lg_sl ([.ref (a0 0), .ref (a1 0), .int x2]) ++ List.replicate (4 - (lg_sl ([.ref (a0 0), .ref (a1 0), .int x2])).length) Slot.unset).toArray = ls at hl ⊢
  have hl : lv_has ls 4 [(0, .ref (a0 0)), (1, .ref (a1 0)), (2, .int x2)] := hl
  unfold fX1_readDegree at hf
  obtain ⟨H, hHe⟩ : ∃ H : Heap, H = s.heap := ⟨_, rfl⟩
  obtain ⟨locs, hle⟩ : ∃ locs : List Loc, locs = [] := ⟨_, rfl⟩
  refine wb_start (H := H) (locs := locs) hHe hle ?_
  rw [← hHe] at hP
  have hS : va_S A s.heap H locs := by rw [hHe, hle]; exact va_S.rf
  refine lv_aload_n hx hb dX1_readDegree_0 rfl (lv_at hl 0 rfl) ?_
  refine lv_aload_n hx hb dX1_readDegree_1 rfl (lv_at hl 1 rfl) ?_
  refine lv_iload_n hx hb dX1_readDegree_2 rfl (lv_at hl 2 rfl) ?_
  obtain ⟨r1, hr1, hf⟩ := wb_b hf
  have hPc := hP.sub (ws' := ((wWX1 cB cI cZ a0 I0 M0) ++ (wWX9 cB cI cZ a1 I1 M1))) [0, 1, 2, 3, 4] rfl
  have hDc := hD.sub (ws' := ((wWX1 cB cI cZ a0 I0 M0) ++ (wWX9 cB cI cZ a1 I1 M1))) [0, 1, 2, 3, 4] (by decide) rfl
  have hFc := va_free (wc := ((wWX1 cB cI cZ a0 I0 M0) ++ (wWX9 cB cI cZ a1 I1 M1))) hD hS hA [0, 1, 2, 3, 4] rfl
  refine va_calli (va_runV (As := [.ref (a1 0), .int x2]) (rest := []) ⟨hx, hb, hml, hown, hts⟩ (cn_X1_isNew l D cB cI cZ N a0 I0 M0 a1 I1 M1 x2 H.size r1 hr1) (cwV 2 hts gX1_readDegree_X1_isNew rfl rfl rfl cdX1_isNew ⟨Nat.le_of_ble_eq_true rfl, Nat.le_of_ble_eq_true rfl⟩) (wb_preDV hPc hK hDc (va_recv hK hP (ci := 1) (q0 := 0) rfl rfl)) rfl rfl hl.1 rfl (lv_room (Nat.le_of_ble_eq_true rfl)) dX1_readDegree_3 ⟨Nat.le_of_ble_eq_true rfl, Nat.le_of_ble_eq_true rfl⟩) hS (fun q _ h => hFc q h) hFc (fun r9 u t H locs ht hvm hw hB hz1 hk1 hS => ?_)
  obtain ⟨hP, hD⟩ := wb_join (wc := ((wWX1 cB cI cZ a0 I0 M0) ++ (wWX9 cB cI cZ a1 I1 M1))) (w1 := ((wWX1 cB cI cZ a0 I0 M0) ++ (wWX9 cB cI cZ a1 r1.2.1 r1.2.2))) (wf := ((wWX1 cB cI cZ a0 I0 M0) ++ (wWX9 cB cI cZ a1 r1.2.1 r1.2.2))) hP hD [0, 1, 2, 3, 4] [] [0, 1, 2, 3, 4] rfl rfl (by decide) (by decide) (by decide) rfl hk1 hFc ht hB
  rw [hw]
  refine lv_if_eq (tgt := 19) hx hb dX1_readDegree_6 (by decide) (fun hc => ?_) (fun hc => ?_)
  · replace hf := wb_t hc hf
    refine lv_iconst (v := (0 : Int32)) hx hb dX1_readDegree_19 (by decide) ?_
    exact W.zret (v := (0 : Int32)) hx hb hr (by decide) (fun t ht hW => by rw [← Option.some.inj hf]; exact ⟨⟨(0 : Int32), (), rfl, rfl, by rw [ht]; exact hP, va_K.moved hW.alike hK, hD⟩, hS.F ht⟩) hS.2.2 dX1_readDegree_20
  · replace hf := wb_f hc hf
    refine lv_aload_n hx hb dX1_readDegree_9 rfl (lv_at hl 1 rfl) ?_
    refine lv_iconst (v := (0 : Int32)) hx hb dX1_readDegree_10 (by decide) ?_
    refine lv_bipush (v := (11 : Int32)) hx hb dX1_readDegree_11 (by decide) ?_
    obtain ⟨r2, hr2, hf⟩ := wb_b hf
    have hPc := hP.sub (ws' := (wWX9 cB cI cZ a1 r1.2.1 r1.2.2)) [3, 4] rfl
    have hDc := hD.sub (ws' := (wWX9 cB cI cZ a1 r1.2.1 r1.2.2)) [3, 4] (by decide) rfl
    have hFc := va_free (wc := (wWX9 cB cI cZ a1 r1.2.1 r1.2.2)) hD hS hA [3, 4] rfl
    refine va_calli (va_runV (As := [.int (0 : Int32), .int (11 : Int32)]) (rest := []) ⟨hx, hb, hml, hown, hts⟩ (cn_X9_takeNumber l D cB cI cZ N a1 r1.2.1 r1.2.2 (0 : Int32) (11 : Int32) H.size r2 hr2) (cwV 2 hts gX1_readDegree_X9_takeNumber rfl rfl rfl cdX9_takeNumber ⟨Nat.le_of_ble_eq_true rfl, Nat.le_of_ble_eq_true rfl⟩) (wb_preDV hPc hK hDc (va_recv hK hP (ci := 9) (q0 := 3) rfl rfl)) rfl rfl hl.1 rfl (lv_room (Nat.le_of_ble_eq_true rfl)) dX1_readDegree_13 ⟨Nat.le_of_ble_eq_true rfl, Nat.le_of_ble_eq_true rfl⟩) hS (fun q _ h => hFc q h) hFc (fun r9 u t H locs ht hvm hw hB hz1 hk1 hS => ?_)
    obtain ⟨hP, hD⟩ := wb_join (wc := (wWX9 cB cI cZ a1 r1.2.1 r1.2.2)) (w1 := (wWX9 cB cI cZ a1 r2.2.1 r2.2.2)) (wf := ((wWX1 cB cI cZ a0 I0 M0) ++ (wWX9 cB cI cZ a1 r2.2.1 r2.2.2))) hP hD [3, 4] [0, 1, 2] [0, 1, 2, 3, 4] rfl rfl (by decide) (by decide) (by decide) rfl hk1 hFc ht hB
    rw [hw]
    refine lv_if_ne (tgt := 21) hx hb dX1_readDegree_16 (by decide) (fun hc => ?_) (fun hc => ?_)
    · replace hf := wb_f hc hf
      refine lv_aload_n hx hb dX1_readDegree_21 rfl (lv_at hl 1 rfl) ?_
      refine va_get (D := D) (ci := 9) (v := .int (r2.2.1 6)) (C := RX9) (T := TX9) (N := 10) hx hb hts hinX9 hown hK hP 3 rfl rfl 7 (by decide) (hts (.fieldLink RX1 53 "WheelBook$Text" "number" "I") (List.mem_of_getElem? (i := 1) rfl)) (fun _ h9 => h9) rfl dX1_readDegree_22 ?_
      obtain ⟨v3, ev3, hf⟩ := wb_v hf
      refine wb_topi ev3 ?_
      refine lv_istore_n (lv' := [(3, .int v3), (0, .ref (a0 0)), (1, .ref (a1 0)), (2, .int x2)]) hx hb dX1_readDegree_25 rfl hl (by decide) rfl (fun ls hl => ?_)
      refine lv_aload_n hx hb dX1_readDegree_26 rfl (lv_at hl 2 rfl) ?_
      refine lv_iconst (v := (0 : Int32)) hx hb dX1_readDegree_27 (by decide) ?_
      refine lv_bipush (v := (29 : Int32)) hx hb dX1_readDegree_28 (by decide) ?_
      obtain ⟨r4, hr4, hf⟩ := wb_b hf
      have hPc := hP.sub (ws' := (wWX9 cB cI cZ a1 r2.2.1 r2.2.2)) [3, 4] rfl
      have hDc := hD.sub (ws' := (wWX9 cB cI cZ a1 r2.2.1 r2.2.2)) [3, 4] (by decide) rfl
      have hFc := va_free (wc := (wWX9 cB cI cZ a1 r2.2.1 r2.2.2)) hD hS hA [3, 4] rfl
      refine va_calli (va_runV (As := [.int (0 : Int32), .int (29 : Int32)]) (rest := []) ⟨hx, hb, hml, hown, hts⟩ (cn_X9_takeNumber l D cB cI cZ N a1 r2.2.1 r2.2.2 (0 : Int32) (29 : Int32) H.size r4 hr4) (cwV 2 hts gX1_readDegree_X9_takeNumber rfl rfl rfl cdX9_takeNumber ⟨Nat.le_of_ble_eq_true rfl, Nat.le_of_ble_eq_true rfl⟩) (wb_preDV hPc hK hDc (va_recv hK hP (ci := 9) (q0 := 3) rfl rfl)) rfl rfl hl.1 rfl (lv_room (Nat.le_of_ble_eq_true rfl)) dX1_readDegree_30 ⟨Nat.le_of_ble_eq_true rfl, Nat.le_of_ble_eq_true rfl⟩) hS (fun q _ h => hFc q h) hFc (fun r9 u t H locs ht hvm hw hB hz1 hk1 hS => ?_)
      obtain ⟨hP, hD⟩ := wb_join (wc := (wWX9 cB cI cZ a1 r2.2.1 r2.2.2)) (w1 := (wWX9 cB cI cZ a1 r4.2.1 r4.2.2)) (wf := ((wWX1 cB cI cZ a0 I0 M0) ++ (wWX9 cB cI cZ a1 r4.2.1 r4.2.2))) hP hD [3, 4] [0, 1, 2] [0, 1, 2, 3, 4] rfl rfl (by decide) (by decide) (by decide) rfl hk1 hFc ht hB
      rw [hw]
      refine lv_if_ne (tgt := 38) hx hb dX1_readDegree_33 (by decide) (fun hc => ?_) (fun hc => ?_)
      · replace hf := wb_f hc hf
        refine lv_aload_n hx hb dX1_readDegree_38 rfl (lv_at hl 1 rfl) ?_
        refine va_get (D := D) (ci := 1) (v := .ref (a0 2)) (C := RX1) (T := TX1) (N := 2) hx hb hts hinX1 hown hK hP 0 rfl rfl 1 (by decide) (hts (.fieldLink RX1 15 "WheelBook$Books" "draft" "[I") (List.mem_of_getElem? (i := 2) rfl)) (fun _ h9 => h9) rfl dX1_readDegree_39 ?_
        refine lv_iload_n hx hb dX1_readDegree_42 rfl (lv_at hl 3 rfl) ?_
        refine lv_bipush (v := (30 : Int32)) hx hb dX1_readDegree_43 (by decide) ?_
        refine lv_iload_n hx hb dX1_readDegree_45 rfl (lv_at hl 0 rfl) ?_
        refine lv_imul hx hb dX1_readDegree_46 ?_
        refine lv_aload_n hx hb dX1_readDegree_47 rfl (lv_at hl 2 rfl) ?_
        refine va_get (D := D) (ci := 9) (v := .int (r4.2.1 6)) (C := RX9) (T := TX9) (N := 10) hx hb hts hinX9 hown hK hP 3 rfl rfl 7 (by decide) (hts (.fieldLink RX1 53 "WheelBook$Text" "number" "I") (List.mem_of_getElem? (i := 1) rfl)) (fun _ h9 => h9) rfl dX1_readDegree_48 ?_
        refine lv_iadd hx hb dX1_readDegree_51 ?_
        obtain ⟨hin, hf⟩ := wb_n hf
        refine va_iast hx hb hK hP hD hS 2 1 rfl rfl hin dX1_readDegree_52 (fun H locs hP hD hS => ?_)
        have hP : va_P D vwCl ((wWX1 cB cI cZ a0 I0 (wb_um M0 1 (x2).toNatClampNeg (((30 : Int32) * v3) + (r4.2.1 6)))) ++ (wWX9 cB cI cZ a1 r4.2.1 r4.2.2)) H := hP
        have hD : va_D A ((wWX1 cB cI cZ a0 I0 (wb_um M0 1 (x2).toNatClampNeg (((30 : Int32) * v3) + (r4.2.1 6)))) ++ (wWX9 cB cI cZ a1 r4.2.1 r4.2.2)) := hD
        obtain ⟨M0_5, eM0_5, hf⟩ := wb_v hf
        rw [← eM0_5] at hP hD
        refine lv_aload_n hx hb dX1_readDegree_53 rfl (lv_at hl 2 rfl) ?_
        obtain ⟨r6, hr6, hf⟩ := wb_b hf
        have hPc := hP.sub (ws' := (wWX9 cB cI cZ a1 r4.2.1 r4.2.2)) [3, 4] rfl
        have hDc := hD.sub (ws' := (wWX9 cB cI cZ a1 r4.2.1 r4.2.2)) [3, 4] (by decide) rfl
        have hFc := va_free (wc := (wWX9 cB cI cZ a1 r4.2.1 r4.2.2)) hD hS hA [3, 4] rfl
        refine va_calli (va_runV (As := []) (rest := []) ⟨hx, hb, hml, hown, hts⟩ (cn_X9_takeStop l D cB cI cZ N a1 r4.2.1 r4.2.2 H.size r6 hr6) (cwV 0 hts gX1_readDegree_X9_takeStop rfl rfl rfl cdX9_takeStop ⟨Nat.le_of_ble_eq_true rfl, Nat.le_of_ble_eq_true rfl⟩) (wb_preDV hPc hK hDc (va_recv hK hP (ci := 9) (q0 := 3) rfl rfl)) rfl rfl hl.1 rfl (lv_room (Nat.le_of_ble_eq_true rfl)) dX1_readDegree_54 ⟨Nat.le_of_ble_eq_true rfl, Nat.le_of_ble_eq_true rfl⟩) hS (fun q _ h => hFc q h) hFc (fun r9 u t H locs ht hvm hw hB hz1 hk1 hS => ?_)
        obtain ⟨hP, hD⟩ := wb_join (wc := (wWX9 cB cI cZ a1 r4.2.1 r4.2.2)) (w1 := (wWX9 cB cI cZ a1 r6.2.1 r6.2.2)) (wf := ((wWX1 cB cI cZ a0 I0 M0_5) ++ (wWX9 cB cI cZ a1 r6.2.1 r6.2.2))) hP hD [3, 4] [0, 1, 2] [0, 1, 2, 3, 4] rfl rfl (by decide) (by decide) (by decide) rfl hk1 hFc ht hB
        rw [hw]
        obtain ⟨hz, hf⟩ := wb_y hf
        exact W.zret (v := r6.1) hx hb hr (congrArg Value.int hz) (fun t ht hW => by rw [← Option.some.inj hf]; exact ⟨⟨r6.1, (), rfl, rfl, by rw [ht]; exact hP, va_K.moved hW.alike hK, hD⟩, hS.F ht⟩) hS.2.2 dX1_readDegree_57
      · replace hf := wb_t hc hf
        refine lv_iconst (v := (0 : Int32)) hx hb dX1_readDegree_36 (by decide) ?_
        exact W.zret (v := (0 : Int32)) hx hb hr (by decide) (fun t ht hW => by rw [← Option.some.inj hf]; exact ⟨⟨(0 : Int32), (), rfl, rfl, by rw [ht]; exact hP, va_K.moved hW.alike hK, hD⟩, hS.F ht⟩) hS.2.2 dX1_readDegree_37
    · replace hf := wb_t hc hf
      refine lv_iconst (v := (0 : Int32)) hx hb dX1_readDegree_19 (by decide) ?_
      exact W.zret (v := (0 : Int32)) hx hb hr (by decide) (fun t ht hW => by rw [← Option.some.inj hf]; exact ⟨⟨(0 : Int32), (), rfl, rfl, by rw [ht]; exact hP, va_K.moved hW.alike hK, hD⟩, hS.F ht⟩) hS.2.2 dX1_readDegree_20

set_option maxHeartbeats 4000000 in
set_option maxRecDepth 100000 in
theorem cn_X1_readDate (l : Launch) (D : va_G) (cB cI cZ : ClassId) (N : Nat) (a0 : Nat → Nat) (I0 : Nat → Int32) (M0 : Nat → Nat → Int32) (a1 : Nat → Nat) (I1 : Nat → Int32) (M1 : Nat → Nat → Int32) (sz : Nat) (R : Int32 × (Nat → Int32) × (Nat → Nat → Int32) × (Nat → Int32) × (Nat → Nat → Int32)) (hf : fX1_readDate N I0 M0 I1 M1 = some R) : Met l yX1_readDate wsX1_readDate ({ frames := 3, cells := 0, slots := 0, locals := 65 }) (va_Pc [.ref (a0 0), .ref (a1 0)] (wb_preD D [(cB, .byte), (cI, .int), (cZ, .boolean)] ((wWX1 cB cI cZ a0 I0 M0) ++ (wWX9 cB cI cZ a1 I1 M1)) sz)) (va_Qi (fun r (_ : Unit) => r = R.1) (fun _ t => wb_post D [(cB, .byte), (cI, .int), (cZ, .boolean)] (va_A ((wWX1 cB cI cZ a0 I0 M0) ++ (wWX9 cB cI cZ a1 I1 M1)) sz) ((wWX1 cB cI cZ a0 R.2.1 R.2.2.1) ++ (wWX9 cB cI cZ a1 R.2.2.2.1 R.2.2.2.2)) t) (va_A ((wWX1 cB cI cZ a0 I0 M0) ++ (wWX9 cB cI cZ a1 I1 M1)) sz)) 0 0 (va_A ((wWX1 cB cI cZ a0 I0 M0) ++ (wWX9 cB cI cZ a1 I1 M1)) sz) := by
  refine Met.ofW (cc := cX1_readDate) (maxL := 3) (ret := (some .boolean)) (by decide) rfl ?_
  intro p e s m args below meth c s₁ B hml hv
  obtain ⟨rfl, hsz, hP, hK, hD0⟩ := hv
  have hx := B.exec
  have hb := B.bytes
  have hr := B.returns
  have hts := atoms_spec (ws := wsX1_readDate) B.pre
  have hown : s.vm.findClass RX1 = some m.cls := findClass_of_methodNamed B.named
  have hlocks := B.notSynchronized
  have hinX1 : ∀ w ∈ u_ws RX1 TX1 2, w ∈ wsX1_readDate := fun w h => List.mem_cons_of_mem _ (List.mem_append_right _ h)
  have hinX9 : ∀ w ∈ u_ws RX9 TX9 10, w ∈ wsX1_readDate := fun w h => List.mem_cons_of_mem _ (List.mem_append_left _ (List.mem_append_right _ h))
  subst hsz
  have hD := hD0.self (sz := s.heap.size)
  generalize hAe : va_A ((wWX1 cB cI cZ a0 I0 M0) ++ (wWX9 cB cI cZ a1 I1 M1)) s.heap.size = A at hD ⊢
  have hA : ∀ q : Nat, s.heap.size ≤ q → A q := fun q h => by rw [← hAe]; exact Or.inr h
  have hS : va_S A s.heap s.heap [] := va_S.rf
  have hl := lv_entry ([.ref (a0 0), .ref (a1 0)]) (n := 3) (Nat.le_of_ble_eq_true rfl)
  rw [lg_entry_eq]
  generalize (lg_sl ([.ref (a0 0), .ref (a1 0)]) ++ List.replicate (3 - (lg_sl ([.ref (a0 0), .ref (a1 0)])).length) Slot.unset).toArray = ls at hl ⊢
  have hl : lv_has ls 3 [(0, .ref (a0 0)), (1, .ref (a1 0))] := hl
  unfold fX1_readDate at hf
  obtain ⟨H, hHe⟩ : ∃ H : Heap, H = s.heap := ⟨_, rfl⟩
  obtain ⟨locs, hle⟩ : ∃ locs : List Loc, locs = [] := ⟨_, rfl⟩
  refine wb_start (H := H) (locs := locs) hHe hle ?_
  rw [← hHe] at hP
  have hS : va_S A s.heap H locs := by rw [hHe, hle]; exact va_S.rf
  have J41 : ∀ (I0_j41 : Nat → Int32) (M0_j41 : Nat → Nat → Int32) (I1_j41 : Nat → Int32) (M1_j41 : Nat → Nat → Int32) (y41_2 : Int32) (z41_0 : Int32) (z41_1 : Int32) (H : Heap) (locs : List Loc), va_P D vwCl ((wWX1 cB cI cZ a0 I0_j41 M0_j41) ++ (wWX9 cB cI cZ a1 I1_j41 M1_j41)) H → va_D A ((wWX1 cB cI cZ a0 I0_j41 M0_j41) ++ (wWX9 cB cI cZ a1 I1_j41 M1_j41)) → va_S A s.heap H locs → ∀ (ls : Array Slot), lv_has ls 3 [(0, .ref (a0 0)), (1, .ref (a1 0)), (2, .int y41_2)] → fX1_readDate_J41 N I0_j41 M0_j41 I1_j41 M1_j41 y41_2 z41_0 z41_1 = some R → W p l e (headSpec wsX1_readDate { frames := 3, cells := 0, slots := 0, locals := 65 }).room s m [.ref (a0 0), .ref (a1 0)].toArray below meth c H locs 0 0 (MQ below (va_Qi (fun r (_ : Unit) => r = R.1) (fun _ t => wb_post D [(cB, .byte), (cI, .int), (cZ, .boolean)] A ((wWX1 cB cI cZ a0 R.2.1 R.2.2.1) ++ (wWX9 cB cI cZ a1 R.2.2.2.1 R.2.2.2.2)) t) A) [.ref (a0 0), .ref (a1 0)].toArray s 0 0 A) (F0 m 41 ls [.int z41_0, .int z41_1, .ref (a1 0)]) := by
    intro I0_j41 M0_j41 I1_j41 M1_j41 y41_2 z41_0 z41_1 H locs hP hD hS ls hl hf
    unfold fX1_readDate_J41 at hf
    obtain ⟨r1, hr1, hf⟩ := wb_b hf
    have hPc := hP.sub (ws' := (wWX9 cB cI cZ a1 I1_j41 M1_j41)) [3, 4] rfl
    have hDc := hD.sub (ws' := (wWX9 cB cI cZ a1 I1_j41 M1_j41)) [3, 4] (by decide) rfl
    have hFc := va_free (wc := (wWX9 cB cI cZ a1 I1_j41 M1_j41)) hD hS hA [3, 4] rfl
    refine va_calli (va_runV (As := [.int z41_1, .int z41_0]) (rest := []) ⟨hx, hb, hml, hown, hts⟩ (cn_X9_takeNumber l D cB cI cZ N a1 I1_j41 M1_j41 z41_1 z41_0 H.size r1 hr1) (cwV 2 hts gX1_readDate_X9_takeNumber rfl rfl rfl cdX9_takeNumber ⟨Nat.le_of_ble_eq_true rfl, Nat.le_of_ble_eq_true rfl⟩) (wb_preDV hPc hK hDc (va_recv hK hP (ci := 9) (q0 := 3) rfl rfl)) rfl rfl hl.1 rfl (lv_room (Nat.le_of_ble_eq_true rfl)) dX1_readDate_41 ⟨Nat.le_of_ble_eq_true rfl, Nat.le_of_ble_eq_true rfl⟩) hS (fun q _ h => hFc q h) hFc (fun r9 u t H locs ht hvm hw hB hz1 hk1 hS => ?_)
    obtain ⟨hP, hD⟩ := wb_join (wc := (wWX9 cB cI cZ a1 I1_j41 M1_j41)) (w1 := (wWX9 cB cI cZ a1 r1.2.1 r1.2.2)) (wf := ((wWX1 cB cI cZ a0 I0_j41 M0_j41) ++ (wWX9 cB cI cZ a1 r1.2.1 r1.2.2))) hP hD [3, 4] [0, 1, 2] [0, 1, 2, 3, 4] rfl rfl (by decide) (by decide) (by decide) rfl hk1 hFc ht hB
    rw [hw]
    refine lv_if_ne (tgt := 49) hx hb dX1_readDate_44 (by decide) (fun hc => ?_) (fun hc => ?_)
    · replace hf := wb_f hc hf
      refine lv_aload_n hx hb dX1_readDate_49 rfl (lv_at hl 0 rfl) ?_
      refine va_get (D := D) (ci := 1) (v := .ref (a0 2)) (C := RX1) (T := TX1) (N := 2) hx hb hts hinX1 hown hK hP 0 rfl rfl 1 (by decide) (hts (.fieldLink RX1 15 "WheelBook$Books" "draft" "[I") (List.mem_of_getElem? (i := 2) rfl)) (fun _ h9 => h9) rfl dX1_readDate_50 ?_
      refine lv_bipush (v := (21 : Int32)) hx hb dX1_readDate_53 (by decide) ?_
      refine lv_bipush (v := (30 : Int32)) hx hb dX1_readDate_55 (by decide) ?_
      refine lv_iload_n hx hb dX1_readDate_57 rfl (lv_at hl 2 rfl) ?_
      refine lv_imul hx hb dX1_readDate_58 ?_
      refine lv_aload_n hx hb dX1_readDate_59 rfl (lv_at hl 1 rfl) ?_
      refine va_get (D := D) (ci := 9) (v := .int (r1.2.1 6)) (C := RX9) (T := TX9) (N := 10) hx hb hts hinX9 hown hK hP 3 rfl rfl 7 (by decide) (hts (.fieldLink RX1 53 "WheelBook$Text" "number" "I") (List.mem_of_getElem? (i := 1) rfl)) (fun _ h9 => h9) rfl dX1_readDate_60 ?_
      refine lv_iadd hx hb dX1_readDate_63 ?_
      obtain ⟨hin, hf⟩ := wb_n hf
      refine va_iast hx hb hK hP hD hS 2 1 rfl rfl hin dX1_readDate_64 (fun H locs hP hD hS => ?_)
      have hP : va_P D vwCl ((wWX1 cB cI cZ a0 I0_j41 (wb_um M0_j41 1 ((21 : Int32)).toNatClampNeg (((30 : Int32) * y41_2) + (r1.2.1 6)))) ++ (wWX9 cB cI cZ a1 r1.2.1 r1.2.2)) H := hP
      have hD : va_D A ((wWX1 cB cI cZ a0 I0_j41 (wb_um M0_j41 1 ((21 : Int32)).toNatClampNeg (((30 : Int32) * y41_2) + (r1.2.1 6)))) ++ (wWX9 cB cI cZ a1 r1.2.1 r1.2.2)) := hD
      obtain ⟨M0_2, eM0_2, hf⟩ := wb_v hf
      rw [← eM0_2] at hP hD
      refine lv_aload_n hx hb dX1_readDate_65 rfl (lv_at hl 1 rfl) ?_
      obtain ⟨r3, hr3, hf⟩ := wb_b hf
      have hPc := hP.sub (ws' := (wWX9 cB cI cZ a1 r1.2.1 r1.2.2)) [3, 4] rfl
      have hDc := hD.sub (ws' := (wWX9 cB cI cZ a1 r1.2.1 r1.2.2)) [3, 4] (by decide) rfl
      have hFc := va_free (wc := (wWX9 cB cI cZ a1 r1.2.1 r1.2.2)) hD hS hA [3, 4] rfl
      refine va_calli (va_runV (As := []) (rest := []) ⟨hx, hb, hml, hown, hts⟩ (cn_X9_takeStop l D cB cI cZ N a1 r1.2.1 r1.2.2 H.size r3 hr3) (cwV 0 hts gX1_readDate_X9_takeStop rfl rfl rfl cdX9_takeStop ⟨Nat.le_of_ble_eq_true rfl, Nat.le_of_ble_eq_true rfl⟩) (wb_preDV hPc hK hDc (va_recv hK hP (ci := 9) (q0 := 3) rfl rfl)) rfl rfl hl.1 rfl (lv_room (Nat.le_of_ble_eq_true rfl)) dX1_readDate_66 ⟨Nat.le_of_ble_eq_true rfl, Nat.le_of_ble_eq_true rfl⟩) hS (fun q _ h => hFc q h) hFc (fun r9 u t H locs ht hvm hw hB hz1 hk1 hS => ?_)
      obtain ⟨hP, hD⟩ := wb_join (wc := (wWX9 cB cI cZ a1 r1.2.1 r1.2.2)) (w1 := (wWX9 cB cI cZ a1 r3.2.1 r3.2.2)) (wf := ((wWX1 cB cI cZ a0 I0_j41 M0_2) ++ (wWX9 cB cI cZ a1 r3.2.1 r3.2.2))) hP hD [3, 4] [0, 1, 2] [0, 1, 2, 3, 4] rfl rfl (by decide) (by decide) (by decide) rfl hk1 hFc ht hB
      rw [hw]
      obtain ⟨hz, hf⟩ := wb_y hf
      exact W.zret (v := r3.1) hx hb hr (congrArg Value.int hz) (fun t ht hW => by rw [← Option.some.inj hf]; exact ⟨⟨r3.1, (), rfl, rfl, by rw [ht]; exact hP, va_K.moved hW.alike hK, hD⟩, hS.F ht⟩) hS.2.2 dX1_readDate_69
    · replace hf := wb_t hc hf
      refine lv_iconst (v := (0 : Int32)) hx hb dX1_readDate_47 (by decide) ?_
      exact W.zret (v := (0 : Int32)) hx hb hr (by decide) (fun t ht hW => by rw [← Option.some.inj hf]; exact ⟨⟨(0 : Int32), (), rfl, rfl, by rw [ht]; exact hP, va_K.moved hW.alike hK, hD⟩, hS.F ht⟩) hS.2.2 dX1_readDate_48
  refine lv_aload_n hx hb dX1_readDate_0 rfl (lv_at hl 0 rfl) ?_
  refine lv_aload_n hx hb dX1_readDate_1 rfl (lv_at hl 1 rfl) ?_
  refine lv_bipush (v := (21 : Int32)) hx hb dX1_readDate_2 (by decide) ?_
  obtain ⟨r4, hr4, hf⟩ := wb_b hf
  have hPc := hP.sub (ws' := ((wWX1 cB cI cZ a0 I0 M0) ++ (wWX9 cB cI cZ a1 I1 M1))) [0, 1, 2, 3, 4] rfl
  have hDc := hD.sub (ws' := ((wWX1 cB cI cZ a0 I0 M0) ++ (wWX9 cB cI cZ a1 I1 M1))) [0, 1, 2, 3, 4] (by decide) rfl
  have hFc := va_free (wc := ((wWX1 cB cI cZ a0 I0 M0) ++ (wWX9 cB cI cZ a1 I1 M1))) hD hS hA [0, 1, 2, 3, 4] rfl
  refine va_calli (va_runV (As := [.ref (a1 0), .int (21 : Int32)]) (rest := []) ⟨hx, hb, hml, hown, hts⟩ (cn_X1_isNew l D cB cI cZ N a0 I0 M0 a1 I1 M1 (21 : Int32) H.size r4 hr4) (cwV 2 hts gX1_readDate_X1_isNew rfl rfl rfl cdX1_isNew ⟨Nat.le_of_ble_eq_true rfl, Nat.le_of_ble_eq_true rfl⟩) (wb_preDV hPc hK hDc (va_recv hK hP (ci := 1) (q0 := 0) rfl rfl)) rfl rfl hl.1 rfl (lv_room (Nat.le_of_ble_eq_true rfl)) dX1_readDate_4 ⟨Nat.le_of_ble_eq_true rfl, Nat.le_of_ble_eq_true rfl⟩) hS (fun q _ h => hFc q h) hFc (fun r9 u t H locs ht hvm hw hB hz1 hk1 hS => ?_)
  obtain ⟨hP, hD⟩ := wb_join (wc := ((wWX1 cB cI cZ a0 I0 M0) ++ (wWX9 cB cI cZ a1 I1 M1))) (w1 := ((wWX1 cB cI cZ a0 I0 M0) ++ (wWX9 cB cI cZ a1 r4.2.1 r4.2.2))) (wf := ((wWX1 cB cI cZ a0 I0 M0) ++ (wWX9 cB cI cZ a1 r4.2.1 r4.2.2))) hP hD [0, 1, 2, 3, 4] [] [0, 1, 2, 3, 4] rfl rfl (by decide) (by decide) (by decide) rfl hk1 hFc ht hB
  rw [hw]
  refine lv_if_eq (tgt := 20) hx hb dX1_readDate_7 (by decide) (fun hc => ?_) (fun hc => ?_)
  · replace hf := wb_t hc hf
    refine lv_iconst (v := (0 : Int32)) hx hb dX1_readDate_20 (by decide) ?_
    exact W.zret (v := (0 : Int32)) hx hb hr (by decide) (fun t ht hW => by rw [← Option.some.inj hf]; exact ⟨⟨(0 : Int32), (), rfl, rfl, by rw [ht]; exact hP, va_K.moved hW.alike hK, hD⟩, hS.F ht⟩) hS.2.2 dX1_readDate_21
  · replace hf := wb_f hc hf
    refine lv_aload_n hx hb dX1_readDate_10 rfl (lv_at hl 1 rfl) ?_
    refine lv_iconst (v := (0 : Int32)) hx hb dX1_readDate_11 (by decide) ?_
    refine lv_bipush (v := (12 : Int32)) hx hb dX1_readDate_12 (by decide) ?_
    obtain ⟨r5, hr5, hf⟩ := wb_b hf
    have hPc := hP.sub (ws' := (wWX9 cB cI cZ a1 r4.2.1 r4.2.2)) [3, 4] rfl
    have hDc := hD.sub (ws' := (wWX9 cB cI cZ a1 r4.2.1 r4.2.2)) [3, 4] (by decide) rfl
    have hFc := va_free (wc := (wWX9 cB cI cZ a1 r4.2.1 r4.2.2)) hD hS hA [3, 4] rfl
    refine va_calli (va_runV (As := [.int (0 : Int32), .int (12 : Int32)]) (rest := []) ⟨hx, hb, hml, hown, hts⟩ (cn_X9_takeNumber l D cB cI cZ N a1 r4.2.1 r4.2.2 (0 : Int32) (12 : Int32) H.size r5 hr5) (cwV 2 hts gX1_readDate_X9_takeNumber rfl rfl rfl cdX9_takeNumber ⟨Nat.le_of_ble_eq_true rfl, Nat.le_of_ble_eq_true rfl⟩) (wb_preDV hPc hK hDc (va_recv hK hP (ci := 9) (q0 := 3) rfl rfl)) rfl rfl hl.1 rfl (lv_room (Nat.le_of_ble_eq_true rfl)) dX1_readDate_14 ⟨Nat.le_of_ble_eq_true rfl, Nat.le_of_ble_eq_true rfl⟩) hS (fun q _ h => hFc q h) hFc (fun r9 u t H locs ht hvm hw hB hz1 hk1 hS => ?_)
    obtain ⟨hP, hD⟩ := wb_join (wc := (wWX9 cB cI cZ a1 r4.2.1 r4.2.2)) (w1 := (wWX9 cB cI cZ a1 r5.2.1 r5.2.2)) (wf := ((wWX1 cB cI cZ a0 I0 M0) ++ (wWX9 cB cI cZ a1 r5.2.1 r5.2.2))) hP hD [3, 4] [0, 1, 2] [0, 1, 2, 3, 4] rfl rfl (by decide) (by decide) (by decide) rfl hk1 hFc ht hB
    rw [hw]
    refine lv_if_ne (tgt := 22) hx hb dX1_readDate_17 (by decide) (fun hc => ?_) (fun hc => ?_)
    · replace hf := wb_f hc hf
      refine lv_aload_n hx hb dX1_readDate_22 rfl (lv_at hl 1 rfl) ?_
      refine va_get (D := D) (ci := 9) (v := .int (r5.2.1 6)) (C := RX9) (T := TX9) (N := 10) hx hb hts hinX9 hown hK hP 3 rfl rfl 7 (by decide) (hts (.fieldLink RX1 53 "WheelBook$Text" "number" "I") (List.mem_of_getElem? (i := 1) rfl)) (fun _ h9 => h9) rfl dX1_readDate_23 ?_
      obtain ⟨v6, ev6, hf⟩ := wb_v hf
      refine wb_topi ev6 ?_
      refine lv_istore_n (lv' := [(2, .int v6), (0, .ref (a0 0)), (1, .ref (a1 0))]) hx hb dX1_readDate_26 rfl hl (by decide) rfl (fun ls hl => ?_)
      refine lv_aload_n hx hb dX1_readDate_27 rfl (lv_at hl 2 rfl) ?_
      refine lv_iconst (v := (0 : Int32)) hx hb dX1_readDate_28 (by decide) ?_
      refine lv_iload_n hx hb dX1_readDate_29 rfl (lv_at hl 0 rfl) ?_
      refine lv_bipush (v := (12 : Int32)) hx hb dX1_readDate_30 (by decide) ?_
      refine lv_icmp_ne (tgt := 39) hx hb dX1_readDate_32 (by decide) (fun hc => ?_) (fun hc => ?_)
      · replace hf := wb_f hc hf
        refine lv_bipush (v := (29 : Int32)) hx hb dX1_readDate_39 (by decide) ?_
        exact J41 I0 M0 r5.2.1 r5.2.2 v6 (29 : Int32) (0 : Int32) H locs hP hD hS ls (lv_sub hl [1, 2, 0] rfl) hf
      · replace hf := wb_t hc hf
        refine lv_iconst (v := (4 : Int32)) hx hb dX1_readDate_35 (by decide) ?_
        refine lv_goto (tgt := 41) hx hb dX1_readDate_36 (by decide) ?_
        exact J41 I0 M0 r5.2.1 r5.2.2 v6 (4 : Int32) (0 : Int32) H locs hP hD hS ls (lv_sub hl [1, 2, 0] rfl) hf
    · replace hf := wb_t hc hf
      refine lv_iconst (v := (0 : Int32)) hx hb dX1_readDate_20 (by decide) ?_
      exact W.zret (v := (0 : Int32)) hx hb hr (by decide) (fun t ht hW => by rw [← Option.some.inj hf]; exact ⟨⟨(0 : Int32), (), rfl, rfl, by rw [ht]; exact hP, va_K.moved hW.alike hK, hD⟩, hS.F ht⟩) hS.2.2 dX1_readDate_21

set_option maxHeartbeats 4000000 in
set_option maxRecDepth 100000 in
theorem cn_X1_readEntry (l : Launch) (D : va_G) (cB cI cZ : ClassId) (N : Nat) (aK aV : Nat → Nat) (a0 : Nat → Nat) (I0 : Nat → Int32) (M0 : Nat → Nat → Int32) (a1 : Nat → Nat) (I1 : Nat → Int32) (M1 : Nat → Nat → Int32) (sz : Nat) (R : Int32 × (Nat → Int32) × (Nat → Nat → Int32) × (Nat → Int32) × (Nat → Nat → Int32)) (hf : fX1_readEntry N I0 M0 I1 M1 = some R) : Met l yX1_readEntry wsX1_readEntry ({ frames := 6, cells := 0, slots := 0, locals := 165 }) (va_Pc [.ref (a0 0), .ref (a1 0)] (wb_preDE D [(cB, .byte), (cI, .int), (cZ, .boolean)] ((wWX1 cB cI cZ a0 I0 M0) ++ (wWX9 cB cI cZ a1 I1 M1)) sz aK aV)) (va_Qi (fun r (_ : Unit) => r = R.1) (fun _ t => wb_post D [(cB, .byte), (cI, .int), (cZ, .boolean)] (va_A ((wWX1 cB cI cZ a0 I0 M0) ++ (wWX9 cB cI cZ a1 I1 M1)) sz) ((wWX1 cB cI cZ a0 R.2.1 R.2.2.1) ++ (wWX9 cB cI cZ a1 R.2.2.2.1 R.2.2.2.2)) t) (va_A ((wWX1 cB cI cZ a0 I0 M0) ++ (wWX9 cB cI cZ a1 I1 M1)) sz)) 0 0 (va_A ((wWX1 cB cI cZ a0 I0 M0) ++ (wWX9 cB cI cZ a1 I1 M1)) sz) := by
  refine Met.ofW (cc := cX1_readEntry) (maxL := 3) (ret := (some .boolean)) (by decide) rfl ?_
  intro p e s m args below meth c s₁ B hml hv
  obtain ⟨rfl, ⟨hsz, hP, hK, hD0⟩, hZ⟩ := hv
  have hx := B.exec
  have hb := B.bytes
  have hr := B.returns
  have hts := atoms_spec (ws := wsX1_readEntry) B.pre
  have hown : s.vm.findClass RX1 = some m.cls := findClass_of_methodNamed B.named
  have hlocks := B.notSynchronized
  have hinX9 : ∀ w ∈ u_ws RX9 TX9 10, w ∈ wsX1_readEntry := fun w h => List.mem_cons_of_mem _ (List.mem_append_left _ (List.mem_append_right _ h))
  subst hsz
  have hD := hD0.self (sz := s.heap.size)
  generalize hAe : va_A ((wWX1 cB cI cZ a0 I0 M0) ++ (wWX9 cB cI cZ a1 I1 M1)) s.heap.size = A at hD hZ ⊢
  have hA : ∀ q : Nat, s.heap.size ≤ q → A q := fun q h => by rw [← hAe]; exact Or.inr h
  have hS : va_S A s.heap s.heap [] := va_S.rf
  have hl := lv_entry ([.ref (a0 0), .ref (a1 0)]) (n := 3) (Nat.le_of_ble_eq_true rfl)
  rw [lg_entry_eq]
  generalize (lg_sl ([.ref (a0 0), .ref (a1 0)]) ++ List.replicate (3 - (lg_sl ([.ref (a0 0), .ref (a1 0)])).length) Slot.unset).toArray = ls at hl ⊢
  have hl : lv_has ls 3 [(0, .ref (a0 0)), (1, .ref (a1 0))] := hl
  unfold fX1_readEntry at hf
  obtain ⟨H, hHe⟩ : ∃ H : Heap, H = s.heap := ⟨_, rfl⟩
  obtain ⟨locs, hle⟩ : ∃ locs : List Loc, locs = [] := ⟨_, rfl⟩
  refine wb_start (H := H) (locs := locs) hHe hle ?_
  rw [← hHe] at hP
  have hS : va_S A s.heap H locs := by rw [hHe, hle]; exact va_S.rf
  refine lv_aload_n hx hb dX1_readEntry_0 rfl (lv_at hl 1 rfl) ?_
  refine va_ldcS hx hb hown (hZ.2.1 0 (RX1, 40, "house") rfl) dX1_readEntry_1 ?_
  obtain ⟨r1, hr1, hf⟩ := wb_b hf
  refine vp_callSi (W.runV (As := [.ref (aK 0)]) (rest := []) ⟨hx, hb, hml, hown, hts⟩ (cn_X9_isWord l D cB cI cZ N aK aV a1 I1 M1 0 (by decide) r1 hr1) (cwV 1 hts gX1_readEntry_X9_isWord rfl rfl rfl cdX9_isWord ⟨Nat.le_of_ble_eq_true rfl, Nat.le_of_ble_eq_true rfl⟩) (wb_preEV (hP.sub (ws' := (wWX9 cB cI cZ a1 I1 M1)) [3, 4] rfl) hK (va_recv hK hP (ci := 9) (q0 := 3) rfl rfl) hZ hS) rfl rfl hl.1 rfl (lv_room (Nat.le_of_ble_eq_true rfl)) dX1_readEntry_3 ⟨Nat.le_of_ble_eq_true rfl, Nat.le_of_ble_eq_true rfl⟩) (fun r9 e9 => ?_)
  rw [e9]
  refine lv_if_eq (tgt := 44) hx hb dX1_readEntry_6 (by decide) (fun hc => ?_) (fun hc => ?_)
  · replace hf := wb_t hc hf
    refine lv_aload_n hx hb dX1_readEntry_44 rfl (lv_at hl 1 rfl) ?_
    refine va_ldcS hx hb hown (hZ.2.1 1 (RX1, 61, "date") rfl) dX1_readEntry_45 ?_
    obtain ⟨r2, hr2, hf⟩ := wb_b hf
    refine vp_callSi (W.runV (As := [.ref (aK 1)]) (rest := []) ⟨hx, hb, hml, hown, hts⟩ (cn_X9_isWord l D cB cI cZ N aK aV a1 I1 M1 1 (by decide) r2 hr2) (cwV 1 hts gX1_readEntry_X9_isWord rfl rfl rfl cdX9_isWord ⟨Nat.le_of_ble_eq_true rfl, Nat.le_of_ble_eq_true rfl⟩) (wb_preEV (hP.sub (ws' := (wWX9 cB cI cZ a1 I1 M1)) [3, 4] rfl) hK (va_recv hK hP (ci := 9) (q0 := 3) rfl rfl) hZ hS) rfl rfl hl.1 rfl (lv_room (Nat.le_of_ble_eq_true rfl)) dX1_readEntry_47 ⟨Nat.le_of_ble_eq_true rfl, Nat.le_of_ble_eq_true rfl⟩) (fun r9 e9 => ?_)
    rw [e9]
    refine lv_if_eq (tgt := 59) hx hb dX1_readEntry_50 (by decide) (fun hc => ?_) (fun hc => ?_)
    · replace hf := wb_t hc hf
      refine lv_aload_n hx hb dX1_readEntry_59 rfl (lv_at hl 1 rfl) ?_
      refine lv_bipush (v := (9 : Int32)) hx hb dX1_readEntry_60 (by decide) ?_
      obtain ⟨r3, hr3, hf⟩ := wb_b hf
      refine vp_callSi (W.runV (As := [.int (9 : Int32)]) (rest := []) ⟨hx, hb, hml, hown, hts⟩ (cn_X9_namedOf l D cB cI cZ N aK aV a1 I1 M1 (9 : Int32) r3 hr3) (cwV 1 hts gX1_readEntry_X9_namedOf rfl rfl rfl cdX9_namedOf ⟨Nat.le_of_ble_eq_true rfl, Nat.le_of_ble_eq_true rfl⟩) (wb_preEV (hP.sub (ws' := (wWX9 cB cI cZ a1 I1 M1)) [3, 4] rfl) hK (va_recv hK hP (ci := 9) (q0 := 3) rfl rfl) hZ hS) rfl rfl hl.1 rfl (lv_room (Nat.le_of_ble_eq_true rfl)) dX1_readEntry_62 ⟨Nat.le_of_ble_eq_true rfl, Nat.le_of_ble_eq_true rfl⟩) (fun r9 e9 => ?_)
      rw [e9]
      refine lv_istore_n (lv' := [(2, .int r3), (0, .ref (a0 0)), (1, .ref (a1 0))]) hx hb dX1_readEntry_65 rfl hl (by decide) rfl (fun ls hl => ?_)
      refine lv_iload_n hx hb dX1_readEntry_66 rfl (lv_at hl 0 rfl) ?_
      refine lv_iconst (v := (-1 : Int32)) hx hb dX1_readEntry_67 (by decide) ?_
      refine lv_icmp_ne (tgt := 79) hx hb dX1_readEntry_68 (by decide) (fun hc => ?_) (fun hc => ?_)
      · replace hf := wb_f hc hf
        refine lv_aload_n hx hb dX1_readEntry_79 rfl (lv_at hl 1 rfl) ?_
        refine lv_aload_n hx hb dX1_readEntry_80 rfl (lv_at hl 2 rfl) ?_
        refine lv_iload_n hx hb dX1_readEntry_81 rfl (lv_at hl 0 rfl) ?_
        obtain ⟨r4, hr4, hf⟩ := wb_b hf
        have hPc := hP.sub (ws' := ((wWX1 cB cI cZ a0 I0 M0) ++ (wWX9 cB cI cZ a1 I1 M1))) [0, 1, 2, 3, 4] rfl
        have hDc := hD.sub (ws' := ((wWX1 cB cI cZ a0 I0 M0) ++ (wWX9 cB cI cZ a1 I1 M1))) [0, 1, 2, 3, 4] (by decide) rfl
        have hFc := va_free (wc := ((wWX1 cB cI cZ a0 I0 M0) ++ (wWX9 cB cI cZ a1 I1 M1))) hD hS hA [0, 1, 2, 3, 4] rfl
        refine va_calli (va_runV (As := [.ref (a1 0), .int r3]) (rest := []) ⟨hx, hb, hml, hown, hts⟩ (cn_X1_readDegree l D cB cI cZ N a0 I0 M0 a1 I1 M1 r3 H.size r4 hr4) (cwV 2 hts gX1_readEntry_X1_readDegree rfl rfl rfl cdX1_readDegree ⟨Nat.le_of_ble_eq_true rfl, Nat.le_of_ble_eq_true rfl⟩) (wb_preDV hPc hK hDc (va_recv hK hP (ci := 1) (q0 := 0) rfl rfl)) rfl rfl hl.1 rfl (lv_room (Nat.le_of_ble_eq_true rfl)) dX1_readEntry_82 ⟨Nat.le_of_ble_eq_true rfl, Nat.le_of_ble_eq_true rfl⟩) hS (fun q _ h => hFc q h) hFc (fun r9 u t H locs ht hvm hw hB hz1 hk1 hS => ?_)
        obtain ⟨hP, hD⟩ := wb_join (wc := ((wWX1 cB cI cZ a0 I0 M0) ++ (wWX9 cB cI cZ a1 I1 M1))) (w1 := ((wWX1 cB cI cZ a0 r4.2.1 r4.2.2.1) ++ (wWX9 cB cI cZ a1 r4.2.2.2.1 r4.2.2.2.2))) (wf := ((wWX1 cB cI cZ a0 r4.2.1 r4.2.2.1) ++ (wWX9 cB cI cZ a1 r4.2.2.2.1 r4.2.2.2.2))) hP hD [0, 1, 2, 3, 4] [] [0, 1, 2, 3, 4] rfl rfl (by decide) (by decide) (by decide) rfl hk1 hFc ht hB
        rw [hw]
        obtain ⟨hz, hf⟩ := wb_y hf
        exact W.zret (v := r4.1) hx hb hr (congrArg Value.int hz) (fun t ht hW => by rw [← Option.some.inj hf]; exact ⟨⟨r4.1, (), rfl, rfl, by rw [ht]; exact hP, va_K.moved hW.alike hK, hD⟩, hS.F ht⟩) hS.2.2 dX1_readEntry_85
      · replace hf := wb_t hc hf
        refine lv_aload_n hx hb dX1_readEntry_71 rfl (lv_at hl 2 rfl) ?_
        refine lv_iconst (v := (1 : Int32)) hx hb dX1_readEntry_72 (by decide) ?_
        obtain ⟨r5, hr5, hf⟩ := wb_b hf
        have hPc := hP.sub (ws' := (wWX9 cB cI cZ a1 I1 M1)) [3, 4] rfl
        have hDc := hD.sub (ws' := (wWX9 cB cI cZ a1 I1 M1)) [3, 4] (by decide) rfl
        have hFc := va_free (wc := (wWX9 cB cI cZ a1 I1 M1)) hD hS hA [3, 4] rfl
        refine va_calli (va_runV (As := [.int (1 : Int32)]) (rest := []) ⟨hx, hb, hml, hown, hts⟩ (cn_X9_refuse l D cB cI cZ N a1 I1 M1 (1 : Int32) H.size r5 hr5) (cwV 1 hts gX1_readEntry_X9_refuse rfl rfl rfl cdX9_refuse ⟨Nat.le_of_ble_eq_true rfl, Nat.le_of_ble_eq_true rfl⟩) (wb_preDV hPc hK hDc (va_recv hK hP (ci := 9) (q0 := 3) rfl rfl)) rfl rfl hl.1 rfl (lv_room (Nat.le_of_ble_eq_true rfl)) dX1_readEntry_73 ⟨Nat.le_of_ble_eq_true rfl, Nat.le_of_ble_eq_true rfl⟩) hS (fun q _ h => hFc q h) hFc (fun r9 u t H locs ht hvm hw hB hz1 hk1 hS => ?_)
        obtain ⟨hP, hD⟩ := wb_join (wc := (wWX9 cB cI cZ a1 I1 M1)) (w1 := (wWX9 cB cI cZ a1 r5.2.1 r5.2.2)) (wf := ((wWX1 cB cI cZ a0 I0 M0) ++ (wWX9 cB cI cZ a1 r5.2.1 r5.2.2))) hP hD [3, 4] [0, 1, 2] [0, 1, 2, 3, 4] rfl rfl (by decide) (by decide) (by decide) rfl hk1 hFc ht hB
        rw [hw]
        refine lv_goto (tgt := 85) hx hb dX1_readEntry_76 (by decide) ?_
        obtain ⟨hz, hf⟩ := wb_y hf
        exact W.zret (v := r5.1) hx hb hr (congrArg Value.int hz) (fun t ht hW => by rw [← Option.some.inj hf]; exact ⟨⟨r5.1, (), rfl, rfl, by rw [ht]; exact hP, va_K.moved hW.alike hK, hD⟩, hS.F ht⟩) hS.2.2 dX1_readEntry_85
    · replace hf := wb_f hc hf
      refine lv_aload_n hx hb dX1_readEntry_53 rfl (lv_at hl 0 rfl) ?_
      refine lv_aload_n hx hb dX1_readEntry_54 rfl (lv_at hl 1 rfl) ?_
      obtain ⟨r6, hr6, hf⟩ := wb_b hf
      have hPc := hP.sub (ws' := ((wWX1 cB cI cZ a0 I0 M0) ++ (wWX9 cB cI cZ a1 I1 M1))) [0, 1, 2, 3, 4] rfl
      have hDc := hD.sub (ws' := ((wWX1 cB cI cZ a0 I0 M0) ++ (wWX9 cB cI cZ a1 I1 M1))) [0, 1, 2, 3, 4] (by decide) rfl
      have hFc := va_free (wc := ((wWX1 cB cI cZ a0 I0 M0) ++ (wWX9 cB cI cZ a1 I1 M1))) hD hS hA [0, 1, 2, 3, 4] rfl
      refine va_calli (va_runV (As := [.ref (a1 0)]) (rest := []) ⟨hx, hb, hml, hown, hts⟩ (cn_X1_readDate l D cB cI cZ N a0 I0 M0 a1 I1 M1 H.size r6 hr6) (cwV 1 hts gX1_readEntry_X1_readDate rfl rfl rfl cdX1_readDate ⟨Nat.le_of_ble_eq_true rfl, Nat.le_of_ble_eq_true rfl⟩) (wb_preDV hPc hK hDc (va_recv hK hP (ci := 1) (q0 := 0) rfl rfl)) rfl rfl hl.1 rfl (lv_room (Nat.le_of_ble_eq_true rfl)) dX1_readEntry_55 ⟨Nat.le_of_ble_eq_true rfl, Nat.le_of_ble_eq_true rfl⟩) hS (fun q _ h => hFc q h) hFc (fun r9 u t H locs ht hvm hw hB hz1 hk1 hS => ?_)
      obtain ⟨hP, hD⟩ := wb_join (wc := ((wWX1 cB cI cZ a0 I0 M0) ++ (wWX9 cB cI cZ a1 I1 M1))) (w1 := ((wWX1 cB cI cZ a0 r6.2.1 r6.2.2.1) ++ (wWX9 cB cI cZ a1 r6.2.2.2.1 r6.2.2.2.2))) (wf := ((wWX1 cB cI cZ a0 r6.2.1 r6.2.2.1) ++ (wWX9 cB cI cZ a1 r6.2.2.2.1 r6.2.2.2.2))) hP hD [0, 1, 2, 3, 4] [] [0, 1, 2, 3, 4] rfl rfl (by decide) (by decide) (by decide) rfl hk1 hFc ht hB
      rw [hw]
      obtain ⟨hz, hf⟩ := wb_y hf
      exact W.zret (v := r6.1) hx hb hr (congrArg Value.int hz) (fun t ht hW => by rw [← Option.some.inj hf]; exact ⟨⟨r6.1, (), rfl, rfl, by rw [ht]; exact hP, va_K.moved hW.alike hK, hD⟩, hS.F ht⟩) hS.2.2 dX1_readEntry_58
  · replace hf := wb_f hc hf
    refine lv_aload_n hx hb dX1_readEntry_9 rfl (lv_at hl 1 rfl) ?_
    obtain ⟨r7, hr7, hf⟩ := wb_b hf
    have hPc := hP.sub (ws' := (wWX9 cB cI cZ a1 I1 M1)) [3, 4] rfl
    have hDc := hD.sub (ws' := (wWX9 cB cI cZ a1 I1 M1)) [3, 4] (by decide) rfl
    have hFc := va_free (wc := (wWX9 cB cI cZ a1 I1 M1)) hD hS hA [3, 4] rfl
    refine va_callv (va_runV (As := []) (rest := []) ⟨hx, hb, hml, hown, hts⟩ (cn_X9_step l D cB cI cZ N a1 I1 M1 H.size r7 hr7) (cwV 0 hts gX1_readEntry_X9_step rfl rfl rfl cdX9_step ⟨Nat.le_of_ble_eq_true rfl, Nat.le_of_ble_eq_true rfl⟩) (wb_preDV hPc hK hDc (va_recv hK hP (ci := 9) (q0 := 3) rfl rfl)) rfl rfl hl.1 rfl (lv_room (Nat.le_of_ble_eq_true rfl)) dX1_readEntry_10 ⟨Nat.le_of_ble_eq_true rfl, Nat.le_of_ble_eq_true rfl⟩) hS (fun q _ h => hFc q h) hFc (fun u t H locs ht hvm hw hB hz1 hk1 hS => ?_)
    obtain ⟨hP, hD⟩ := wb_join (wc := (wWX9 cB cI cZ a1 I1 M1)) (w1 := (wWX9 cB cI cZ a1 r7.1 r7.2)) (wf := ((wWX1 cB cI cZ a0 I0 M0) ++ (wWX9 cB cI cZ a1 r7.1 r7.2))) hP hD [3, 4] [0, 1, 2] [0, 1, 2, 3, 4] rfl rfl (by decide) (by decide) (by decide) rfl hk1 hFc ht hB
    refine lv_aload_n hx hb dX1_readEntry_13 rfl (lv_at hl 1 rfl) ?_
    refine lv_iconst (v := (1 : Int32)) hx hb dX1_readEntry_14 (by decide) ?_
    refine lv_bipush (v := (12 : Int32)) hx hb dX1_readEntry_15 (by decide) ?_
    obtain ⟨r8, hr8, hf⟩ := wb_b hf
    have hPc := hP.sub (ws' := (wWX9 cB cI cZ a1 r7.1 r7.2)) [3, 4] rfl
    have hDc := hD.sub (ws' := (wWX9 cB cI cZ a1 r7.1 r7.2)) [3, 4] (by decide) rfl
    have hFc := va_free (wc := (wWX9 cB cI cZ a1 r7.1 r7.2)) hD hS hA [3, 4] rfl
    refine va_calli (va_runV (As := [.int (1 : Int32), .int (12 : Int32)]) (rest := []) ⟨hx, hb, hml, hown, hts⟩ (cn_X9_holdsNumber l D cB cI cZ N a1 r7.1 r7.2 (1 : Int32) (12 : Int32) H.size r8 hr8) (cwV 2 hts gX1_readEntry_X9_holdsNumber rfl rfl rfl cdX9_holdsNumber ⟨Nat.le_of_ble_eq_true rfl, Nat.le_of_ble_eq_true rfl⟩) (wb_preDV hPc hK hDc (va_recv hK hP (ci := 9) (q0 := 3) rfl rfl)) rfl rfl hl.1 rfl (lv_room (Nat.le_of_ble_eq_true rfl)) dX1_readEntry_17 ⟨Nat.le_of_ble_eq_true rfl, Nat.le_of_ble_eq_true rfl⟩) hS (fun q _ h => hFc q h) hFc (fun r9 u t H locs ht hvm hw hB hz1 hk1 hS => ?_)
    obtain ⟨hP, hD⟩ := wb_join (wc := (wWX9 cB cI cZ a1 r7.1 r7.2)) (w1 := (wWX9 cB cI cZ a1 r8.2.1 r8.2.2)) (wf := ((wWX1 cB cI cZ a0 I0 M0) ++ (wWX9 cB cI cZ a1 r8.2.1 r8.2.2))) hP hD [3, 4] [0, 1, 2] [0, 1, 2, 3, 4] rfl rfl (by decide) (by decide) (by decide) rfl hk1 hFc ht hB
    rw [hw]
    refine lv_if_eq (tgt := 42) hx hb dX1_readEntry_20 (by decide) (fun hc => ?_) (fun hc => ?_)
    · replace hf := wb_t hc hf
      refine lv_iconst (v := (0 : Int32)) hx hb dX1_readEntry_42 (by decide) ?_
      exact W.zret (v := (0 : Int32)) hx hb hr (by decide) (fun t ht hW => by rw [← Option.some.inj hf]; exact ⟨⟨(0 : Int32), (), rfl, rfl, by rw [ht]; exact hP, va_K.moved hW.alike hK, hD⟩, hS.F ht⟩) hS.2.2 dX1_readEntry_43
    · replace hf := wb_f hc hf
      refine lv_aload_n hx hb dX1_readEntry_23 rfl (lv_at hl 0 rfl) ?_
      refine lv_aload_n hx hb dX1_readEntry_24 rfl (lv_at hl 1 rfl) ?_
      refine lv_bipush (v := (8 : Int32)) hx hb dX1_readEntry_25 (by decide) ?_
      refine lv_aload_n hx hb dX1_readEntry_27 rfl (lv_at hl 1 rfl) ?_
      refine va_get (D := D) (ci := 9) (v := .int (r8.2.1 6)) (C := RX9) (T := TX9) (N := 10) hx hb hts hinX9 hown hK hP 3 rfl rfl 7 (by decide) (hts (.fieldLink RX1 53 "WheelBook$Text" "number" "I") (List.mem_of_getElem? (i := 1) rfl)) (fun _ h9 => h9) rfl dX1_readEntry_28 ?_
      refine lv_iadd hx hb dX1_readEntry_31 ?_
      obtain ⟨r9b, hr9b, hf⟩ := wb_b hf
      have hPc := hP.sub (ws' := ((wWX1 cB cI cZ a0 I0 M0) ++ (wWX9 cB cI cZ a1 r8.2.1 r8.2.2))) [0, 1, 2, 3, 4] rfl
      have hDc := hD.sub (ws' := ((wWX1 cB cI cZ a0 I0 M0) ++ (wWX9 cB cI cZ a1 r8.2.1 r8.2.2))) [0, 1, 2, 3, 4] (by decide) rfl
      have hFc := va_free (wc := ((wWX1 cB cI cZ a0 I0 M0) ++ (wWX9 cB cI cZ a1 r8.2.1 r8.2.2))) hD hS hA [0, 1, 2, 3, 4] rfl
      refine va_calli (va_runV (As := [.ref (a1 0), .int ((8 : Int32) + (r8.2.1 6))]) (rest := []) ⟨hx, hb, hml, hown, hts⟩ (cn_X1_readDegree l D cB cI cZ N a0 I0 M0 a1 r8.2.1 r8.2.2 ((8 : Int32) + (r8.2.1 6)) H.size r9b hr9b) (cwV 2 hts gX1_readEntry_X1_readDegree rfl rfl rfl cdX1_readDegree ⟨Nat.le_of_ble_eq_true rfl, Nat.le_of_ble_eq_true rfl⟩) (wb_preDV hPc hK hDc (va_recv hK hP (ci := 1) (q0 := 0) rfl rfl)) rfl rfl hl.1 rfl (lv_room (Nat.le_of_ble_eq_true rfl)) dX1_readEntry_32 ⟨Nat.le_of_ble_eq_true rfl, Nat.le_of_ble_eq_true rfl⟩) hS (fun q _ h => hFc q h) hFc (fun r9 u t H locs ht hvm hw hB hz1 hk1 hS => ?_)
      obtain ⟨hP, hD⟩ := wb_join (wc := ((wWX1 cB cI cZ a0 I0 M0) ++ (wWX9 cB cI cZ a1 r8.2.1 r8.2.2))) (w1 := ((wWX1 cB cI cZ a0 r9b.2.1 r9b.2.2.1) ++ (wWX9 cB cI cZ a1 r9b.2.2.2.1 r9b.2.2.2.2))) (wf := ((wWX1 cB cI cZ a0 r9b.2.1 r9b.2.2.1) ++ (wWX9 cB cI cZ a1 r9b.2.2.2.1 r9b.2.2.2.2))) hP hD [0, 1, 2, 3, 4] [] [0, 1, 2, 3, 4] rfl rfl (by decide) (by decide) (by decide) rfl hk1 hFc ht hB
      rw [hw]
      refine lv_if_eq (tgt := 42) hx hb dX1_readEntry_35 (by decide) (fun hc => ?_) (fun hc => ?_)
      · replace hf := wb_t hc hf
        refine lv_iconst (v := (0 : Int32)) hx hb dX1_readEntry_42 (by decide) ?_
        exact W.zret (v := (0 : Int32)) hx hb hr (by decide) (fun t ht hW => by rw [← Option.some.inj hf]; exact ⟨⟨(0 : Int32), (), rfl, rfl, by rw [ht]; exact hP, va_K.moved hW.alike hK, hD⟩, hS.F ht⟩) hS.2.2 dX1_readEntry_43
      · replace hf := wb_f hc hf
        refine lv_iconst (v := (1 : Int32)) hx hb dX1_readEntry_38 (by decide) ?_
        refine lv_goto (tgt := 43) hx hb dX1_readEntry_39 (by decide) ?_
        exact W.zret (v := (1 : Int32)) hx hb hr (by decide) (fun t ht hW => by rw [← Option.some.inj hf]; exact ⟨⟨(1 : Int32), (), rfl, rfl, by rw [ht]; exact hP, va_K.moved hW.alike hK, hD⟩, hS.F ht⟩) hS.2.2 dX1_readEntry_43

set_option maxHeartbeats 4000000 in
set_option maxRecDepth 100000 in
theorem cn_X1_readEntries (l : Launch) (D : va_G) (cB cI cZ : ClassId) (N : Nat) (aK aV : Nat → Nat) (a0 : Nat → Nat) (I0 : Nat → Int32) (M0 : Nat → Nat → Int32) (a1 : Nat → Nat) (I1 : Nat → Int32) (M1 : Nat → Nat → Int32) (sz : Nat) (R : Int32 × (Nat → Int32) × (Nat → Nat → Int32) × (Nat → Int32) × (Nat → Nat → Int32)) (hf : fX1_readEntries N I0 M0 I1 M1 = some R) : Met l yX1_readEntries wsX1_readEntries ({ frames := 7, cells := 0, slots := 0, locals := 187 }) (va_Pc [.ref (a0 0), .ref (a1 0)] (wb_preDE D [(cB, .byte), (cI, .int), (cZ, .boolean)] ((wWX1 cB cI cZ a0 I0 M0) ++ (wWX9 cB cI cZ a1 I1 M1)) sz aK aV)) (va_Qi (fun r (_ : Unit) => r = R.1) (fun _ t => wb_post D [(cB, .byte), (cI, .int), (cZ, .boolean)] (va_A ((wWX1 cB cI cZ a0 I0 M0) ++ (wWX9 cB cI cZ a1 I1 M1)) sz) ((wWX1 cB cI cZ a0 R.2.1 R.2.2.1) ++ (wWX9 cB cI cZ a1 R.2.2.2.1 R.2.2.2.2)) t) (va_A ((wWX1 cB cI cZ a0 I0 M0) ++ (wWX9 cB cI cZ a1 I1 M1)) sz)) 0 0 (va_A ((wWX1 cB cI cZ a0 I0 M0) ++ (wWX9 cB cI cZ a1 I1 M1)) sz) := by
  refine Met.ofW (cc := cX1_readEntries) (maxL := 3) (ret := (some .boolean)) (by decide) rfl ?_
  intro p e s m args below meth c s₁ B hml hv
  obtain ⟨rfl, ⟨hsz, hP, hK, hD0⟩, hZ⟩ := hv
  have hx := B.exec
  have hb := B.bytes
  have hr := B.returns
  have hts := atoms_spec (ws := wsX1_readEntries) B.pre
  have hown : s.vm.findClass RX1 = some m.cls := findClass_of_methodNamed B.named
  have hlocks := B.notSynchronized
  have hinX1 : ∀ w ∈ u_ws RX1 TX1 2, w ∈ wsX1_readEntries := fun w h => List.mem_cons_of_mem _ (List.mem_append_left _ (List.mem_append_right _ h))
  subst hsz
  have hD := hD0.self (sz := s.heap.size)
  generalize hAe : va_A ((wWX1 cB cI cZ a0 I0 M0) ++ (wWX9 cB cI cZ a1 I1 M1)) s.heap.size = A at hD hZ ⊢
  have hA : ∀ q : Nat, s.heap.size ≤ q → A q := fun q h => by rw [← hAe]; exact Or.inr h
  have hS : va_S A s.heap s.heap [] := va_S.rf
  have hl := lv_entry ([.ref (a0 0), .ref (a1 0)]) (n := 3) (Nat.le_of_ble_eq_true rfl)
  rw [lg_entry_eq]
  generalize (lg_sl ([.ref (a0 0), .ref (a1 0)]) ++ List.replicate (3 - (lg_sl ([.ref (a0 0), .ref (a1 0)])).length) Slot.unset).toArray = ls at hl ⊢
  have hl : lv_has ls 3 [(0, .ref (a0 0)), (1, .ref (a1 0))] := hl
  unfold fX1_readEntries at hf
  obtain ⟨H, hHe⟩ : ∃ H : Heap, H = s.heap := ⟨_, rfl⟩
  obtain ⟨locs, hle⟩ : ∃ locs : List Loc, locs = [] := ⟨_, rfl⟩
  refine wb_start (H := H) (locs := locs) hHe hle ?_
  rw [← hHe] at hP
  have hS : va_S A s.heap H locs := by rw [hHe, hle]; exact va_S.rf
  refine lv_aload_n hx hb dX1_readEntries_0 rfl (lv_at hl 0 rfl) ?_
  refine va_get (D := D) (ci := 1) (v := .ref (a0 2)) (C := RX1) (T := TX1) (N := 2) hx hb hts hinX1 hown hK hP 0 rfl rfl 1 (by decide) (hts (.fieldLink RX1 15 "WheelBook$Books" "draft" "[I") (List.mem_of_getElem? (i := 1) rfl)) (fun _ h9 => h9) rfl dX1_readEntries_1 ?_
  refine lv_iconst (v := (-1 : Int32)) hx hb dX1_readEntries_4 (by decide) ?_
  obtain ⟨r1, hr1, hf⟩ := wb_b hf
  have hPc := hP.sub (ws' := ([((a0 2), .inl (cI, 22, .inl (M0 1)))] : va_W)) [2] rfl
  have hDc := hD.sub (ws' := ([((a0 2), .inl (cI, 22, .inl (M0 1)))] : va_W)) [2] (by decide) rfl
  have hFc := va_free (wc := ([((a0 2), .inl (cI, 22, .inl (M0 1)))] : va_W)) hD hS hA [2] rfl
  refine va_callv (va_runS (As := [.ref (a0 2), .int (-1 : Int32)]) (rest := []) ⟨hx, hb, hml, hown, hts⟩ (cn_J7_fill_53178 l D cB cI cZ N (a0 2) 22 (M0 1) (-1 : Int32) H.size r1 hr1) (va_cwS 2 hts gX1_readEntries_J7_fill_53178 rfl rfl rfl csJ7_fill_53178 ⟨Nat.le_of_ble_eq_true rfl, Nat.le_of_ble_eq_true rfl⟩) (wb_preDS hPc hK hDc) rfl rfl hl.1 rfl (lv_room (Nat.le_of_ble_eq_true rfl)) dX1_readEntries_5 ⟨Nat.le_of_ble_eq_true rfl, Nat.le_of_ble_eq_true rfl⟩) hS (fun q _ h => hFc q h) hFc (fun u t H locs ht hvm hw hB hz1 hk1 hS => ?_)
  obtain ⟨hP, hD⟩ := wb_join (wc := ([((a0 2), .inl (cI, 22, .inl (M0 1)))] : va_W)) (w1 := ([((a0 2), .inl (cI, 22, .inl r1))] : va_W)) (wf := ((wWX1 cB cI cZ a0 I0 (wb_mm M0 1 r1)) ++ (wWX9 cB cI cZ a1 I1 M1))) hP hD [2] [0, 1, 3, 4] [0, 1, 4, 2, 3] rfl rfl (by decide) (by decide) (by decide) rfl hk1 hFc ht hB
  obtain ⟨M0_2, eM0_2, hf⟩ := wb_v hf
  rw [← eM0_2] at hP hD
  refine lv_iconst (v := (0 : Int32)) hx hb dX1_readEntries_8 (by decide) ?_
  refine lv_istore_n (lv' := [(2, .int (0 : Int32)), (0, .ref (a0 0)), (1, .ref (a1 0))]) hx hb dX1_readEntries_9 rfl hl (by decide) rfl (fun ls hl => ?_)
  have L10 : ∀ (fu10 : Nat) (I0_l10 : Nat → Int32) (M0_l10 : Nat → Nat → Int32) (I1_l10 : Nat → Int32) (M1_l10 : Nat → Nat → Int32) (y10_2 : Int32) (H : Heap) (locs : List Loc), va_P D vwCl ((wWX1 cB cI cZ a0 I0_l10 M0_l10) ++ (wWX9 cB cI cZ a1 I1_l10 M1_l10)) H → va_D A ((wWX1 cB cI cZ a0 I0_l10 M0_l10) ++ (wWX9 cB cI cZ a1 I1_l10 M1_l10)) → va_S A s.heap H locs → ∀ (ls : Array Slot), lv_has ls 3 [(0, .ref (a0 0)), (1, .ref (a1 0)), (2, .int y10_2)] → fX1_readEntries_L10 N fu10 I0_l10 M0_l10 I1_l10 M1_l10 y10_2 = some R → W p l e (headSpec wsX1_readEntries { frames := 7, cells := 0, slots := 0, locals := 187 }).room s m [.ref (a0 0), .ref (a1 0)].toArray below meth c H locs 0 0 (MQ below (va_Qi (fun r (_ : Unit) => r = R.1) (fun _ t => wb_post D [(cB, .byte), (cI, .int), (cZ, .boolean)] A ((wWX1 cB cI cZ a0 R.2.1 R.2.2.1) ++ (wWX9 cB cI cZ a1 R.2.2.2.1 R.2.2.2.2)) t) A) [.ref (a0 0), .ref (a1 0)].toArray s 0 0 A) (F0 m 10 ls []) := by
    intro fu10
    induction fu10 with
    | zero =>
      intro I0_l10 M0_l10 I1_l10 M1_l10 y10_2 H locs hP hD hS ls hl hf
      exact absurd hf (by rw [fX1_readEntries_L10.eq_1]; exact fun h => nomatch h)
    | succ fu10 ih10 =>
      intro I0_l10 M0_l10 I1_l10 M1_l10 y10_2 H locs hP hD hS ls hl hf
      rw [fX1_readEntries_L10.eq_2] at hf
      refine lv_iload_n hx hb dX1_readEntries_10 rfl (lv_at hl 2 rfl) ?_
      refine lv_sipush (v := (600 : Int32)) hx hb dX1_readEntries_11 (by decide) ?_
      refine lv_icmp_ge (tgt := 40) hx hb dX1_readEntries_14 (by decide) (fun hc => ?_) (fun hc => ?_)
      · replace hf := wb_t hc hf
        refine lv_iconst (v := (1 : Int32)) hx hb dX1_readEntries_40 (by decide) ?_
        exact W.zret (v := (1 : Int32)) hx hb hr (by decide) (fun t ht hW => by rw [← Option.some.inj hf]; exact ⟨⟨(1 : Int32), (), rfl, rfl, by rw [ht]; exact hP, va_K.moved hW.alike hK, hD⟩, hS.F ht⟩) hS.2.2 dX1_readEntries_41
      · replace hf := wb_f hc hf
        refine lv_aload_n hx hb dX1_readEntries_17 rfl (lv_at hl 1 rfl) ?_
        obtain ⟨r3, hr3, hf⟩ := wb_b hf
        refine vp_callSi (W.runV (As := []) (rest := []) ⟨hx, hb, hml, hown, hts⟩ (cn_X9_isAtEnd l D cB cI cZ N a1 I1_l10 M1_l10 r3 hr3) (cwV 0 hts gX1_readEntries_X9_isAtEnd rfl rfl rfl cdX9_isAtEnd ⟨Nat.le_of_ble_eq_true rfl, Nat.le_of_ble_eq_true rfl⟩) (wb_preV (hP.sub (ws' := (wWX9 cB cI cZ a1 I1_l10 M1_l10)) [3, 4] rfl) hK (va_recv hK hP (ci := 9) (q0 := 3) rfl rfl)) rfl rfl hl.1 rfl (lv_room (Nat.le_of_ble_eq_true rfl)) dX1_readEntries_18 ⟨Nat.le_of_ble_eq_true rfl, Nat.le_of_ble_eq_true rfl⟩) (fun r9 e9 => ?_)
        rw [e9]
        refine lv_if_ne (tgt := 40) hx hb dX1_readEntries_21 (by decide) (fun hc => ?_) (fun hc => ?_)
        · replace hf := wb_f hc hf
          refine lv_iconst (v := (1 : Int32)) hx hb dX1_readEntries_40 (by decide) ?_
          exact W.zret (v := (1 : Int32)) hx hb hr (by decide) (fun t ht hW => by rw [← Option.some.inj hf]; exact ⟨⟨(1 : Int32), (), rfl, rfl, by rw [ht]; exact hP, va_K.moved hW.alike hK, hD⟩, hS.F ht⟩) hS.2.2 dX1_readEntries_41
        · replace hf := wb_t hc hf
          refine lv_aload_n hx hb dX1_readEntries_24 rfl (lv_at hl 0 rfl) ?_
          refine lv_aload_n hx hb dX1_readEntries_25 rfl (lv_at hl 1 rfl) ?_
          obtain ⟨r4, hr4, hf⟩ := wb_b hf
          have hPc := hP.sub (ws' := ((wWX1 cB cI cZ a0 I0_l10 M0_l10) ++ (wWX9 cB cI cZ a1 I1_l10 M1_l10))) [0, 1, 2, 3, 4] rfl
          have hDc := hD.sub (ws' := ((wWX1 cB cI cZ a0 I0_l10 M0_l10) ++ (wWX9 cB cI cZ a1 I1_l10 M1_l10))) [0, 1, 2, 3, 4] (by decide) rfl
          have hFc := va_free (wc := ((wWX1 cB cI cZ a0 I0_l10 M0_l10) ++ (wWX9 cB cI cZ a1 I1_l10 M1_l10))) hD hS hA [0, 1, 2, 3, 4] rfl
          refine va_calli (va_runV (As := [.ref (a1 0)]) (rest := []) ⟨hx, hb, hml, hown, hts⟩ (cn_X1_readEntry l D cB cI cZ N aK aV a0 I0_l10 M0_l10 a1 I1_l10 M1_l10 H.size r4 hr4) (cwV 1 hts gX1_readEntries_X1_readEntry rfl rfl rfl cdX1_readEntry ⟨Nat.le_of_ble_eq_true rfl, Nat.le_of_ble_eq_true rfl⟩) (wb_preDEV hPc hK hDc (va_recv hK hP (ci := 1) (q0 := 0) rfl rfl) hZ hS hFc) rfl rfl hl.1 rfl (lv_room (Nat.le_of_ble_eq_true rfl)) dX1_readEntries_26 ⟨Nat.le_of_ble_eq_true rfl, Nat.le_of_ble_eq_true rfl⟩) hS (fun q _ h => hFc q h) hFc (fun r9 u t H locs ht hvm hw hB hz1 hk1 hS => ?_)
          obtain ⟨hP, hD⟩ := wb_join (wc := ((wWX1 cB cI cZ a0 I0_l10 M0_l10) ++ (wWX9 cB cI cZ a1 I1_l10 M1_l10))) (w1 := ((wWX1 cB cI cZ a0 r4.2.1 r4.2.2.1) ++ (wWX9 cB cI cZ a1 r4.2.2.2.1 r4.2.2.2.2))) (wf := ((wWX1 cB cI cZ a0 r4.2.1 r4.2.2.1) ++ (wWX9 cB cI cZ a1 r4.2.2.2.1 r4.2.2.2.2))) hP hD [0, 1, 2, 3, 4] [] [0, 1, 2, 3, 4] rfl rfl (by decide) (by decide) (by decide) rfl hk1 hFc ht hB
          rw [hw]
          refine lv_if_ne (tgt := 34) hx hb dX1_readEntries_29 (by decide) (fun hc => ?_) (fun hc => ?_)
          · replace hf := wb_f hc hf
            obtain ⟨v5, ev5, hf⟩ := wb_v hf
            refine lv_iinc (v := v5) (lv' := [(2, .int v5), (0, .ref (a0 0)), (1, .ref (a1 0))]) hx hb dX1_readEntries_34 hl (k := 2) rfl (by rw [ev5]; rfl) (by decide) rfl (fun ls hl => ?_)
            refine lv_goto (tgt := 10) hx hb dX1_readEntries_37 (by decide) ?_
            exact ih10 r4.2.1 r4.2.2.1 r4.2.2.2.1 r4.2.2.2.2 v5 H locs hP hD hS ls (lv_sub hl [1, 2, 0] rfl) hf
          · replace hf := wb_t hc hf
            refine lv_iconst (v := (0 : Int32)) hx hb dX1_readEntries_32 (by decide) ?_
            exact W.zret (v := (0 : Int32)) hx hb hr (by decide) (fun t ht hW => by rw [← Option.some.inj hf]; exact ⟨⟨(0 : Int32), (), rfl, rfl, by rw [ht]; exact hP, va_K.moved hW.alike hK, hD⟩, hS.F ht⟩) hS.2.2 dX1_readEntries_33
  exact L10 N I0 M0_2 I1 M1 (0 : Int32) H locs hP hD hS ls (lv_sub hl [1, 2, 0] rfl) hf
