set_option maxHeartbeats 4000000 in
set_option maxRecDepth 100000 in
theorem cn_X12_isWay (l : Launch) (D : va_G) (cB cI cZ : ClassId) (N : Nat) (a0 : Nat → Nat) (I0 : Nat → Int32) (L0 : Int64) (M0 : Nat → Nat → Int32) (x1 : Int32) (x2 : Int32) (sz : Nat) (R : Int32 × (Nat → Int32) × Int64 × (Nat → Nat → Int32)) (hf : fX12_isWay N I0 L0 M0 x1 x2 = some R) : Met l yX12_isWay wsX12_isWay ({ frames := 1, cells := 0, slots := 0, locals := 22 }) (va_Pc [.ref (a0 0), .int x1, .int x2] (wb_preD D [(cB, .byte), (cI, .int), (cZ, .boolean)] (wWX12 cB cI cZ a0 I0 L0 M0) sz)) (va_Qi (fun r (_ : Unit) => r = R.1) (fun _ t => wb_post D [(cB, .byte), (cI, .int), (cZ, .boolean)] (va_A (wWX12 cB cI cZ a0 I0 L0 M0) sz) (wWX12 cB cI cZ a0 R.2.1 R.2.2.1 R.2.2.2) t) (va_A (wWX12 cB cI cZ a0 I0 L0 M0) sz)) 0 0 (va_A (wWX12 cB cI cZ a0 I0 L0 M0) sz) := by
  refine Met.ofW (cc := cX12_isWay) (maxL := 3) (ret := (some .boolean)) pn_X12 rfl ?_
  intro p e s m args below meth c s₁ B hml hv
  obtain ⟨rfl, hsz, hP, hK, hD0⟩ := hv
  have hx := B.exec
  have hb := B.bytes
  have hr := B.returns
  have hts := atoms_spec (ws := wsX12_isWay) B.pre
  have hown : s.vm.findClass RX12 = some m.cls := (findClass_of_methodNamed B.named :)
  have hlocks := B.notSynchronized
  have hinX12 : ∀ w ∈ u_ws RX12 TX12 58, w ∈ wsX12_isWay := fun w h => List.mem_cons_of_mem _ (List.mem_append_right _ h)
  subst hsz
  have hD := hD0.self (sz := s.heap.size)
  generalize hAe : va_A (wWX12 cB cI cZ a0 I0 L0 M0) s.heap.size = A at hD ⊢
  have hA : ∀ q : Nat, s.heap.size ≤ q → A q := fun q h => by rw [← hAe]; exact Or.inr h
  have hS : va_S A s.heap s.heap [] := va_S.rf
  have hl := lv_entry ([.ref (a0 0), .int x1, .int x2]) (n := 3) (Nat.le_of_ble_eq_true rfl)
  rw [lg_entry_eq]
  generalize (lg_sl ([.ref (a0 0), .int x1, .int x2]) ++ List.replicate (3 - (lg_sl ([.ref (a0 0), .int x1, .int x2])).length) Slot.unset).toArray = ls at hl ⊢
  have hl : lv_has ls 3 [(0, .ref (a0 0)), (1, .int x1), (2, .int x2)] := hl
  unfold fX12_isWay at hf
  obtain ⟨H, hHe⟩ : ∃ H : Heap, H = s.heap := ⟨_, rfl⟩
  obtain ⟨locs, hle⟩ : ∃ locs : List Loc, locs = [] := ⟨_, rfl⟩
  refine wb_start (H := H) (locs := locs) hHe hle ?_
  rw [← hHe] at hP
  have hS : va_S A s.heap H locs := by rw [hHe, hle]; exact va_S.rf
  refine lv_aload_n hx hb dX12_isWay_0 rfl (lv_at hl 0 rfl) ?_
  refine lv_iload_n hx hb dX12_isWay_1 rfl (lv_at hl 1 rfl) ?_
  refine lv_iconst (v := (0 : Int32)) hx hb dX12_isWay_2 (by decide) ?_
  refine lv_iconst (v := (2 : Int32)) hx hb dX12_isWay_3 (by decide) ?_
  obtain ⟨r1, hr1, hf⟩ := wb_b hf
  refine vp_callSi (W.runS (As := [.int x1, .int (0 : Int32), .int (2 : Int32)]) (rest := [.ref (a0 0)]) ⟨hx, hb, hml, hown, hts⟩ (cn_X12_within l D cB cI cZ N x1 (0 : Int32) (2 : Int32) r1 hr1) (va_cwS 3 hts gX12_isWay_X12_within rfl rfl rfl csX12_within ⟨Nat.le_of_ble_eq_true rfl, Nat.le_of_ble_eq_true rfl⟩) (wb_preS (hP.sub (ws' := ([] : va_W)) [] rfl) hK) rfl rfl hl.1 rfl (lv_room (Nat.le_of_ble_eq_true rfl)) dX12_isWay_4 ⟨Nat.le_of_ble_eq_true rfl, Nat.le_of_ble_eq_true rfl⟩) (fun r9 e9 => ?_)
  rw [e9]
  refine lv_if_eq (tgt := 31) hx hb dX12_isWay_7 (by decide) (fun hc => ?_) (fun hc => ?_)
  · replace hf := wb_t hc hf
    refine lv_iconst (v := (0 : Int32)) hx hb dX12_isWay_31 (by decide) ?_
    refine lv_iconst (v := (1 : Int32)) hx hb dX12_isWay_32 (by decide) ?_
    obtain ⟨r2, hr2, hf⟩ := wb_b hf
    have hPc := hP
    have hDc := hD
    have hFc := wj_F hDc hS hA
    refine va_calli (va_runV (As := [.int (0 : Int32), .int (1 : Int32)]) (rest := []) ⟨hx, hb, hml, hown, hts⟩ (cn_X12_right l D cB cI cZ N a0 I0 L0 M0 (0 : Int32) (1 : Int32) H.size r2 hr2) (cwV 2 hts gX12_isWay_X12_right rfl rfl rfl cdX12_right ⟨Nat.le_of_ble_eq_true rfl, Nat.le_of_ble_eq_true rfl⟩) (wb_preDV hPc hK hDc (wr_12 hK hP (q0 := 0) rfl)) rfl rfl hl.1 rfl (lv_room (Nat.le_of_ble_eq_true rfl)) dX12_isWay_33 ⟨Nat.le_of_ble_eq_true rfl, Nat.le_of_ble_eq_true rfl⟩) hS (fun q _ h => hFc q h) hFc (fun r9 u t H locs ht hvm hw hB hz1 hk1 hS => ?_)
    obtain ⟨hP, hD⟩ := wj_0 hFc ht hB
    rw [hw]
    obtain ⟨hz, hf⟩ := wb_y hf
    exact W.zret (v := r2.1) hx hb hr (congrArg Value.int hz) (fun t ht hW => by rw [← Option.some.inj hf]; exact ⟨⟨r2.1, (), rfl, rfl, by rw [ht]; exact hP, va_K.moved hW.alike hK, hD⟩, hS.F ht⟩) hS.2.2 dX12_isWay_36
  · replace hf := wb_f hc hf
    refine lv_iload_n hx hb dX12_isWay_10 rfl (lv_at hl 1 rfl) ?_
    refine lv_iconst (v := (2 : Int32)) hx hb dX12_isWay_11 (by decide) ?_
    refine lv_icmp_lt (tgt := 27) hx hb dX12_isWay_12 (by decide) (fun hc => ?_) (fun hc => ?_)
    · replace hf := wb_t hc hf
      refine lv_iconst (v := (1 : Int32)) hx hb dX12_isWay_27 (by decide) ?_
      refine lv_goto (tgt := 32) hx hb dX12_isWay_28 (by decide) ?_
      refine lv_iconst (v := (1 : Int32)) hx hb dX12_isWay_32 (by decide) ?_
      obtain ⟨r3, hr3, hf⟩ := wb_b hf
      have hPc := hP
      have hDc := hD
      have hFc := wj_F hDc hS hA
      refine va_calli (va_runV (As := [.int (1 : Int32), .int (1 : Int32)]) (rest := []) ⟨hx, hb, hml, hown, hts⟩ (cn_X12_right l D cB cI cZ N a0 I0 L0 M0 (1 : Int32) (1 : Int32) H.size r3 hr3) (cwV 2 hts gX12_isWay_X12_right rfl rfl rfl cdX12_right ⟨Nat.le_of_ble_eq_true rfl, Nat.le_of_ble_eq_true rfl⟩) (wb_preDV hPc hK hDc (wr_12 hK hP (q0 := 0) rfl)) rfl rfl hl.1 rfl (lv_room (Nat.le_of_ble_eq_true rfl)) dX12_isWay_33 ⟨Nat.le_of_ble_eq_true rfl, Nat.le_of_ble_eq_true rfl⟩) hS (fun q _ h => hFc q h) hFc (fun r9 u t H locs ht hvm hw hB hz1 hk1 hS => ?_)
      obtain ⟨hP, hD⟩ := wj_0 hFc ht hB
      rw [hw]
      obtain ⟨hz, hf⟩ := wb_y hf
      exact W.zret (v := r3.1) hx hb hr (congrArg Value.int hz) (fun t ht hW => by rw [← Option.some.inj hf]; exact ⟨⟨r3.1, (), rfl, rfl, by rw [ht]; exact hP, va_K.moved hW.alike hK, hD⟩, hS.F ht⟩) hS.2.2 dX12_isWay_36
    · replace hf := wb_f hc hf
      refine lv_iload_n hx hb dX12_isWay_15 rfl (lv_at hl 2 rfl) ?_
      refine lv_if_lt (tgt := 31) hx hb dX12_isWay_16 (by decide) (fun hc => ?_) (fun hc => ?_)
      · replace hf := wb_t hc hf
        refine lv_iconst (v := (0 : Int32)) hx hb dX12_isWay_31 (by decide) ?_
        refine lv_iconst (v := (1 : Int32)) hx hb dX12_isWay_32 (by decide) ?_
        obtain ⟨r4, hr4, hf⟩ := wb_b hf
        have hPc := hP
        have hDc := hD
        have hFc := wj_F hDc hS hA
        refine va_calli (va_runV (As := [.int (0 : Int32), .int (1 : Int32)]) (rest := []) ⟨hx, hb, hml, hown, hts⟩ (cn_X12_right l D cB cI cZ N a0 I0 L0 M0 (0 : Int32) (1 : Int32) H.size r4 hr4) (cwV 2 hts gX12_isWay_X12_right rfl rfl rfl cdX12_right ⟨Nat.le_of_ble_eq_true rfl, Nat.le_of_ble_eq_true rfl⟩) (wb_preDV hPc hK hDc (wr_12 hK hP (q0 := 0) rfl)) rfl rfl hl.1 rfl (lv_room (Nat.le_of_ble_eq_true rfl)) dX12_isWay_33 ⟨Nat.le_of_ble_eq_true rfl, Nat.le_of_ble_eq_true rfl⟩) hS (fun q _ h => hFc q h) hFc (fun r9 u t H locs ht hvm hw hB hz1 hk1 hS => ?_)
        obtain ⟨hP, hD⟩ := wj_0 hFc ht hB
        rw [hw]
        obtain ⟨hz, hf⟩ := wb_y hf
        exact W.zret (v := r4.1) hx hb hr (congrArg Value.int hz) (fun t ht hW => by rw [← Option.some.inj hf]; exact ⟨⟨r4.1, (), rfl, rfl, by rw [ht]; exact hP, va_K.moved hW.alike hK, hD⟩, hS.F ht⟩) hS.2.2 dX12_isWay_36
      · replace hf := wb_f hc hf
        refine lv_iload_n hx hb dX12_isWay_19 rfl (lv_at hl 2 rfl) ?_
        refine lv_aload_n hx hb dX12_isWay_20 rfl (lv_at hl 0 rfl) ?_
        refine va_get (D := D) (ci := 12) (v := .int (I0 1)) (C := RX12) (T := TX12) (N := 58) hx hb hts hinX12 hown hK hP 0 rfl rfl 5 (by decide) (hts (.fieldLink RX12 228 "WheelBookModel" "climates" "I") (List.mem_of_getElem? (i := 1) rfl)) (fun _ h9 => h9) rfl dX12_isWay_21 ?_
        refine lv_icmp_ge (tgt := 31) hx hb dX12_isWay_24 (by decide) (fun hc => ?_) (fun hc => ?_)
        · replace hf := wb_t hc hf
          refine lv_iconst (v := (0 : Int32)) hx hb dX12_isWay_31 (by decide) ?_
          refine lv_iconst (v := (1 : Int32)) hx hb dX12_isWay_32 (by decide) ?_
          obtain ⟨r5, hr5, hf⟩ := wb_b hf
          have hPc := hP
          have hDc := hD
          have hFc := wj_F hDc hS hA
          refine va_calli (va_runV (As := [.int (0 : Int32), .int (1 : Int32)]) (rest := []) ⟨hx, hb, hml, hown, hts⟩ (cn_X12_right l D cB cI cZ N a0 I0 L0 M0 (0 : Int32) (1 : Int32) H.size r5 hr5) (cwV 2 hts gX12_isWay_X12_right rfl rfl rfl cdX12_right ⟨Nat.le_of_ble_eq_true rfl, Nat.le_of_ble_eq_true rfl⟩) (wb_preDV hPc hK hDc (wr_12 hK hP (q0 := 0) rfl)) rfl rfl hl.1 rfl (lv_room (Nat.le_of_ble_eq_true rfl)) dX12_isWay_33 ⟨Nat.le_of_ble_eq_true rfl, Nat.le_of_ble_eq_true rfl⟩) hS (fun q _ h => hFc q h) hFc (fun r9 u t H locs ht hvm hw hB hz1 hk1 hS => ?_)
          obtain ⟨hP, hD⟩ := wj_0 hFc ht hB
          rw [hw]
          obtain ⟨hz, hf⟩ := wb_y hf
          exact W.zret (v := r5.1) hx hb hr (congrArg Value.int hz) (fun t ht hW => by rw [← Option.some.inj hf]; exact ⟨⟨r5.1, (), rfl, rfl, by rw [ht]; exact hP, va_K.moved hW.alike hK, hD⟩, hS.F ht⟩) hS.2.2 dX12_isWay_36
        · replace hf := wb_f hc hf
          refine lv_iconst (v := (1 : Int32)) hx hb dX12_isWay_27 (by decide) ?_
          refine lv_goto (tgt := 32) hx hb dX12_isWay_28 (by decide) ?_
          refine lv_iconst (v := (1 : Int32)) hx hb dX12_isWay_32 (by decide) ?_
          obtain ⟨r6, hr6, hf⟩ := wb_b hf
          have hPc := hP
          have hDc := hD
          have hFc := wj_F hDc hS hA
          refine va_calli (va_runV (As := [.int (1 : Int32), .int (1 : Int32)]) (rest := []) ⟨hx, hb, hml, hown, hts⟩ (cn_X12_right l D cB cI cZ N a0 I0 L0 M0 (1 : Int32) (1 : Int32) H.size r6 hr6) (cwV 2 hts gX12_isWay_X12_right rfl rfl rfl cdX12_right ⟨Nat.le_of_ble_eq_true rfl, Nat.le_of_ble_eq_true rfl⟩) (wb_preDV hPc hK hDc (wr_12 hK hP (q0 := 0) rfl)) rfl rfl hl.1 rfl (lv_room (Nat.le_of_ble_eq_true rfl)) dX12_isWay_33 ⟨Nat.le_of_ble_eq_true rfl, Nat.le_of_ble_eq_true rfl⟩) hS (fun q _ h => hFc q h) hFc (fun r9 u t H locs ht hvm hw hB hz1 hk1 hS => ?_)
          obtain ⟨hP, hD⟩ := wj_0 hFc ht hB
          rw [hw]
          obtain ⟨hz, hf⟩ := wb_y hf
          exact W.zret (v := r6.1) hx hb hr (congrArg Value.int hz) (fun t ht hW => by rw [← Option.some.inj hf]; exact ⟨⟨r6.1, (), rfl, rfl, by rw [ht]; exact hP, va_K.moved hW.alike hK, hD⟩, hS.F ht⟩) hS.2.2 dX12_isWay_36

set_option maxHeartbeats 4000000 in
set_option maxRecDepth 100000 in
theorem cn_X12_houseOf (l : Launch) (D : va_G) (cB cI cZ : ClassId) (N : Nat) (a0 : Nat → Nat) (I0 : Nat → Int32) (L0 : Int64) (M0 : Nat → Nat → Int32) (x1 : Int32) (x2 : Int32) (x3 : Int32) (x4 : Int32) (sz : Nat) (R : Int32 × (Nat → Int32) × Int64 × (Nat → Nat → Int32)) (hf : fX12_houseOf N I0 L0 M0 x1 x2 x3 x4 = some R) : Met l yX12_houseOf wsX12_houseOf ({ frames := 3, cells := 0, slots := 0, locals := 75 }) (va_Pc [.ref (a0 0), .int x1, .int x2, .int x3, .int x4] (wb_preD D [(cB, .byte), (cI, .int), (cZ, .boolean)] (wWX12 cB cI cZ a0 I0 L0 M0) sz)) (va_Qi (fun r (_ : Unit) => r = R.1) (fun _ t => wb_post D [(cB, .byte), (cI, .int), (cZ, .boolean)] (va_A (wWX12 cB cI cZ a0 I0 L0 M0) sz) (wWX12 cB cI cZ a0 R.2.1 R.2.2.1 R.2.2.2) t) (va_A (wWX12 cB cI cZ a0 I0 L0 M0) sz)) 0 0 (va_A (wWX12 cB cI cZ a0 I0 L0 M0) sz) := by
  refine Met.ofW (cc := cX12_houseOf) (maxL := 5) (ret := (some .int)) pn_X12 rfl ?_
  intro p e s m args below meth c s₁ B hml hv
  obtain ⟨rfl, hsz, hP, hK, hD0⟩ := hv
  have hx := B.exec
  have hb := B.bytes
  have hr := B.returns
  have hts := atoms_spec (ws := wsX12_houseOf) B.pre
  have hown : s.vm.findClass RX12 = some m.cls := (findClass_of_methodNamed B.named :)
  have hlocks := B.notSynchronized
  have hinX12 : ∀ w ∈ u_ws RX12 TX12 58, w ∈ wsX12_houseOf := fun w h => List.mem_cons_of_mem _ (List.mem_append_right _ h)
  subst hsz
  have hD := hD0.self (sz := s.heap.size)
  generalize hAe : va_A (wWX12 cB cI cZ a0 I0 L0 M0) s.heap.size = A at hD ⊢
  have hA : ∀ q : Nat, s.heap.size ≤ q → A q := fun q h => by rw [← hAe]; exact Or.inr h
  have hS : va_S A s.heap s.heap [] := va_S.rf
  have hl := lv_entry ([.ref (a0 0), .int x1, .int x2, .int x3, .int x4]) (n := 5) (Nat.le_of_ble_eq_true rfl)
  rw [lg_entry_eq]
  generalize (lg_sl ([.ref (a0 0), .int x1, .int x2, .int x3, .int x4]) ++ List.replicate (5 - (lg_sl ([.ref (a0 0), .int x1, .int x2, .int x3, .int x4])).length) Slot.unset).toArray = ls at hl ⊢
  have hl : lv_has ls 5 [(0, .ref (a0 0)), (1, .int x1), (2, .int x2), (3, .int x3), (4, .int x4)] := hl
  unfold fX12_houseOf at hf
  obtain ⟨H, hHe⟩ : ∃ H : Heap, H = s.heap := ⟨_, rfl⟩
  obtain ⟨locs, hle⟩ : ∃ locs : List Loc, locs = [] := ⟨_, rfl⟩
  refine wb_start (H := H) (locs := locs) hHe hle ?_
  rw [← hHe] at hP
  have hS : va_S A s.heap H locs := by rw [hHe, hle]; exact va_S.rf
  have J33 : ∀ (I0_j33 : Nat → Int32) (L0_j33 : Int64) (M0_j33 : Nat → Nat → Int32) (z33_0 : Int32) (H : Heap) (locs : List Loc), va_P D vwCl (wWX12 cB cI cZ a0 I0_j33 L0_j33 M0_j33) H → va_D A (wWX12 cB cI cZ a0 I0_j33 L0_j33 M0_j33) → va_S A s.heap H locs → ∀ (ls : Array Slot), lv_has ls 5 [(0, .ref (a0 0)), (1, .int x1), (2, .int x2), (3, .int x3), (4, .int x4)] → fX12_houseOf_J33 N x1 x2 x3 x4 I0_j33 L0_j33 M0_j33 z33_0 = some R → W p l e (headSpec wsX12_houseOf { frames := 3, cells := 0, slots := 0, locals := 75 }).room s m [.ref (a0 0), .int x1, .int x2, .int x3, .int x4].toArray below meth c H locs 0 0 (MQ below (va_Qi (fun r (_ : Unit) => r = R.1) (fun _ t => wb_post D [(cB, .byte), (cI, .int), (cZ, .boolean)] A (wWX12 cB cI cZ a0 R.2.1 R.2.2.1 R.2.2.2) t) A) [.ref (a0 0), .int x1, .int x2, .int x3, .int x4].toArray s 0 0 A) (F0 m 33 ls [.int z33_0, .ref (a0 0)]) := by
    intro I0_j33 L0_j33 M0_j33 z33_0 H locs hP hD hS ls hl hf
    unfold fX12_houseOf_J33 at hf
    refine lv_iconst (v := (1 : Int32)) hx hb dX12_houseOf_33 (by decide) ?_
    obtain ⟨r1, hr1, hf⟩ := wb_b hf
    have hPc := hP
    have hDc := hD
    have hFc := wj_F hDc hS hA
    refine va_calli (va_runV (As := [.int z33_0, .int (1 : Int32)]) (rest := []) ⟨hx, hb, hml, hown, hts⟩ (cn_X12_right l D cB cI cZ N a0 I0_j33 L0_j33 M0_j33 z33_0 (1 : Int32) H.size r1 hr1) (cwV 2 hts gX12_houseOf_X12_right rfl rfl rfl cdX12_right ⟨Nat.le_of_ble_eq_true rfl, Nat.le_of_ble_eq_true rfl⟩) (wb_preDV hPc hK hDc (wr_12 hK hP (q0 := 0) rfl)) rfl rfl hl.1 rfl (lv_room (Nat.le_of_ble_eq_true rfl)) dX12_houseOf_34 ⟨Nat.le_of_ble_eq_true rfl, Nat.le_of_ble_eq_true rfl⟩) hS (fun q _ h => hFc q h) hFc (fun r9 u t H locs ht hvm hw hB hz1 hk1 hS => ?_)
    obtain ⟨hP, hD⟩ := wj_0 hFc ht hB
    rw [hw]
    refine lv_if_eq (tgt := 49) hx hb dX12_houseOf_37 (by decide) (fun hc => ?_) (fun hc => ?_)
    · replace hf := wb_t hc hf
      refine lv_iconst (v := (0 : Int32)) hx hb dX12_houseOf_49 (by decide) ?_
      exact W.iret (v := (0 : Int32)) hx hb hr (fun t ht hW => by rw [← Option.some.inj hf]; exact ⟨⟨(0 : Int32), (), rfl, rfl, by rw [ht]; exact hP, va_K.moved hW.alike hK, hD⟩, hS.F ht⟩) hS.2.2 dX12_houseOf_50
    · replace hf := wb_f hc hf
      refine lv_aload_n hx hb dX12_houseOf_40 rfl (lv_at hl 0 rfl) ?_
      refine lv_iload_n hx hb dX12_houseOf_41 rfl (lv_at hl 2 rfl) ?_
      refine lv_iload_n hx hb dX12_houseOf_42 rfl (lv_at hl 3 rfl) ?_
      obtain ⟨r2, hr2, hf⟩ := wb_b hf
      have hPc := hP
      have hDc := hD
      have hFc := wj_F hDc hS hA
      refine va_calli (va_runV (As := [.int x2, .int x3]) (rest := []) ⟨hx, hb, hml, hown, hts⟩ (cn_X12_isWay l D cB cI cZ N a0 r1.2.1 r1.2.2.1 r1.2.2.2 x2 x3 H.size r2 hr2) (cwV 2 hts gX12_houseOf_X12_isWay rfl rfl rfl cdX12_isWay ⟨Nat.le_of_ble_eq_true rfl, Nat.le_of_ble_eq_true rfl⟩) (wb_preDV hPc hK hDc (wr_12 hK hP (q0 := 0) rfl)) rfl rfl hl.1 rfl (lv_room (Nat.le_of_ble_eq_true rfl)) dX12_houseOf_43 ⟨Nat.le_of_ble_eq_true rfl, Nat.le_of_ble_eq_true rfl⟩) hS (fun q _ h => hFc q h) hFc (fun r9 u t H locs ht hvm hw hB hz1 hk1 hS => ?_)
      obtain ⟨hP, hD⟩ := wj_0 hFc ht hB
      rw [hw]
      refine lv_if_ne (tgt := 51) hx hb dX12_houseOf_46 (by decide) (fun hc => ?_) (fun hc => ?_)
      · replace hf := wb_f hc hf
        refine lv_aload_n hx hb dX12_houseOf_51 rfl (lv_at hl 0 rfl) ?_
        refine lv_iload_n hx hb dX12_houseOf_52 rfl (lv_at hl 1 rfl) ?_
        refine lv_iload_n hx hb dX12_houseOf_53 rfl (lv_at hl 2 rfl) ?_
        refine lv_iload_n hx hb dX12_houseOf_54 rfl (lv_at hl 3 rfl) ?_
        refine lv_iload hx hb dX12_houseOf_55 (lv_at hl 4 rfl) ?_
        obtain ⟨r3, hr3, hf⟩ := wb_b hf
        refine vp_callSi (W.runV (As := [.int x1, .int x2, .int x3, .int x4]) (rest := []) ⟨hx, hb, hml, hown, hts⟩ (cn_X12_houseAt l D cB cI cZ N a0 r2.2.1 r2.2.2.1 r2.2.2.2 x1 x2 x3 x4 r3 hr3) (cwV 4 hts gX12_houseOf_X12_houseAt rfl rfl rfl cdX12_houseAt ⟨Nat.le_of_ble_eq_true rfl, Nat.le_of_ble_eq_true rfl⟩) (wb_preV hP hK (wr_12 hK hP (q0 := 0) rfl)) rfl rfl hl.1 rfl (lv_room (Nat.le_of_ble_eq_true rfl)) dX12_houseOf_57 ⟨Nat.le_of_ble_eq_true rfl, Nat.le_of_ble_eq_true rfl⟩) (fun r9 e9 => ?_)
        rw [e9]
        exact W.iret (v := r3) hx hb hr (fun t ht hW => by rw [← Option.some.inj hf]; exact ⟨⟨r3, (), rfl, rfl, by rw [ht]; exact hP, va_K.moved hW.alike hK, hD⟩, hS.F ht⟩) hS.2.2 dX12_houseOf_60
      · replace hf := wb_t hc hf
        refine lv_iconst (v := (0 : Int32)) hx hb dX12_houseOf_49 (by decide) ?_
        exact W.iret (v := (0 : Int32)) hx hb hr (fun t ht hW => by rw [← Option.some.inj hf]; exact ⟨⟨(0 : Int32), (), rfl, rfl, by rw [ht]; exact hP, va_K.moved hW.alike hK, hD⟩, hS.F ht⟩) hS.2.2 dX12_houseOf_50
  have J32 : ∀ (I0_j32 : Nat → Int32) (L0_j32 : Int64) (M0_j32 : Nat → Nat → Int32) (H : Heap) (locs : List Loc), va_P D vwCl (wWX12 cB cI cZ a0 I0_j32 L0_j32 M0_j32) H → va_D A (wWX12 cB cI cZ a0 I0_j32 L0_j32 M0_j32) → va_S A s.heap H locs → ∀ (ls : Array Slot), lv_has ls 5 [(0, .ref (a0 0)), (1, .int x1), (2, .int x2), (3, .int x3), (4, .int x4)] → fX12_houseOf_J32 N x1 x2 x3 x4 I0_j32 L0_j32 M0_j32 = some R → W p l e (headSpec wsX12_houseOf { frames := 3, cells := 0, slots := 0, locals := 75 }).room s m [.ref (a0 0), .int x1, .int x2, .int x3, .int x4].toArray below meth c H locs 0 0 (MQ below (va_Qi (fun r (_ : Unit) => r = R.1) (fun _ t => wb_post D [(cB, .byte), (cI, .int), (cZ, .boolean)] A (wWX12 cB cI cZ a0 R.2.1 R.2.2.1 R.2.2.2) t) A) [.ref (a0 0), .int x1, .int x2, .int x3, .int x4].toArray s 0 0 A) (F0 m 32 ls [.ref (a0 0)]) := by
    intro I0_j32 L0_j32 M0_j32 H locs hP hD hS ls hl hf
    unfold fX12_houseOf_J32 at hf
    refine lv_iconst (v := (0 : Int32)) hx hb dX12_houseOf_32 (by decide) ?_
    exact J33 I0_j32 L0_j32 M0_j32 (0 : Int32) H locs hP hD hS ls (lv_sub hl [0, 1, 2, 3, 4] rfl) hf
  refine lv_aload_n hx hb dX12_houseOf_0 rfl (lv_at hl 0 rfl) ?_
  refine lv_iconst (v := (0 : Int32)) hx hb dX12_houseOf_1 (by decide) ?_
  refine va_put (D := D) (ci := 12) (v := .int (0 : Int32)) (ty := .int) (C := RX12) (T := TX12) (N := 58) hx hb hts hinX12 tyX12 tyX12_ok nmX12 hown hK hP hD hS 0 rfl rfl 0 (by decide) (hts (.fieldLink RX12 129 "WheelBookModel" "thrown" "I") (List.mem_of_getElem? (i := 1) rfl)) (fun _ h9 => h9) rfl (by decide +kernel) rfl rfl (Nat.le_of_ble_eq_true rfl) dX12_houseOf_2 (fun H locs hP hD hS => ?_)
  have hP : va_P D vwCl (wWX12 cB cI cZ a0 (upd I0 0 (0 : Int32)) L0 M0) H := hP
  have hD : va_D A (wWX12 cB cI cZ a0 (upd I0 0 (0 : Int32)) L0 M0) := hD
  obtain ⟨I0_4, eI0_4, hf⟩ := wb_v hf
  rw [← eI0_4] at hP hD
  refine lv_aload_n hx hb dX12_houseOf_5 rfl (lv_at hl 0 rfl) ?_
  refine lv_iload_n hx hb dX12_houseOf_6 rfl (lv_at hl 1 rfl) ?_
  refine lv_iconst (v := (0 : Int32)) hx hb dX12_houseOf_7 (by decide) ?_
  refine lv_sipush (v := (359 : Int32)) hx hb dX12_houseOf_8 (by decide) ?_
  obtain ⟨r5, hr5, hf⟩ := wb_b hf
  refine vp_callSi (W.runS (As := [.int x1, .int (0 : Int32), .int (359 : Int32)]) (rest := [.ref (a0 0)]) ⟨hx, hb, hml, hown, hts⟩ (cn_X12_within l D cB cI cZ N x1 (0 : Int32) (359 : Int32) r5 hr5) (va_cwS 3 hts gX12_houseOf_X12_within rfl rfl rfl csX12_within ⟨Nat.le_of_ble_eq_true rfl, Nat.le_of_ble_eq_true rfl⟩) (wb_preS (hP.sub (ws' := ([] : va_W)) [] rfl) hK) rfl rfl hl.1 rfl (lv_room (Nat.le_of_ble_eq_true rfl)) dX12_houseOf_11 ⟨Nat.le_of_ble_eq_true rfl, Nat.le_of_ble_eq_true rfl⟩) (fun r9 e9 => ?_)
  rw [e9]
  refine lv_if_eq (tgt := 32) hx hb dX12_houseOf_14 (by decide) (fun hc => ?_) (fun hc => ?_)
  · replace hf := wb_t hc hf
    exact J32 I0_4 L0 M0 H locs hP hD hS ls (lv_sub hl [0, 1, 2, 3, 4] rfl) hf
  · replace hf := wb_f hc hf
    refine lv_iload hx hb dX12_houseOf_17 (lv_at hl 4 rfl) ?_
    refine lv_iconst (v := (1 : Int32)) hx hb dX12_houseOf_19 (by decide) ?_
    refine lv_bipush (v := (12 : Int32)) hx hb dX12_houseOf_20 (by decide) ?_
    obtain ⟨r6, hr6, hf⟩ := wb_b hf
    refine vp_callSi (W.runS (As := [.int x4, .int (1 : Int32), .int (12 : Int32)]) (rest := [.ref (a0 0)]) ⟨hx, hb, hml, hown, hts⟩ (cn_X12_within l D cB cI cZ N x4 (1 : Int32) (12 : Int32) r6 hr6) (va_cwS 3 hts gX12_houseOf_X12_within rfl rfl rfl csX12_within ⟨Nat.le_of_ble_eq_true rfl, Nat.le_of_ble_eq_true rfl⟩) (wb_preS (hP.sub (ws' := ([] : va_W)) [] rfl) hK) rfl rfl hl.1 rfl (lv_room (Nat.le_of_ble_eq_true rfl)) dX12_houseOf_22 ⟨Nat.le_of_ble_eq_true rfl, Nat.le_of_ble_eq_true rfl⟩) (fun r9 e9 => ?_)
    rw [e9]
    refine lv_if_eq (tgt := 32) hx hb dX12_houseOf_25 (by decide) (fun hc => ?_) (fun hc => ?_)
    · replace hf := wb_t hc hf
      exact J32 I0_4 L0 M0 H locs hP hD hS ls (lv_sub hl [0, 1, 2, 3, 4] rfl) hf
    · replace hf := wb_f hc hf
      refine lv_iconst (v := (1 : Int32)) hx hb dX12_houseOf_28 (by decide) ?_
      refine lv_goto (tgt := 33) hx hb dX12_houseOf_29 (by decide) ?_
      exact J33 I0_4 L0 M0 (1 : Int32) H locs hP hD hS ls (lv_sub hl [0, 1, 2, 3, 4] rfl) hf

set_option maxHeartbeats 4000000 in
set_option maxRecDepth 100000 in
theorem cn_X12_agrees (l : Launch) (D : va_G) (cB cI cZ : ClassId) (N : Nat) (a0 : Nat → Nat) (I0 : Nat → Int32) (L0 : Int64) (M0 : Nat → Nat → Int32) (x1 : Int32) (x2 : Int32) (x3 : Int32) (R : Int32) (hf : fX12_agrees N I0 L0 M0 x1 x2 x3 = some R) : Met l yX12_agrees wsX12_agrees ({ frames := 3, cells := 0, slots := 0, locals := 75 }) (va_Pc [.ref (a0 0), .int x1, .int x2, .int x3] (wb_pre D [(cB, .byte), (cI, .int), (cZ, .boolean)] (wWX12 cB cI cZ a0 I0 L0 M0))) (vp_Si (fun r => r = R)) 0 0 (fun _ => False) := by
  refine Met.ofW (cc := cX12_agrees) (maxL := 7) (ret := (some .int)) pn_X12 rfl ?_
  intro p e s m args below meth c s₁ B hml hv
  obtain ⟨rfl, hP, hK⟩ := hv
  have hx := B.exec
  have hb := B.bytes
  have hr := B.returns
  have hts := atoms_spec (ws := wsX12_agrees) B.pre
  have hown : s.vm.findClass RX12 = some m.cls := (findClass_of_methodNamed B.named :)
  have hlocks := B.notSynchronized
  have hl := lv_entry ([.ref (a0 0), .int x1, .int x2, .int x3]) (n := 7) (Nat.le_of_ble_eq_true rfl)
  rw [lg_entry_eq]
  generalize (lg_sl ([.ref (a0 0), .int x1, .int x2, .int x3]) ++ List.replicate (7 - (lg_sl ([.ref (a0 0), .int x1, .int x2, .int x3])).length) Slot.unset).toArray = ls at hl ⊢
  have hl : lv_has ls 7 [(0, .ref (a0 0)), (1, .int x1), (2, .int x2), (3, .int x3)] := hl
  unfold fX12_agrees at hf
  refine lv_iconst (v := (0 : Int32)) hx hb dX12_agrees_0 (by decide) ?_
  refine lv_istore (lv' := [(4, .int (0 : Int32)), (0, .ref (a0 0)), (1, .int x1), (2, .int x2), (3, .int x3)]) hx hb dX12_agrees_1 hl (by decide) rfl (fun ls hl => ?_)
  refine lv_iconst (v := (1 : Int32)) hx hb dX12_agrees_3 (by decide) ?_
  refine lv_istore (lv' := [(5, .int (1 : Int32)), (4, .int (0 : Int32)), (0, .ref (a0 0)), (1, .int x1), (2, .int x2), (3, .int x3)]) hx hb dX12_agrees_4 hl (by decide) rfl (fun ls hl => ?_)
  have Lh6 : ∀ (fu6 : Nat) (y6_4 : Int32) (y6_5 : Int32), ∀ (ls : Array Slot), lv_has ls 7 [(0, .ref (a0 0)), (1, .int x1), (2, .int x2), (3, .int x3), (4, .int y6_4), (5, .int y6_5)] → fX12_agrees_L6 N I0 L0 M0 x1 x2 x3 fu6 y6_4 y6_5 = some R → W p l e (headSpec wsX12_agrees { frames := 3, cells := 0, slots := 0, locals := 75 }).room s m [.ref (a0 0), .int x1, .int x2, .int x3].toArray below meth c s.heap [] 0 0 (MQ below (vp_Si (fun r => r = R)) [.ref (a0 0), .int x1, .int x2, .int x3].toArray s 0 0 (fun _ => False)) (F0 m 6 ls []) := by
    intro fu6
    induction fu6 with
    | zero =>
      intro y6_4 y6_5 ls hl hf
      exact absurd hf (by rw [fX12_agrees_L6.eq_1]; exact fun h => nomatch h)
    | succ fu6 ih6 =>
      intro y6_4 y6_5 ls hl hf
      rw [fX12_agrees_L6.eq_2] at hf
      refine lv_iload hx hb dX12_agrees_6 (lv_at hl 5 rfl) ?_
      refine lv_bipush (v := (12 : Int32)) hx hb dX12_agrees_8 (by decide) ?_
      refine lv_icmp_gt (tgt := 62) hx hb dX12_agrees_10 (by decide) (fun hc => ?_) (fun hc => ?_)
      · replace hf := wb_t hc hf
        refine lv_iload hx hb dX12_agrees_62 (lv_at hl 4 rfl) ?_
        exact W.iret (v := y6_4) hx hb hr (fun t ht hW => ⟨_, rfl, Option.some.inj hf, ht⟩) (fun _ h => nomatch h) dX12_agrees_64
      · replace hf := wb_f hc hf
        refine lv_aload_n hx hb dX12_agrees_13 rfl (lv_at hl 0 rfl) ?_
        refine lv_iload_n hx hb dX12_agrees_14 rfl (lv_at hl 1 rfl) ?_
        refine lv_bipush (v := (9 : Int32)) hx hb dX12_agrees_15 (by decide) ?_
        refine lv_iload hx hb dX12_agrees_17 (lv_at hl 5 rfl) ?_
        refine lv_iadd hx hb dX12_agrees_19 ?_
        refine lv_iconst (v := (1 : Int32)) hx hb dX12_agrees_20 (by decide) ?_
        refine lv_isub hx hb dX12_agrees_21 ?_
        obtain ⟨r1, hr1, hf⟩ := wb_b hf
        refine vp_callSi (W.runV (As := [.int x1, .int (((9 : Int32) + y6_5) - (1 : Int32))]) (rest := []) ⟨hx, hb, hml, hown, hts⟩ (cn_X12_at l D cB cI cZ N a0 I0 L0 M0 x1 (((9 : Int32) + y6_5) - (1 : Int32)) r1 hr1) (cwV 2 hts gX12_agrees_X12_at rfl rfl rfl cdX12_at ⟨Nat.le_of_ble_eq_true rfl, Nat.le_of_ble_eq_true rfl⟩) (wb_preV hP hK (wr_12 hK hP (q0 := 0) rfl)) rfl rfl hl.1 rfl (lv_room (Nat.le_of_ble_eq_true rfl)) dX12_agrees_22 ⟨Nat.le_of_ble_eq_true rfl, Nat.le_of_ble_eq_true rfl⟩) (fun r9 e9 => ?_)
        rw [e9]
        refine lv_istore (lv' := [(6, .int r1), (0, .ref (a0 0)), (1, .int x1), (2, .int x2), (3, .int x3), (4, .int y6_4), (5, .int y6_5)]) hx hb dX12_agrees_25 hl (by decide) rfl (fun ls hl => ?_)
        refine lv_iload hx hb dX12_agrees_27 (lv_at hl 0 rfl) ?_
        refine lv_iconst (v := (-1 : Int32)) hx hb dX12_agrees_29 (by decide) ?_
        refine lv_icmp_eq (tgt := 56) hx hb dX12_agrees_30 (by decide) (fun hc => ?_) (fun hc => ?_)
        · replace hf := wb_t hc hf
          obtain ⟨v2, ev2, hf⟩ := wb_v hf
          refine lv_iinc (v := v2) (lv' := [(5, .int v2), (6, .int r1), (0, .ref (a0 0)), (1, .int x1), (2, .int x2), (3, .int x3), (4, .int y6_4)]) hx hb dX12_agrees_56 hl (k := 6) rfl (by rw [ev2]; rfl) (by decide) rfl (fun ls hl => ?_)
          refine lv_goto (tgt := 6) hx hb dX12_agrees_59 (by decide) ?_
          exact ih6 y6_4 v2 ls (lv_sub hl [2, 3, 4, 5, 6, 0] rfl) hf
        · replace hf := wb_f hc hf
          refine lv_iload hx hb dX12_agrees_33 (lv_at hl 0 rfl) ?_
          refine lv_aload_n hx hb dX12_agrees_35 rfl (lv_at hl 1 rfl) ?_
          refine lv_aload_n hx hb dX12_agrees_36 rfl (lv_at hl 1 rfl) ?_
          refine lv_iload_n hx hb dX12_agrees_37 rfl (lv_at hl 2 rfl) ?_
          refine lv_bipush (v := (7 : Int32)) hx hb dX12_agrees_38 (by decide) ?_
          obtain ⟨r3, hr3, hf⟩ := wb_b hf
          refine vp_callSi (W.runV (As := [.int x1, .int (7 : Int32)]) (rest := [.ref (a0 0), .int r1]) ⟨hx, hb, hml, hown, hts⟩ (cn_X12_at l D cB cI cZ N a0 I0 L0 M0 x1 (7 : Int32) r3 hr3) (cwV 2 hts gX12_agrees_X12_at rfl rfl rfl cdX12_at ⟨Nat.le_of_ble_eq_true rfl, Nat.le_of_ble_eq_true rfl⟩) (wb_preV hP hK (wr_12 hK hP (q0 := 0) rfl)) rfl rfl hl.1 rfl (lv_room (Nat.le_of_ble_eq_true rfl)) dX12_agrees_40 ⟨Nat.le_of_ble_eq_true rfl, Nat.le_of_ble_eq_true rfl⟩) (fun r9 e9 => ?_)
          rw [e9]
          refine lv_iload_n hx hb dX12_agrees_43 rfl (lv_at hl 3 rfl) ?_
          refine lv_iload_n hx hb dX12_agrees_44 rfl (lv_at hl 4 rfl) ?_
          refine lv_iload hx hb dX12_agrees_45 (lv_at hl 6 rfl) ?_
          obtain ⟨r4, hr4, hf⟩ := wb_b hf
          refine vp_callSi (W.runV (As := [.int r3, .int x2, .int x3, .int y6_5]) (rest := [.int r1]) ⟨hx, hb, hml, hown, hts⟩ (cn_X12_houseAt l D cB cI cZ N a0 I0 L0 M0 r3 x2 x3 y6_5 r4 hr4) (cwV 4 hts gX12_agrees_X12_houseAt rfl rfl rfl cdX12_houseAt ⟨Nat.le_of_ble_eq_true rfl, Nat.le_of_ble_eq_true rfl⟩) (wb_preV hP hK (wr_12 hK hP (q0 := 0) rfl)) rfl rfl hl.1 rfl (lv_room (Nat.le_of_ble_eq_true rfl)) dX12_agrees_47 ⟨Nat.le_of_ble_eq_true rfl, Nat.le_of_ble_eq_true rfl⟩) (fun r9 e9 => ?_)
          rw [e9]
          refine lv_icmp_ne (tgt := 56) hx hb dX12_agrees_50 (by decide) (fun hc => ?_) (fun hc => ?_)
          · replace hf := wb_f hc hf
            obtain ⟨v5, ev5, hf⟩ := wb_v hf
            refine lv_iinc (v := v5) (lv' := [(5, .int v5), (6, .int r1), (0, .ref (a0 0)), (1, .int x1), (2, .int x2), (3, .int x3), (4, .int y6_4)]) hx hb dX12_agrees_56 hl (k := 6) rfl (by rw [ev5]; rfl) (by decide) rfl (fun ls hl => ?_)
            refine lv_goto (tgt := 6) hx hb dX12_agrees_59 (by decide) ?_
            exact ih6 y6_4 v5 ls (lv_sub hl [2, 3, 4, 5, 6, 0] rfl) hf
          · replace hf := wb_t hc hf
            obtain ⟨v6, ev6, hf⟩ := wb_v hf
            refine lv_iinc (v := v6) (lv' := [(4, .int v6), (6, .int r1), (0, .ref (a0 0)), (1, .int x1), (2, .int x2), (3, .int x3), (5, .int y6_5)]) hx hb dX12_agrees_53 hl (k := 5) rfl (by rw [ev6]; rfl) (by decide) rfl (fun ls hl => ?_)
            obtain ⟨v7, ev7, hf⟩ := wb_v hf
            refine lv_iinc (v := v7) (lv' := [(5, .int v7), (4, .int v6), (6, .int r1), (0, .ref (a0 0)), (1, .int x1), (2, .int x2), (3, .int x3)]) hx hb dX12_agrees_56 hl (k := 6) rfl (by rw [ev7]; rfl) (by decide) rfl (fun ls hl => ?_)
            refine lv_goto (tgt := 6) hx hb dX12_agrees_59 (by decide) ?_
            exact ih6 v6 v7 ls (lv_sub hl [3, 4, 5, 6, 1, 0] rfl) hf
  exact Lh6 N (0 : Int32) (1 : Int32) ls (lv_sub hl [2, 3, 4, 5, 1, 0] rfl) hf

set_option maxHeartbeats 4000000 in
set_option maxRecDepth 100000 in
theorem cn_X12_housesTold (l : Launch) (D : va_G) (cB cI cZ : ClassId) (N : Nat) (a0 : Nat → Nat) (I0 : Nat → Int32) (L0 : Int64) (M0 : Nat → Nat → Int32) (x1 : Int32) (R : Int32) (hf : fX12_housesTold N I0 L0 M0 x1 = some R) : Met l yX12_housesTold wsX12_housesTold ({ frames := 1, cells := 0, slots := 0, locals := 22 }) (va_Pc [.ref (a0 0), .int x1] (wb_pre D [(cB, .byte), (cI, .int), (cZ, .boolean)] (wWX12 cB cI cZ a0 I0 L0 M0))) (vp_Si (fun r => r = R)) 0 0 (fun _ => False) := by
  refine Met.ofW (cc := cX12_housesTold) (maxL := 4) (ret := (some .int)) pn_X12 rfl ?_
  intro p e s m args below meth c s₁ B hml hv
  obtain ⟨rfl, hP, hK⟩ := hv
  have hx := B.exec
  have hb := B.bytes
  have hr := B.returns
  have hts := atoms_spec (ws := wsX12_housesTold) B.pre
  have hown : s.vm.findClass RX12 = some m.cls := (findClass_of_methodNamed B.named :)
  have hlocks := B.notSynchronized
  have hl := lv_entry ([.ref (a0 0), .int x1]) (n := 4) (Nat.le_of_ble_eq_true rfl)
  rw [lg_entry_eq]
  generalize (lg_sl ([.ref (a0 0), .int x1]) ++ List.replicate (4 - (lg_sl ([.ref (a0 0), .int x1])).length) Slot.unset).toArray = ls at hl ⊢
  have hl : lv_has ls 4 [(0, .ref (a0 0)), (1, .int x1)] := hl
  unfold fX12_housesTold at hf
  refine lv_iconst (v := (0 : Int32)) hx hb dX12_housesTold_0 (by decide) ?_
  refine lv_istore_n (lv' := [(2, .int (0 : Int32)), (0, .ref (a0 0)), (1, .int x1)]) hx hb dX12_housesTold_1 rfl hl (by decide) rfl (fun ls hl => ?_)
  refine lv_iconst (v := (1 : Int32)) hx hb dX12_housesTold_2 (by decide) ?_
  refine lv_istore_n (lv' := [(3, .int (1 : Int32)), (2, .int (0 : Int32)), (0, .ref (a0 0)), (1, .int x1)]) hx hb dX12_housesTold_3 rfl hl (by decide) rfl (fun ls hl => ?_)
  have Lh4 : ∀ (fu4 : Nat) (y4_2 : Int32) (y4_3 : Int32), ∀ (ls : Array Slot), lv_has ls 4 [(0, .ref (a0 0)), (1, .int x1), (2, .int y4_2), (3, .int y4_3)] → fX12_housesTold_L4 N I0 L0 M0 x1 fu4 y4_2 y4_3 = some R → W p l e (headSpec wsX12_housesTold { frames := 1, cells := 0, slots := 0, locals := 22 }).room s m [.ref (a0 0), .int x1].toArray below meth c s.heap [] 0 0 (MQ below (vp_Si (fun r => r = R)) [.ref (a0 0), .int x1].toArray s 0 0 (fun _ => False)) (F0 m 4 ls []) := by
    intro fu4
    induction fu4 with
    | zero =>
      intro y4_2 y4_3 ls hl hf
      exact absurd hf (by rw [fX12_housesTold_L4.eq_1]; exact fun h => nomatch h)
    | succ fu4 ih4 =>
      intro y4_2 y4_3 ls hl hf
      rw [fX12_housesTold_L4.eq_2] at hf
      refine lv_iload_n hx hb dX12_housesTold_4 rfl (lv_at hl 3 rfl) ?_
      refine lv_bipush (v := (12 : Int32)) hx hb dX12_housesTold_5 (by decide) ?_
      refine lv_icmp_gt (tgt := 39) hx hb dX12_housesTold_7 (by decide) (fun hc => ?_) (fun hc => ?_)
      · replace hf := wb_t hc hf
        refine lv_iload_n hx hb dX12_housesTold_39 rfl (lv_at hl 2 rfl) ?_
        exact W.iret (v := y4_2) hx hb hr (fun t ht hW => ⟨_, rfl, Option.some.inj hf, ht⟩) (fun _ h => nomatch h) dX12_housesTold_40
      · replace hf := wb_f hc hf
        refine lv_iload_n hx hb dX12_housesTold_10 rfl (lv_at hl 2 rfl) ?_
        refine lv_aload_n hx hb dX12_housesTold_11 rfl (lv_at hl 0 rfl) ?_
        refine lv_iload_n hx hb dX12_housesTold_12 rfl (lv_at hl 1 rfl) ?_
        refine lv_bipush (v := (9 : Int32)) hx hb dX12_housesTold_13 (by decide) ?_
        refine lv_iload_n hx hb dX12_housesTold_15 rfl (lv_at hl 3 rfl) ?_
        refine lv_iadd hx hb dX12_housesTold_16 ?_
        refine lv_iconst (v := (1 : Int32)) hx hb dX12_housesTold_17 (by decide) ?_
        refine lv_isub hx hb dX12_housesTold_18 ?_
        obtain ⟨r1, hr1, hf⟩ := wb_b hf
        refine vp_callSi (W.runV (As := [.int x1, .int (((9 : Int32) + y4_3) - (1 : Int32))]) (rest := [.int y4_2]) ⟨hx, hb, hml, hown, hts⟩ (cn_X12_at l D cB cI cZ N a0 I0 L0 M0 x1 (((9 : Int32) + y4_3) - (1 : Int32)) r1 hr1) (cwV 2 hts gX12_housesTold_X12_at rfl rfl rfl cdX12_at ⟨Nat.le_of_ble_eq_true rfl, Nat.le_of_ble_eq_true rfl⟩) (wb_preV hP hK (wr_12 hK hP (q0 := 0) rfl)) rfl rfl hl.1 rfl (lv_room (Nat.le_of_ble_eq_true rfl)) dX12_housesTold_19 ⟨Nat.le_of_ble_eq_true rfl, Nat.le_of_ble_eq_true rfl⟩) (fun r9 e9 => ?_)
        rw [e9]
        refine lv_iconst (v := (-1 : Int32)) hx hb dX12_housesTold_22 (by decide) ?_
        refine lv_icmp_eq (tgt := 30) hx hb dX12_housesTold_23 (by decide) (fun hc => ?_) (fun hc => ?_)
        · replace hf := wb_t hc hf
          refine lv_iconst (v := (0 : Int32)) hx hb dX12_housesTold_30 (by decide) ?_
          refine lv_iadd hx hb dX12_housesTold_31 ?_
          obtain ⟨v2, ev2, hf⟩ := wb_v hf
          refine wb_topi ev2 ?_
          refine lv_istore_n (lv' := [(2, .int v2), (0, .ref (a0 0)), (1, .int x1), (3, .int y4_3)]) hx hb dX12_housesTold_32 rfl hl (by decide) rfl (fun ls hl => ?_)
          obtain ⟨v3, ev3, hf⟩ := wb_v hf
          refine lv_iinc (v := v3) (lv' := [(3, .int v3), (2, .int v2), (0, .ref (a0 0)), (1, .int x1)]) hx hb dX12_housesTold_33 hl (k := 3) rfl (by rw [ev3]; rfl) (by decide) rfl (fun ls hl => ?_)
          refine lv_goto (tgt := 4) hx hb dX12_housesTold_36 (by decide) ?_
          exact ih4 v2 v3 ls (lv_sub hl [2, 3, 1, 0] rfl) hf
        · replace hf := wb_f hc hf
          refine lv_iconst (v := (1 : Int32)) hx hb dX12_housesTold_26 (by decide) ?_
          refine lv_goto (tgt := 31) hx hb dX12_housesTold_27 (by decide) ?_
          refine lv_iadd hx hb dX12_housesTold_31 ?_
          obtain ⟨v4, ev4, hf⟩ := wb_v hf
          refine wb_topi ev4 ?_
          refine lv_istore_n (lv' := [(2, .int v4), (0, .ref (a0 0)), (1, .int x1), (3, .int y4_3)]) hx hb dX12_housesTold_32 rfl hl (by decide) rfl (fun ls hl => ?_)
          obtain ⟨v5, ev5, hf⟩ := wb_v hf
          refine lv_iinc (v := v5) (lv' := [(3, .int v5), (2, .int v4), (0, .ref (a0 0)), (1, .int x1)]) hx hb dX12_housesTold_33 hl (k := 3) rfl (by rw [ev5]; rfl) (by decide) rfl (fun ls hl => ?_)
          refine lv_goto (tgt := 4) hx hb dX12_housesTold_36 (by decide) ?_
          exact ih4 v4 v5 ls (lv_sub hl [2, 3, 1, 0] rfl) hf
  exact Lh4 N (0 : Int32) (1 : Int32) ls (lv_sub hl [2, 3, 1, 0] rfl) hf

set_option maxHeartbeats 4000000 in
set_option maxRecDepth 100000 in
theorem cn_X12_agree (l : Launch) (D : va_G) (cB cI cZ : ClassId) (N : Nat) (a0 : Nat → Nat) (I0 : Nat → Int32) (L0 : Int64) (M0 : Nat → Nat → Int32) (x1 : Int32) (x2 : Int32) (x3 : Int32) (x4 : Int32) (sz : Nat) (R : Int32 × (Nat → Int32) × Int64 × (Nat → Nat → Int32)) (hf : fX12_agree N I0 L0 M0 x1 x2 x3 x4 = some R) : Met l yX12_agree wsX12_agree ({ frames := 4, cells := 0, slots := 0, locals := 101 }) (va_Pc [.ref (a0 0), .int x1, .int x2, .int x3, .int x4] (wb_preD D [(cB, .byte), (cI, .int), (cZ, .boolean)] (wWX12 cB cI cZ a0 I0 L0 M0) sz)) (va_Qi (fun r (_ : Unit) => r = R.1) (fun _ t => wb_post D [(cB, .byte), (cI, .int), (cZ, .boolean)] (va_A (wWX12 cB cI cZ a0 I0 L0 M0) sz) (wWX12 cB cI cZ a0 R.2.1 R.2.2.1 R.2.2.2) t) (va_A (wWX12 cB cI cZ a0 I0 L0 M0) sz)) 0 0 (va_A (wWX12 cB cI cZ a0 I0 L0 M0) sz) := by
  refine Met.ofW (cc := cX12_agree) (maxL := 5) (ret := (some .int)) pn_X12 rfl ?_
  intro p e s m args below meth c s₁ B hml hv
  obtain ⟨rfl, hsz, hP, hK, hD0⟩ := hv
  have hx := B.exec
  have hb := B.bytes
  have hr := B.returns
  have hts := atoms_spec (ws := wsX12_agree) B.pre
  have hown : s.vm.findClass RX12 = some m.cls := (findClass_of_methodNamed B.named :)
  have hlocks := B.notSynchronized
  subst hsz
  have hD := hD0.self (sz := s.heap.size)
  generalize hAe : va_A (wWX12 cB cI cZ a0 I0 L0 M0) s.heap.size = A at hD ⊢
  have hA : ∀ q : Nat, s.heap.size ≤ q → A q := fun q h => by rw [← hAe]; exact Or.inr h
  have hS : va_S A s.heap s.heap [] := va_S.rf
  have hl := lv_entry ([.ref (a0 0), .int x1, .int x2, .int x3, .int x4]) (n := 5) (Nat.le_of_ble_eq_true rfl)
  rw [lg_entry_eq]
  generalize (lg_sl ([.ref (a0 0), .int x1, .int x2, .int x3, .int x4]) ++ List.replicate (5 - (lg_sl ([.ref (a0 0), .int x1, .int x2, .int x3, .int x4])).length) Slot.unset).toArray = ls at hl ⊢
  have hl : lv_has ls 5 [(0, .ref (a0 0)), (1, .int x1), (2, .int x2), (3, .int x3), (4, .int x4)] := hl
  unfold fX12_agree at hf
  obtain ⟨H, hHe⟩ : ∃ H : Heap, H = s.heap := ⟨_, rfl⟩
  obtain ⟨locs, hle⟩ : ∃ locs : List Loc, locs = [] := ⟨_, rfl⟩
  refine wb_start (H := H) (locs := locs) hHe hle ?_
  rw [← hHe] at hP
  have hS : va_S A s.heap H locs := by rw [hHe, hle]; exact va_S.rf
  refine lv_aload_n hx hb dX12_agree_0 rfl (lv_at hl 0 rfl) ?_
  refine lv_iload_n hx hb dX12_agree_1 rfl (lv_at hl 1 rfl) ?_
  refine lv_iload_n hx hb dX12_agree_2 rfl (lv_at hl 2 rfl) ?_
  obtain ⟨r1, hr1, hf⟩ := wb_b hf
  have hPc := hP
  have hDc := hD
  have hFc := wj_F hDc hS hA
  refine va_calli (va_runV (As := [.int x1, .int x2]) (rest := []) ⟨hx, hb, hml, hown, hts⟩ (cn_X12_isWheel l D cB cI cZ N a0 I0 L0 M0 x1 x2 H.size r1 hr1) (cwV 2 hts gX12_agree_X12_isWheel rfl rfl rfl cdX12_isWheel ⟨Nat.le_of_ble_eq_true rfl, Nat.le_of_ble_eq_true rfl⟩) (wb_preDV hPc hK hDc (wr_12 hK hP (q0 := 0) rfl)) rfl rfl hl.1 rfl (lv_room (Nat.le_of_ble_eq_true rfl)) dX12_agree_3 ⟨Nat.le_of_ble_eq_true rfl, Nat.le_of_ble_eq_true rfl⟩) hS (fun q _ h => hFc q h) hFc (fun r9 u t H locs ht hvm hw hB hz1 hk1 hS => ?_)
  obtain ⟨hP, hD⟩ := wj_0 hFc ht hB
  rw [hw]
  refine lv_if_eq (tgt := 19) hx hb dX12_agree_6 (by decide) (fun hc => ?_) (fun hc => ?_)
  · replace hf := wb_t hc hf
    refine lv_iconst (v := (0 : Int32)) hx hb dX12_agree_19 (by decide) ?_
    exact W.iret (v := (0 : Int32)) hx hb hr (fun t ht hW => by rw [← Option.some.inj hf]; exact ⟨⟨(0 : Int32), (), rfl, rfl, by rw [ht]; exact hP, va_K.moved hW.alike hK, hD⟩, hS.F ht⟩) hS.2.2 dX12_agree_20
  · replace hf := wb_f hc hf
    refine lv_aload_n hx hb dX12_agree_9 rfl (lv_at hl 0 rfl) ?_
    refine lv_iload_n hx hb dX12_agree_10 rfl (lv_at hl 3 rfl) ?_
    refine lv_iload hx hb dX12_agree_11 (lv_at hl 4 rfl) ?_
    obtain ⟨r2, hr2, hf⟩ := wb_b hf
    have hPc := hP
    have hDc := hD
    have hFc := wj_F hDc hS hA
    refine va_calli (va_runV (As := [.int x3, .int x4]) (rest := []) ⟨hx, hb, hml, hown, hts⟩ (cn_X12_isWay l D cB cI cZ N a0 r1.2.1 r1.2.2.1 r1.2.2.2 x3 x4 H.size r2 hr2) (cwV 2 hts gX12_agree_X12_isWay rfl rfl rfl cdX12_isWay ⟨Nat.le_of_ble_eq_true rfl, Nat.le_of_ble_eq_true rfl⟩) (wb_preDV hPc hK hDc (wr_12 hK hP (q0 := 0) rfl)) rfl rfl hl.1 rfl (lv_room (Nat.le_of_ble_eq_true rfl)) dX12_agree_13 ⟨Nat.le_of_ble_eq_true rfl, Nat.le_of_ble_eq_true rfl⟩) hS (fun q _ h => hFc q h) hFc (fun r9 u t H locs ht hvm hw hB hz1 hk1 hS => ?_)
    obtain ⟨hP, hD⟩ := wj_0 hFc ht hB
    rw [hw]
    refine lv_if_ne (tgt := 21) hx hb dX12_agree_16 (by decide) (fun hc => ?_) (fun hc => ?_)
    · replace hf := wb_f hc hf
      refine lv_aload_n hx hb dX12_agree_21 rfl (lv_at hl 0 rfl) ?_
      refine lv_bipush (v := (20 : Int32)) hx hb dX12_agree_22 (by decide) ?_
      refine lv_iload_n hx hb dX12_agree_24 rfl (lv_at hl 1 rfl) ?_
      refine lv_imul hx hb dX12_agree_25 ?_
      refine lv_iload_n hx hb dX12_agree_26 rfl (lv_at hl 2 rfl) ?_
      refine lv_iadd hx hb dX12_agree_27 ?_
      refine lv_bipush (v := (7 : Int32)) hx hb dX12_agree_28 (by decide) ?_
      obtain ⟨r3, hr3, hf⟩ := wb_b hf
      refine vp_callSi (W.runV (As := [.int (((20 : Int32) * x1) + x2), .int (7 : Int32)]) (rest := []) ⟨hx, hb, hml, hown, hts⟩ (cn_X12_at l D cB cI cZ N a0 r2.2.1 r2.2.2.1 r2.2.2.2 (((20 : Int32) * x1) + x2) (7 : Int32) r3 hr3) (cwV 2 hts gX12_agree_X12_at rfl rfl rfl cdX12_at ⟨Nat.le_of_ble_eq_true rfl, Nat.le_of_ble_eq_true rfl⟩) (wb_preV hP hK (wr_12 hK hP (q0 := 0) rfl)) rfl rfl hl.1 rfl (lv_room (Nat.le_of_ble_eq_true rfl)) dX12_agree_30 ⟨Nat.le_of_ble_eq_true rfl, Nat.le_of_ble_eq_true rfl⟩) (fun r9 e9 => ?_)
      rw [e9]
      refine lv_iconst (v := (-1 : Int32)) hx hb dX12_agree_33 (by decide) ?_
      refine lv_icmp_ne (tgt := 41) hx hb dX12_agree_34 (by decide) (fun hc => ?_) (fun hc => ?_)
      · replace hf := wb_f hc hf
        refine lv_aload_n hx hb dX12_agree_41 rfl (lv_at hl 0 rfl) ?_
        refine lv_bipush (v := (20 : Int32)) hx hb dX12_agree_42 (by decide) ?_
        refine lv_iload_n hx hb dX12_agree_44 rfl (lv_at hl 1 rfl) ?_
        refine lv_imul hx hb dX12_agree_45 ?_
        refine lv_iload_n hx hb dX12_agree_46 rfl (lv_at hl 2 rfl) ?_
        refine lv_iadd hx hb dX12_agree_47 ?_
        refine lv_iload_n hx hb dX12_agree_48 rfl (lv_at hl 3 rfl) ?_
        refine lv_iload hx hb dX12_agree_49 (lv_at hl 4 rfl) ?_
        obtain ⟨r4, hr4, hf⟩ := wb_b hf
        refine vp_callSi (W.runV (As := [.int (((20 : Int32) * x1) + x2), .int x3, .int x4]) (rest := []) ⟨hx, hb, hml, hown, hts⟩ (cn_X12_agrees l D cB cI cZ N a0 r2.2.1 r2.2.2.1 r2.2.2.2 (((20 : Int32) * x1) + x2) x3 x4 r4 hr4) (cwV 3 hts gX12_agree_X12_agrees rfl rfl rfl cdX12_agrees ⟨Nat.le_of_ble_eq_true rfl, Nat.le_of_ble_eq_true rfl⟩) (wb_preV hP hK (wr_12 hK hP (q0 := 0) rfl)) rfl rfl hl.1 rfl (lv_room (Nat.le_of_ble_eq_true rfl)) dX12_agree_51 ⟨Nat.le_of_ble_eq_true rfl, Nat.le_of_ble_eq_true rfl⟩) (fun r9 e9 => ?_)
        rw [e9]
        exact W.iret (v := r4) hx hb hr (fun t ht hW => by rw [← Option.some.inj hf]; exact ⟨⟨r4, (), rfl, rfl, by rw [ht]; exact hP, va_K.moved hW.alike hK, hD⟩, hS.F ht⟩) hS.2.2 dX12_agree_54
      · replace hf := wb_t hc hf
        refine lv_iconst (v := (-1 : Int32)) hx hb dX12_agree_37 (by decide) ?_
        refine lv_goto (tgt := 54) hx hb dX12_agree_38 (by decide) ?_
        exact W.iret (v := (-1 : Int32)) hx hb hr (fun t ht hW => by rw [← Option.some.inj hf]; exact ⟨⟨(-1 : Int32), (), rfl, rfl, by rw [ht]; exact hP, va_K.moved hW.alike hK, hD⟩, hS.F ht⟩) hS.2.2 dX12_agree_54
    · replace hf := wb_t hc hf
      refine lv_iconst (v := (0 : Int32)) hx hb dX12_agree_19 (by decide) ?_
      exact W.iret (v := (0 : Int32)) hx hb hr (fun t ht hW => by rw [← Option.some.inj hf]; exact ⟨⟨(0 : Int32), (), rfl, rfl, by rw [ht]; exact hP, va_K.moved hW.alike hK, hD⟩, hS.F ht⟩) hS.2.2 dX12_agree_20

set_option maxHeartbeats 4000000 in
set_option maxRecDepth 100000 in
theorem cn_X12_possible (l : Launch) (D : va_G) (cB cI cZ : ClassId) (N : Nat) (a0 : Nat → Nat) (I0 : Nat → Int32) (L0 : Int64) (M0 : Nat → Nat → Int32) (x1 : Int32) (x2 : Int32) (x3 : Int32) (sz : Nat) (R : Int32 × (Nat → Int32) × Int64 × (Nat → Nat → Int32)) (hf : fX12_possible N I0 L0 M0 x1 x2 x3 = some R) : Met l yX12_possible wsX12_possible ({ frames := 4, cells := 0, slots := 0, locals := 101 }) (va_Pc [.ref (a0 0), .int x1, .int x2, .int x3] (wb_preD D [(cB, .byte), (cI, .int), (cZ, .boolean)] (wWX12 cB cI cZ a0 I0 L0 M0) sz)) (va_Qi (fun r (_ : Unit) => r = R.1) (fun _ t => wb_post D [(cB, .byte), (cI, .int), (cZ, .boolean)] (va_A (wWX12 cB cI cZ a0 I0 L0 M0) sz) (wWX12 cB cI cZ a0 R.2.1 R.2.2.1 R.2.2.2) t) (va_A (wWX12 cB cI cZ a0 I0 L0 M0) sz)) 0 0 (va_A (wWX12 cB cI cZ a0 I0 L0 M0) sz) := by
  refine Met.ofW (cc := cX12_possible) (maxL := 11) (ret := (some .int)) pn_X12 rfl ?_
  intro p e s m args below meth c s₁ B hml hv
  obtain ⟨rfl, hsz, hP, hK, hD0⟩ := hv
  have hx := B.exec
  have hb := B.bytes
  have hr := B.returns
  have hts := atoms_spec (ws := wsX12_possible) B.pre
  have hown : s.vm.findClass RX12 = some m.cls := (findClass_of_methodNamed B.named :)
  have hlocks := B.notSynchronized
  have hinX12 : ∀ w ∈ u_ws RX12 TX12 58, w ∈ wsX12_possible := fun w h => List.mem_cons_of_mem _ (List.mem_append_right _ h)
  subst hsz
  have hD := hD0.self (sz := s.heap.size)
  generalize hAe : va_A (wWX12 cB cI cZ a0 I0 L0 M0) s.heap.size = A at hD ⊢
  have hA : ∀ q : Nat, s.heap.size ≤ q → A q := fun q h => by rw [← hAe]; exact Or.inr h
  have hS : va_S A s.heap s.heap [] := va_S.rf
  have hl := lv_entry ([.ref (a0 0), .int x1, .int x2, .int x3]) (n := 11) (Nat.le_of_ble_eq_true rfl)
  rw [lg_entry_eq]
  generalize (lg_sl ([.ref (a0 0), .int x1, .int x2, .int x3]) ++ List.replicate (11 - (lg_sl ([.ref (a0 0), .int x1, .int x2, .int x3])).length) Slot.unset).toArray = ls at hl ⊢
  have hl : lv_has ls 11 [(0, .ref (a0 0)), (1, .int x1), (2, .int x2), (3, .int x3)] := hl
  unfold fX12_possible at hf
  obtain ⟨H, hHe⟩ : ∃ H : Heap, H = s.heap := ⟨_, rfl⟩
  obtain ⟨locs, hle⟩ : ∃ locs : List Loc, locs = [] := ⟨_, rfl⟩
  refine wb_start (H := H) (locs := locs) hHe hle ?_
  rw [← hHe] at hP
  have hS : va_S A s.heap H locs := by rw [hHe, hle]; exact va_S.rf
  have J71 : ∀ (I0_j71 : Nat → Int32) (L0_j71 : Int64) (M0_j71 : Nat → Nat → Int32) (y71_4 : Int32) (H : Heap) (locs : List Loc), va_P D vwCl (wWX12 cB cI cZ a0 I0_j71 L0_j71 M0_j71) H → va_D A (wWX12 cB cI cZ a0 I0_j71 L0_j71 M0_j71) → va_S A s.heap H locs → ∀ (ls : Array Slot), lv_has ls 11 [(0, .ref (a0 0)), (3, .int x3), (4, .int y71_4)] → fX12_possible_J71 N x1 x2 x3 I0_j71 L0_j71 M0_j71 y71_4 = some R → W p l e (headSpec wsX12_possible { frames := 4, cells := 0, slots := 0, locals := 101 }).room s m [.ref (a0 0), .int x1, .int x2, .int x3].toArray below meth c H locs 0 0 (MQ below (va_Qi (fun r (_ : Unit) => r = R.1) (fun _ t => wb_post D [(cB, .byte), (cI, .int), (cZ, .boolean)] A (wWX12 cB cI cZ a0 R.2.1 R.2.2.1 R.2.2.2) t) A) [.ref (a0 0), .int x1, .int x2, .int x3].toArray s 0 0 A) (F0 m 71 ls []) := by
    intro I0_j71 L0_j71 M0_j71 y71_4 H locs hP hD hS ls hl hf
    unfold fX12_possible_J71 at hf
    refine lv_aload_n hx hb dX12_possible_71 rfl (lv_at hl 0 rfl) ?_
    refine lv_iload hx hb dX12_possible_72 (lv_at hl 2 rfl) ?_
    obtain ⟨r1, hr1, hf⟩ := wb_b hf
    refine vp_callSi (W.runV (As := [.int y71_4]) (rest := []) ⟨hx, hb, hml, hown, hts⟩ (cn_X12_housesTold l D cB cI cZ N a0 I0_j71 L0_j71 M0_j71 y71_4 r1 hr1) (cwV 1 hts gX12_possible_X12_housesTold rfl rfl rfl cdX12_housesTold ⟨Nat.le_of_ble_eq_true rfl, Nat.le_of_ble_eq_true rfl⟩) (wb_preV hP hK (wr_12 hK hP (q0 := 0) rfl)) rfl rfl hl.1 rfl (lv_room (Nat.le_of_ble_eq_true rfl)) dX12_possible_74 ⟨Nat.le_of_ble_eq_true rfl, Nat.le_of_ble_eq_true rfl⟩) (fun r9 e9 => ?_)
    rw [e9]
    refine lv_istore (lv' := [(5, .int r1), (0, .ref (a0 0)), (3, .int x3), (4, .int y71_4)]) hx hb dX12_possible_77 hl (by decide) rfl (fun ls hl => ?_)
    refine lv_iconst (v := (0 : Int32)) hx hb dX12_possible_79 (by decide) ?_
    refine lv_istore (lv' := [(6, .int (0 : Int32)), (5, .int r1), (0, .ref (a0 0)), (3, .int x3), (4, .int y71_4)]) hx hb dX12_possible_80 hl (by decide) rfl (fun ls hl => ?_)
    refine lv_iconst (v := (0 : Int32)) hx hb dX12_possible_82 (by decide) ?_
    refine lv_istore (lv' := [(7, .int (0 : Int32)), (6, .int (0 : Int32)), (5, .int r1), (0, .ref (a0 0)), (3, .int x3), (4, .int y71_4)]) hx hb dX12_possible_83 hl (by decide) rfl (fun ls hl => ?_)
    refine lv_iconst (v := (0 : Int32)) hx hb dX12_possible_85 (by decide) ?_
    refine lv_istore (lv' := [(8, .int (0 : Int32)), (7, .int (0 : Int32)), (6, .int (0 : Int32)), (5, .int r1), (0, .ref (a0 0)), (3, .int x3), (4, .int y71_4)]) hx hb dX12_possible_86 hl (by decide) rfl (fun ls hl => ?_)
    have Lh88 : ∀ (fu88 : Nat) (I0_l88 : Nat → Int32) (L0_l88 : Int64) (M0_l88 : Nat → Nat → Int32) (y88_6 : Int32) (y88_8 : Int32) (H : Heap) (locs : List Loc), va_P D vwCl (wWX12 cB cI cZ a0 I0_l88 L0_l88 M0_l88) H → va_D A (wWX12 cB cI cZ a0 I0_l88 L0_l88 M0_l88) → va_S A s.heap H locs → ∀ (ls : Array Slot), lv_has ls 11 [(0, .ref (a0 0)), (3, .int x3), (4, .int y71_4), (5, .int r1), (6, .int y88_6), (7, .int (0 : Int32)), (8, .int y88_8)] → fX12_possible_L88 N x1 x2 x3 r1 y71_4 fu88 I0_l88 L0_l88 M0_l88 y88_6 y88_8 = some R → W p l e (headSpec wsX12_possible { frames := 4, cells := 0, slots := 0, locals := 101 }).room s m [.ref (a0 0), .int x1, .int x2, .int x3].toArray below meth c H locs 0 0 (MQ below (va_Qi (fun r (_ : Unit) => r = R.1) (fun _ t => wb_post D [(cB, .byte), (cI, .int), (cZ, .boolean)] A (wWX12 cB cI cZ a0 R.2.1 R.2.2.1 R.2.2.2) t) A) [.ref (a0 0), .int x1, .int x2, .int x3].toArray s 0 0 A) (F0 m 88 ls []) := by
      intro fu88
      induction fu88 with
      | zero =>
        intro I0_l88 L0_l88 M0_l88 y88_6 y88_8 H locs hP hD hS ls hl hf
        exact absurd hf (by rw [fX12_possible_L88.eq_1]; exact fun h => nomatch h)
      | succ fu88 ih88 =>
        intro I0_l88 L0_l88 M0_l88 y88_6 y88_8 H locs hP hD hS ls hl hf
        rw [fX12_possible_L88.eq_2] at hf
        refine lv_iload hx hb dX12_possible_88 (lv_at hl 6 rfl) ?_
        refine lv_iconst (v := (2 : Int32)) hx hb dX12_possible_90 (by decide) ?_
        refine lv_icmp_ge (tgt := 123) hx hb dX12_possible_91 (by decide) (fun hc => ?_) (fun hc => ?_)
        · replace hf := wb_t hc hf
          refine lv_iconst (v := (0 : Int32)) hx hb dX12_possible_123 (by decide) ?_
          refine lv_istore (lv' := [(8, .int (0 : Int32)), (0, .ref (a0 0)), (3, .int x3), (4, .int y71_4), (5, .int r1), (6, .int y88_6), (7, .int (0 : Int32))]) hx hb dX12_possible_124 hl (by decide) rfl (fun ls hl => ?_)
          have Lh126 : ∀ (fu126 : Nat) (I0_l126 : Nat → Int32) (L0_l126 : Int64) (M0_l126 : Nat → Nat → Int32) (y126_6 : Int32) (y126_7 : Int32) (y126_8 : Int32) (H : Heap) (locs : List Loc), va_P D vwCl (wWX12 cB cI cZ a0 I0_l126 L0_l126 M0_l126) H → va_D A (wWX12 cB cI cZ a0 I0_l126 L0_l126 M0_l126) → va_S A s.heap H locs → ∀ (ls : Array Slot), lv_has ls 11 [(0, .ref (a0 0)), (3, .int x3), (4, .int y71_4), (5, .int r1), (6, .int y126_6), (7, .int y126_7), (8, .int y126_8)] → fX12_possible_L126 N x1 x2 x3 r1 y71_4 (fX12_possible_L88 N x1 x2 x3 r1 y71_4 fu88) fu126 I0_l126 L0_l126 M0_l126 y126_6 y126_7 y126_8 = some R → W p l e (headSpec wsX12_possible { frames := 4, cells := 0, slots := 0, locals := 101 }).room s m [.ref (a0 0), .int x1, .int x2, .int x3].toArray below meth c H locs 0 0 (MQ below (va_Qi (fun r (_ : Unit) => r = R.1) (fun _ t => wb_post D [(cB, .byte), (cI, .int), (cZ, .boolean)] A (wWX12 cB cI cZ a0 R.2.1 R.2.2.1 R.2.2.2) t) A) [.ref (a0 0), .int x1, .int x2, .int x3].toArray s 0 0 A) (F0 m 126 ls []) := by
            intro fu126
            induction fu126 with
            | zero =>
              intro I0_l126 L0_l126 M0_l126 y126_6 y126_7 y126_8 H locs hP hD hS ls hl hf
              exact absurd hf (by rw [fX12_possible_L126.eq_1]; exact fun h => nomatch h)
            | succ fu126 ih126 =>
              have J208 : ∀ (I0_j208 : Nat → Int32) (L0_j208 : Int64) (M0_j208 : Nat → Nat → Int32) (y208_6 : Int32) (y208_7 : Int32) (y208_8 : Int32) (y208_9 : Int32) (H : Heap) (locs : List Loc), va_P D vwCl (wWX12 cB cI cZ a0 I0_j208 L0_j208 M0_j208) H → va_D A (wWX12 cB cI cZ a0 I0_j208 L0_j208 M0_j208) → va_S A s.heap H locs → ∀ (ls : Array Slot), lv_has ls 11 [(0, .ref (a0 0)), (3, .int x3), (4, .int y71_4), (5, .int r1), (6, .int y208_6), (7, .int y208_7), (8, .int y208_8), (9, .int y208_9)] → fX12_possible_J208 N x1 x2 x3 r1 y71_4 (fX12_possible_L88 N x1 x2 x3 r1 y71_4 fu88) (fX12_possible_L126 N x1 x2 x3 r1 y71_4 (fX12_possible_L88 N x1 x2 x3 r1 y71_4 fu88) fu126) I0_j208 L0_j208 M0_j208 y208_6 y208_7 y208_8 y208_9 = some R → W p l e (headSpec wsX12_possible { frames := 4, cells := 0, slots := 0, locals := 101 }).room s m [.ref (a0 0), .int x1, .int x2, .int x3].toArray below meth c H locs 0 0 (MQ below (va_Qi (fun r (_ : Unit) => r = R.1) (fun _ t => wb_post D [(cB, .byte), (cI, .int), (cZ, .boolean)] A (wWX12 cB cI cZ a0 R.2.1 R.2.2.1 R.2.2.2) t) A) [.ref (a0 0), .int x1, .int x2, .int x3].toArray s 0 0 A) (F0 m 208 ls []) := by
                intro I0_j208 L0_j208 M0_j208 y208_6 y208_7 y208_8 y208_9 H locs hP hD hS ls hl hf
                unfold fX12_possible_J208 at hf
                refine lv_iload hx hb dX12_possible_208 (lv_at hl 7 rfl) ?_
                refine lv_if_eq (tgt := 222) hx hb dX12_possible_210 (by decide) (fun hc => ?_) (fun hc => ?_)
                · replace hf := wb_t hc hf
                  obtain ⟨v2, ev2, hf⟩ := wb_v hf
                  refine lv_iinc (v := v2) (lv' := [(8, .int v2), (0, .ref (a0 0)), (3, .int x3), (4, .int y71_4), (5, .int r1), (6, .int y208_6), (7, .int y208_7), (9, .int y208_9)]) hx hb dX12_possible_222 hl (k := 6) rfl (by rw [ev2]; rfl) (by decide) rfl (fun ls hl => ?_)
                  refine lv_goto (tgt := 126) hx hb dX12_possible_225 (by decide) ?_
                  exact ih126 I0_j208 L0_j208 M0_j208 y208_6 y208_7 v2 H locs hP hD hS ls (lv_sub hl [1, 2, 3, 4, 5, 6, 0] rfl) hf
                · replace hf := wb_f hc hf
                  refine lv_iload hx hb dX12_possible_213 (lv_at hl 5 rfl) ?_
                  refine lv_iconst (v := (1 : Int32)) hx hb dX12_possible_215 (by decide) ?_
                  refine lv_iload hx hb dX12_possible_216 (lv_at hl 6 rfl) ?_
                  refine lv_ishl hx hb dX12_possible_218 ?_
                  refine lv_ior hx hb dX12_possible_219 ?_
                  obtain ⟨v3, ev3, hf⟩ := wb_v hf
                  refine wb_topi ev3 ?_
                  refine lv_istore (lv' := [(7, .int v3), (0, .ref (a0 0)), (3, .int x3), (4, .int y71_4), (5, .int r1), (6, .int y208_6), (8, .int y208_8), (9, .int y208_9)]) hx hb dX12_possible_220 hl (by decide) rfl (fun ls hl => ?_)
                  obtain ⟨v4, ev4, hf⟩ := wb_v hf
                  refine lv_iinc (v := v4) (lv' := [(8, .int v4), (7, .int v3), (0, .ref (a0 0)), (3, .int x3), (4, .int y71_4), (5, .int r1), (6, .int y208_6), (9, .int y208_9)]) hx hb dX12_possible_222 hl (k := 6) rfl (by rw [ev4]; rfl) (by decide) rfl (fun ls hl => ?_)
                  refine lv_goto (tgt := 126) hx hb dX12_possible_225 (by decide) ?_
                  exact ih126 I0_j208 L0_j208 M0_j208 y208_6 v3 v4 H locs hP hD hS ls (lv_sub hl [2, 3, 4, 5, 6, 1, 0] rfl) hf
              intro I0_l126 L0_l126 M0_l126 y126_6 y126_7 y126_8 H locs hP hD hS ls hl hf
              rw [fX12_possible_L126.eq_2] at hf
              refine lv_iload hx hb dX12_possible_126 (lv_at hl 6 rfl) ?_
              refine lv_aload_n hx hb dX12_possible_128 rfl (lv_at hl 0 rfl) ?_
              refine va_get (D := D) (ci := 12) (v := .int (I0_l126 1)) (C := RX12) (T := TX12) (N := 58) hx hb hts hinX12 hown hK hP 0 rfl rfl 5 (by decide) (hts (.fieldLink RX12 228 "WheelBookModel" "climates" "I") (List.mem_of_getElem? (i := 1) rfl)) (fun _ h9 => h9) rfl dX12_possible_129 ?_
              refine lv_icmp_ge (tgt := 228) hx hb dX12_possible_132 (by decide) (fun hc => ?_) (fun hc => ?_)
              · replace hf := wb_t hc hf
                refine lv_iload_n hx hb dX12_possible_228 rfl (lv_at hl 1 rfl) ?_
                refine lv_if_ne (tgt := 237) hx hb dX12_possible_229 (by decide) (fun hc => ?_) (fun hc => ?_)
                · replace hf := wb_f hc hf
                  refine lv_iload hx hb dX12_possible_237 (lv_at hl 5 rfl) ?_
                  exact W.iret (v := y126_7) hx hb hr (fun t ht hW => by rw [← Option.some.inj hf]; exact ⟨⟨y126_7, (), rfl, rfl, by rw [ht]; exact hP, va_K.moved hW.alike hK, hD⟩, hS.F ht⟩) hS.2.2 dX12_possible_239
                · replace hf := wb_t hc hf
                  refine lv_iload hx hb dX12_possible_232 (lv_at hl 4 rfl) ?_
                  refine lv_goto (tgt := 239) hx hb dX12_possible_234 (by decide) ?_
                  exact W.iret (v := y126_6) hx hb hr (fun t ht hW => by rw [← Option.some.inj hf]; exact ⟨⟨y126_6, (), rfl, rfl, by rw [ht]; exact hP, va_K.moved hW.alike hK, hD⟩, hS.F ht⟩) hS.2.2 dX12_possible_239
              · replace hf := wb_f hc hf
                refine lv_aload_n hx hb dX12_possible_135 rfl (lv_at hl 0 rfl) ?_
                refine lv_iload hx hb dX12_possible_136 (lv_at hl 2 rfl) ?_
                refine lv_iconst (v := (2 : Int32)) hx hb dX12_possible_138 (by decide) ?_
                refine lv_iload hx hb dX12_possible_139 (lv_at hl 6 rfl) ?_
                obtain ⟨r5, hr5, hf⟩ := wb_b hf
                refine vp_callSi (W.runV (As := [.int y71_4, .int (2 : Int32), .int y126_8]) (rest := []) ⟨hx, hb, hml, hown, hts⟩ (cn_X12_agrees l D cB cI cZ N a0 I0_l126 L0_l126 M0_l126 y71_4 (2 : Int32) y126_8 r5 hr5) (cwV 3 hts gX12_possible_X12_agrees rfl rfl rfl cdX12_agrees ⟨Nat.le_of_ble_eq_true rfl, Nat.le_of_ble_eq_true rfl⟩) (wb_preV hP hK (wr_12 hK hP (q0 := 0) rfl)) rfl rfl hl.1 rfl (lv_room (Nat.le_of_ble_eq_true rfl)) dX12_possible_141 ⟨Nat.le_of_ble_eq_true rfl, Nat.le_of_ble_eq_true rfl⟩) (fun r9 e9 => ?_)
                rw [e9]
                refine lv_iload hx hb dX12_possible_144 (lv_at hl 3 rfl) ?_
                refine lv_icmp_eq (tgt := 152) hx hb dX12_possible_146 (by decide) (fun hc => ?_) (fun hc => ?_)
                · replace hf := wb_t hc hf
                  refine lv_iload hx hb dX12_possible_152 (lv_at hl 4 rfl) ?_
                  refine lv_iconst (v := (4 : Int32)) hx hb dX12_possible_154 (by decide) ?_
                  refine lv_ior hx hb dX12_possible_155 ?_
                  obtain ⟨v6, ev6, hf⟩ := wb_v hf
                  refine wb_topi ev6 ?_
                  refine lv_istore (lv' := [(6, .int v6), (0, .ref (a0 0)), (3, .int x3), (4, .int y71_4), (5, .int r1), (7, .int y126_7), (8, .int y126_8)]) hx hb dX12_possible_156 hl (by decide) rfl (fun ls hl => ?_)
                  refine lv_iconst (v := (0 : Int32)) hx hb dX12_possible_158 (by decide) ?_
                  refine lv_istore (lv' := [(9, .int (0 : Int32)), (6, .int v6), (0, .ref (a0 0)), (3, .int x3), (4, .int y71_4), (5, .int r1), (7, .int y126_7), (8, .int y126_8)]) hx hb dX12_possible_159 hl (by decide) rfl (fun ls hl => ?_)
                  refine lv_iconst (v := (0 : Int32)) hx hb dX12_possible_161 (by decide) ?_
                  refine lv_istore (lv' := [(10, .int (0 : Int32)), (9, .int (0 : Int32)), (6, .int v6), (0, .ref (a0 0)), (3, .int x3), (4, .int y71_4), (5, .int r1), (7, .int y126_7), (8, .int y126_8)]) hx hb dX12_possible_162 hl (by decide) rfl (fun ls hl => ?_)
                  have Lh164 : ∀ (fu164 : Nat) (I0_l164 : Nat → Int32) (L0_l164 : Int64) (M0_l164 : Nat → Nat → Int32) (y164_9 : Int32) (y164_10 : Int32) (H : Heap) (locs : List Loc), va_P D vwCl (wWX12 cB cI cZ a0 I0_l164 L0_l164 M0_l164) H → va_D A (wWX12 cB cI cZ a0 I0_l164 L0_l164 M0_l164) → va_S A s.heap H locs → ∀ (ls : Array Slot), lv_has ls 11 [(0, .ref (a0 0)), (3, .int x3), (4, .int y71_4), (5, .int r1), (6, .int v6), (7, .int y126_7), (8, .int y126_8), (9, .int y164_9), (10, .int y164_10)] → fX12_possible_L164 N x1 x2 x3 r1 v6 y126_7 y126_8 y71_4 (fX12_possible_L88 N x1 x2 x3 r1 y71_4 fu88) (fX12_possible_L126 N x1 x2 x3 r1 y71_4 (fX12_possible_L88 N x1 x2 x3 r1 y71_4 fu88) fu126) fu164 I0_l164 L0_l164 M0_l164 y164_9 y164_10 = some R → W p l e (headSpec wsX12_possible { frames := 4, cells := 0, slots := 0, locals := 101 }).room s m [.ref (a0 0), .int x1, .int x2, .int x3].toArray below meth c H locs 0 0 (MQ below (va_Qi (fun r (_ : Unit) => r = R.1) (fun _ t => wb_post D [(cB, .byte), (cI, .int), (cZ, .boolean)] A (wWX12 cB cI cZ a0 R.2.1 R.2.2.1 R.2.2.2) t) A) [.ref (a0 0), .int x1, .int x2, .int x3].toArray s 0 0 A) (F0 m 164 ls []) := by
                    intro fu164
                    induction fu164 with
                    | zero =>
                      intro I0_l164 L0_l164 M0_l164 y164_9 y164_10 H locs hP hD hS ls hl hf
                      exact absurd hf (by rw [fX12_possible_L164.eq_1]; exact fun h => nomatch h)
                    | succ fu164 ih164 =>
                      intro I0_l164 L0_l164 M0_l164 y164_9 y164_10 H locs hP hD hS ls hl hf
                      rw [fX12_possible_L164.eq_2] at hf
                      refine lv_iload hx hb dX12_possible_164 (lv_at hl 8 rfl) ?_
                      refine lv_sipush (v := (360 : Int32)) hx hb dX12_possible_166 (by decide) ?_
                      refine lv_icmp_ge (tgt := 208) hx hb dX12_possible_169 (by decide) (fun hc => ?_) (fun hc => ?_)
                      · replace hf := wb_t hc hf
                        exact J208 I0_l164 L0_l164 M0_l164 v6 y126_7 y126_8 y164_9 H locs hP hD hS ls (lv_sub hl [0, 1, 2, 3, 4, 5, 6, 7] rfl) hf
                      · replace hf := wb_f hc hf
                        refine lv_iload_n hx hb dX12_possible_172 rfl (lv_at hl 1 rfl) ?_
                        refine lv_iconst (v := (1 : Int32)) hx hb dX12_possible_173 (by decide) ?_
                        refine lv_icmp_ne (tgt := 208) hx hb dX12_possible_174 (by decide) (fun hc => ?_) (fun hc => ?_)
                        · replace hf := wb_f hc hf
                          exact J208 I0_l164 L0_l164 M0_l164 v6 y126_7 y126_8 y164_9 H locs hP hD hS ls (lv_sub hl [0, 1, 2, 3, 4, 5, 6, 7] rfl) hf
                        · replace hf := wb_t hc hf
                          refine lv_iload hx hb dX12_possible_177 (lv_at hl 7 rfl) ?_
                          refine lv_if_ne (tgt := 195) hx hb dX12_possible_179 (by decide) (fun hc => ?_) (fun hc => ?_)
                          · replace hf := wb_f hc hf
                            refine lv_iconst (v := (1 : Int32)) hx hb dX12_possible_195 (by decide) ?_
                            refine lv_goto (tgt := 200) hx hb dX12_possible_196 (by decide) ?_
                            refine lv_istore (lv' := [(9, .int (1 : Int32)), (0, .ref (a0 0)), (3, .int x3), (4, .int y71_4), (5, .int r1), (6, .int v6), (7, .int y126_7), (8, .int y126_8), (10, .int y164_10)]) hx hb dX12_possible_200 hl (by decide) rfl (fun ls hl => ?_)
                            obtain ⟨v7, ev7, hf⟩ := wb_v hf
                            refine lv_iinc (v := v7) (lv' := [(10, .int v7), (9, .int (1 : Int32)), (0, .ref (a0 0)), (3, .int x3), (4, .int y71_4), (5, .int r1), (6, .int v6), (7, .int y126_7), (8, .int y126_8)]) hx hb dX12_possible_202 hl (k := 8) rfl (by rw [ev7]; rfl) (by decide) rfl (fun ls hl => ?_)
                            refine lv_goto (tgt := 164) hx hb dX12_possible_205 (by decide) ?_
                            exact ih164 I0_l164 L0_l164 M0_l164 (1 : Int32) v7 H locs hP hD hS ls (lv_sub hl [2, 3, 4, 5, 6, 7, 8, 1, 0] rfl) hf
                          · replace hf := wb_t hc hf
                            refine lv_aload_n hx hb dX12_possible_182 rfl (lv_at hl 0 rfl) ?_
                            refine lv_iload hx hb dX12_possible_183 (lv_at hl 2 rfl) ?_
                            refine lv_iload hx hb dX12_possible_185 (lv_at hl 6 rfl) ?_
                            refine lv_iload hx hb dX12_possible_187 (lv_at hl 8 rfl) ?_
                            obtain ⟨r8, hr8, hf⟩ := wb_b hf
                            refine vp_callSi (W.runV (As := [.int y71_4, .int y126_8, .int y164_10]) (rest := []) ⟨hx, hb, hml, hown, hts⟩ (cn_X12_isHour l D cB cI cZ N a0 I0_l164 L0_l164 M0_l164 y71_4 y126_8 y164_10 r8 hr8) (cwV 3 hts gX12_possible_X12_isHour rfl rfl rfl cdX12_isHour ⟨Nat.le_of_ble_eq_true rfl, Nat.le_of_ble_eq_true rfl⟩) (wb_preV hP hK (wr_12 hK hP (q0 := 0) rfl)) rfl rfl hl.1 rfl (lv_room (Nat.le_of_ble_eq_true rfl)) dX12_possible_189 ⟨Nat.le_of_ble_eq_true rfl, Nat.le_of_ble_eq_true rfl⟩) (fun r9 e9 => ?_)
                            rw [e9]
                            refine lv_if_eq (tgt := 199) hx hb dX12_possible_192 (by decide) (fun hc => ?_) (fun hc => ?_)
                            · replace hf := wb_t hc hf
                              refine lv_iconst (v := (0 : Int32)) hx hb dX12_possible_199 (by decide) ?_
                              refine lv_istore (lv' := [(9, .int (0 : Int32)), (0, .ref (a0 0)), (3, .int x3), (4, .int y71_4), (5, .int r1), (6, .int v6), (7, .int y126_7), (8, .int y126_8), (10, .int y164_10)]) hx hb dX12_possible_200 hl (by decide) rfl (fun ls hl => ?_)
                              obtain ⟨v9, ev9, hf⟩ := wb_v hf
                              refine lv_iinc (v := v9) (lv' := [(10, .int v9), (9, .int (0 : Int32)), (0, .ref (a0 0)), (3, .int x3), (4, .int y71_4), (5, .int r1), (6, .int v6), (7, .int y126_7), (8, .int y126_8)]) hx hb dX12_possible_202 hl (k := 8) rfl (by rw [ev9]; rfl) (by decide) rfl (fun ls hl => ?_)
                              refine lv_goto (tgt := 164) hx hb dX12_possible_205 (by decide) ?_
                              exact ih164 I0_l164 L0_l164 M0_l164 (0 : Int32) v9 H locs hP hD hS ls (lv_sub hl [2, 3, 4, 5, 6, 7, 8, 1, 0] rfl) hf
                            · replace hf := wb_f hc hf
                              refine lv_iconst (v := (1 : Int32)) hx hb dX12_possible_195 (by decide) ?_
                              refine lv_goto (tgt := 200) hx hb dX12_possible_196 (by decide) ?_
                              refine lv_istore (lv' := [(9, .int (1 : Int32)), (0, .ref (a0 0)), (3, .int x3), (4, .int y71_4), (5, .int r1), (6, .int v6), (7, .int y126_7), (8, .int y126_8), (10, .int y164_10)]) hx hb dX12_possible_200 hl (by decide) rfl (fun ls hl => ?_)
                              obtain ⟨v10, ev10, hf⟩ := wb_v hf
                              refine lv_iinc (v := v10) (lv' := [(10, .int v10), (9, .int (1 : Int32)), (0, .ref (a0 0)), (3, .int x3), (4, .int y71_4), (5, .int r1), (6, .int v6), (7, .int y126_7), (8, .int y126_8)]) hx hb dX12_possible_202 hl (k := 8) rfl (by rw [ev10]; rfl) (by decide) rfl (fun ls hl => ?_)
                              refine lv_goto (tgt := 164) hx hb dX12_possible_205 (by decide) ?_
                              exact ih164 I0_l164 L0_l164 M0_l164 (1 : Int32) v10 H locs hP hD hS ls (lv_sub hl [2, 3, 4, 5, 6, 7, 8, 1, 0] rfl) hf
                  exact Lh164 N I0_l126 L0_l126 M0_l126 (0 : Int32) (0 : Int32) H locs hP hD hS ls (lv_sub hl [3, 4, 5, 6, 2, 7, 8, 1, 0] rfl) hf
                · replace hf := wb_f hc hf
                  refine lv_goto (tgt := 222) hx hb dX12_possible_149 (by decide) ?_
                  obtain ⟨v11, ev11, hf⟩ := wb_v hf
                  refine lv_iinc (v := v11) (lv' := [(8, .int v11), (0, .ref (a0 0)), (3, .int x3), (4, .int y71_4), (5, .int r1), (6, .int y126_6), (7, .int y126_7)]) hx hb dX12_possible_222 hl (k := 6) rfl (by rw [ev11]; rfl) (by decide) rfl (fun ls hl => ?_)
                  refine lv_goto (tgt := 126) hx hb dX12_possible_225 (by decide) ?_
                  exact ih126 I0_l126 L0_l126 M0_l126 y126_6 y126_7 v11 H locs hP hD hS ls (lv_sub hl [1, 2, 3, 4, 5, 6, 0] rfl) hf
          exact Lh126 N I0_l88 L0_l88 M0_l88 y88_6 (0 : Int32) (0 : Int32) H locs hP hD hS ls (lv_sub hl [1, 2, 3, 4, 5, 6, 0] rfl) hf
        · replace hf := wb_f hc hf
          refine lv_aload_n hx hb dX12_possible_94 rfl (lv_at hl 0 rfl) ?_
          refine lv_iload hx hb dX12_possible_95 (lv_at hl 2 rfl) ?_
          refine lv_iload hx hb dX12_possible_97 (lv_at hl 6 rfl) ?_
          refine lv_iconst (v := (0 : Int32)) hx hb dX12_possible_99 (by decide) ?_
          obtain ⟨r12, hr12, hf⟩ := wb_b hf
          refine vp_callSi (W.runV (As := [.int y71_4, .int y88_8, .int (0 : Int32)]) (rest := []) ⟨hx, hb, hml, hown, hts⟩ (cn_X12_agrees l D cB cI cZ N a0 I0_l88 L0_l88 M0_l88 y71_4 y88_8 (0 : Int32) r12 hr12) (cwV 3 hts gX12_possible_X12_agrees rfl rfl rfl cdX12_agrees ⟨Nat.le_of_ble_eq_true rfl, Nat.le_of_ble_eq_true rfl⟩) (wb_preV hP hK (wr_12 hK hP (q0 := 0) rfl)) rfl rfl hl.1 rfl (lv_room (Nat.le_of_ble_eq_true rfl)) dX12_possible_100 ⟨Nat.le_of_ble_eq_true rfl, Nat.le_of_ble_eq_true rfl⟩) (fun r9 e9 => ?_)
          rw [e9]
          refine lv_iload hx hb dX12_possible_103 (lv_at hl 3 rfl) ?_
          refine lv_icmp_ne (tgt := 117) hx hb dX12_possible_105 (by decide) (fun hc => ?_) (fun hc => ?_)
          · replace hf := wb_f hc hf
            obtain ⟨v13, ev13, hf⟩ := wb_v hf
            refine lv_iinc (v := v13) (lv' := [(8, .int v13), (0, .ref (a0 0)), (3, .int x3), (4, .int y71_4), (5, .int r1), (6, .int y88_6), (7, .int (0 : Int32))]) hx hb dX12_possible_117 hl (k := 6) rfl (by rw [ev13]; rfl) (by decide) rfl (fun ls hl => ?_)
            refine lv_goto (tgt := 88) hx hb dX12_possible_120 (by decide) ?_
            exact ih88 I0_l88 L0_l88 M0_l88 y88_6 v13 H locs hP hD hS ls (lv_sub hl [1, 2, 3, 4, 5, 6, 0] rfl) hf
          · replace hf := wb_t hc hf
            refine lv_iload hx hb dX12_possible_108 (lv_at hl 4 rfl) ?_
            refine lv_iconst (v := (1 : Int32)) hx hb dX12_possible_110 (by decide) ?_
            refine lv_iload hx hb dX12_possible_111 (lv_at hl 6 rfl) ?_
            refine lv_ishl hx hb dX12_possible_113 ?_
            refine lv_ior hx hb dX12_possible_114 ?_
            obtain ⟨v14, ev14, hf⟩ := wb_v hf
            refine wb_topi ev14 ?_
            refine lv_istore (lv' := [(6, .int v14), (0, .ref (a0 0)), (3, .int x3), (4, .int y71_4), (5, .int r1), (7, .int (0 : Int32)), (8, .int y88_8)]) hx hb dX12_possible_115 hl (by decide) rfl (fun ls hl => ?_)
            obtain ⟨v15, ev15, hf⟩ := wb_v hf
            refine lv_iinc (v := v15) (lv' := [(8, .int v15), (6, .int v14), (0, .ref (a0 0)), (3, .int x3), (4, .int y71_4), (5, .int r1), (7, .int (0 : Int32))]) hx hb dX12_possible_117 hl (k := 6) rfl (by rw [ev15]; rfl) (by decide) rfl (fun ls hl => ?_)
            refine lv_goto (tgt := 88) hx hb dX12_possible_120 (by decide) ?_
            exact ih88 I0_l88 L0_l88 M0_l88 v14 v15 H locs hP hD hS ls (lv_sub hl [2, 3, 4, 5, 1, 6, 0] rfl) hf
    exact Lh88 N I0_j71 L0_j71 M0_j71 (0 : Int32) (0 : Int32) H locs hP hD hS ls (lv_sub hl [4, 5, 6, 3, 2, 1, 0] rfl) hf
  have J24 : ∀ (I0_j24 : Nat → Int32) (L0_j24 : Int64) (M0_j24 : Nat → Nat → Int32) (z24_0 : Int32) (H : Heap) (locs : List Loc), va_P D vwCl (wWX12 cB cI cZ a0 I0_j24 L0_j24 M0_j24) H → va_D A (wWX12 cB cI cZ a0 I0_j24 L0_j24 M0_j24) → va_S A s.heap H locs → ∀ (ls : Array Slot), lv_has ls 11 [(0, .ref (a0 0)), (1, .int x1), (2, .int x2), (3, .int x3)] → fX12_possible_J24 N x1 x2 x3 I0_j24 L0_j24 M0_j24 z24_0 = some R → W p l e (headSpec wsX12_possible { frames := 4, cells := 0, slots := 0, locals := 101 }).room s m [.ref (a0 0), .int x1, .int x2, .int x3].toArray below meth c H locs 0 0 (MQ below (va_Qi (fun r (_ : Unit) => r = R.1) (fun _ t => wb_post D [(cB, .byte), (cI, .int), (cZ, .boolean)] A (wWX12 cB cI cZ a0 R.2.1 R.2.2.1 R.2.2.2) t) A) [.ref (a0 0), .int x1, .int x2, .int x3].toArray s 0 0 A) (F0 m 24 ls [.int z24_0, .ref (a0 0)]) := by
    intro I0_j24 L0_j24 M0_j24 z24_0 H locs hP hD hS ls hl hf
    unfold fX12_possible_J24 at hf
    refine lv_iconst (v := (1 : Int32)) hx hb dX12_possible_24 (by decide) ?_
    obtain ⟨r16, hr16, hf⟩ := wb_b hf
    have hPc := hP
    have hDc := hD
    have hFc := wj_F hDc hS hA
    refine va_calli (va_runV (As := [.int z24_0, .int (1 : Int32)]) (rest := []) ⟨hx, hb, hml, hown, hts⟩ (cn_X12_right l D cB cI cZ N a0 I0_j24 L0_j24 M0_j24 z24_0 (1 : Int32) H.size r16 hr16) (cwV 2 hts gX12_possible_X12_right rfl rfl rfl cdX12_right ⟨Nat.le_of_ble_eq_true rfl, Nat.le_of_ble_eq_true rfl⟩) (wb_preDV hPc hK hDc (wr_12 hK hP (q0 := 0) rfl)) rfl rfl hl.1 rfl (lv_room (Nat.le_of_ble_eq_true rfl)) dX12_possible_25 ⟨Nat.le_of_ble_eq_true rfl, Nat.le_of_ble_eq_true rfl⟩) hS (fun q _ h => hFc q h) hFc (fun r9 u t H locs ht hvm hw hB hz1 hk1 hS => ?_)
    obtain ⟨hP, hD⟩ := wj_0 hFc ht hB
    rw [hw]
    refine lv_if_ne (tgt := 33) hx hb dX12_possible_28 (by decide) (fun hc => ?_) (fun hc => ?_)
    · replace hf := wb_f hc hf
      refine lv_bipush (v := (20 : Int32)) hx hb dX12_possible_33 (by decide) ?_
      refine lv_iload_n hx hb dX12_possible_35 rfl (lv_at hl 1 rfl) ?_
      refine lv_imul hx hb dX12_possible_36 ?_
      refine lv_iload_n hx hb dX12_possible_37 rfl (lv_at hl 2 rfl) ?_
      refine lv_iadd hx hb dX12_possible_38 ?_
      obtain ⟨v17, ev17, hf⟩ := wb_v hf
      refine wb_topi ev17 ?_
      refine lv_istore (lv' := [(4, .int v17), (0, .ref (a0 0)), (1, .int x1), (2, .int x2), (3, .int x3)]) hx hb dX12_possible_39 hl (by decide) rfl (fun ls hl => ?_)
      refine lv_aload_n hx hb dX12_possible_41 rfl (lv_at hl 1 rfl) ?_
      refine lv_iload hx hb dX12_possible_42 (lv_at hl 0 rfl) ?_
      refine lv_bipush (v := (7 : Int32)) hx hb dX12_possible_44 (by decide) ?_
      obtain ⟨r18, hr18, hf⟩ := wb_b hf
      refine vp_callSi (W.runV (As := [.int v17, .int (7 : Int32)]) (rest := []) ⟨hx, hb, hml, hown, hts⟩ (cn_X12_at l D cB cI cZ N a0 r16.2.1 r16.2.2.1 r16.2.2.2 v17 (7 : Int32) r18 hr18) (cwV 2 hts gX12_possible_X12_at rfl rfl rfl cdX12_at ⟨Nat.le_of_ble_eq_true rfl, Nat.le_of_ble_eq_true rfl⟩) (wb_preV hP hK (wr_12 hK hP (q0 := 0) rfl)) rfl rfl hl.1 rfl (lv_room (Nat.le_of_ble_eq_true rfl)) dX12_possible_46 ⟨Nat.le_of_ble_eq_true rfl, Nat.le_of_ble_eq_true rfl⟩) (fun r9 e9 => ?_)
      rw [e9]
      refine lv_iconst (v := (-1 : Int32)) hx hb dX12_possible_49 (by decide) ?_
      refine lv_icmp_eq (tgt := 69) hx hb dX12_possible_50 (by decide) (fun hc => ?_) (fun hc => ?_)
      · replace hf := wb_t hc hf
        refine lv_iconst (v := (-1 : Int32)) hx hb dX12_possible_69 (by decide) ?_
        exact W.iret (v := (-1 : Int32)) hx hb hr (fun t ht hW => by rw [← Option.some.inj hf]; exact ⟨⟨(-1 : Int32), (), rfl, rfl, by rw [ht]; exact hP, va_K.moved hW.alike hK, hD⟩, hS.F ht⟩) hS.2.2 dX12_possible_70
      · replace hf := wb_f hc hf
        refine lv_iload_n hx hb dX12_possible_53 rfl (lv_at hl 4 rfl) ?_
        refine lv_iconst (v := (1 : Int32)) hx hb dX12_possible_54 (by decide) ?_
        refine lv_icmp_ne (tgt := 71) hx hb dX12_possible_55 (by decide) (fun hc => ?_) (fun hc => ?_)
        · replace hf := wb_f hc hf
          exact J71 r16.2.1 r16.2.2.1 r16.2.2.2 v17 H locs hP hD hS ls (lv_sub hl [1, 4, 0] rfl) hf
        · replace hf := wb_t hc hf
          refine lv_aload_n hx hb dX12_possible_58 rfl (lv_at hl 1 rfl) ?_
          refine lv_iload hx hb dX12_possible_59 (lv_at hl 0 rfl) ?_
          refine lv_iconst (v := (0 : Int32)) hx hb dX12_possible_61 (by decide) ?_
          obtain ⟨r19, hr19, hf⟩ := wb_b hf
          refine vp_callSi (W.runV (As := [.int v17, .int (0 : Int32)]) (rest := []) ⟨hx, hb, hml, hown, hts⟩ (cn_X12_at l D cB cI cZ N a0 r16.2.1 r16.2.2.1 r16.2.2.2 v17 (0 : Int32) r19 hr19) (cwV 2 hts gX12_possible_X12_at rfl rfl rfl cdX12_at ⟨Nat.le_of_ble_eq_true rfl, Nat.le_of_ble_eq_true rfl⟩) (wb_preV hP hK (wr_12 hK hP (q0 := 0) rfl)) rfl rfl hl.1 rfl (lv_room (Nat.le_of_ble_eq_true rfl)) dX12_possible_62 ⟨Nat.le_of_ble_eq_true rfl, Nat.le_of_ble_eq_true rfl⟩) (fun r9 e9 => ?_)
          rw [e9]
          refine lv_iconst (v := (-1 : Int32)) hx hb dX12_possible_65 (by decide) ?_
          refine lv_icmp_ne (tgt := 71) hx hb dX12_possible_66 (by decide) (fun hc => ?_) (fun hc => ?_)
          · replace hf := wb_f hc hf
            exact J71 r16.2.1 r16.2.2.1 r16.2.2.2 v17 H locs hP hD hS ls (lv_sub hl [1, 4, 0] rfl) hf
          · replace hf := wb_t hc hf
            refine lv_iconst (v := (-1 : Int32)) hx hb dX12_possible_69 (by decide) ?_
            exact W.iret (v := (-1 : Int32)) hx hb hr (fun t ht hW => by rw [← Option.some.inj hf]; exact ⟨⟨(-1 : Int32), (), rfl, rfl, by rw [ht]; exact hP, va_K.moved hW.alike hK, hD⟩, hS.F ht⟩) hS.2.2 dX12_possible_70
    · replace hf := wb_t hc hf
      refine lv_iconst (v := (0 : Int32)) hx hb dX12_possible_31 (by decide) ?_
      exact W.iret (v := (0 : Int32)) hx hb hr (fun t ht hW => by rw [← Option.some.inj hf]; exact ⟨⟨(0 : Int32), (), rfl, rfl, by rw [ht]; exact hP, va_K.moved hW.alike hK, hD⟩, hS.F ht⟩) hS.2.2 dX12_possible_32
  have J19 : ∀ (I0_j19 : Nat → Int32) (L0_j19 : Int64) (M0_j19 : Nat → Nat → Int32) (H : Heap) (locs : List Loc), va_P D vwCl (wWX12 cB cI cZ a0 I0_j19 L0_j19 M0_j19) H → va_D A (wWX12 cB cI cZ a0 I0_j19 L0_j19 M0_j19) → va_S A s.heap H locs → ∀ (ls : Array Slot), lv_has ls 11 [(0, .ref (a0 0)), (1, .int x1), (2, .int x2), (3, .int x3)] → fX12_possible_J19 N x1 x2 x3 I0_j19 L0_j19 M0_j19 = some R → W p l e (headSpec wsX12_possible { frames := 4, cells := 0, slots := 0, locals := 101 }).room s m [.ref (a0 0), .int x1, .int x2, .int x3].toArray below meth c H locs 0 0 (MQ below (va_Qi (fun r (_ : Unit) => r = R.1) (fun _ t => wb_post D [(cB, .byte), (cI, .int), (cZ, .boolean)] A (wWX12 cB cI cZ a0 R.2.1 R.2.2.1 R.2.2.2) t) A) [.ref (a0 0), .int x1, .int x2, .int x3].toArray s 0 0 A) (F0 m 19 ls [.ref (a0 0)]) := by
    intro I0_j19 L0_j19 M0_j19 H locs hP hD hS ls hl hf
    unfold fX12_possible_J19 at hf
    refine lv_iconst (v := (1 : Int32)) hx hb dX12_possible_19 (by decide) ?_
    refine lv_goto (tgt := 24) hx hb dX12_possible_20 (by decide) ?_
    exact J24 I0_j19 L0_j19 M0_j19 (1 : Int32) H locs hP hD hS ls (lv_sub hl [0, 1, 2, 3] rfl) hf
  refine lv_aload_n hx hb dX12_possible_0 rfl (lv_at hl 0 rfl) ?_
  refine lv_iload_n hx hb dX12_possible_1 rfl (lv_at hl 1 rfl) ?_
  refine lv_iload_n hx hb dX12_possible_2 rfl (lv_at hl 2 rfl) ?_
  obtain ⟨r20, hr20, hf⟩ := wb_b hf
  have hPc := hP
  have hDc := hD
  have hFc := wj_F hDc hS hA
  refine va_calli (va_runV (As := [.int x1, .int x2]) (rest := []) ⟨hx, hb, hml, hown, hts⟩ (cn_X12_isWheel l D cB cI cZ N a0 I0 L0 M0 x1 x2 H.size r20 hr20) (cwV 2 hts gX12_possible_X12_isWheel rfl rfl rfl cdX12_isWheel ⟨Nat.le_of_ble_eq_true rfl, Nat.le_of_ble_eq_true rfl⟩) (wb_preDV hPc hK hDc (wr_12 hK hP (q0 := 0) rfl)) rfl rfl hl.1 rfl (lv_room (Nat.le_of_ble_eq_true rfl)) dX12_possible_3 ⟨Nat.le_of_ble_eq_true rfl, Nat.le_of_ble_eq_true rfl⟩) hS (fun q _ h => hFc q h) hFc (fun r9 u t H locs ht hvm hw hB hz1 hk1 hS => ?_)
  obtain ⟨hP, hD⟩ := wj_0 hFc ht hB
  rw [hw]
  refine lv_if_eq (tgt := 31) hx hb dX12_possible_6 (by decide) (fun hc => ?_) (fun hc => ?_)
  · replace hf := wb_t hc hf
    refine lv_iconst (v := (0 : Int32)) hx hb dX12_possible_31 (by decide) ?_
    exact W.iret (v := (0 : Int32)) hx hb hr (fun t ht hW => by rw [← Option.some.inj hf]; exact ⟨⟨(0 : Int32), (), rfl, rfl, by rw [ht]; exact hP, va_K.moved hW.alike hK, hD⟩, hS.F ht⟩) hS.2.2 dX12_possible_32
  · replace hf := wb_f hc hf
    refine lv_aload_n hx hb dX12_possible_9 rfl (lv_at hl 0 rfl) ?_
    refine lv_iload_n hx hb dX12_possible_10 rfl (lv_at hl 3 rfl) ?_
    refine lv_if_eq (tgt := 19) hx hb dX12_possible_11 (by decide) (fun hc => ?_) (fun hc => ?_)
    · replace hf := wb_t hc hf
      exact J19 r20.2.1 r20.2.2.1 r20.2.2.2 H locs hP hD hS ls (lv_sub hl [0, 1, 2, 3] rfl) hf
    · replace hf := wb_f hc hf
      refine lv_iload_n hx hb dX12_possible_14 rfl (lv_at hl 3 rfl) ?_
      refine lv_iconst (v := (1 : Int32)) hx hb dX12_possible_15 (by decide) ?_
      refine lv_icmp_ne (tgt := 23) hx hb dX12_possible_16 (by decide) (fun hc => ?_) (fun hc => ?_)
      · replace hf := wb_f hc hf
        refine lv_iconst (v := (0 : Int32)) hx hb dX12_possible_23 (by decide) ?_
        exact J24 r20.2.1 r20.2.2.1 r20.2.2.2 (0 : Int32) H locs hP hD hS ls (lv_sub hl [0, 1, 2, 3] rfl) hf
      · replace hf := wb_t hc hf
        exact J19 r20.2.1 r20.2.2.1 r20.2.2.2 H locs hP hD hS ls (lv_sub hl [0, 1, 2, 3] rfl) hf

set_option maxHeartbeats 4000000 in
set_option maxRecDepth 100000 in
theorem cn_X12_lot (l : Launch) (D : va_G) (cB cI cZ : ClassId) (N : Nat) (a0 : Nat → Nat) (I0 : Nat → Int32) (L0 : Int64) (M0 : Nat → Nat → Int32) (x1 : Int32) (x2 : Int32) (x3 : Int32) (sz : Nat) (R : Int32 × (Nat → Int32) × Int64 × (Nat → Nat → Int32)) (hf : fX12_lot N I0 L0 M0 x1 x2 x3 = some R) : Met l yX12_lot wsX12_lot ({ frames := 3, cells := 0, slots := 0, locals := 69 }) (va_Pc [.ref (a0 0), .int x1, .int x2, .int x3] (wb_preD D [(cB, .byte), (cI, .int), (cZ, .boolean)] (wWX12 cB cI cZ a0 I0 L0 M0) sz)) (va_Qi (fun r (_ : Unit) => r = R.1) (fun _ t => wb_post D [(cB, .byte), (cI, .int), (cZ, .boolean)] (va_A (wWX12 cB cI cZ a0 I0 L0 M0) sz) (wWX12 cB cI cZ a0 R.2.1 R.2.2.1 R.2.2.2) t) (va_A (wWX12 cB cI cZ a0 I0 L0 M0) sz)) 0 0 (va_A (wWX12 cB cI cZ a0 I0 L0 M0) sz) := by
  refine Met.ofW (cc := cX12_lot) (maxL := 10) (ret := (some .int)) pn_X12 rfl ?_
  intro p e s m args below meth c s₁ B hml hv
  obtain ⟨rfl, hsz, hP, hK, hD0⟩ := hv
  have hx := B.exec
  have hb := B.bytes
  have hr := B.returns
  have hts := atoms_spec (ws := wsX12_lot) B.pre
  have hown : s.vm.findClass RX12 = some m.cls := (findClass_of_methodNamed B.named :)
  have hlocks := B.notSynchronized
  subst hsz
  have hD := hD0.self (sz := s.heap.size)
  generalize hAe : va_A (wWX12 cB cI cZ a0 I0 L0 M0) s.heap.size = A at hD ⊢
  have hA : ∀ q : Nat, s.heap.size ≤ q → A q := fun q h => by rw [← hAe]; exact Or.inr h
  have hS : va_S A s.heap s.heap [] := va_S.rf
  have hl := lv_entry ([.ref (a0 0), .int x1, .int x2, .int x3]) (n := 10) (Nat.le_of_ble_eq_true rfl)
  rw [lg_entry_eq]
  generalize (lg_sl ([.ref (a0 0), .int x1, .int x2, .int x3]) ++ List.replicate (10 - (lg_sl ([.ref (a0 0), .int x1, .int x2, .int x3])).length) Slot.unset).toArray = ls at hl ⊢
  have hl : lv_has ls 10 [(0, .ref (a0 0)), (1, .int x1), (2, .int x2), (3, .int x3)] := hl
  unfold fX12_lot at hf
  obtain ⟨H, hHe⟩ : ∃ H : Heap, H = s.heap := ⟨_, rfl⟩
  obtain ⟨locs, hle⟩ : ∃ locs : List Loc, locs = [] := ⟨_, rfl⟩
  refine wb_start (H := H) (locs := locs) hHe hle ?_
  rw [← hHe] at hP
  have hS : va_S A s.heap H locs := by rw [hHe, hle]; exact va_S.rf
  have J165 : ∀ (I0_j165 : Nat → Int32) (L0_j165 : Int64) (M0_j165 : Nat → Nat → Int32) (y165_4 : Int32) (z165_0 : Int32) (H : Heap) (locs : List Loc), va_P D vwCl (wWX12 cB cI cZ a0 I0_j165 L0_j165 M0_j165) H → va_D A (wWX12 cB cI cZ a0 I0_j165 L0_j165 M0_j165) → va_S A s.heap H locs → ∀ (ls : Array Slot), lv_has ls 10 [(0, .ref (a0 0)), (3, .int x3), (4, .int y165_4)] → fX12_lot_J165 N x1 x2 x3 I0_j165 L0_j165 M0_j165 y165_4 z165_0 = some R → W p l e (headSpec wsX12_lot { frames := 3, cells := 0, slots := 0, locals := 69 }).room s m [.ref (a0 0), .int x1, .int x2, .int x3].toArray below meth c H locs 0 0 (MQ below (va_Qi (fun r (_ : Unit) => r = R.1) (fun _ t => wb_post D [(cB, .byte), (cI, .int), (cZ, .boolean)] A (wWX12 cB cI cZ a0 R.2.1 R.2.2.1 R.2.2.2) t) A) [.ref (a0 0), .int x1, .int x2, .int x3].toArray s 0 0 A) (F0 m 165 ls [.int z165_0]) := by
    intro I0_j165 L0_j165 M0_j165 y165_4 z165_0 H locs hP hD hS ls hl hf
    unfold fX12_lot_J165 at hf
    refine lv_istore (lv' := [(9, .int z165_0), (0, .ref (a0 0)), (3, .int x3), (4, .int y165_4)]) hx hb dX12_lot_165 hl (by decide) rfl (fun ls hl => ?_)
    refine lv_iload_n hx hb dX12_lot_167 rfl (lv_at hl 2 rfl) ?_
    refine lv_if_ne (tgt := 176) hx hb dX12_lot_168 (by decide) (fun hc => ?_) (fun hc => ?_)
    · replace hf := wb_f hc hf
      refine lv_aload_n hx hb dX12_lot_176 rfl (lv_at hl 1 rfl) ?_
      refine lv_aload_n hx hb dX12_lot_177 rfl (lv_at hl 1 rfl) ?_
      refine lv_iload hx hb dX12_lot_178 (lv_at hl 3 rfl) ?_
      refine lv_bipush (v := (8 : Int32)) hx hb dX12_lot_180 (by decide) ?_
      obtain ⟨r1, hr1, hf⟩ := wb_b hf
      refine vp_callSi (W.runV (As := [.int y165_4, .int (8 : Int32)]) (rest := [.ref (a0 0)]) ⟨hx, hb, hml, hown, hts⟩ (cn_X12_at l D cB cI cZ N a0 I0_j165 L0_j165 M0_j165 y165_4 (8 : Int32) r1 hr1) (cwV 2 hts gX12_lot_X12_at rfl rfl rfl cdX12_at ⟨Nat.le_of_ble_eq_true rfl, Nat.le_of_ble_eq_true rfl⟩) (wb_preV hP hK (wr_12 hK hP (q0 := 0) rfl)) rfl rfl hl.1 rfl (lv_room (Nat.le_of_ble_eq_true rfl)) dX12_lot_182 ⟨Nat.le_of_ble_eq_true rfl, Nat.le_of_ble_eq_true rfl⟩) (fun r9 e9 => ?_)
      rw [e9]
      refine lv_iload hx hb dX12_lot_185 (lv_at hl 0 rfl) ?_
      obtain ⟨r2, hr2, hf⟩ := wb_b hf
      refine vp_callSi (W.runV (As := [.int r1, .int z165_0]) (rest := []) ⟨hx, hb, hml, hown, hts⟩ (cn_X12_costOf l D cB cI cZ N a0 I0_j165 L0_j165 M0_j165 r1 z165_0 r2 hr2) (cwV 2 hts gX12_lot_X12_costOf rfl rfl rfl cdX12_costOf ⟨Nat.le_of_ble_eq_true rfl, Nat.le_of_ble_eq_true rfl⟩) (wb_preV hP hK (wr_12 hK hP (q0 := 0) rfl)) rfl rfl hl.1 rfl (lv_room (Nat.le_of_ble_eq_true rfl)) dX12_lot_187 ⟨Nat.le_of_ble_eq_true rfl, Nat.le_of_ble_eq_true rfl⟩) (fun r9 e9 => ?_)
      rw [e9]
      exact W.iret (v := r2) hx hb hr (fun t ht hW => by rw [← Option.some.inj hf]; exact ⟨⟨r2, (), rfl, rfl, by rw [ht]; exact hP, va_K.moved hW.alike hK, hD⟩, hS.F ht⟩) hS.2.2 dX12_lot_190
    · replace hf := wb_t hc hf
      refine lv_iload hx hb dX12_lot_171 (lv_at hl 0 rfl) ?_
      refine lv_goto (tgt := 190) hx hb dX12_lot_173 (by decide) ?_
      exact W.iret (v := z165_0) hx hb hr (fun t ht hW => by rw [← Option.some.inj hf]; exact ⟨⟨z165_0, (), rfl, rfl, by rw [ht]; exact hP, va_K.moved hW.alike hK, hD⟩, hS.F ht⟩) hS.2.2 dX12_lot_190
  have J106 : ∀ (I0_j106 : Nat → Int32) (L0_j106 : Int64) (M0_j106 : Nat → Nat → Int32) (y106_4 : Int32) (y106_5 : Int32) (y106_6 : Int32) (y106_7 : Int32) (H : Heap) (locs : List Loc), va_P D vwCl (wWX12 cB cI cZ a0 I0_j106 L0_j106 M0_j106) H → va_D A (wWX12 cB cI cZ a0 I0_j106 L0_j106 M0_j106) → va_S A s.heap H locs → ∀ (ls : Array Slot), lv_has ls 10 [(0, .ref (a0 0)), (3, .int x3), (4, .int y106_4), (5, .int y106_5), (6, .int y106_6), (7, .int y106_7)] → fX12_lot_J106 N x1 x2 x3 I0_j106 L0_j106 M0_j106 y106_4 y106_5 y106_6 y106_7 = some R → W p l e (headSpec wsX12_lot { frames := 3, cells := 0, slots := 0, locals := 69 }).room s m [.ref (a0 0), .int x1, .int x2, .int x3].toArray below meth c H locs 0 0 (MQ below (va_Qi (fun r (_ : Unit) => r = R.1) (fun _ t => wb_post D [(cB, .byte), (cI, .int), (cZ, .boolean)] A (wWX12 cB cI cZ a0 R.2.1 R.2.2.1 R.2.2.2) t) A) [.ref (a0 0), .int x1, .int x2, .int x3].toArray s 0 0 A) (F0 m 106 ls []) := by
    intro I0_j106 L0_j106 M0_j106 y106_4 y106_5 y106_6 y106_7 H locs hP hD hS ls hl hf
    unfold fX12_lot_J106 at hf
    refine lv_iload hx hb dX12_lot_106 (lv_at hl 4 rfl) ?_
    refine lv_iload hx hb dX12_lot_108 (lv_at hl 3 rfl) ?_
    refine lv_isub hx hb dX12_lot_110 ?_
    refine lv_sipush (v := (360 : Int32)) hx hb dX12_lot_111 (by decide) ?_
    refine lv_iadd hx hb dX12_lot_114 ?_
    refine lv_sipush (v := (360 : Int32)) hx hb dX12_lot_115 (by decide) ?_
    refine lv_irem hx hb dX12_lot_118 (by decide) ?_
    obtain ⟨v3, ev3, hf⟩ := wb_v hf
    refine wb_topi ev3 ?_
    refine lv_istore (lv' := [(8, .int v3), (0, .ref (a0 0)), (3, .int x3), (4, .int y106_4), (5, .int y106_5), (6, .int y106_6), (7, .int y106_7)]) hx hb dX12_lot_119 hl (by decide) rfl (fun ls hl => ?_)
    refine lv_iload hx hb dX12_lot_121 (lv_at hl 6 rfl) ?_
    refine lv_iload hx hb dX12_lot_123 (lv_at hl 4 rfl) ?_
    refine lv_isub hx hb dX12_lot_125 ?_
    refine lv_sipush (v := (360 : Int32)) hx hb dX12_lot_126 (by decide) ?_
    refine lv_iadd hx hb dX12_lot_129 ?_
    refine lv_sipush (v := (360 : Int32)) hx hb dX12_lot_130 (by decide) ?_
    refine lv_irem hx hb dX12_lot_133 (by decide) ?_
    refine lv_sipush (v := (180 : Int32)) hx hb dX12_lot_134 (by decide) ?_
    refine lv_icmp_ge (tgt := 152) hx hb dX12_lot_137 (by decide) (fun hc => ?_) (fun hc => ?_)
    · replace hf := wb_t hc hf
      refine lv_iload hx hb dX12_lot_152 (lv_at hl 6 rfl) ?_
      refine lv_iload hx hb dX12_lot_154 (lv_at hl 0 rfl) ?_
      refine lv_isub hx hb dX12_lot_156 ?_
      refine lv_sipush (v := (360 : Int32)) hx hb dX12_lot_157 (by decide) ?_
      refine lv_iadd hx hb dX12_lot_160 ?_
      refine lv_sipush (v := (360 : Int32)) hx hb dX12_lot_161 (by decide) ?_
      refine lv_irem hx hb dX12_lot_164 (by decide) ?_
      exact J165 I0_j106 L0_j106 M0_j106 y106_4 (((y106_7 - v3) + (360 : Int32)) - ((y106_7 - v3) + (360 : Int32)) / (360 : Int32) * (360 : Int32)) H locs hP hD hS ls (lv_sub hl [1, 2, 3] rfl) hf
    · replace hf := wb_f hc hf
      refine lv_iload hx hb dX12_lot_140 (lv_at hl 6 rfl) ?_
      refine lv_iload hx hb dX12_lot_142 (lv_at hl 0 rfl) ?_
      refine lv_iadd hx hb dX12_lot_144 ?_
      refine lv_sipush (v := (360 : Int32)) hx hb dX12_lot_145 (by decide) ?_
      refine lv_irem hx hb dX12_lot_148 (by decide) ?_
      refine lv_goto (tgt := 165) hx hb dX12_lot_149 (by decide) ?_
      exact J165 I0_j106 L0_j106 M0_j106 y106_4 ((y106_7 + v3) - (y106_7 + v3) / (360 : Int32) * (360 : Int32)) H locs hP hD hS ls (lv_sub hl [1, 2, 3] rfl) hf
  have J24 : ∀ (I0_j24 : Nat → Int32) (L0_j24 : Int64) (M0_j24 : Nat → Nat → Int32) (z24_0 : Int32) (H : Heap) (locs : List Loc), va_P D vwCl (wWX12 cB cI cZ a0 I0_j24 L0_j24 M0_j24) H → va_D A (wWX12 cB cI cZ a0 I0_j24 L0_j24 M0_j24) → va_S A s.heap H locs → ∀ (ls : Array Slot), lv_has ls 10 [(0, .ref (a0 0)), (1, .int x1), (2, .int x2), (3, .int x3)] → fX12_lot_J24 N x1 x2 x3 I0_j24 L0_j24 M0_j24 z24_0 = some R → W p l e (headSpec wsX12_lot { frames := 3, cells := 0, slots := 0, locals := 69 }).room s m [.ref (a0 0), .int x1, .int x2, .int x3].toArray below meth c H locs 0 0 (MQ below (va_Qi (fun r (_ : Unit) => r = R.1) (fun _ t => wb_post D [(cB, .byte), (cI, .int), (cZ, .boolean)] A (wWX12 cB cI cZ a0 R.2.1 R.2.2.1 R.2.2.2) t) A) [.ref (a0 0), .int x1, .int x2, .int x3].toArray s 0 0 A) (F0 m 24 ls [.int z24_0, .ref (a0 0)]) := by
    intro I0_j24 L0_j24 M0_j24 z24_0 H locs hP hD hS ls hl hf
    unfold fX12_lot_J24 at hf
    refine lv_iconst (v := (1 : Int32)) hx hb dX12_lot_24 (by decide) ?_
    obtain ⟨r4, hr4, hf⟩ := wb_b hf
    have hPc := hP
    have hDc := hD
    have hFc := wj_F hDc hS hA
    refine va_calli (va_runV (As := [.int z24_0, .int (1 : Int32)]) (rest := []) ⟨hx, hb, hml, hown, hts⟩ (cn_X12_right l D cB cI cZ N a0 I0_j24 L0_j24 M0_j24 z24_0 (1 : Int32) H.size r4 hr4) (cwV 2 hts gX12_lot_X12_right rfl rfl rfl cdX12_right ⟨Nat.le_of_ble_eq_true rfl, Nat.le_of_ble_eq_true rfl⟩) (wb_preDV hPc hK hDc (wr_12 hK hP (q0 := 0) rfl)) rfl rfl hl.1 rfl (lv_room (Nat.le_of_ble_eq_true rfl)) dX12_lot_25 ⟨Nat.le_of_ble_eq_true rfl, Nat.le_of_ble_eq_true rfl⟩) hS (fun q _ h => hFc q h) hFc (fun r9 u t H locs ht hvm hw hB hz1 hk1 hS => ?_)
    obtain ⟨hP, hD⟩ := wj_0 hFc ht hB
    rw [hw]
    refine lv_if_ne (tgt := 33) hx hb dX12_lot_28 (by decide) (fun hc => ?_) (fun hc => ?_)
    · replace hf := wb_f hc hf
      refine lv_bipush (v := (20 : Int32)) hx hb dX12_lot_33 (by decide) ?_
      refine lv_iload_n hx hb dX12_lot_35 rfl (lv_at hl 1 rfl) ?_
      refine lv_imul hx hb dX12_lot_36 ?_
      refine lv_iload_n hx hb dX12_lot_37 rfl (lv_at hl 2 rfl) ?_
      refine lv_iadd hx hb dX12_lot_38 ?_
      obtain ⟨v5, ev5, hf⟩ := wb_v hf
      refine wb_topi ev5 ?_
      refine lv_istore (lv' := [(4, .int v5), (0, .ref (a0 0)), (1, .int x1), (2, .int x2), (3, .int x3)]) hx hb dX12_lot_39 hl (by decide) rfl (fun ls hl => ?_)
      refine lv_aload_n hx hb dX12_lot_41 rfl (lv_at hl 1 rfl) ?_
      refine lv_iload hx hb dX12_lot_42 (lv_at hl 0 rfl) ?_
      refine lv_iconst (v := (0 : Int32)) hx hb dX12_lot_44 (by decide) ?_
      obtain ⟨r6, hr6, hf⟩ := wb_b hf
      refine vp_callSi (W.runV (As := [.int v5, .int (0 : Int32)]) (rest := []) ⟨hx, hb, hml, hown, hts⟩ (cn_X12_at l D cB cI cZ N a0 r4.2.1 r4.2.2.1 r4.2.2.2 v5 (0 : Int32) r6 hr6) (cwV 2 hts gX12_lot_X12_at rfl rfl rfl cdX12_at ⟨Nat.le_of_ble_eq_true rfl, Nat.le_of_ble_eq_true rfl⟩) (wb_preV hP hK (wr_12 hK hP (q0 := 0) rfl)) rfl rfl hl.1 rfl (lv_room (Nat.le_of_ble_eq_true rfl)) dX12_lot_45 ⟨Nat.le_of_ble_eq_true rfl, Nat.le_of_ble_eq_true rfl⟩) (fun r9 e9 => ?_)
      rw [e9]
      refine lv_istore (lv' := [(5, .int r6), (4, .int v5), (0, .ref (a0 0)), (1, .int x1), (2, .int x2), (3, .int x3)]) hx hb dX12_lot_48 hl (by decide) rfl (fun ls hl => ?_)
      refine lv_aload_n hx hb dX12_lot_50 rfl (lv_at hl 2 rfl) ?_
      refine lv_iload hx hb dX12_lot_51 (lv_at hl 1 rfl) ?_
      refine lv_iconst (v := (1 : Int32)) hx hb dX12_lot_53 (by decide) ?_
      obtain ⟨r7, hr7, hf⟩ := wb_b hf
      refine vp_callSi (W.runV (As := [.int v5, .int (1 : Int32)]) (rest := []) ⟨hx, hb, hml, hown, hts⟩ (cn_X12_at l D cB cI cZ N a0 r4.2.1 r4.2.2.1 r4.2.2.2 v5 (1 : Int32) r7 hr7) (cwV 2 hts gX12_lot_X12_at rfl rfl rfl cdX12_at ⟨Nat.le_of_ble_eq_true rfl, Nat.le_of_ble_eq_true rfl⟩) (wb_preV hP hK (wr_12 hK hP (q0 := 0) rfl)) rfl rfl hl.1 rfl (lv_room (Nat.le_of_ble_eq_true rfl)) dX12_lot_54 ⟨Nat.le_of_ble_eq_true rfl, Nat.le_of_ble_eq_true rfl⟩) (fun r9 e9 => ?_)
      rw [e9]
      refine lv_istore (lv' := [(6, .int r7), (5, .int r6), (4, .int v5), (0, .ref (a0 0)), (1, .int x1), (2, .int x2), (3, .int x3)]) hx hb dX12_lot_57 hl (by decide) rfl (fun ls hl => ?_)
      refine lv_aload_n hx hb dX12_lot_59 rfl (lv_at hl 3 rfl) ?_
      refine lv_iload hx hb dX12_lot_60 (lv_at hl 2 rfl) ?_
      refine lv_bipush (v := (7 : Int32)) hx hb dX12_lot_62 (by decide) ?_
      obtain ⟨r8, hr8, hf⟩ := wb_b hf
      refine vp_callSi (W.runV (As := [.int v5, .int (7 : Int32)]) (rest := []) ⟨hx, hb, hml, hown, hts⟩ (cn_X12_at l D cB cI cZ N a0 r4.2.1 r4.2.2.1 r4.2.2.2 v5 (7 : Int32) r8 hr8) (cwV 2 hts gX12_lot_X12_at rfl rfl rfl cdX12_at ⟨Nat.le_of_ble_eq_true rfl, Nat.le_of_ble_eq_true rfl⟩) (wb_preV hP hK (wr_12 hK hP (q0 := 0) rfl)) rfl rfl hl.1 rfl (lv_room (Nat.le_of_ble_eq_true rfl)) dX12_lot_64 ⟨Nat.le_of_ble_eq_true rfl, Nat.le_of_ble_eq_true rfl⟩) (fun r9 e9 => ?_)
      rw [e9]
      refine lv_istore (lv' := [(7, .int r8), (6, .int r7), (5, .int r6), (4, .int v5), (0, .ref (a0 0)), (1, .int x1), (2, .int x2), (3, .int x3)]) hx hb dX12_lot_67 hl (by decide) rfl (fun ls hl => ?_)
      refine lv_iload hx hb dX12_lot_69 (lv_at hl 2 rfl) ?_
      refine lv_iconst (v := (-1 : Int32)) hx hb dX12_lot_71 (by decide) ?_
      refine lv_icmp_eq (tgt := 104) hx hb dX12_lot_72 (by decide) (fun hc => ?_) (fun hc => ?_)
      · replace hf := wb_t hc hf
        refine lv_iconst (v := (-1 : Int32)) hx hb dX12_lot_104 (by decide) ?_
        exact W.iret (v := (-1 : Int32)) hx hb hr (fun t ht hW => by rw [← Option.some.inj hf]; exact ⟨⟨(-1 : Int32), (), rfl, rfl, by rw [ht]; exact hP, va_K.moved hW.alike hK, hD⟩, hS.F ht⟩) hS.2.2 dX12_lot_105
      · replace hf := wb_f hc hf
        refine lv_iload hx hb dX12_lot_75 (lv_at hl 1 rfl) ?_
        refine lv_iconst (v := (-1 : Int32)) hx hb dX12_lot_77 (by decide) ?_
        refine lv_icmp_eq (tgt := 104) hx hb dX12_lot_78 (by decide) (fun hc => ?_) (fun hc => ?_)
        · replace hf := wb_t hc hf
          refine lv_iconst (v := (-1 : Int32)) hx hb dX12_lot_104 (by decide) ?_
          exact W.iret (v := (-1 : Int32)) hx hb hr (fun t ht hW => by rw [← Option.some.inj hf]; exact ⟨⟨(-1 : Int32), (), rfl, rfl, by rw [ht]; exact hP, va_K.moved hW.alike hK, hD⟩, hS.F ht⟩) hS.2.2 dX12_lot_105
        · replace hf := wb_f hc hf
          refine lv_iload hx hb dX12_lot_81 (lv_at hl 0 rfl) ?_
          refine lv_iconst (v := (-1 : Int32)) hx hb dX12_lot_83 (by decide) ?_
          refine lv_icmp_eq (tgt := 104) hx hb dX12_lot_84 (by decide) (fun hc => ?_) (fun hc => ?_)
          · replace hf := wb_t hc hf
            refine lv_iconst (v := (-1 : Int32)) hx hb dX12_lot_104 (by decide) ?_
            exact W.iret (v := (-1 : Int32)) hx hb hr (fun t ht hW => by rw [← Option.some.inj hf]; exact ⟨⟨(-1 : Int32), (), rfl, rfl, by rw [ht]; exact hP, va_K.moved hW.alike hK, hD⟩, hS.F ht⟩) hS.2.2 dX12_lot_105
          · replace hf := wb_f hc hf
            refine lv_iload_n hx hb dX12_lot_87 rfl (lv_at hl 7 rfl) ?_
            refine lv_iconst (v := (1 : Int32)) hx hb dX12_lot_88 (by decide) ?_
            refine lv_icmp_ne (tgt := 106) hx hb dX12_lot_89 (by decide) (fun hc => ?_) (fun hc => ?_)
            · replace hf := wb_f hc hf
              exact J106 r4.2.1 r4.2.2.1 r4.2.2.2 v5 r6 r7 r8 H locs hP hD hS ls (lv_sub hl [4, 7, 3, 2, 1, 0] rfl) hf
            · replace hf := wb_t hc hf
              refine lv_aload_n hx hb dX12_lot_92 rfl (lv_at hl 4 rfl) ?_
              refine lv_iload hx hb dX12_lot_93 (lv_at hl 3 rfl) ?_
              refine lv_bipush (v := (8 : Int32)) hx hb dX12_lot_95 (by decide) ?_
              obtain ⟨r9b, hr9b, hf⟩ := wb_b hf
              refine vp_callSi (W.runV (As := [.int v5, .int (8 : Int32)]) (rest := []) ⟨hx, hb, hml, hown, hts⟩ (cn_X12_at l D cB cI cZ N a0 r4.2.1 r4.2.2.1 r4.2.2.2 v5 (8 : Int32) r9b hr9b) (cwV 2 hts gX12_lot_X12_at rfl rfl rfl cdX12_at ⟨Nat.le_of_ble_eq_true rfl, Nat.le_of_ble_eq_true rfl⟩) (wb_preV hP hK (wr_12 hK hP (q0 := 0) rfl)) rfl rfl hl.1 rfl (lv_room (Nat.le_of_ble_eq_true rfl)) dX12_lot_97 ⟨Nat.le_of_ble_eq_true rfl, Nat.le_of_ble_eq_true rfl⟩) (fun r9 e9 => ?_)
              rw [e9]
              refine lv_iconst (v := (-1 : Int32)) hx hb dX12_lot_100 (by decide) ?_
              refine lv_icmp_ne (tgt := 106) hx hb dX12_lot_101 (by decide) (fun hc => ?_) (fun hc => ?_)
              · replace hf := wb_f hc hf
                exact J106 r4.2.1 r4.2.2.1 r4.2.2.2 v5 r6 r7 r8 H locs hP hD hS ls (lv_sub hl [4, 7, 3, 2, 1, 0] rfl) hf
              · replace hf := wb_t hc hf
                refine lv_iconst (v := (-1 : Int32)) hx hb dX12_lot_104 (by decide) ?_
                exact W.iret (v := (-1 : Int32)) hx hb hr (fun t ht hW => by rw [← Option.some.inj hf]; exact ⟨⟨(-1 : Int32), (), rfl, rfl, by rw [ht]; exact hP, va_K.moved hW.alike hK, hD⟩, hS.F ht⟩) hS.2.2 dX12_lot_105
    · replace hf := wb_t hc hf
      refine lv_iconst (v := (0 : Int32)) hx hb dX12_lot_31 (by decide) ?_
      exact W.iret (v := (0 : Int32)) hx hb hr (fun t ht hW => by rw [← Option.some.inj hf]; exact ⟨⟨(0 : Int32), (), rfl, rfl, by rw [ht]; exact hP, va_K.moved hW.alike hK, hD⟩, hS.F ht⟩) hS.2.2 dX12_lot_32
  have J19 : ∀ (I0_j19 : Nat → Int32) (L0_j19 : Int64) (M0_j19 : Nat → Nat → Int32) (H : Heap) (locs : List Loc), va_P D vwCl (wWX12 cB cI cZ a0 I0_j19 L0_j19 M0_j19) H → va_D A (wWX12 cB cI cZ a0 I0_j19 L0_j19 M0_j19) → va_S A s.heap H locs → ∀ (ls : Array Slot), lv_has ls 10 [(0, .ref (a0 0)), (1, .int x1), (2, .int x2), (3, .int x3)] → fX12_lot_J19 N x1 x2 x3 I0_j19 L0_j19 M0_j19 = some R → W p l e (headSpec wsX12_lot { frames := 3, cells := 0, slots := 0, locals := 69 }).room s m [.ref (a0 0), .int x1, .int x2, .int x3].toArray below meth c H locs 0 0 (MQ below (va_Qi (fun r (_ : Unit) => r = R.1) (fun _ t => wb_post D [(cB, .byte), (cI, .int), (cZ, .boolean)] A (wWX12 cB cI cZ a0 R.2.1 R.2.2.1 R.2.2.2) t) A) [.ref (a0 0), .int x1, .int x2, .int x3].toArray s 0 0 A) (F0 m 19 ls [.ref (a0 0)]) := by
    intro I0_j19 L0_j19 M0_j19 H locs hP hD hS ls hl hf
    unfold fX12_lot_J19 at hf
    refine lv_iconst (v := (1 : Int32)) hx hb dX12_lot_19 (by decide) ?_
    refine lv_goto (tgt := 24) hx hb dX12_lot_20 (by decide) ?_
    exact J24 I0_j19 L0_j19 M0_j19 (1 : Int32) H locs hP hD hS ls (lv_sub hl [0, 1, 2, 3] rfl) hf
  refine lv_aload_n hx hb dX12_lot_0 rfl (lv_at hl 0 rfl) ?_
  refine lv_iload_n hx hb dX12_lot_1 rfl (lv_at hl 1 rfl) ?_
  refine lv_iload_n hx hb dX12_lot_2 rfl (lv_at hl 2 rfl) ?_
  obtain ⟨r10, hr10, hf⟩ := wb_b hf
  have hPc := hP
  have hDc := hD
  have hFc := wj_F hDc hS hA
  refine va_calli (va_runV (As := [.int x1, .int x2]) (rest := []) ⟨hx, hb, hml, hown, hts⟩ (cn_X12_isWheel l D cB cI cZ N a0 I0 L0 M0 x1 x2 H.size r10 hr10) (cwV 2 hts gX12_lot_X12_isWheel rfl rfl rfl cdX12_isWheel ⟨Nat.le_of_ble_eq_true rfl, Nat.le_of_ble_eq_true rfl⟩) (wb_preDV hPc hK hDc (wr_12 hK hP (q0 := 0) rfl)) rfl rfl hl.1 rfl (lv_room (Nat.le_of_ble_eq_true rfl)) dX12_lot_3 ⟨Nat.le_of_ble_eq_true rfl, Nat.le_of_ble_eq_true rfl⟩) hS (fun q _ h => hFc q h) hFc (fun r9 u t H locs ht hvm hw hB hz1 hk1 hS => ?_)
  obtain ⟨hP, hD⟩ := wj_0 hFc ht hB
  rw [hw]
  refine lv_if_eq (tgt := 31) hx hb dX12_lot_6 (by decide) (fun hc => ?_) (fun hc => ?_)
  · replace hf := wb_t hc hf
    refine lv_iconst (v := (0 : Int32)) hx hb dX12_lot_31 (by decide) ?_
    exact W.iret (v := (0 : Int32)) hx hb hr (fun t ht hW => by rw [← Option.some.inj hf]; exact ⟨⟨(0 : Int32), (), rfl, rfl, by rw [ht]; exact hP, va_K.moved hW.alike hK, hD⟩, hS.F ht⟩) hS.2.2 dX12_lot_32
  · replace hf := wb_f hc hf
    refine lv_aload_n hx hb dX12_lot_9 rfl (lv_at hl 0 rfl) ?_
    refine lv_iload_n hx hb dX12_lot_10 rfl (lv_at hl 3 rfl) ?_
    refine lv_if_eq (tgt := 19) hx hb dX12_lot_11 (by decide) (fun hc => ?_) (fun hc => ?_)
    · replace hf := wb_t hc hf
      exact J19 r10.2.1 r10.2.2.1 r10.2.2.2 H locs hP hD hS ls (lv_sub hl [0, 1, 2, 3] rfl) hf
    · replace hf := wb_f hc hf
      refine lv_iload_n hx hb dX12_lot_14 rfl (lv_at hl 3 rfl) ?_
      refine lv_iconst (v := (1 : Int32)) hx hb dX12_lot_15 (by decide) ?_
      refine lv_icmp_ne (tgt := 23) hx hb dX12_lot_16 (by decide) (fun hc => ?_) (fun hc => ?_)
      · replace hf := wb_f hc hf
        refine lv_iconst (v := (0 : Int32)) hx hb dX12_lot_23 (by decide) ?_
        exact J24 r10.2.1 r10.2.2.1 r10.2.2.2 (0 : Int32) H locs hP hD hS ls (lv_sub hl [0, 1, 2, 3] rfl) hf
      · replace hf := wb_t hc hf
        exact J19 r10.2.1 r10.2.2.1 r10.2.2.2 H locs hP hD hS ls (lv_sub hl [0, 1, 2, 3] rfl) hf
