set_option maxHeartbeats 4000000 in
set_option maxRecDepth 100000 in
theorem cn_X12_isBook (l : Launch) (D : va_G) (cB cI cZ : ClassId) (N : Nat) (a0 : Nat → Nat) (I0 : Nat → Int32) (L0 : Int64) (M0 : Nat → Nat → Int32) (x1 : Int32) (sz : Nat) (R : Int32 × (Nat → Int32) × Int64 × (Nat → Nat → Int32)) (hf : fX12_isBook N I0 L0 M0 x1 = some R) : Met l yX12_isBook wsX12_isBook ({ frames := 1, cells := 0, slots := 0, locals := 22 }) (va_Pc [.ref (a0 0), .int x1] (wb_preD D [(cB, .byte), (cI, .int), (cZ, .boolean)] (wWX12 cB cI cZ a0 I0 L0 M0) sz)) (va_Qi (fun r (_ : Unit) => r = R.1) (fun _ t => wb_post D [(cB, .byte), (cI, .int), (cZ, .boolean)] (va_A (wWX12 cB cI cZ a0 I0 L0 M0) sz) (wWX12 cB cI cZ a0 R.2.1 R.2.2.1 R.2.2.2) t) (va_A (wWX12 cB cI cZ a0 I0 L0 M0) sz)) 0 0 (va_A (wWX12 cB cI cZ a0 I0 L0 M0) sz) := by
  refine Met.ofW (cc := cX12_isBook) (maxL := 2) (ret := (some .boolean)) (by decide) rfl ?_
  intro p e s m args below meth c s₁ B hml hv
  obtain ⟨rfl, hsz, hP, hK, hD0⟩ := hv
  have hx := B.exec
  have hb := B.bytes
  have hr := B.returns
  have hts := atoms_spec (ws := wsX12_isBook) B.pre
  have hown : s.vm.findClass RX12 = some m.cls := findClass_of_methodNamed B.named
  have hlocks := B.notSynchronized
  subst hsz
  have hD := hD0.self (sz := s.heap.size)
  generalize hAe : va_A (wWX12 cB cI cZ a0 I0 L0 M0) s.heap.size = A at hD ⊢
  have hA : ∀ q : Nat, s.heap.size ≤ q → A q := fun q h => by rw [← hAe]; exact Or.inr h
  have hS : va_S A s.heap s.heap [] := va_S.rf
  have hl := lv_entry ([.ref (a0 0), .int x1]) (n := 2) (Nat.le_of_ble_eq_true rfl)
  rw [lg_entry_eq]
  generalize (lg_sl ([.ref (a0 0), .int x1]) ++ List.replicate (2 - (lg_sl ([.ref (a0 0), .int x1])).length) Slot.unset).toArray = ls at hl ⊢
  have hl : lv_has ls 2 [(0, .ref (a0 0)), (1, .int x1)] := hl
  unfold fX12_isBook at hf
  obtain ⟨H, hHe⟩ : ∃ H : Heap, H = s.heap := ⟨_, rfl⟩
  obtain ⟨locs, hle⟩ : ∃ locs : List Loc, locs = [] := ⟨_, rfl⟩
  refine wb_start (H := H) (locs := locs) hHe hle ?_
  rw [← hHe] at hP
  have hS : va_S A s.heap H locs := by rw [hHe, hle]; exact va_S.rf
  refine lv_aload_n hx hb dX12_isBook_0 rfl (lv_at hl 0 rfl) ?_
  refine lv_iload_n hx hb dX12_isBook_1 rfl (lv_at hl 1 rfl) ?_
  refine lv_if_lt (tgt := 15) hx hb dX12_isBook_2 (by decide) (fun hc => ?_) (fun hc => ?_)
  · replace hf := wb_t hc hf
    refine lv_iconst (v := (0 : Int32)) hx hb dX12_isBook_15 (by decide) ?_
    refine lv_iconst (v := (1 : Int32)) hx hb dX12_isBook_16 (by decide) ?_
    obtain ⟨r1, hr1, hf⟩ := wb_b hf
    have hPc := hP
    have hDc := hD
    have hFc := wj_F hDc hS hA
    refine va_calli (va_runV (As := [.int (0 : Int32), .int (1 : Int32)]) (rest := []) ⟨hx, hb, hml, hown, hts⟩ (cn_X12_right l D cB cI cZ N a0 I0 L0 M0 (0 : Int32) (1 : Int32) H.size r1 hr1) (cwV 2 hts gX12_isBook_X12_right rfl rfl rfl cdX12_right ⟨Nat.le_of_ble_eq_true rfl, Nat.le_of_ble_eq_true rfl⟩) (wb_preDV hPc hK hDc (va_recv hK hP (ci := 12) (q0 := 0) rfl rfl)) rfl rfl hl.1 rfl (lv_room (Nat.le_of_ble_eq_true rfl)) dX12_isBook_17 ⟨Nat.le_of_ble_eq_true rfl, Nat.le_of_ble_eq_true rfl⟩) hS (fun q _ h => hFc q h) hFc (fun r9 u t H locs ht hvm hw hB hz1 hk1 hS => ?_)
    obtain ⟨hP, hD⟩ := wj_0 hFc ht hB
    rw [hw]
    obtain ⟨hz, hf⟩ := wb_y hf
    exact W.zret (v := r1.1) hx hb hr (congrArg Value.int hz) (fun t ht hW => by rw [← Option.some.inj hf]; exact ⟨⟨r1.1, (), rfl, rfl, by rw [ht]; exact hP, va_K.moved hW.alike hK, hD⟩, hS.F ht⟩) hS.2.2 dX12_isBook_20
  · replace hf := wb_f hc hf
    refine lv_iload_n hx hb dX12_isBook_5 rfl (lv_at hl 1 rfl) ?_
    refine lv_bipush (v := (6 : Int32)) hx hb dX12_isBook_6 (by decide) ?_
    refine lv_icmp_ge (tgt := 15) hx hb dX12_isBook_8 (by decide) (fun hc => ?_) (fun hc => ?_)
    · replace hf := wb_t hc hf
      refine lv_iconst (v := (0 : Int32)) hx hb dX12_isBook_15 (by decide) ?_
      refine lv_iconst (v := (1 : Int32)) hx hb dX12_isBook_16 (by decide) ?_
      obtain ⟨r2, hr2, hf⟩ := wb_b hf
      have hPc := hP
      have hDc := hD
      have hFc := wj_F hDc hS hA
      refine va_calli (va_runV (As := [.int (0 : Int32), .int (1 : Int32)]) (rest := []) ⟨hx, hb, hml, hown, hts⟩ (cn_X12_right l D cB cI cZ N a0 I0 L0 M0 (0 : Int32) (1 : Int32) H.size r2 hr2) (cwV 2 hts gX12_isBook_X12_right rfl rfl rfl cdX12_right ⟨Nat.le_of_ble_eq_true rfl, Nat.le_of_ble_eq_true rfl⟩) (wb_preDV hPc hK hDc (va_recv hK hP (ci := 12) (q0 := 0) rfl rfl)) rfl rfl hl.1 rfl (lv_room (Nat.le_of_ble_eq_true rfl)) dX12_isBook_17 ⟨Nat.le_of_ble_eq_true rfl, Nat.le_of_ble_eq_true rfl⟩) hS (fun q _ h => hFc q h) hFc (fun r9 u t H locs ht hvm hw hB hz1 hk1 hS => ?_)
      obtain ⟨hP, hD⟩ := wj_0 hFc ht hB
      rw [hw]
      obtain ⟨hz, hf⟩ := wb_y hf
      exact W.zret (v := r2.1) hx hb hr (congrArg Value.int hz) (fun t ht hW => by rw [← Option.some.inj hf]; exact ⟨⟨r2.1, (), rfl, rfl, by rw [ht]; exact hP, va_K.moved hW.alike hK, hD⟩, hS.F ht⟩) hS.2.2 dX12_isBook_20
    · replace hf := wb_f hc hf
      refine lv_iconst (v := (1 : Int32)) hx hb dX12_isBook_11 (by decide) ?_
      refine lv_goto (tgt := 16) hx hb dX12_isBook_12 (by decide) ?_
      refine lv_iconst (v := (1 : Int32)) hx hb dX12_isBook_16 (by decide) ?_
      obtain ⟨r3, hr3, hf⟩ := wb_b hf
      have hPc := hP
      have hDc := hD
      have hFc := wj_F hDc hS hA
      refine va_calli (va_runV (As := [.int (1 : Int32), .int (1 : Int32)]) (rest := []) ⟨hx, hb, hml, hown, hts⟩ (cn_X12_right l D cB cI cZ N a0 I0 L0 M0 (1 : Int32) (1 : Int32) H.size r3 hr3) (cwV 2 hts gX12_isBook_X12_right rfl rfl rfl cdX12_right ⟨Nat.le_of_ble_eq_true rfl, Nat.le_of_ble_eq_true rfl⟩) (wb_preDV hPc hK hDc (va_recv hK hP (ci := 12) (q0 := 0) rfl rfl)) rfl rfl hl.1 rfl (lv_room (Nat.le_of_ble_eq_true rfl)) dX12_isBook_17 ⟨Nat.le_of_ble_eq_true rfl, Nat.le_of_ble_eq_true rfl⟩) hS (fun q _ h => hFc q h) hFc (fun r9 u t H locs ht hvm hw hB hz1 hk1 hS => ?_)
      obtain ⟨hP, hD⟩ := wj_0 hFc ht hB
      rw [hw]
      obtain ⟨hz, hf⟩ := wb_y hf
      exact W.zret (v := r3.1) hx hb hr (congrArg Value.int hz) (fun t ht hW => by rw [← Option.some.inj hf]; exact ⟨⟨r3.1, (), rfl, rfl, by rw [ht]; exact hP, va_K.moved hW.alike hK, hD⟩, hS.F ht⟩) hS.2.2 dX12_isBook_20

