set_option maxHeartbeats 4000000 in
set_option maxRecDepth 100000 in
theorem cn_X12_copies (l : Launch) (D : va_G) (cB cI cZ : ClassId) (N : Nat) (b0 : Nat) (b1 : Nat) (n1 : Nat) (f1 : Nat → Int32) (b2 : Nat) (n2 : Nat) (f2 : Nat → Int32) (sz : Nat) (R : (Nat → Int32)) (hf : fX12_copies N n1 f1 n2 f2 = some R) : Met l yX12_copies wsX12_copies ({ frames := 0, cells := 0, slots := 0, locals := 0 }) (va_Pc [.ref b0, .ref b1, .ref b2] (wb_preD D [(cB, .byte), (cI, .int), (cZ, .boolean)] ([(b1, .inl (cI, n1, .inl f1))] ++ [(b2, .inl (cI, n2, .inl f2))]) sz)) (va_Qv (fun _ : Unit => True) (fun _ t => wb_post D [(cB, .byte), (cI, .int), (cZ, .boolean)] (va_A ([(b1, .inl (cI, n1, .inl f1))] ++ [(b2, .inl (cI, n2, .inl f2))]) sz) ([(b1, .inl (cI, n1, .inl f1))] ++ [(b2, .inl (cI, n2, .inl R))]) t) (va_A ([(b1, .inl (cI, n1, .inl f1))] ++ [(b2, .inl (cI, n2, .inl f2))]) sz)) 0 0 (va_A ([(b1, .inl (cI, n1, .inl f1))] ++ [(b2, .inl (cI, n2, .inl f2))]) sz) := by
  refine Met.ofW (cc := cX12_copies) (maxL := 4) (ret := none) (by decide) rfl ?_
  intro p e s m args below meth c s₁ B hml hv
  obtain ⟨rfl, hsz, hP, hK, hD0⟩ := hv
  have hx := B.exec
  have hb := B.bytes
  have hr := B.returns
  have hts := atoms_spec (ws := wsX12_copies) B.pre
  have hown : s.vm.findClass RX12 = some m.cls := findClass_of_methodNamed B.named
  have hlocks := B.notSynchronized
  subst hsz
  have hD := hD0.self (sz := s.heap.size)
  generalize hAe : va_A ([(b1, .inl (cI, n1, .inl f1))] ++ [(b2, .inl (cI, n2, .inl f2))]) s.heap.size = A at hD ⊢
  have hA : ∀ q : Nat, s.heap.size ≤ q → A q := fun q h => by rw [← hAe]; exact Or.inr h
  have hS : va_S A s.heap s.heap [] := va_S.rf
  have hl := lv_entry ([.ref b0, .ref b1, .ref b2]) (n := 4) (Nat.le_of_ble_eq_true rfl)
  rw [lg_entry_eq]
  generalize (lg_sl ([.ref b0, .ref b1, .ref b2]) ++ List.replicate (4 - (lg_sl ([.ref b0, .ref b1, .ref b2])).length) Slot.unset).toArray = ls at hl ⊢
  have hl : lv_has ls 4 [(0, .ref b0), (1, .ref b1), (2, .ref b2)] := hl
  unfold fX12_copies at hf
  obtain ⟨H, hHe⟩ : ∃ H : Heap, H = s.heap := ⟨_, rfl⟩
  obtain ⟨locs, hle⟩ : ∃ locs : List Loc, locs = [] := ⟨_, rfl⟩
  refine wb_start (H := H) (locs := locs) hHe hle ?_
  rw [← hHe] at hP
  have hS : va_S A s.heap H locs := by rw [hHe, hle]; exact va_S.rf
  refine lv_iconst (v := (0 : Int32)) hx hb dX12_copies_0 (by decide) ?_
  refine lv_istore_n (lv' := [(3, .int (0 : Int32)), (0, .ref b0), (1, .ref b1), (2, .ref b2)]) hx hb dX12_copies_1 rfl hl (by decide) rfl (fun ls hl => ?_)
  have Lh2 : ∀ (fu2 : Nat) (f2_l2 : Nat → Int32) (y2_3 : Int32) (H : Heap) (locs : List Loc), va_P D vwCl ([(b1, .inl (cI, n1, .inl f1))] ++ [(b2, .inl (cI, n2, .inl f2_l2))]) H → va_D A ([(b1, .inl (cI, n1, .inl f1))] ++ [(b2, .inl (cI, n2, .inl f2_l2))]) → va_S A s.heap H locs → ∀ (ls : Array Slot), lv_has ls 4 [(1, .ref b1), (2, .ref b2), (3, .int y2_3)] → fX12_copies_L2 N n1 f1 n2 fu2 f2_l2 y2_3 = some R → W p l e (headSpec wsX12_copies { frames := 0, cells := 0, slots := 0, locals := 0 }).room s m [.ref b0, .ref b1, .ref b2].toArray below meth c H locs 0 0 (MQ below (va_Qv (fun _ : Unit => True) (fun _ t => wb_post D [(cB, .byte), (cI, .int), (cZ, .boolean)] A ([(b1, .inl (cI, n1, .inl f1))] ++ [(b2, .inl (cI, n2, .inl R))]) t) A) [.ref b0, .ref b1, .ref b2].toArray s 0 0 A) (F0 m 2 ls []) := by
    intro fu2
    induction fu2 with
    | zero =>
      intro f2_l2 y2_3 H locs hP hD hS ls hl hf
      exact absurd hf (by rw [fX12_copies_L2.eq_1]; exact fun h => nomatch h)
    | succ fu2 ih2 =>
      intro f2_l2 y2_3 H locs hP hD hS ls hl hf
      rw [fX12_copies_L2.eq_2] at hf
      refine lv_iload_n hx hb dX12_copies_2 rfl (lv_at hl 2 rfl) ?_
      refine lv_aload_n hx hb dX12_copies_3 rfl (lv_at hl 0 rfl) ?_
      refine va_alen (v := (Int32.ofNat n1)) hx hb hK hP 0 1 rfl rfl (by rfl) dX12_copies_4 ?_
      refine lv_icmp_ge (tgt := 20) hx hb dX12_copies_5 (by decide) (fun hc => ?_) (fun hc => ?_)
      · replace hf := wb_t hc hf
        exact W.vret hx hb hr (fun t ht hW => by rw [← Option.some.inj hf]; exact ⟨⟨(), rfl, trivial, by rw [ht]; exact hP, va_K.moved hW.alike hK, hD⟩, hS.F ht⟩) hS.2.2 dX12_copies_20
      · replace hf := wb_f hc hf
        refine lv_aload_n hx hb dX12_copies_8 rfl (lv_at hl 1 rfl) ?_
        refine lv_iload_n hx hb dX12_copies_9 rfl (lv_at hl 2 rfl) ?_
        refine lv_aload_n hx hb dX12_copies_10 rfl (lv_at hl 0 rfl) ?_
        refine lv_iload_n hx hb dX12_copies_11 rfl (lv_at hl 2 rfl) ?_
        obtain ⟨hin, hf⟩ := wb_n hf
        refine va_iald hx hb hK hP 0 1 rfl rfl hin dX12_copies_12 ?_
        obtain ⟨hin, hf⟩ := wb_n hf
        refine va_iast hx hb hK hP hD hS 1 1 rfl rfl hin dX12_copies_13 (fun H locs hP hD hS => ?_)
        have hP : va_P D vwCl ([(b1, .inl (cI, n1, .inl f1))] ++ [(b2, .inl (cI, n2, .inl (upd f2_l2 (y2_3).toNatClampNeg (f1 (y2_3).toNatClampNeg))))]) H := hP
        have hD : va_D A ([(b1, .inl (cI, n1, .inl f1))] ++ [(b2, .inl (cI, n2, .inl (upd f2_l2 (y2_3).toNatClampNeg (f1 (y2_3).toNatClampNeg))))]) := hD
        obtain ⟨f2_1, ef2_1, hf⟩ := wb_v hf
        rw [← ef2_1] at hP hD
        obtain ⟨v2, ev2, hf⟩ := wb_v hf
        refine lv_iinc (v := v2) (lv' := [(3, .int v2), (1, .ref b1), (2, .ref b2)]) hx hb dX12_copies_14 hl (k := 2) rfl (by rw [ev2]; rfl) (by decide) rfl (fun ls hl => ?_)
        refine lv_goto (tgt := 2) hx hb dX12_copies_17 (by decide) ?_
        exact ih2 f2_1 v2 H locs hP hD hS ls (lv_sub hl [1, 2, 0] rfl) hf
  exact Lh2 N f2 (0 : Int32) H locs hP hD hS ls (lv_sub hl [2, 3, 0] rfl) hf

