set_option maxHeartbeats 4000000 in
set_option maxRecDepth 100000 in
theorem cn_X12_thrown (l : Launch) (D : va_G) (cB cI cZ : ClassId) (N : Nat) (a0 : Nat → Nat) (I0 : Nat → Int32) (L0 : Int64) (M0 : Nat → Nat → Int32) (R : Int32) (hf : fX12_thrown N I0 L0 M0 = some R) : Met l yX12_thrown wsX12_thrown ({ frames := 0, cells := 0, slots := 0, locals := 0 }) (va_Pc [.ref (a0 0)] (wb_pre D [(cB, .byte), (cI, .int), (cZ, .boolean)] (wWX12 cB cI cZ a0 I0 L0 M0))) (vp_Si (fun r => r = R)) 0 0 (fun _ => False) := by
  refine Met.ofW (cc := cX12_thrown) (maxL := 1) (ret := (some .int)) pn_X12 rfl ?_
  intro p e s m args below meth c s₁ B hml hv
  obtain ⟨rfl, hP, hK⟩ := hv
  have hx := B.exec
  have hb := B.bytes
  have hr := B.returns
  have hts := atoms_spec (ws := wsX12_thrown) B.pre
  have hown : s.vm.findClass RX12 = some m.cls := (findClass_of_methodNamed B.named :)
  have hlocks := B.notSynchronized
  have hinX12 : ∀ w ∈ u_ws RX12 TX12 58, w ∈ wsX12_thrown := fun w h => List.mem_cons_of_mem _ (List.mem_append_right _ h)
  have hl := lv_entry ([.ref (a0 0)]) (n := 1) (Nat.le_of_ble_eq_true rfl)
  rw [lg_entry_eq]
  generalize (lg_sl ([.ref (a0 0)]) ++ List.replicate (1 - (lg_sl ([.ref (a0 0)])).length) Slot.unset).toArray = ls at hl ⊢
  have hl : lv_has ls 1 [(0, .ref (a0 0))] := hl
  unfold fX12_thrown at hf
  refine lv_aload_n hx hb dX12_thrown_0 rfl (lv_at hl 0 rfl) ?_
  refine va_get (D := D) (ci := 12) (v := .int (I0 0)) (C := RX12) (T := TX12) (N := 58) hx hb hts hinX12 hown hK hP 0 rfl rfl 0 (by decide) (hts (.fieldLink RX12 129 "WheelBookModel" "thrown" "I") (List.mem_of_getElem? (i := 1) rfl)) (fun _ h9 => h9) rfl dX12_thrown_1 ?_
  exact W.iret (v := (I0 0)) hx hb hr (fun t ht hW => ⟨_, rfl, Option.some.inj hf, ht⟩) (fun _ h => nomatch h) dX12_thrown_4

set_option maxHeartbeats 4000000 in
set_option maxRecDepth 100000 in
theorem cn_X12_right (l : Launch) (D : va_G) (cB cI cZ : ClassId) (N : Nat) (a0 : Nat → Nat) (I0 : Nat → Int32) (L0 : Int64) (M0 : Nat → Nat → Int32) (x1 : Int32) (x2 : Int32) (sz : Nat) (R : Int32 × (Nat → Int32) × Int64 × (Nat → Nat → Int32)) (hf : fX12_right N I0 L0 M0 x1 x2 = some R) : Met l yX12_right wsX12_right ({ frames := 0, cells := 0, slots := 0, locals := 0 }) (va_Pc [.ref (a0 0), .int x1, .int x2] (wb_preD D [(cB, .byte), (cI, .int), (cZ, .boolean)] (wWX12 cB cI cZ a0 I0 L0 M0) sz)) (va_Qi (fun r (_ : Unit) => r = R.1) (fun _ t => wb_post D [(cB, .byte), (cI, .int), (cZ, .boolean)] (va_A (wWX12 cB cI cZ a0 I0 L0 M0) sz) (wWX12 cB cI cZ a0 R.2.1 R.2.2.1 R.2.2.2) t) (va_A (wWX12 cB cI cZ a0 I0 L0 M0) sz)) 0 0 (va_A (wWX12 cB cI cZ a0 I0 L0 M0) sz) := by
  refine Met.ofW (cc := cX12_right) (maxL := 3) (ret := (some .boolean)) pn_X12 rfl ?_
  intro p e s m args below meth c s₁ B hml hv
  obtain ⟨rfl, hsz, hP, hK, hD0⟩ := hv
  have hx := B.exec
  have hb := B.bytes
  have hr := B.returns
  have hts := atoms_spec (ws := wsX12_right) B.pre
  have hown : s.vm.findClass RX12 = some m.cls := (findClass_of_methodNamed B.named :)
  have hlocks := B.notSynchronized
  have hinX12 : ∀ w ∈ u_ws RX12 TX12 58, w ∈ wsX12_right := fun w h => List.mem_cons_of_mem _ (List.mem_append_right _ h)
  subst hsz
  have hD := hD0.self (sz := s.heap.size)
  generalize hAe : va_A (wWX12 cB cI cZ a0 I0 L0 M0) s.heap.size = A at hD ⊢
  have hA : ∀ q : Nat, s.heap.size ≤ q → A q := fun q h => by rw [← hAe]; exact Or.inr h
  have hS : va_S A s.heap s.heap [] := va_S.rf
  have hl := lv_entry ([.ref (a0 0), .int x1, .int x2]) (n := 3) (Nat.le_of_ble_eq_true rfl)
  rw [lg_entry_eq]
  generalize (lg_sl ([.ref (a0 0), .int x1, .int x2]) ++ List.replicate (3 - (lg_sl ([.ref (a0 0), .int x1, .int x2])).length) Slot.unset).toArray = ls at hl ⊢
  have hl : lv_has ls 3 [(0, .ref (a0 0)), (1, .int x1), (2, .int x2)] := hl
  unfold fX12_right at hf
  obtain ⟨H, hHe⟩ : ∃ H : Heap, H = s.heap := ⟨_, rfl⟩
  obtain ⟨locs, hle⟩ : ∃ locs : List Loc, locs = [] := ⟨_, rfl⟩
  refine wb_start (H := H) (locs := locs) hHe hle ?_
  rw [← hHe] at hP
  have hS : va_S A s.heap H locs := by rw [hHe, hle]; exact va_S.rf
  refine lv_aload_n hx hb dX12_right_0 rfl (lv_at hl 0 rfl) ?_
  refine va_get (D := D) (ci := 12) (v := .int (I0 0)) (C := RX12) (T := TX12) (N := 58) hx hb hts hinX12 hown hK hP 0 rfl rfl 0 (by decide) (hts (.fieldLink RX12 129 "WheelBookModel" "thrown" "I") (List.mem_of_getElem? (i := 1) rfl)) (fun _ h9 => h9) rfl dX12_right_1 ?_
  refine lv_if_ne (tgt := 16) hx hb dX12_right_4 (by decide) (fun hc => ?_) (fun hc => ?_)
  · replace hf := wb_f hc hf
    refine lv_aload_n hx hb dX12_right_16 rfl (lv_at hl 0 rfl) ?_
    refine va_get (D := D) (ci := 12) (v := .int (I0 0)) (C := RX12) (T := TX12) (N := 58) hx hb hts hinX12 hown hK hP 0 rfl rfl 0 (by decide) (hts (.fieldLink RX12 129 "WheelBookModel" "thrown" "I") (List.mem_of_getElem? (i := 1) rfl)) (fun _ h9 => h9) rfl dX12_right_17 ?_
    refine lv_if_ne (tgt := 27) hx hb dX12_right_20 (by decide) (fun hc => ?_) (fun hc => ?_)
    · replace hf := wb_f hc hf
      refine lv_iconst (v := (0 : Int32)) hx hb dX12_right_27 (by decide) ?_
      exact W.zret (v := (0 : Int32)) hx hb hr (by decide) (fun t ht hW => by rw [← Option.some.inj hf]; exact ⟨⟨(0 : Int32), (), rfl, rfl, by rw [ht]; exact hP, va_K.moved hW.alike hK, hD⟩, hS.F ht⟩) hS.2.2 dX12_right_28
    · replace hf := wb_t hc hf
      refine lv_iconst (v := (1 : Int32)) hx hb dX12_right_23 (by decide) ?_
      refine lv_goto (tgt := 28) hx hb dX12_right_24 (by decide) ?_
      exact W.zret (v := (1 : Int32)) hx hb hr (by decide) (fun t ht hW => by rw [← Option.some.inj hf]; exact ⟨⟨(1 : Int32), (), rfl, rfl, by rw [ht]; exact hP, va_K.moved hW.alike hK, hD⟩, hS.F ht⟩) hS.2.2 dX12_right_28
  · replace hf := wb_t hc hf
    refine lv_iload_n hx hb dX12_right_7 rfl (lv_at hl 1 rfl) ?_
    refine lv_if_ne (tgt := 16) hx hb dX12_right_8 (by decide) (fun hc => ?_) (fun hc => ?_)
    · replace hf := wb_f hc hf
      refine lv_aload_n hx hb dX12_right_16 rfl (lv_at hl 0 rfl) ?_
      refine va_get (D := D) (ci := 12) (v := .int (I0 0)) (C := RX12) (T := TX12) (N := 58) hx hb hts hinX12 hown hK hP 0 rfl rfl 0 (by decide) (hts (.fieldLink RX12 129 "WheelBookModel" "thrown" "I") (List.mem_of_getElem? (i := 1) rfl)) (fun _ h9 => h9) rfl dX12_right_17 ?_
      refine lv_if_ne (tgt := 27) hx hb dX12_right_20 (by decide) (fun hc => ?_) (fun hc => ?_)
      · replace hf := wb_f hc hf
        refine lv_iconst (v := (0 : Int32)) hx hb dX12_right_27 (by decide) ?_
        exact W.zret (v := (0 : Int32)) hx hb hr (by decide) (fun t ht hW => by rw [← Option.some.inj hf]; exact ⟨⟨(0 : Int32), (), rfl, rfl, by rw [ht]; exact hP, va_K.moved hW.alike hK, hD⟩, hS.F ht⟩) hS.2.2 dX12_right_28
      · replace hf := wb_t hc hf
        refine lv_iconst (v := (1 : Int32)) hx hb dX12_right_23 (by decide) ?_
        refine lv_goto (tgt := 28) hx hb dX12_right_24 (by decide) ?_
        exact W.zret (v := (1 : Int32)) hx hb hr (by decide) (fun t ht hW => by rw [← Option.some.inj hf]; exact ⟨⟨(1 : Int32), (), rfl, rfl, by rw [ht]; exact hP, va_K.moved hW.alike hK, hD⟩, hS.F ht⟩) hS.2.2 dX12_right_28
    · replace hf := wb_t hc hf
      refine lv_aload_n hx hb dX12_right_11 rfl (lv_at hl 0 rfl) ?_
      refine lv_iload_n hx hb dX12_right_12 rfl (lv_at hl 2 rfl) ?_
      refine va_put (D := D) (ci := 12) (v := .int x2) (ty := .int) (C := RX12) (T := TX12) (N := 58) hx hb hts hinX12 tyX12 tyX12_ok nmX12 hown hK hP hD hS 0 rfl rfl 0 (by decide) (hts (.fieldLink RX12 129 "WheelBookModel" "thrown" "I") (List.mem_of_getElem? (i := 1) rfl)) (fun _ h9 => h9) rfl (by decide +kernel) rfl rfl (Nat.le_of_ble_eq_true rfl) dX12_right_13 (fun H locs hP hD hS => ?_)
      have hP : va_P D vwCl (wWX12 cB cI cZ a0 (upd I0 0 x2) L0 M0) H := hP
      have hD : va_D A (wWX12 cB cI cZ a0 (upd I0 0 x2) L0 M0) := hD
      obtain ⟨I0_1, eI0_1, hf⟩ := wb_v hf
      rw [← eI0_1] at hP hD
      refine lv_aload_n hx hb dX12_right_16 rfl (lv_at hl 0 rfl) ?_
      refine va_get (D := D) (ci := 12) (v := .int (I0_1 0)) (C := RX12) (T := TX12) (N := 58) hx hb hts hinX12 hown hK hP 0 rfl rfl 0 (by decide) (hts (.fieldLink RX12 129 "WheelBookModel" "thrown" "I") (List.mem_of_getElem? (i := 1) rfl)) (fun _ h9 => h9) rfl dX12_right_17 ?_
      refine lv_if_ne (tgt := 27) hx hb dX12_right_20 (by decide) (fun hc => ?_) (fun hc => ?_)
      · replace hf := wb_f hc hf
        refine lv_iconst (v := (0 : Int32)) hx hb dX12_right_27 (by decide) ?_
        exact W.zret (v := (0 : Int32)) hx hb hr (by decide) (fun t ht hW => by rw [← Option.some.inj hf]; exact ⟨⟨(0 : Int32), (), rfl, rfl, by rw [ht]; exact hP, va_K.moved hW.alike hK, hD⟩, hS.F ht⟩) hS.2.2 dX12_right_28
      · replace hf := wb_t hc hf
        refine lv_iconst (v := (1 : Int32)) hx hb dX12_right_23 (by decide) ?_
        refine lv_goto (tgt := 28) hx hb dX12_right_24 (by decide) ?_
        exact W.zret (v := (1 : Int32)) hx hb hr (by decide) (fun t ht hW => by rw [← Option.some.inj hf]; exact ⟨⟨(1 : Int32), (), rfl, rfl, by rw [ht]; exact hP, va_K.moved hW.alike hK, hD⟩, hS.F ht⟩) hS.2.2 dX12_right_28

set_option maxHeartbeats 4000000 in
set_option maxRecDepth 100000 in
theorem cn_X12_within (l : Launch) (D : va_G) (cB cI cZ : ClassId) (N : Nat) (x0 : Int32) (x1 : Int32) (x2 : Int32) (R : Int32) (hf : fX12_within N x0 x1 x2 = some R) : Met l yX12_within wsX12_within ({ frames := 0, cells := 0, slots := 0, locals := 0 }) (va_Pc [.int x0, .int x1, .int x2] (wb_pre D [(cB, .byte), (cI, .int), (cZ, .boolean)] ([] : va_W))) (vp_Si (fun r => r = R)) 0 0 (fun _ => False) := by
  refine Met.ofW (cc := cX12_within) (maxL := 3) (ret := (some .boolean)) pn_X12 rfl ?_
  intro p e s m args below meth c s₁ B hml hv
  obtain ⟨rfl, hP, hK⟩ := hv
  have hx := B.exec
  have hb := B.bytes
  have hr := B.returns
  have hts := atoms_spec (ws := wsX12_within) B.pre
  have hown : s.vm.findClass RX12 = some m.cls := (findClass_of_methodNamed B.named :)
  have hlocks := B.notSynchronized
  have hl := lv_entry ([.int x0, .int x1, .int x2]) (n := 3) (Nat.le_of_ble_eq_true rfl)
  rw [lg_entry_eq]
  generalize (lg_sl ([.int x0, .int x1, .int x2]) ++ List.replicate (3 - (lg_sl ([.int x0, .int x1, .int x2])).length) Slot.unset).toArray = ls at hl ⊢
  have hl : lv_has ls 3 [(0, .int x0), (1, .int x1), (2, .int x2)] := hl
  unfold fX12_within at hf
  refine lv_iload_n hx hb dX12_within_0 rfl (lv_at hl 0 rfl) ?_
  refine lv_iload_n hx hb dX12_within_1 rfl (lv_at hl 1 rfl) ?_
  refine lv_icmp_lt (tgt := 14) hx hb dX12_within_2 (by decide) (fun hc => ?_) (fun hc => ?_)
  · replace hf := wb_t hc hf
    refine lv_iconst (v := (0 : Int32)) hx hb dX12_within_14 (by decide) ?_
    exact W.zret (v := (0 : Int32)) hx hb hr (by decide) (fun t ht hW => ⟨_, rfl, Option.some.inj hf, ht⟩) (fun _ h => nomatch h) dX12_within_15
  · replace hf := wb_f hc hf
    refine lv_iload_n hx hb dX12_within_5 rfl (lv_at hl 0 rfl) ?_
    refine lv_iload_n hx hb dX12_within_6 rfl (lv_at hl 2 rfl) ?_
    refine lv_icmp_gt (tgt := 14) hx hb dX12_within_7 (by decide) (fun hc => ?_) (fun hc => ?_)
    · replace hf := wb_t hc hf
      refine lv_iconst (v := (0 : Int32)) hx hb dX12_within_14 (by decide) ?_
      exact W.zret (v := (0 : Int32)) hx hb hr (by decide) (fun t ht hW => ⟨_, rfl, Option.some.inj hf, ht⟩) (fun _ h => nomatch h) dX12_within_15
    · replace hf := wb_f hc hf
      refine lv_iconst (v := (1 : Int32)) hx hb dX12_within_10 (by decide) ?_
      refine lv_goto (tgt := 15) hx hb dX12_within_11 (by decide) ?_
      exact W.zret (v := (1 : Int32)) hx hb hr (by decide) (fun t ht hW => ⟨_, rfl, Option.some.inj hf, ht⟩) (fun _ h => nomatch h) dX12_within_15

set_option maxHeartbeats 4000000 in
set_option maxRecDepth 100000 in
theorem cn_X12_lays (l : Launch) (D : va_G) (cB cI cZ : ClassId) (N : Nat) (a0 : Nat → Nat) (I0 : Nat → Int32) (L0 : Int64) (M0 : Nat → Nat → Int32) (x1 : Int32) (sz : Nat) (R : (Nat → Int32) × Int64 × (Nat → Nat → Int32)) (hf : fX12_lays N I0 L0 M0 x1 = some R) : Met l yX12_lays wsX12_lays ({ frames := 0, cells := 0, slots := 0, locals := 0 }) (va_Pc [.ref (a0 0), .int x1] (wb_preD D [(cB, .byte), (cI, .int), (cZ, .boolean)] (wWX12 cB cI cZ a0 I0 L0 M0) sz)) (va_Qv (fun _ : Unit => True) (fun _ t => wb_post D [(cB, .byte), (cI, .int), (cZ, .boolean)] (va_A (wWX12 cB cI cZ a0 I0 L0 M0) sz) (wWX12 cB cI cZ a0 R.1 R.2.1 R.2.2) t) (va_A (wWX12 cB cI cZ a0 I0 L0 M0) sz)) 0 0 (va_A (wWX12 cB cI cZ a0 I0 L0 M0) sz) := by
  refine Met.ofW (cc := cX12_lays) (maxL := 3) (ret := none) pn_X12 rfl ?_
  intro p e s m args below meth c s₁ B hml hv
  obtain ⟨rfl, hsz, hP, hK, hD0⟩ := hv
  have hx := B.exec
  have hb := B.bytes
  have hr := B.returns
  have hts := atoms_spec (ws := wsX12_lays) B.pre
  have hown : s.vm.findClass RX12 = some m.cls := (findClass_of_methodNamed B.named :)
  have hlocks := B.notSynchronized
  have hinX12 : ∀ w ∈ u_ws RX12 TX12 58, w ∈ wsX12_lays := fun w h => List.mem_cons_of_mem _ (List.mem_append_right _ h)
  subst hsz
  have hD := hD0.self (sz := s.heap.size)
  generalize hAe : va_A (wWX12 cB cI cZ a0 I0 L0 M0) s.heap.size = A at hD ⊢
  have hA : ∀ q : Nat, s.heap.size ≤ q → A q := fun q h => by rw [← hAe]; exact Or.inr h
  have hS : va_S A s.heap s.heap [] := va_S.rf
  have hl := lv_entry ([.ref (a0 0), .int x1]) (n := 3) (Nat.le_of_ble_eq_true rfl)
  rw [lg_entry_eq]
  generalize (lg_sl ([.ref (a0 0), .int x1]) ++ List.replicate (3 - (lg_sl ([.ref (a0 0), .int x1])).length) Slot.unset).toArray = ls at hl ⊢
  have hl : lv_has ls 3 [(0, .ref (a0 0)), (1, .int x1)] := hl
  unfold fX12_lays at hf
  obtain ⟨H, hHe⟩ : ∃ H : Heap, H = s.heap := ⟨_, rfl⟩
  obtain ⟨locs, hle⟩ : ∃ locs : List Loc, locs = [] := ⟨_, rfl⟩
  refine wb_start (H := H) (locs := locs) hHe hle ?_
  rw [← hHe] at hP
  have hS : va_S A s.heap H locs := by rw [hHe, hle]; exact va_S.rf
  refine lv_bipush (v := (24 : Int32)) hx hb dX12_lays_0 (by decide) ?_
  refine lv_istore_n (lv' := [(2, .int (24 : Int32)), (0, .ref (a0 0)), (1, .int x1)]) hx hb dX12_lays_2 rfl hl (by decide) rfl (fun ls hl => ?_)
  have Lh3 : ∀ (fu3 : Nat) (I0_l3 : Nat → Int32) (L0_l3 : Int64) (M0_l3 : Nat → Nat → Int32) (y3_2 : Int32) (H : Heap) (locs : List Loc), va_P D vwCl (wWX12 cB cI cZ a0 I0_l3 L0_l3 M0_l3) H → va_D A (wWX12 cB cI cZ a0 I0_l3 L0_l3 M0_l3) → va_S A s.heap H locs → ∀ (ls : Array Slot), lv_has ls 3 [(0, .ref (a0 0)), (1, .int x1), (2, .int y3_2)] → fX12_lays_L3 N x1 fu3 I0_l3 L0_l3 M0_l3 y3_2 = some R → W p l e (headSpec wsX12_lays { frames := 0, cells := 0, slots := 0, locals := 0 }).room s m [.ref (a0 0), .int x1].toArray below meth c H locs 0 0 (MQ below (va_Qv (fun _ : Unit => True) (fun _ t => wb_post D [(cB, .byte), (cI, .int), (cZ, .boolean)] A (wWX12 cB cI cZ a0 R.1 R.2.1 R.2.2) t) A) [.ref (a0 0), .int x1].toArray s 0 0 A) (F0 m 3 ls []) := by
    intro fu3
    induction fu3 with
    | zero =>
      intro I0_l3 L0_l3 M0_l3 y3_2 H locs hP hD hS ls hl hf
      exact absurd hf (by rw [fX12_lays_L3.eq_1]; exact fun h => nomatch h)
    | succ fu3 ih3 =>
      intro I0_l3 L0_l3 M0_l3 y3_2 H locs hP hD hS ls hl hf
      rw [fX12_lays_L3.eq_2] at hf
      refine lv_iload_n hx hb dX12_lays_3 rfl (lv_at hl 2 rfl) ?_
      refine lv_if_lt (tgt := 39) hx hb dX12_lays_4 (by decide) (fun hc => ?_) (fun hc => ?_)
      · replace hf := wb_t hc hf
        exact W.vret hx hb hr (fun t ht hW => by rw [← Option.some.inj hf]; exact ⟨⟨(), rfl, trivial, by rw [ht]; exact hP, va_K.moved hW.alike hK, hD⟩, hS.F ht⟩) hS.2.2 dX12_lays_39
      · replace hf := wb_f hc hf
        refine lv_aload_n hx hb dX12_lays_7 rfl (lv_at hl 0 rfl) ?_
        refine va_get (D := D) (ci := 12) (v := .ref (a0 9)) (C := RX12) (T := TX12) (N := 58) hx hb hts hinX12 hown hK hP 0 rfl rfl 11 (by decide) (hts (.fieldLink RX12 34 "WheelBookModel" "tape" "[I") (List.mem_of_getElem? (i := 1) rfl)) (fun _ h9 => h9) rfl dX12_lays_8 ?_
        refine lv_aload_n hx hb dX12_lays_11 rfl (lv_at hl 0 rfl) ?_
        refine va_get (D := D) (ci := 12) (v := .int (I0_l3 3)) (C := RX12) (T := TX12) (N := 58) hx hb hts hinX12 hown hK hP 0 rfl rfl 12 (by decide) (hts (.fieldLink RX12 132 "WheelBookModel" "taped" "I") (List.mem_of_getElem? (i := 2) rfl)) (fun _ h9 => h9) rfl dX12_lays_12 ?_
        refine lv_iload_n hx hb dX12_lays_15 rfl (lv_at hl 1 rfl) ?_
        refine lv_iload_n hx hb dX12_lays_16 rfl (lv_at hl 2 rfl) ?_
        refine lv_ishr hx hb dX12_lays_17 ?_
        refine lv_sipush (v := (255 : Int32)) hx hb dX12_lays_18 (by decide) ?_
        refine lv_iand hx hb dX12_lays_21 ?_
        obtain ⟨hin, hf⟩ := wb_n hf
        refine va_iast hx hb hK hP hD hS 9 1 rfl rfl hin dX12_lays_22 (fun H locs hP hD hS => ?_)
        have hP : va_P D vwCl (wWX12 cB cI cZ a0 I0_l3 L0_l3 (wb_um M0_l3 8 ((I0_l3 3)).toNatClampNeg ((x1 >>> (y3_2 &&& 31)) &&& (255 : Int32)))) H := hP
        have hD : va_D A (wWX12 cB cI cZ a0 I0_l3 L0_l3 (wb_um M0_l3 8 ((I0_l3 3)).toNatClampNeg ((x1 >>> (y3_2 &&& 31)) &&& (255 : Int32)))) := hD
        obtain ⟨M0_1, eM0_1, hf⟩ := wb_v hf
        rw [← eM0_1] at hP hD
        refine lv_aload_n hx hb dX12_lays_23 rfl (lv_at hl 0 rfl) ?_
        refine lv_dup hx hb dX12_lays_24 rfl ?_
        refine va_get (D := D) (ci := 12) (v := .int (I0_l3 3)) (C := RX12) (T := TX12) (N := 58) hx hb hts hinX12 hown hK hP 0 rfl rfl 12 (by decide) (hts (.fieldLink RX12 132 "WheelBookModel" "taped" "I") (List.mem_of_getElem? (i := 2) rfl)) (fun _ h9 => h9) rfl dX12_lays_25 ?_
        refine lv_iconst (v := (1 : Int32)) hx hb dX12_lays_28 (by decide) ?_
        refine lv_iadd hx hb dX12_lays_29 ?_
        refine va_put (D := D) (ci := 12) (v := .int ((I0_l3 3) + (1 : Int32))) (ty := .int) (C := RX12) (T := TX12) (N := 58) hx hb hts hinX12 tyX12 tyX12_ok nmX12 hown hK hP hD hS 0 rfl rfl 12 (by decide) (hts (.fieldLink RX12 132 "WheelBookModel" "taped" "I") (List.mem_of_getElem? (i := 2) rfl)) (fun _ h9 => h9) rfl (by decide +kernel) rfl rfl (Nat.le_of_ble_eq_true rfl) dX12_lays_30 (fun H locs hP hD hS => ?_)
        have hP : va_P D vwCl (wWX12 cB cI cZ a0 (upd I0_l3 3 ((I0_l3 3) + (1 : Int32))) L0_l3 M0_1) H := hP
        have hD : va_D A (wWX12 cB cI cZ a0 (upd I0_l3 3 ((I0_l3 3) + (1 : Int32))) L0_l3 M0_1) := hD
        obtain ⟨I0_2, eI0_2, hf⟩ := wb_v hf
        rw [← eI0_2] at hP hD
        obtain ⟨v3, ev3, hf⟩ := wb_v hf
        refine lv_iinc (v := v3) (lv' := [(2, .int v3), (0, .ref (a0 0)), (1, .int x1)]) hx hb dX12_lays_33 hl (k := 2) rfl (by rw [ev3]; rfl) (by decide) rfl (fun ls hl => ?_)
        refine lv_goto (tgt := 3) hx hb dX12_lays_36 (by decide) ?_
        exact ih3 I0_2 L0_l3 M0_1 v3 H locs hP hD hS ls (lv_sub hl [1, 2, 0] rfl) hf
  exact Lh3 N I0 L0 M0 (24 : Int32) H locs hP hD hS ls (lv_sub hl [1, 2, 0] rfl) hf

set_option maxHeartbeats 4000000 in
set_option maxRecDepth 100000 in
theorem cn_X12_feed (l : Launch) (D : va_G) (cB cI cZ : ClassId) (N : Nat) (a0 : Nat → Nat) (I0 : Nat → Int32) (L0 : Int64) (M0 : Nat → Nat → Int32) (x1 : Int32) (x2 : Int32) (x3 : Int32) (x4 : Int32) (x5 : Int32) (sz : Nat) (R : Int32 × (Nat → Int32) × Int64 × (Nat → Nat → Int32)) (hf : fX12_feed N I0 L0 M0 x1 x2 x3 x4 x5 = some R) : Met l yX12_feed wsX12_feed ({ frames := 1, cells := 0, slots := 0, locals := 22 }) (va_Pc [.ref (a0 0), .int x1, .int x2, .int x3, .int x4, .int x5] (wb_preD D [(cB, .byte), (cI, .int), (cZ, .boolean)] (wWX12 cB cI cZ a0 I0 L0 M0) sz)) (va_Qi (fun r (_ : Unit) => r = R.1) (fun _ t => wb_post D [(cB, .byte), (cI, .int), (cZ, .boolean)] (va_A (wWX12 cB cI cZ a0 I0 L0 M0) sz) (wWX12 cB cI cZ a0 R.2.1 R.2.2.1 R.2.2.2) t) (va_A (wWX12 cB cI cZ a0 I0 L0 M0) sz)) 0 0 (va_A (wWX12 cB cI cZ a0 I0 L0 M0) sz) := by
  refine Met.ofW (cc := cX12_feed) (maxL := 6) (ret := (some .int)) pn_X12 rfl ?_
  intro p e s m args below meth c s₁ B hml hv
  obtain ⟨rfl, hsz, hP, hK, hD0⟩ := hv
  have hx := B.exec
  have hb := B.bytes
  have hr := B.returns
  have hts := atoms_spec (ws := wsX12_feed) B.pre
  have hown : s.vm.findClass RX12 = some m.cls := (findClass_of_methodNamed B.named :)
  have hlocks := B.notSynchronized
  have hinX12 : ∀ w ∈ u_ws RX12 TX12 58, w ∈ wsX12_feed := fun w h => List.mem_cons_of_mem _ (List.mem_append_right _ h)
  subst hsz
  have hD := hD0.self (sz := s.heap.size)
  generalize hAe : va_A (wWX12 cB cI cZ a0 I0 L0 M0) s.heap.size = A at hD ⊢
  have hA : ∀ q : Nat, s.heap.size ≤ q → A q := fun q h => by rw [← hAe]; exact Or.inr h
  have hS : va_S A s.heap s.heap [] := va_S.rf
  have hl := lv_entry ([.ref (a0 0), .int x1, .int x2, .int x3, .int x4, .int x5]) (n := 6) (Nat.le_of_ble_eq_true rfl)
  rw [lg_entry_eq]
  generalize (lg_sl ([.ref (a0 0), .int x1, .int x2, .int x3, .int x4, .int x5]) ++ List.replicate (6 - (lg_sl ([.ref (a0 0), .int x1, .int x2, .int x3, .int x4, .int x5])).length) Slot.unset).toArray = ls at hl ⊢
  have hl : lv_has ls 6 [(0, .ref (a0 0)), (1, .int x1), (2, .int x2), (3, .int x3), (4, .int x4), (5, .int x5)] := hl
  unfold fX12_feed at hf
  obtain ⟨H, hHe⟩ : ∃ H : Heap, H = s.heap := ⟨_, rfl⟩
  obtain ⟨locs, hle⟩ : ∃ locs : List Loc, locs = [] := ⟨_, rfl⟩
  refine wb_start (H := H) (locs := locs) hHe hle ?_
  rw [← hHe] at hP
  have hS : va_S A s.heap H locs := by rw [hHe, hle]; exact va_S.rf
  refine lv_aload_n hx hb dX12_feed_0 rfl (lv_at hl 0 rfl) ?_
  refine lv_iconst (v := (0 : Int32)) hx hb dX12_feed_1 (by decide) ?_
  refine va_put (D := D) (ci := 12) (v := .int (0 : Int32)) (ty := .int) (C := RX12) (T := TX12) (N := 58) hx hb hts hinX12 tyX12 tyX12_ok nmX12 hown hK hP hD hS 0 rfl rfl 0 (by decide) (hts (.fieldLink RX12 129 "WheelBookModel" "thrown" "I") (List.mem_of_getElem? (i := 1) rfl)) (fun _ h9 => h9) rfl (by decide +kernel) rfl rfl (Nat.le_of_ble_eq_true rfl) dX12_feed_2 (fun H locs hP hD hS => ?_)
  have hP : va_P D vwCl (wWX12 cB cI cZ a0 (upd I0 0 (0 : Int32)) L0 M0) H := hP
  have hD : va_D A (wWX12 cB cI cZ a0 (upd I0 0 (0 : Int32)) L0 M0) := hD
  obtain ⟨I0_1, eI0_1, hf⟩ := wb_v hf
  rw [← eI0_1] at hP hD
  refine lv_aload_n hx hb dX12_feed_5 rfl (lv_at hl 0 rfl) ?_
  refine va_get (D := D) (ci := 12) (v := .int (I0_1 3)) (C := RX12) (T := TX12) (N := 58) hx hb hts hinX12 hown hK hP 0 rfl rfl 12 (by decide) (hts (.fieldLink RX12 132 "WheelBookModel" "taped" "I") (List.mem_of_getElem? (i := 2) rfl)) (fun _ h9 => h9) rfl dX12_feed_6 ?_
  refine lv_bipush (v := (20 : Int32)) hx hb dX12_feed_9 (by decide) ?_
  refine lv_iadd hx hb dX12_feed_11 ?_
  refine lv_sipush (v := (600 : Int32)) hx hb dX12_feed_12 (by decide) ?_
  refine lv_icmp_le (tgt := 20) hx hb dX12_feed_15 (by decide) (fun hc => ?_) (fun hc => ?_)
  · replace hf := wb_t hc hf
    refine lv_aload_n hx hb dX12_feed_20 rfl (lv_at hl 0 rfl) ?_
    refine lv_iload_n hx hb dX12_feed_21 rfl (lv_at hl 1 rfl) ?_
    obtain ⟨r2, hr2, hf⟩ := wb_b hf
    have hPc := hP
    have hDc := hD
    have hFc := wj_F hDc hS hA
    refine va_callv (va_runV (As := [.int x1]) (rest := []) ⟨hx, hb, hml, hown, hts⟩ (cn_X12_lays l D cB cI cZ N a0 I0_1 L0 M0 x1 H.size r2 hr2) (cwV 1 hts gX12_feed_X12_lays rfl rfl rfl cdX12_lays ⟨Nat.le_of_ble_eq_true rfl, Nat.le_of_ble_eq_true rfl⟩) (wb_preDV hPc hK hDc (wr_12 hK hP (q0 := 0) rfl)) rfl rfl hl.1 rfl (lv_room (Nat.le_of_ble_eq_true rfl)) dX12_feed_22 ⟨Nat.le_of_ble_eq_true rfl, Nat.le_of_ble_eq_true rfl⟩) hS (fun q _ h => hFc q h) hFc (fun u t H locs ht hvm hw hB hz1 hk1 hS => ?_)
    obtain ⟨hP, hD⟩ := wj_0 hFc ht hB
    refine lv_aload_n hx hb dX12_feed_25 rfl (lv_at hl 0 rfl) ?_
    refine lv_iload_n hx hb dX12_feed_26 rfl (lv_at hl 2 rfl) ?_
    obtain ⟨r3, hr3, hf⟩ := wb_b hf
    have hPc := hP
    have hDc := hD
    have hFc := wj_F hDc hS hA
    refine va_callv (va_runV (As := [.int x2]) (rest := []) ⟨hx, hb, hml, hown, hts⟩ (cn_X12_lays l D cB cI cZ N a0 r2.1 r2.2.1 r2.2.2 x2 H.size r3 hr3) (cwV 1 hts gX12_feed_X12_lays rfl rfl rfl cdX12_lays ⟨Nat.le_of_ble_eq_true rfl, Nat.le_of_ble_eq_true rfl⟩) (wb_preDV hPc hK hDc (wr_12 hK hP (q0 := 0) rfl)) rfl rfl hl.1 rfl (lv_room (Nat.le_of_ble_eq_true rfl)) dX12_feed_27 ⟨Nat.le_of_ble_eq_true rfl, Nat.le_of_ble_eq_true rfl⟩) hS (fun q _ h => hFc q h) hFc (fun u t H locs ht hvm hw hB hz1 hk1 hS => ?_)
    obtain ⟨hP, hD⟩ := wj_0 hFc ht hB
    refine lv_aload_n hx hb dX12_feed_30 rfl (lv_at hl 0 rfl) ?_
    refine lv_iload_n hx hb dX12_feed_31 rfl (lv_at hl 3 rfl) ?_
    obtain ⟨r4, hr4, hf⟩ := wb_b hf
    have hPc := hP
    have hDc := hD
    have hFc := wj_F hDc hS hA
    refine va_callv (va_runV (As := [.int x3]) (rest := []) ⟨hx, hb, hml, hown, hts⟩ (cn_X12_lays l D cB cI cZ N a0 r3.1 r3.2.1 r3.2.2 x3 H.size r4 hr4) (cwV 1 hts gX12_feed_X12_lays rfl rfl rfl cdX12_lays ⟨Nat.le_of_ble_eq_true rfl, Nat.le_of_ble_eq_true rfl⟩) (wb_preDV hPc hK hDc (wr_12 hK hP (q0 := 0) rfl)) rfl rfl hl.1 rfl (lv_room (Nat.le_of_ble_eq_true rfl)) dX12_feed_32 ⟨Nat.le_of_ble_eq_true rfl, Nat.le_of_ble_eq_true rfl⟩) hS (fun q _ h => hFc q h) hFc (fun u t H locs ht hvm hw hB hz1 hk1 hS => ?_)
    obtain ⟨hP, hD⟩ := wj_0 hFc ht hB
    refine lv_aload_n hx hb dX12_feed_35 rfl (lv_at hl 0 rfl) ?_
    refine lv_iload hx hb dX12_feed_36 (lv_at hl 4 rfl) ?_
    obtain ⟨r5, hr5, hf⟩ := wb_b hf
    have hPc := hP
    have hDc := hD
    have hFc := wj_F hDc hS hA
    refine va_callv (va_runV (As := [.int x4]) (rest := []) ⟨hx, hb, hml, hown, hts⟩ (cn_X12_lays l D cB cI cZ N a0 r4.1 r4.2.1 r4.2.2 x4 H.size r5 hr5) (cwV 1 hts gX12_feed_X12_lays rfl rfl rfl cdX12_lays ⟨Nat.le_of_ble_eq_true rfl, Nat.le_of_ble_eq_true rfl⟩) (wb_preDV hPc hK hDc (wr_12 hK hP (q0 := 0) rfl)) rfl rfl hl.1 rfl (lv_room (Nat.le_of_ble_eq_true rfl)) dX12_feed_38 ⟨Nat.le_of_ble_eq_true rfl, Nat.le_of_ble_eq_true rfl⟩) hS (fun q _ h => hFc q h) hFc (fun u t H locs ht hvm hw hB hz1 hk1 hS => ?_)
    obtain ⟨hP, hD⟩ := wj_0 hFc ht hB
    refine lv_aload_n hx hb dX12_feed_41 rfl (lv_at hl 0 rfl) ?_
    refine lv_iload hx hb dX12_feed_42 (lv_at hl 5 rfl) ?_
    obtain ⟨r6, hr6, hf⟩ := wb_b hf
    have hPc := hP
    have hDc := hD
    have hFc := wj_F hDc hS hA
    refine va_callv (va_runV (As := [.int x5]) (rest := []) ⟨hx, hb, hml, hown, hts⟩ (cn_X12_lays l D cB cI cZ N a0 r5.1 r5.2.1 r5.2.2 x5 H.size r6 hr6) (cwV 1 hts gX12_feed_X12_lays rfl rfl rfl cdX12_lays ⟨Nat.le_of_ble_eq_true rfl, Nat.le_of_ble_eq_true rfl⟩) (wb_preDV hPc hK hDc (wr_12 hK hP (q0 := 0) rfl)) rfl rfl hl.1 rfl (lv_room (Nat.le_of_ble_eq_true rfl)) dX12_feed_44 ⟨Nat.le_of_ble_eq_true rfl, Nat.le_of_ble_eq_true rfl⟩) hS (fun q _ h => hFc q h) hFc (fun u t H locs ht hvm hw hB hz1 hk1 hS => ?_)
    obtain ⟨hP, hD⟩ := wj_0 hFc ht hB
    refine lv_aload_n hx hb dX12_feed_47 rfl (lv_at hl 0 rfl) ?_
    refine va_get (D := D) (ci := 12) (v := .int (r6.1 3)) (C := RX12) (T := TX12) (N := 58) hx hb hts hinX12 hown hK hP 0 rfl rfl 12 (by decide) (hts (.fieldLink RX12 132 "WheelBookModel" "taped" "I") (List.mem_of_getElem? (i := 2) rfl)) (fun _ h9 => h9) rfl dX12_feed_48 ?_
    exact W.iret (v := (r6.1 3)) hx hb hr (fun t ht hW => by rw [← Option.some.inj hf]; exact ⟨⟨(r6.1 3), (), rfl, rfl, by rw [ht]; exact hP, va_K.moved hW.alike hK, hD⟩, hS.F ht⟩) hS.2.2 dX12_feed_51
  · replace hf := wb_f hc hf
    refine lv_iconst (v := (-1 : Int32)) hx hb dX12_feed_18 (by decide) ?_
    exact W.iret (v := (-1 : Int32)) hx hb hr (fun t ht hW => by rw [← Option.some.inj hf]; exact ⟨⟨(-1 : Int32), (), rfl, rfl, by rw [ht]; exact hP, va_K.moved hW.alike hK, hD⟩, hS.F ht⟩) hS.2.2 dX12_feed_19

set_option maxHeartbeats 4000000 in
set_option maxRecDepth 100000 in
theorem cn_X12_byteAt (l : Launch) (D : va_G) (cB cI cZ : ClassId) (N : Nat) (a0 : Nat → Nat) (I0 : Nat → Int32) (L0 : Int64) (M0 : Nat → Nat → Int32) (x1 : Int32) (R : Int32) (hf : fX12_byteAt N I0 L0 M0 x1 = some R) : Met l yX12_byteAt wsX12_byteAt ({ frames := 0, cells := 0, slots := 0, locals := 0 }) (va_Pc [.ref (a0 0), .int x1] (wb_pre D [(cB, .byte), (cI, .int), (cZ, .boolean)] (wWX12 cB cI cZ a0 I0 L0 M0))) (vp_Si (fun r => r = R)) 0 0 (fun _ => False) := by
  refine Met.ofW (cc := cX12_byteAt) (maxL := 2) (ret := (some .int)) pn_X12 rfl ?_
  intro p e s m args below meth c s₁ B hml hv
  obtain ⟨rfl, hP, hK⟩ := hv
  have hx := B.exec
  have hb := B.bytes
  have hr := B.returns
  have hts := atoms_spec (ws := wsX12_byteAt) B.pre
  have hown : s.vm.findClass RX12 = some m.cls := (findClass_of_methodNamed B.named :)
  have hlocks := B.notSynchronized
  have hinX12 : ∀ w ∈ u_ws RX12 TX12 58, w ∈ wsX12_byteAt := fun w h => List.mem_cons_of_mem _ (List.mem_append_right _ h)
  have hl := lv_entry ([.ref (a0 0), .int x1]) (n := 2) (Nat.le_of_ble_eq_true rfl)
  rw [lg_entry_eq]
  generalize (lg_sl ([.ref (a0 0), .int x1]) ++ List.replicate (2 - (lg_sl ([.ref (a0 0), .int x1])).length) Slot.unset).toArray = ls at hl ⊢
  have hl : lv_has ls 2 [(0, .ref (a0 0)), (1, .int x1)] := hl
  unfold fX12_byteAt at hf
  refine lv_iload_n hx hb dX12_byteAt_0 rfl (lv_at hl 1 rfl) ?_
  refine lv_aload_n hx hb dX12_byteAt_1 rfl (lv_at hl 0 rfl) ?_
  refine va_get (D := D) (ci := 12) (v := .int (I0 6)) (C := RX12) (T := TX12) (N := 58) hx hb hts hinX12 hown hK hP 0 rfl rfl 15 (by decide) (hts (.fieldLink RX12 139 "WheelBookModel" "size" "I") (List.mem_of_getElem? (i := 1) rfl)) (fun _ h9 => h9) rfl dX12_byteAt_2 ?_
  refine lv_icmp_ge (tgt := 17) hx hb dX12_byteAt_5 (by decide) (fun hc => ?_) (fun hc => ?_)
  · replace hf := wb_t hc hf
    refine lv_iconst (v := (0 : Int32)) hx hb dX12_byteAt_17 (by decide) ?_
    exact W.iret (v := (0 : Int32)) hx hb hr (fun t ht hW => ⟨_, rfl, Option.some.inj hf, ht⟩) (fun _ h => nomatch h) dX12_byteAt_18
  · replace hf := wb_f hc hf
    refine lv_aload_n hx hb dX12_byteAt_8 rfl (lv_at hl 0 rfl) ?_
    refine va_get (D := D) (ci := 12) (v := .ref (a0 9)) (C := RX12) (T := TX12) (N := 58) hx hb hts hinX12 hown hK hP 0 rfl rfl 11 (by decide) (hts (.fieldLink RX12 34 "WheelBookModel" "tape" "[I") (List.mem_of_getElem? (i := 2) rfl)) (fun _ h9 => h9) rfl dX12_byteAt_9 ?_
    refine lv_iload_n hx hb dX12_byteAt_12 rfl (lv_at hl 1 rfl) ?_
    obtain ⟨hin, hf⟩ := wb_n hf
    refine va_iald hx hb hK hP 9 1 rfl rfl hin dX12_byteAt_13 ?_
    refine lv_goto (tgt := 18) hx hb dX12_byteAt_14 (by decide) ?_
    exact W.iret (v := (M0 8 (x1).toNatClampNeg)) hx hb hr (fun t ht hW => ⟨_, rfl, Option.some.inj hf, ht⟩) (fun _ h => nomatch h) dX12_byteAt_18

set_option maxHeartbeats 4000000 in
set_option maxRecDepth 100000 in
theorem cn_X12_isLetter (l : Launch) (D : va_G) (cB cI cZ : ClassId) (N : Nat) (x0 : Int32) (R : Int32) (hf : fX12_isLetter N x0 = some R) : Met l yX12_isLetter wsX12_isLetter ({ frames := 0, cells := 0, slots := 0, locals := 0 }) (va_Pc [.int x0] (wb_pre D [(cB, .byte), (cI, .int), (cZ, .boolean)] ([] : va_W))) (vp_Si (fun r => r = R)) 0 0 (fun _ => False) := by
  refine Met.ofW (cc := cX12_isLetter) (maxL := 1) (ret := (some .boolean)) pn_X12 rfl ?_
  intro p e s m args below meth c s₁ B hml hv
  obtain ⟨rfl, hP, hK⟩ := hv
  have hx := B.exec
  have hb := B.bytes
  have hr := B.returns
  have hts := atoms_spec (ws := wsX12_isLetter) B.pre
  have hown : s.vm.findClass RX12 = some m.cls := (findClass_of_methodNamed B.named :)
  have hlocks := B.notSynchronized
  have hl := lv_entry ([.int x0]) (n := 1) (Nat.le_of_ble_eq_true rfl)
  rw [lg_entry_eq]
  generalize (lg_sl ([.int x0]) ++ List.replicate (1 - (lg_sl ([.int x0])).length) Slot.unset).toArray = ls at hl ⊢
  have hl : lv_has ls 1 [(0, .int x0)] := hl
  unfold fX12_isLetter at hf
  refine lv_iload_n hx hb dX12_isLetter_0 rfl (lv_at hl 0 rfl) ?_
  refine lv_bipush (v := (97 : Int32)) hx hb dX12_isLetter_1 (by decide) ?_
  refine lv_icmp_lt (tgt := 16) hx hb dX12_isLetter_3 (by decide) (fun hc => ?_) (fun hc => ?_)
  · replace hf := wb_t hc hf
    refine lv_iconst (v := (0 : Int32)) hx hb dX12_isLetter_16 (by decide) ?_
    exact W.zret (v := (0 : Int32)) hx hb hr (by decide) (fun t ht hW => ⟨_, rfl, Option.some.inj hf, ht⟩) (fun _ h => nomatch h) dX12_isLetter_17
  · replace hf := wb_f hc hf
    refine lv_iload_n hx hb dX12_isLetter_6 rfl (lv_at hl 0 rfl) ?_
    refine lv_bipush (v := (122 : Int32)) hx hb dX12_isLetter_7 (by decide) ?_
    refine lv_icmp_gt (tgt := 16) hx hb dX12_isLetter_9 (by decide) (fun hc => ?_) (fun hc => ?_)
    · replace hf := wb_t hc hf
      refine lv_iconst (v := (0 : Int32)) hx hb dX12_isLetter_16 (by decide) ?_
      exact W.zret (v := (0 : Int32)) hx hb hr (by decide) (fun t ht hW => ⟨_, rfl, Option.some.inj hf, ht⟩) (fun _ h => nomatch h) dX12_isLetter_17
    · replace hf := wb_f hc hf
      refine lv_iconst (v := (1 : Int32)) hx hb dX12_isLetter_12 (by decide) ?_
      refine lv_goto (tgt := 17) hx hb dX12_isLetter_13 (by decide) ?_
      exact W.zret (v := (1 : Int32)) hx hb hr (by decide) (fun t ht hW => ⟨_, rfl, Option.some.inj hf, ht⟩) (fun _ h => nomatch h) dX12_isLetter_17

set_option maxHeartbeats 4000000 in
set_option maxRecDepth 100000 in
theorem cn_X12_isDigit (l : Launch) (D : va_G) (cB cI cZ : ClassId) (N : Nat) (x0 : Int32) (R : Int32) (hf : fX12_isDigit N x0 = some R) : Met l yX12_isDigit wsX12_isDigit ({ frames := 0, cells := 0, slots := 0, locals := 0 }) (va_Pc [.int x0] (wb_pre D [(cB, .byte), (cI, .int), (cZ, .boolean)] ([] : va_W))) (vp_Si (fun r => r = R)) 0 0 (fun _ => False) := by
  refine Met.ofW (cc := cX12_isDigit) (maxL := 1) (ret := (some .boolean)) pn_X12 rfl ?_
  intro p e s m args below meth c s₁ B hml hv
  obtain ⟨rfl, hP, hK⟩ := hv
  have hx := B.exec
  have hb := B.bytes
  have hr := B.returns
  have hts := atoms_spec (ws := wsX12_isDigit) B.pre
  have hown : s.vm.findClass RX12 = some m.cls := (findClass_of_methodNamed B.named :)
  have hlocks := B.notSynchronized
  have hl := lv_entry ([.int x0]) (n := 1) (Nat.le_of_ble_eq_true rfl)
  rw [lg_entry_eq]
  generalize (lg_sl ([.int x0]) ++ List.replicate (1 - (lg_sl ([.int x0])).length) Slot.unset).toArray = ls at hl ⊢
  have hl : lv_has ls 1 [(0, .int x0)] := hl
  unfold fX12_isDigit at hf
  refine lv_iload_n hx hb dX12_isDigit_0 rfl (lv_at hl 0 rfl) ?_
  refine lv_bipush (v := (48 : Int32)) hx hb dX12_isDigit_1 (by decide) ?_
  refine lv_icmp_lt (tgt := 16) hx hb dX12_isDigit_3 (by decide) (fun hc => ?_) (fun hc => ?_)
  · replace hf := wb_t hc hf
    refine lv_iconst (v := (0 : Int32)) hx hb dX12_isDigit_16 (by decide) ?_
    exact W.zret (v := (0 : Int32)) hx hb hr (by decide) (fun t ht hW => ⟨_, rfl, Option.some.inj hf, ht⟩) (fun _ h => nomatch h) dX12_isDigit_17
  · replace hf := wb_f hc hf
    refine lv_iload_n hx hb dX12_isDigit_6 rfl (lv_at hl 0 rfl) ?_
    refine lv_bipush (v := (57 : Int32)) hx hb dX12_isDigit_7 (by decide) ?_
    refine lv_icmp_gt (tgt := 16) hx hb dX12_isDigit_9 (by decide) (fun hc => ?_) (fun hc => ?_)
    · replace hf := wb_t hc hf
      refine lv_iconst (v := (0 : Int32)) hx hb dX12_isDigit_16 (by decide) ?_
      exact W.zret (v := (0 : Int32)) hx hb hr (by decide) (fun t ht hW => ⟨_, rfl, Option.some.inj hf, ht⟩) (fun _ h => nomatch h) dX12_isDigit_17
    · replace hf := wb_f hc hf
      refine lv_iconst (v := (1 : Int32)) hx hb dX12_isDigit_12 (by decide) ?_
      refine lv_goto (tgt := 17) hx hb dX12_isDigit_13 (by decide) ?_
      exact W.zret (v := (1 : Int32)) hx hb hr (by decide) (fun t ht hW => ⟨_, rfl, Option.some.inj hf, ht⟩) (fun _ h => nomatch h) dX12_isDigit_17

set_option maxHeartbeats 4000000 in
set_option maxRecDepth 100000 in
theorem cn_X12_steps (l : Launch) (D : va_G) (cB cI cZ : ClassId) (N : Nat) (a0 : Nat → Nat) (I0 : Nat → Int32) (L0 : Int64) (M0 : Nat → Nat → Int32) (sz : Nat) (R : (Nat → Int32) × Int64 × (Nat → Nat → Int32)) (hf : fX12_steps N I0 L0 M0 = some R) : Met l yX12_steps wsX12_steps ({ frames := 1, cells := 0, slots := 0, locals := 21 }) (va_Pc [.ref (a0 0)] (wb_preD D [(cB, .byte), (cI, .int), (cZ, .boolean)] (wWX12 cB cI cZ a0 I0 L0 M0) sz)) (va_Qv (fun _ : Unit => True) (fun _ t => wb_post D [(cB, .byte), (cI, .int), (cZ, .boolean)] (va_A (wWX12 cB cI cZ a0 I0 L0 M0) sz) (wWX12 cB cI cZ a0 R.1 R.2.1 R.2.2) t) (va_A (wWX12 cB cI cZ a0 I0 L0 M0) sz)) 0 0 (va_A (wWX12 cB cI cZ a0 I0 L0 M0) sz) := by
  refine Met.ofW (cc := cX12_steps) (maxL := 2) (ret := none) pn_X12 rfl ?_
  intro p e s m args below meth c s₁ B hml hv
  obtain ⟨rfl, hsz, hP, hK, hD0⟩ := hv
  have hx := B.exec
  have hb := B.bytes
  have hr := B.returns
  have hts := atoms_spec (ws := wsX12_steps) B.pre
  have hown : s.vm.findClass RX12 = some m.cls := (findClass_of_methodNamed B.named :)
  have hlocks := B.notSynchronized
  have hinX12 : ∀ w ∈ u_ws RX12 TX12 58, w ∈ wsX12_steps := fun w h => List.mem_cons_of_mem _ (List.mem_append_right _ h)
  subst hsz
  have hD := hD0.self (sz := s.heap.size)
  generalize hAe : va_A (wWX12 cB cI cZ a0 I0 L0 M0) s.heap.size = A at hD ⊢
  have hA : ∀ q : Nat, s.heap.size ≤ q → A q := fun q h => by rw [← hAe]; exact Or.inr h
  have hS : va_S A s.heap s.heap [] := va_S.rf
  have hl := lv_entry ([.ref (a0 0)]) (n := 2) (Nat.le_of_ble_eq_true rfl)
  rw [lg_entry_eq]
  generalize (lg_sl ([.ref (a0 0)]) ++ List.replicate (2 - (lg_sl ([.ref (a0 0)])).length) Slot.unset).toArray = ls at hl ⊢
  have hl : lv_has ls 2 [(0, .ref (a0 0))] := hl
  unfold fX12_steps at hf
  obtain ⟨H, hHe⟩ : ∃ H : Heap, H = s.heap := ⟨_, rfl⟩
  obtain ⟨locs, hle⟩ : ∃ locs : List Loc, locs = [] := ⟨_, rfl⟩
  refine wb_start (H := H) (locs := locs) hHe hle ?_
  rw [← hHe] at hP
  have hS : va_S A s.heap H locs := by rw [hHe, hle]; exact va_S.rf
  have J279 : ∀ (I0_j279 : Nat → Int32) (L0_j279 : Int64) (M0_j279 : Nat → Nat → Int32) (H : Heap) (locs : List Loc), va_P D vwCl (wWX12 cB cI cZ a0 I0_j279 L0_j279 M0_j279) H → va_D A (wWX12 cB cI cZ a0 I0_j279 L0_j279 M0_j279) → va_S A s.heap H locs → ∀ (ls : Array Slot), lv_has ls 2 [(0, .ref (a0 0))] → fX12_steps_J279 N I0_j279 L0_j279 M0_j279 = some R → W p l e (headSpec wsX12_steps { frames := 1, cells := 0, slots := 0, locals := 21 }).room s m [.ref (a0 0)].toArray below meth c H locs 0 0 (MQ below (va_Qv (fun _ : Unit => True) (fun _ t => wb_post D [(cB, .byte), (cI, .int), (cZ, .boolean)] A (wWX12 cB cI cZ a0 R.1 R.2.1 R.2.2) t) A) [.ref (a0 0)].toArray s 0 0 A) (F0 m 279 ls []) := by
    intro I0_j279 L0_j279 M0_j279 H locs hP hD hS ls hl hf
    unfold fX12_steps_J279 at hf
    refine lv_aload_n hx hb dX12_steps_279 rfl (lv_at hl 0 rfl) ?_
    refine lv_aload_n hx hb dX12_steps_280 rfl (lv_at hl 0 rfl) ?_
    refine va_get (D := D) (ci := 12) (v := .int (I0_j279 7)) (C := RX12) (T := TX12) (N := 58) hx hb hts hinX12 hown hK hP 0 rfl rfl 16 (by decide) (hts (.fieldLink RX12 142 "WheelBookModel" "next" "I") (List.mem_of_getElem? (i := 1) rfl)) (fun _ h9 => h9) rfl dX12_steps_281 ?_
    refine lv_aload_n hx hb dX12_steps_284 rfl (lv_at hl 0 rfl) ?_
    refine va_get (D := D) (ci := 12) (v := .int (I0_j279 9)) (C := RX12) (T := TX12) (N := 58) hx hb hts hinX12 hown hK hP 0 rfl rfl 18 (by decide) (hts (.fieldLink RX12 149 "WheelBookModel" "place" "I") (List.mem_of_getElem? (i := 3) rfl)) (fun _ h9 => h9) rfl dX12_steps_285 ?_
    refine lv_isub hx hb dX12_steps_288 ?_
    refine va_put (D := D) (ci := 12) (v := .int ((I0_j279 7) - (I0_j279 9))) (ty := .int) (C := RX12) (T := TX12) (N := 58) hx hb hts hinX12 tyX12 tyX12_ok nmX12 hown hK hP hD hS 0 rfl rfl 19 (by decide) (hts (.fieldLink RX12 169 "WheelBookModel" "long0" "I") (List.mem_of_getElem? (i := 7) rfl)) (fun _ h9 => h9) rfl (by decide +kernel) rfl rfl (Nat.le_of_ble_eq_true rfl) dX12_steps_289 (fun H locs hP hD hS => ?_)
    have hP : va_P D vwCl (wWX12 cB cI cZ a0 (upd I0_j279 10 ((I0_j279 7) - (I0_j279 9))) L0_j279 M0_j279) H := hP
    have hD : va_D A (wWX12 cB cI cZ a0 (upd I0_j279 10 ((I0_j279 7) - (I0_j279 9))) L0_j279 M0_j279) := hD
    obtain ⟨I0_1, eI0_1, hf⟩ := wb_v hf
    rw [← eI0_1] at hP hD
    exact W.vret hx hb hr (fun t ht hW => by rw [← Option.some.inj hf]; exact ⟨⟨(), rfl, trivial, by rw [ht]; exact hP, va_K.moved hW.alike hK, hD⟩, hS.F ht⟩) hS.2.2 dX12_steps_292
  have J276 : ∀ (I0_j276 : Nat → Int32) (L0_j276 : Int64) (M0_j276 : Nat → Nat → Int32) (z276_0 : Int32) (H : Heap) (locs : List Loc), va_P D vwCl (wWX12 cB cI cZ a0 I0_j276 L0_j276 M0_j276) H → va_D A (wWX12 cB cI cZ a0 I0_j276 L0_j276 M0_j276) → va_S A s.heap H locs → ∀ (ls : Array Slot), lv_has ls 2 [(0, .ref (a0 0))] → fX12_steps_J276 N I0_j276 L0_j276 M0_j276 z276_0 = some R → W p l e (headSpec wsX12_steps { frames := 1, cells := 0, slots := 0, locals := 21 }).room s m [.ref (a0 0)].toArray below meth c H locs 0 0 (MQ below (va_Qv (fun _ : Unit => True) (fun _ t => wb_post D [(cB, .byte), (cI, .int), (cZ, .boolean)] A (wWX12 cB cI cZ a0 R.1 R.2.1 R.2.2) t) A) [.ref (a0 0)].toArray s 0 0 A) (F0 m 276 ls [.int z276_0, .ref (a0 0)]) := by
    intro I0_j276 L0_j276 M0_j276 z276_0 H locs hP hD hS ls hl hf
    unfold fX12_steps_J276 at hf
    refine va_put (D := D) (ci := 12) (v := .int z276_0) (ty := .int) (C := RX12) (T := TX12) (N := 58) hx hb hts hinX12 tyX12 tyX12_ok nmX12 hown hK hP hD hS 0 rfl rfl 17 (by decide) (hts (.fieldLink RX12 159 "WheelBookModel" "sort" "I") (List.mem_of_getElem? (i := 6) rfl)) (fun _ h9 => h9) rfl (by decide +kernel) rfl rfl (Nat.le_of_ble_eq_true rfl) dX12_steps_276 (fun H locs hP hD hS => ?_)
    have hP : va_P D vwCl (wWX12 cB cI cZ a0 (upd I0_j276 8 z276_0) L0_j276 M0_j276) H := hP
    have hD : va_D A (wWX12 cB cI cZ a0 (upd I0_j276 8 z276_0) L0_j276 M0_j276) := hD
    obtain ⟨I0_2, eI0_2, hf⟩ := wb_v hf
    rw [← eI0_2] at hP hD
    exact J279 I0_2 L0_j276 M0_j276 H locs hP hD hS ls (lv_sub hl [0] rfl) hf
  have J50 : ∀ (I0_j50 : Nat → Int32) (L0_j50 : Int64) (M0_j50 : Nat → Nat → Int32) (H : Heap) (locs : List Loc), va_P D vwCl (wWX12 cB cI cZ a0 I0_j50 L0_j50 M0_j50) H → va_D A (wWX12 cB cI cZ a0 I0_j50 L0_j50 M0_j50) → va_S A s.heap H locs → ∀ (ls : Array Slot), lv_has ls 2 [(0, .ref (a0 0))] → fX12_steps_J50 N I0_j50 L0_j50 M0_j50 = some R → W p l e (headSpec wsX12_steps { frames := 1, cells := 0, slots := 0, locals := 21 }).room s m [.ref (a0 0)].toArray below meth c H locs 0 0 (MQ below (va_Qv (fun _ : Unit => True) (fun _ t => wb_post D [(cB, .byte), (cI, .int), (cZ, .boolean)] A (wWX12 cB cI cZ a0 R.1 R.2.1 R.2.2) t) A) [.ref (a0 0)].toArray s 0 0 A) (F0 m 50 ls []) := by
    intro I0_j50 L0_j50 M0_j50 H locs hP hD hS ls hl hf
    unfold fX12_steps_J50 at hf
    refine lv_aload_n hx hb dX12_steps_50 rfl (lv_at hl 0 rfl) ?_
    refine lv_aload_n hx hb dX12_steps_51 rfl (lv_at hl 0 rfl) ?_
    refine va_get (D := D) (ci := 12) (v := .int (I0_j50 7)) (C := RX12) (T := TX12) (N := 58) hx hb hts hinX12 hown hK hP 0 rfl rfl 16 (by decide) (hts (.fieldLink RX12 142 "WheelBookModel" "next" "I") (List.mem_of_getElem? (i := 1) rfl)) (fun _ h9 => h9) rfl dX12_steps_52 ?_
    refine va_put (D := D) (ci := 12) (v := .int (I0_j50 7)) (ty := .int) (C := RX12) (T := TX12) (N := 58) hx hb hts hinX12 tyX12 tyX12_ok nmX12 hown hK hP hD hS 0 rfl rfl 18 (by decide) (hts (.fieldLink RX12 149 "WheelBookModel" "place" "I") (List.mem_of_getElem? (i := 3) rfl)) (fun _ h9 => h9) rfl (by decide +kernel) rfl rfl (Nat.le_of_ble_eq_true rfl) dX12_steps_55 (fun H locs hP hD hS => ?_)
    have hP : va_P D vwCl (wWX12 cB cI cZ a0 (upd I0_j50 9 (I0_j50 7)) L0_j50 M0_j50) H := hP
    have hD : va_D A (wWX12 cB cI cZ a0 (upd I0_j50 9 (I0_j50 7)) L0_j50 M0_j50) := hD
    obtain ⟨I0_3, eI0_3, hf⟩ := wb_v hf
    rw [← eI0_3] at hP hD
    refine lv_aload_n hx hb dX12_steps_58 rfl (lv_at hl 0 rfl) ?_
    refine lv_lconst (v := (0 : Int64)) hx hb dX12_steps_59 (by decide) ?_
    refine va_put (D := D) (ci := 12) (v := .long (0 : Int64)) (ty := .long) (C := RX12) (T := TX12) (N := 58) hx hb hts hinX12 tyX12 tyX12_ok nmX12 hown hK hP hD hS 0 rfl rfl 21 (by decide) (hts (.fieldLink RX12 152 "WheelBookModel" "word" "J") (List.mem_of_getElem? (i := 4) rfl)) (fun _ h9 => h9) rfl (by decide +kernel) rfl rfl (Nat.le_of_ble_eq_true rfl) dX12_steps_60 (fun H locs hP hD hS => ?_)
    have hP : va_P D vwCl (wWX12 cB cI cZ a0 I0_3 (0 : Int64) M0_j50) H := hP
    have hD : va_D A (wWX12 cB cI cZ a0 I0_3 (0 : Int64) M0_j50) := hD
    obtain ⟨L0_4, eL0_4, hf⟩ := wb_v hf
    rw [← eL0_4] at hP hD
    refine lv_aload_n hx hb dX12_steps_63 rfl (lv_at hl 0 rfl) ?_
    refine lv_iconst (v := (0 : Int32)) hx hb dX12_steps_64 (by decide) ?_
    refine va_put (D := D) (ci := 12) (v := .int (0 : Int32)) (ty := .int) (C := RX12) (T := TX12) (N := 58) hx hb hts hinX12 tyX12 tyX12_ok nmX12 hown hK hP hD hS 0 rfl rfl 20 (by decide) (hts (.fieldLink RX12 156 "WheelBookModel" "value" "I") (List.mem_of_getElem? (i := 5) rfl)) (fun _ h9 => h9) rfl (by decide +kernel) rfl rfl (Nat.le_of_ble_eq_true rfl) dX12_steps_65 (fun H locs hP hD hS => ?_)
    have hP : va_P D vwCl (wWX12 cB cI cZ a0 (upd I0_3 11 (0 : Int32)) L0_4 M0_j50) H := hP
    have hD : va_D A (wWX12 cB cI cZ a0 (upd I0_3 11 (0 : Int32)) L0_4 M0_j50) := hD
    obtain ⟨I0_5, eI0_5, hf⟩ := wb_v hf
    rw [← eI0_5] at hP hD
    refine lv_aload_n hx hb dX12_steps_68 rfl (lv_at hl 0 rfl) ?_
    refine lv_aload_n hx hb dX12_steps_69 rfl (lv_at hl 0 rfl) ?_
    refine va_get (D := D) (ci := 12) (v := .int (I0_5 7)) (C := RX12) (T := TX12) (N := 58) hx hb hts hinX12 hown hK hP 0 rfl rfl 16 (by decide) (hts (.fieldLink RX12 142 "WheelBookModel" "next" "I") (List.mem_of_getElem? (i := 1) rfl)) (fun _ h9 => h9) rfl dX12_steps_70 ?_
    obtain ⟨r6, hr6, hf⟩ := wb_b hf
    refine vp_callSi (W.runV (As := [.int (I0_5 7)]) (rest := []) ⟨hx, hb, hml, hown, hts⟩ (cn_X12_byteAt l D cB cI cZ N a0 I0_5 L0_4 M0_j50 (I0_5 7) r6 hr6) (cwV 1 hts gX12_steps_X12_byteAt rfl rfl rfl cdX12_byteAt ⟨Nat.le_of_ble_eq_true rfl, Nat.le_of_ble_eq_true rfl⟩) (wb_preV hP hK (wr_12 hK hP (q0 := 0) rfl)) rfl rfl hl.1 rfl (lv_room (Nat.le_of_ble_eq_true rfl)) dX12_steps_73 ⟨Nat.le_of_ble_eq_true rfl, Nat.le_of_ble_eq_true rfl⟩) (fun r9 e9 => ?_)
    rw [e9]
    refine lv_istore_n (lv' := [(1, .int r6), (0, .ref (a0 0))]) hx hb dX12_steps_76 rfl hl (by decide) rfl (fun ls hl => ?_)
    refine lv_aload_n hx hb dX12_steps_77 rfl (lv_at hl 1 rfl) ?_
    refine va_get (D := D) (ci := 12) (v := .int (I0_5 7)) (C := RX12) (T := TX12) (N := 58) hx hb hts hinX12 hown hK hP 0 rfl rfl 16 (by decide) (hts (.fieldLink RX12 142 "WheelBookModel" "next" "I") (List.mem_of_getElem? (i := 1) rfl)) (fun _ h9 => h9) rfl dX12_steps_78 ?_
    refine lv_aload_n hx hb dX12_steps_81 rfl (lv_at hl 1 rfl) ?_
    refine va_get (D := D) (ci := 12) (v := .int (I0_5 6)) (C := RX12) (T := TX12) (N := 58) hx hb hts hinX12 hown hK hP 0 rfl rfl 15 (by decide) (hts (.fieldLink RX12 139 "WheelBookModel" "size" "I") (List.mem_of_getElem? (i := 2) rfl)) (fun _ h9 => h9) rfl dX12_steps_82 ?_
    refine lv_icmp_lt (tgt := 96) hx hb dX12_steps_85 (by decide) (fun hc => ?_) (fun hc => ?_)
    · replace hf := wb_t hc hf
      refine lv_iload_n hx hb dX12_steps_96 rfl (lv_at hl 0 rfl) ?_
      obtain ⟨r7, hr7, hf⟩ := wb_b hf
      refine vp_callSi (W.runS (As := [.int r6]) (rest := []) ⟨hx, hb, hml, hown, hts⟩ (cn_X12_isLetter l D cB cI cZ N r6 r7 hr7) (va_cwS 1 hts gX12_steps_X12_isLetter rfl rfl rfl csX12_isLetter ⟨Nat.le_of_ble_eq_true rfl, Nat.le_of_ble_eq_true rfl⟩) (wb_preS (hP.sub (ws' := ([] : va_W)) [] rfl) hK) rfl rfl hl.1 rfl (lv_room (Nat.le_of_ble_eq_true rfl)) dX12_steps_97 ⟨Nat.le_of_ble_eq_true rfl, Nat.le_of_ble_eq_true rfl⟩) (fun r9 e9 => ?_)
      rw [e9]
      refine lv_if_eq (tgt := 175) hx hb dX12_steps_100 (by decide) (fun hc => ?_) (fun hc => ?_)
      · replace hf := wb_t hc hf
        refine lv_iload_n hx hb dX12_steps_175 rfl (lv_at hl 0 rfl) ?_
        obtain ⟨r8, hr8, hf⟩ := wb_b hf
        refine vp_callSi (W.runS (As := [.int r6]) (rest := []) ⟨hx, hb, hml, hown, hts⟩ (cn_X12_isDigit l D cB cI cZ N r6 r8 hr8) (va_cwS 1 hts gX12_steps_X12_isDigit rfl rfl rfl csX12_isDigit ⟨Nat.le_of_ble_eq_true rfl, Nat.le_of_ble_eq_true rfl⟩) (wb_preS (hP.sub (ws' := ([] : va_W)) [] rfl) hK) rfl rfl hl.1 rfl (lv_room (Nat.le_of_ble_eq_true rfl)) dX12_steps_176 ⟨Nat.le_of_ble_eq_true rfl, Nat.le_of_ble_eq_true rfl⟩) (fun r9 e9 => ?_)
        rw [e9]
        refine lv_if_eq (tgt := 254) hx hb dX12_steps_179 (by decide) (fun hc => ?_) (fun hc => ?_)
        · replace hf := wb_t hc hf
          refine lv_aload_n hx hb dX12_steps_254 rfl (lv_at hl 1 rfl) ?_
          refine lv_dup hx hb dX12_steps_255 rfl ?_
          refine va_get (D := D) (ci := 12) (v := .int (I0_5 7)) (C := RX12) (T := TX12) (N := 58) hx hb hts hinX12 hown hK hP 0 rfl rfl 16 (by decide) (hts (.fieldLink RX12 142 "WheelBookModel" "next" "I") (List.mem_of_getElem? (i := 1) rfl)) (fun _ h9 => h9) rfl dX12_steps_256 ?_
          refine lv_iconst (v := (1 : Int32)) hx hb dX12_steps_259 (by decide) ?_
          refine lv_iadd hx hb dX12_steps_260 ?_
          refine va_put (D := D) (ci := 12) (v := .int ((I0_5 7) + (1 : Int32))) (ty := .int) (C := RX12) (T := TX12) (N := 58) hx hb hts hinX12 tyX12 tyX12_ok nmX12 hown hK hP hD hS 0 rfl rfl 16 (by decide) (hts (.fieldLink RX12 142 "WheelBookModel" "next" "I") (List.mem_of_getElem? (i := 1) rfl)) (fun _ h9 => h9) rfl (by decide +kernel) rfl rfl (Nat.le_of_ble_eq_true rfl) dX12_steps_261 (fun H locs hP hD hS => ?_)
          have hP : va_P D vwCl (wWX12 cB cI cZ a0 (upd I0_5 7 ((I0_5 7) + (1 : Int32))) L0_4 M0_j50) H := hP
          have hD : va_D A (wWX12 cB cI cZ a0 (upd I0_5 7 ((I0_5 7) + (1 : Int32))) L0_4 M0_j50) := hD
          obtain ⟨I0_9, eI0_9, hf⟩ := wb_v hf
          rw [← eI0_9] at hP hD
          refine lv_aload_n hx hb dX12_steps_264 rfl (lv_at hl 1 rfl) ?_
          refine lv_iload_n hx hb dX12_steps_265 rfl (lv_at hl 0 rfl) ?_
          refine lv_bipush (v := (59 : Int32)) hx hb dX12_steps_266 (by decide) ?_
          refine lv_icmp_ne (tgt := 275) hx hb dX12_steps_268 (by decide) (fun hc => ?_) (fun hc => ?_)
          · replace hf := wb_f hc hf
            refine lv_iconst (v := (4 : Int32)) hx hb dX12_steps_275 (by decide) ?_
            exact J276 I0_9 L0_4 M0_j50 (4 : Int32) H locs hP hD hS ls (lv_sub hl [1] rfl) hf
          · replace hf := wb_t hc hf
            refine lv_iconst (v := (3 : Int32)) hx hb dX12_steps_271 (by decide) ?_
            refine lv_goto (tgt := 276) hx hb dX12_steps_272 (by decide) ?_
            exact J276 I0_9 L0_4 M0_j50 (3 : Int32) H locs hP hD hS ls (lv_sub hl [1] rfl) hf
        · replace hf := wb_f hc hf
          have Lh182 : ∀ (fu182 : Nat) (I0_l182 : Nat → Int32) (L0_l182 : Int64) (M0_l182 : Nat → Nat → Int32) (H : Heap) (locs : List Loc), va_P D vwCl (wWX12 cB cI cZ a0 I0_l182 L0_l182 M0_l182) H → va_D A (wWX12 cB cI cZ a0 I0_l182 L0_l182 M0_l182) → va_S A s.heap H locs → ∀ (ls : Array Slot), lv_has ls 2 [(0, .ref (a0 0))] → fX12_steps_L182 N fu182 I0_l182 L0_l182 M0_l182 = some R → W p l e (headSpec wsX12_steps { frames := 1, cells := 0, slots := 0, locals := 21 }).room s m [.ref (a0 0)].toArray below meth c H locs 0 0 (MQ below (va_Qv (fun _ : Unit => True) (fun _ t => wb_post D [(cB, .byte), (cI, .int), (cZ, .boolean)] A (wWX12 cB cI cZ a0 R.1 R.2.1 R.2.2) t) A) [.ref (a0 0)].toArray s 0 0 A) (F0 m 182 ls []) := by
            intro fu182
            induction fu182 with
            | zero =>
              intro I0_l182 L0_l182 M0_l182 H locs hP hD hS ls hl hf
              exact absurd hf (by rw [fX12_steps_L182.eq_1]; exact fun h => nomatch h)
            | succ fu182 ih182 =>
              intro I0_l182 L0_l182 M0_l182 H locs hP hD hS ls hl hf
              rw [fX12_steps_L182.eq_2] at hf
              refine lv_aload_n hx hb dX12_steps_182 rfl (lv_at hl 0 rfl) ?_
              refine lv_aload_n hx hb dX12_steps_183 rfl (lv_at hl 0 rfl) ?_
              refine va_get (D := D) (ci := 12) (v := .int (I0_l182 7)) (C := RX12) (T := TX12) (N := 58) hx hb hts hinX12 hown hK hP 0 rfl rfl 16 (by decide) (hts (.fieldLink RX12 142 "WheelBookModel" "next" "I") (List.mem_of_getElem? (i := 1) rfl)) (fun _ h9 => h9) rfl dX12_steps_184 ?_
              obtain ⟨r10, hr10, hf⟩ := wb_b hf
              refine vp_callSi (W.runV (As := [.int (I0_l182 7)]) (rest := []) ⟨hx, hb, hml, hown, hts⟩ (cn_X12_byteAt l D cB cI cZ N a0 I0_l182 L0_l182 M0_l182 (I0_l182 7) r10 hr10) (cwV 1 hts gX12_steps_X12_byteAt rfl rfl rfl cdX12_byteAt ⟨Nat.le_of_ble_eq_true rfl, Nat.le_of_ble_eq_true rfl⟩) (wb_preV hP hK (wr_12 hK hP (q0 := 0) rfl)) rfl rfl hl.1 rfl (lv_room (Nat.le_of_ble_eq_true rfl)) dX12_steps_187 ⟨Nat.le_of_ble_eq_true rfl, Nat.le_of_ble_eq_true rfl⟩) (fun r9 e9 => ?_)
              rw [e9]
              obtain ⟨r11, hr11, hf⟩ := wb_b hf
              refine vp_callSi (W.runS (As := [.int r10]) (rest := []) ⟨hx, hb, hml, hown, hts⟩ (cn_X12_isDigit l D cB cI cZ N r10 r11 hr11) (va_cwS 1 hts gX12_steps_X12_isDigit rfl rfl rfl csX12_isDigit ⟨Nat.le_of_ble_eq_true rfl, Nat.le_of_ble_eq_true rfl⟩) (wb_preS (hP.sub (ws' := ([] : va_W)) [] rfl) hK) rfl rfl hl.1 rfl (lv_room (Nat.le_of_ble_eq_true rfl)) dX12_steps_190 ⟨Nat.le_of_ble_eq_true rfl, Nat.le_of_ble_eq_true rfl⟩) (fun r9 e9 => ?_)
              rw [e9]
              refine lv_if_eq (tgt := 246) hx hb dX12_steps_193 (by decide) (fun hc => ?_) (fun hc => ?_)
              · replace hf := wb_t hc hf
                refine lv_aload_n hx hb dX12_steps_246 rfl (lv_at hl 0 rfl) ?_
                refine lv_iconst (v := (2 : Int32)) hx hb dX12_steps_247 (by decide) ?_
                refine va_put (D := D) (ci := 12) (v := .int (2 : Int32)) (ty := .int) (C := RX12) (T := TX12) (N := 58) hx hb hts hinX12 tyX12 tyX12_ok nmX12 hown hK hP hD hS 0 rfl rfl 17 (by decide) (hts (.fieldLink RX12 159 "WheelBookModel" "sort" "I") (List.mem_of_getElem? (i := 6) rfl)) (fun _ h9 => h9) rfl (by decide +kernel) rfl rfl (Nat.le_of_ble_eq_true rfl) dX12_steps_248 (fun H locs hP hD hS => ?_)
                have hP : va_P D vwCl (wWX12 cB cI cZ a0 (upd I0_l182 8 (2 : Int32)) L0_l182 M0_l182) H := hP
                have hD : va_D A (wWX12 cB cI cZ a0 (upd I0_l182 8 (2 : Int32)) L0_l182 M0_l182) := hD
                obtain ⟨I0_12, eI0_12, hf⟩ := wb_v hf
                rw [← eI0_12] at hP hD
                refine lv_goto (tgt := 279) hx hb dX12_steps_251 (by decide) ?_
                exact J279 I0_12 L0_l182 M0_l182 H locs hP hD hS ls (lv_sub hl [0] rfl) hf
              · replace hf := wb_f hc hf
                refine lv_aload_n hx hb dX12_steps_196 rfl (lv_at hl 0 rfl) ?_
                refine va_get (D := D) (ci := 12) (v := .int (I0_l182 7)) (C := RX12) (T := TX12) (N := 58) hx hb hts hinX12 hown hK hP 0 rfl rfl 16 (by decide) (hts (.fieldLink RX12 142 "WheelBookModel" "next" "I") (List.mem_of_getElem? (i := 1) rfl)) (fun _ h9 => h9) rfl dX12_steps_197 ?_
                refine lv_aload_n hx hb dX12_steps_200 rfl (lv_at hl 0 rfl) ?_
                refine va_get (D := D) (ci := 12) (v := .int (I0_l182 9)) (C := RX12) (T := TX12) (N := 58) hx hb hts hinX12 hown hK hP 0 rfl rfl 18 (by decide) (hts (.fieldLink RX12 149 "WheelBookModel" "place" "I") (List.mem_of_getElem? (i := 3) rfl)) (fun _ h9 => h9) rfl dX12_steps_201 ?_
                refine lv_isub hx hb dX12_steps_204 ?_
                refine lv_bipush (v := (7 : Int32)) hx hb dX12_steps_205 (by decide) ?_
                refine lv_icmp_ge (tgt := 233) hx hb dX12_steps_207 (by decide) (fun hc => ?_) (fun hc => ?_)
                · replace hf := wb_t hc hf
                  refine lv_aload_n hx hb dX12_steps_233 rfl (lv_at hl 0 rfl) ?_
                  refine lv_dup hx hb dX12_steps_234 rfl ?_
                  refine va_get (D := D) (ci := 12) (v := .int (I0_l182 7)) (C := RX12) (T := TX12) (N := 58) hx hb hts hinX12 hown hK hP 0 rfl rfl 16 (by decide) (hts (.fieldLink RX12 142 "WheelBookModel" "next" "I") (List.mem_of_getElem? (i := 1) rfl)) (fun _ h9 => h9) rfl dX12_steps_235 ?_
                  refine lv_iconst (v := (1 : Int32)) hx hb dX12_steps_238 (by decide) ?_
                  refine lv_iadd hx hb dX12_steps_239 ?_
                  refine va_put (D := D) (ci := 12) (v := .int ((I0_l182 7) + (1 : Int32))) (ty := .int) (C := RX12) (T := TX12) (N := 58) hx hb hts hinX12 tyX12 tyX12_ok nmX12 hown hK hP hD hS 0 rfl rfl 16 (by decide) (hts (.fieldLink RX12 142 "WheelBookModel" "next" "I") (List.mem_of_getElem? (i := 1) rfl)) (fun _ h9 => h9) rfl (by decide +kernel) rfl rfl (Nat.le_of_ble_eq_true rfl) dX12_steps_240 (fun H locs hP hD hS => ?_)
                  have hP : va_P D vwCl (wWX12 cB cI cZ a0 (upd I0_l182 7 ((I0_l182 7) + (1 : Int32))) L0_l182 M0_l182) H := hP
                  have hD : va_D A (wWX12 cB cI cZ a0 (upd I0_l182 7 ((I0_l182 7) + (1 : Int32))) L0_l182 M0_l182) := hD
                  obtain ⟨I0_13, eI0_13, hf⟩ := wb_v hf
                  rw [← eI0_13] at hP hD
                  refine lv_goto (tgt := 182) hx hb dX12_steps_243 (by decide) ?_
                  exact ih182 I0_13 L0_l182 M0_l182 H locs hP hD hS ls (lv_sub hl [0] rfl) hf
                · replace hf := wb_f hc hf
                  refine lv_aload_n hx hb dX12_steps_210 rfl (lv_at hl 0 rfl) ?_
                  refine lv_bipush (v := (10 : Int32)) hx hb dX12_steps_211 (by decide) ?_
                  refine lv_aload_n hx hb dX12_steps_213 rfl (lv_at hl 0 rfl) ?_
                  refine va_get (D := D) (ci := 12) (v := .int (I0_l182 11)) (C := RX12) (T := TX12) (N := 58) hx hb hts hinX12 hown hK hP 0 rfl rfl 20 (by decide) (hts (.fieldLink RX12 156 "WheelBookModel" "value" "I") (List.mem_of_getElem? (i := 5) rfl)) (fun _ h9 => h9) rfl dX12_steps_214 ?_
                  refine lv_imul hx hb dX12_steps_217 ?_
                  refine lv_aload_n hx hb dX12_steps_218 rfl (lv_at hl 0 rfl) ?_
                  refine lv_aload_n hx hb dX12_steps_219 rfl (lv_at hl 0 rfl) ?_
                  refine va_get (D := D) (ci := 12) (v := .int (I0_l182 7)) (C := RX12) (T := TX12) (N := 58) hx hb hts hinX12 hown hK hP 0 rfl rfl 16 (by decide) (hts (.fieldLink RX12 142 "WheelBookModel" "next" "I") (List.mem_of_getElem? (i := 1) rfl)) (fun _ h9 => h9) rfl dX12_steps_220 ?_
                  obtain ⟨r14, hr14, hf⟩ := wb_b hf
                  refine vp_callSi (W.runV (As := [.int (I0_l182 7)]) (rest := [.int ((10 : Int32) * (I0_l182 11)), .ref (a0 0)]) ⟨hx, hb, hml, hown, hts⟩ (cn_X12_byteAt l D cB cI cZ N a0 I0_l182 L0_l182 M0_l182 (I0_l182 7) r14 hr14) (cwV 1 hts gX12_steps_X12_byteAt rfl rfl rfl cdX12_byteAt ⟨Nat.le_of_ble_eq_true rfl, Nat.le_of_ble_eq_true rfl⟩) (wb_preV hP hK (wr_12 hK hP (q0 := 0) rfl)) rfl rfl hl.1 rfl (lv_room (Nat.le_of_ble_eq_true rfl)) dX12_steps_223 ⟨Nat.le_of_ble_eq_true rfl, Nat.le_of_ble_eq_true rfl⟩) (fun r9 e9 => ?_)
                  rw [e9]
                  refine lv_iadd hx hb dX12_steps_226 ?_
                  refine lv_bipush (v := (48 : Int32)) hx hb dX12_steps_227 (by decide) ?_
                  refine lv_isub hx hb dX12_steps_229 ?_
                  refine va_put (D := D) (ci := 12) (v := .int ((((10 : Int32) * (I0_l182 11)) + r14) - (48 : Int32))) (ty := .int) (C := RX12) (T := TX12) (N := 58) hx hb hts hinX12 tyX12 tyX12_ok nmX12 hown hK hP hD hS 0 rfl rfl 20 (by decide) (hts (.fieldLink RX12 156 "WheelBookModel" "value" "I") (List.mem_of_getElem? (i := 5) rfl)) (fun _ h9 => h9) rfl (by decide +kernel) rfl rfl (Nat.le_of_ble_eq_true rfl) dX12_steps_230 (fun H locs hP hD hS => ?_)
                  have hP : va_P D vwCl (wWX12 cB cI cZ a0 (upd I0_l182 11 ((((10 : Int32) * (I0_l182 11)) + r14) - (48 : Int32))) L0_l182 M0_l182) H := hP
                  have hD : va_D A (wWX12 cB cI cZ a0 (upd I0_l182 11 ((((10 : Int32) * (I0_l182 11)) + r14) - (48 : Int32))) L0_l182 M0_l182) := hD
                  obtain ⟨I0_15, eI0_15, hf⟩ := wb_v hf
                  rw [← eI0_15] at hP hD
                  refine lv_aload_n hx hb dX12_steps_233 rfl (lv_at hl 0 rfl) ?_
                  refine lv_dup hx hb dX12_steps_234 rfl ?_
                  refine va_get (D := D) (ci := 12) (v := .int (I0_15 7)) (C := RX12) (T := TX12) (N := 58) hx hb hts hinX12 hown hK hP 0 rfl rfl 16 (by decide) (hts (.fieldLink RX12 142 "WheelBookModel" "next" "I") (List.mem_of_getElem? (i := 1) rfl)) (fun _ h9 => h9) rfl dX12_steps_235 ?_
                  refine lv_iconst (v := (1 : Int32)) hx hb dX12_steps_238 (by decide) ?_
                  refine lv_iadd hx hb dX12_steps_239 ?_
                  refine va_put (D := D) (ci := 12) (v := .int ((I0_15 7) + (1 : Int32))) (ty := .int) (C := RX12) (T := TX12) (N := 58) hx hb hts hinX12 tyX12 tyX12_ok nmX12 hown hK hP hD hS 0 rfl rfl 16 (by decide) (hts (.fieldLink RX12 142 "WheelBookModel" "next" "I") (List.mem_of_getElem? (i := 1) rfl)) (fun _ h9 => h9) rfl (by decide +kernel) rfl rfl (Nat.le_of_ble_eq_true rfl) dX12_steps_240 (fun H locs hP hD hS => ?_)
                  have hP : va_P D vwCl (wWX12 cB cI cZ a0 (upd I0_15 7 ((I0_15 7) + (1 : Int32))) L0_l182 M0_l182) H := hP
                  have hD : va_D A (wWX12 cB cI cZ a0 (upd I0_15 7 ((I0_15 7) + (1 : Int32))) L0_l182 M0_l182) := hD
                  obtain ⟨I0_16, eI0_16, hf⟩ := wb_v hf
                  rw [← eI0_16] at hP hD
                  refine lv_goto (tgt := 182) hx hb dX12_steps_243 (by decide) ?_
                  exact ih182 I0_16 L0_l182 M0_l182 H locs hP hD hS ls (lv_sub hl [0] rfl) hf
          exact Lh182 N I0_5 L0_4 M0_j50 H locs hP hD hS ls (lv_sub hl [1] rfl) hf
      · replace hf := wb_f hc hf
        have Lh103 : ∀ (fu103 : Nat) (I0_l103 : Nat → Int32) (L0_l103 : Int64) (M0_l103 : Nat → Nat → Int32) (H : Heap) (locs : List Loc), va_P D vwCl (wWX12 cB cI cZ a0 I0_l103 L0_l103 M0_l103) H → va_D A (wWX12 cB cI cZ a0 I0_l103 L0_l103 M0_l103) → va_S A s.heap H locs → ∀ (ls : Array Slot), lv_has ls 2 [(0, .ref (a0 0))] → fX12_steps_L103 N fu103 I0_l103 L0_l103 M0_l103 = some R → W p l e (headSpec wsX12_steps { frames := 1, cells := 0, slots := 0, locals := 21 }).room s m [.ref (a0 0)].toArray below meth c H locs 0 0 (MQ below (va_Qv (fun _ : Unit => True) (fun _ t => wb_post D [(cB, .byte), (cI, .int), (cZ, .boolean)] A (wWX12 cB cI cZ a0 R.1 R.2.1 R.2.2) t) A) [.ref (a0 0)].toArray s 0 0 A) (F0 m 103 ls []) := by
          intro fu103
          induction fu103 with
          | zero =>
            intro I0_l103 L0_l103 M0_l103 H locs hP hD hS ls hl hf
            exact absurd hf (by rw [fX12_steps_L103.eq_1]; exact fun h => nomatch h)
          | succ fu103 ih103 =>
            intro I0_l103 L0_l103 M0_l103 H locs hP hD hS ls hl hf
            rw [fX12_steps_L103.eq_2] at hf
            refine lv_aload_n hx hb dX12_steps_103 rfl (lv_at hl 0 rfl) ?_
            refine lv_aload_n hx hb dX12_steps_104 rfl (lv_at hl 0 rfl) ?_
            refine va_get (D := D) (ci := 12) (v := .int (I0_l103 7)) (C := RX12) (T := TX12) (N := 58) hx hb hts hinX12 hown hK hP 0 rfl rfl 16 (by decide) (hts (.fieldLink RX12 142 "WheelBookModel" "next" "I") (List.mem_of_getElem? (i := 1) rfl)) (fun _ h9 => h9) rfl dX12_steps_105 ?_
            obtain ⟨r17, hr17, hf⟩ := wb_b hf
            refine vp_callSi (W.runV (As := [.int (I0_l103 7)]) (rest := []) ⟨hx, hb, hml, hown, hts⟩ (cn_X12_byteAt l D cB cI cZ N a0 I0_l103 L0_l103 M0_l103 (I0_l103 7) r17 hr17) (cwV 1 hts gX12_steps_X12_byteAt rfl rfl rfl cdX12_byteAt ⟨Nat.le_of_ble_eq_true rfl, Nat.le_of_ble_eq_true rfl⟩) (wb_preV hP hK (wr_12 hK hP (q0 := 0) rfl)) rfl rfl hl.1 rfl (lv_room (Nat.le_of_ble_eq_true rfl)) dX12_steps_108 ⟨Nat.le_of_ble_eq_true rfl, Nat.le_of_ble_eq_true rfl⟩) (fun r9 e9 => ?_)
            rw [e9]
            obtain ⟨r18, hr18, hf⟩ := wb_b hf
            refine vp_callSi (W.runS (As := [.int r17]) (rest := []) ⟨hx, hb, hml, hown, hts⟩ (cn_X12_isLetter l D cB cI cZ N r17 r18 hr18) (va_cwS 1 hts gX12_steps_X12_isLetter rfl rfl rfl csX12_isLetter ⟨Nat.le_of_ble_eq_true rfl, Nat.le_of_ble_eq_true rfl⟩) (wb_preS (hP.sub (ws' := ([] : va_W)) [] rfl) hK) rfl rfl hl.1 rfl (lv_room (Nat.le_of_ble_eq_true rfl)) dX12_steps_111 ⟨Nat.le_of_ble_eq_true rfl, Nat.le_of_ble_eq_true rfl⟩) (fun r9 e9 => ?_)
            rw [e9]
            refine lv_if_eq (tgt := 167) hx hb dX12_steps_114 (by decide) (fun hc => ?_) (fun hc => ?_)
            · replace hf := wb_t hc hf
              refine lv_aload_n hx hb dX12_steps_167 rfl (lv_at hl 0 rfl) ?_
              refine lv_iconst (v := (1 : Int32)) hx hb dX12_steps_168 (by decide) ?_
              refine va_put (D := D) (ci := 12) (v := .int (1 : Int32)) (ty := .int) (C := RX12) (T := TX12) (N := 58) hx hb hts hinX12 tyX12 tyX12_ok nmX12 hown hK hP hD hS 0 rfl rfl 17 (by decide) (hts (.fieldLink RX12 159 "WheelBookModel" "sort" "I") (List.mem_of_getElem? (i := 6) rfl)) (fun _ h9 => h9) rfl (by decide +kernel) rfl rfl (Nat.le_of_ble_eq_true rfl) dX12_steps_169 (fun H locs hP hD hS => ?_)
              have hP : va_P D vwCl (wWX12 cB cI cZ a0 (upd I0_l103 8 (1 : Int32)) L0_l103 M0_l103) H := hP
              have hD : va_D A (wWX12 cB cI cZ a0 (upd I0_l103 8 (1 : Int32)) L0_l103 M0_l103) := hD
              obtain ⟨I0_19, eI0_19, hf⟩ := wb_v hf
              rw [← eI0_19] at hP hD
              refine lv_goto (tgt := 279) hx hb dX12_steps_172 (by decide) ?_
              exact J279 I0_19 L0_l103 M0_l103 H locs hP hD hS ls (lv_sub hl [0] rfl) hf
            · replace hf := wb_f hc hf
              refine lv_aload_n hx hb dX12_steps_117 rfl (lv_at hl 0 rfl) ?_
              refine va_get (D := D) (ci := 12) (v := .int (I0_l103 7)) (C := RX12) (T := TX12) (N := 58) hx hb hts hinX12 hown hK hP 0 rfl rfl 16 (by decide) (hts (.fieldLink RX12 142 "WheelBookModel" "next" "I") (List.mem_of_getElem? (i := 1) rfl)) (fun _ h9 => h9) rfl dX12_steps_118 ?_
              refine lv_aload_n hx hb dX12_steps_121 rfl (lv_at hl 0 rfl) ?_
              refine va_get (D := D) (ci := 12) (v := .int (I0_l103 9)) (C := RX12) (T := TX12) (N := 58) hx hb hts hinX12 hown hK hP 0 rfl rfl 18 (by decide) (hts (.fieldLink RX12 149 "WheelBookModel" "place" "I") (List.mem_of_getElem? (i := 3) rfl)) (fun _ h9 => h9) rfl dX12_steps_122 ?_
              refine lv_isub hx hb dX12_steps_125 ?_
              refine lv_bipush (v := (8 : Int32)) hx hb dX12_steps_126 (by decide) ?_
              refine lv_icmp_ge (tgt := 154) hx hb dX12_steps_128 (by decide) (fun hc => ?_) (fun hc => ?_)
              · replace hf := wb_t hc hf
                refine lv_aload_n hx hb dX12_steps_154 rfl (lv_at hl 0 rfl) ?_
                refine lv_dup hx hb dX12_steps_155 rfl ?_
                refine va_get (D := D) (ci := 12) (v := .int (I0_l103 7)) (C := RX12) (T := TX12) (N := 58) hx hb hts hinX12 hown hK hP 0 rfl rfl 16 (by decide) (hts (.fieldLink RX12 142 "WheelBookModel" "next" "I") (List.mem_of_getElem? (i := 1) rfl)) (fun _ h9 => h9) rfl dX12_steps_156 ?_
                refine lv_iconst (v := (1 : Int32)) hx hb dX12_steps_159 (by decide) ?_
                refine lv_iadd hx hb dX12_steps_160 ?_
                refine va_put (D := D) (ci := 12) (v := .int ((I0_l103 7) + (1 : Int32))) (ty := .int) (C := RX12) (T := TX12) (N := 58) hx hb hts hinX12 tyX12 tyX12_ok nmX12 hown hK hP hD hS 0 rfl rfl 16 (by decide) (hts (.fieldLink RX12 142 "WheelBookModel" "next" "I") (List.mem_of_getElem? (i := 1) rfl)) (fun _ h9 => h9) rfl (by decide +kernel) rfl rfl (Nat.le_of_ble_eq_true rfl) dX12_steps_161 (fun H locs hP hD hS => ?_)
                have hP : va_P D vwCl (wWX12 cB cI cZ a0 (upd I0_l103 7 ((I0_l103 7) + (1 : Int32))) L0_l103 M0_l103) H := hP
                have hD : va_D A (wWX12 cB cI cZ a0 (upd I0_l103 7 ((I0_l103 7) + (1 : Int32))) L0_l103 M0_l103) := hD
                obtain ⟨I0_20, eI0_20, hf⟩ := wb_v hf
                rw [← eI0_20] at hP hD
                refine lv_goto (tgt := 103) hx hb dX12_steps_164 (by decide) ?_
                exact ih103 I0_20 L0_l103 M0_l103 H locs hP hD hS ls (lv_sub hl [0] rfl) hf
              · replace hf := wb_f hc hf
                refine lv_aload_n hx hb dX12_steps_131 rfl (lv_at hl 0 rfl) ?_
                refine lv_aload_n hx hb dX12_steps_132 rfl (lv_at hl 0 rfl) ?_
                refine va_get (D := D) (ci := 12) (v := .long L0_l103) (C := RX12) (T := TX12) (N := 58) hx hb hts hinX12 hown hK hP 0 rfl rfl 21 (by decide) (hts (.fieldLink RX12 152 "WheelBookModel" "word" "J") (List.mem_of_getElem? (i := 4) rfl)) (fun _ h9 => h9) rfl dX12_steps_133 ?_
                refine lv_iconst (v := (5 : Int32)) hx hb dX12_steps_136 (by decide) ?_
                refine lv_lshl hx hb dX12_steps_137 rfl ?_
                refine lv_aload_n hx hb dX12_steps_138 rfl (lv_at hl 0 rfl) ?_
                refine lv_aload_n hx hb dX12_steps_139 rfl (lv_at hl 0 rfl) ?_
                refine va_get (D := D) (ci := 12) (v := .int (I0_l103 7)) (C := RX12) (T := TX12) (N := 58) hx hb hts hinX12 hown hK hP 0 rfl rfl 16 (by decide) (hts (.fieldLink RX12 142 "WheelBookModel" "next" "I") (List.mem_of_getElem? (i := 1) rfl)) (fun _ h9 => h9) rfl dX12_steps_140 ?_
                obtain ⟨r21, hr21, hf⟩ := wb_b hf
                refine vp_callSi (W.runV (As := [.int (I0_l103 7)]) (rest := [.long (L0_l103 <<< ((5 : Int32).toInt64 &&& 63)), .ref (a0 0)]) ⟨hx, hb, hml, hown, hts⟩ (cn_X12_byteAt l D cB cI cZ N a0 I0_l103 L0_l103 M0_l103 (I0_l103 7) r21 hr21) (cwV 1 hts gX12_steps_X12_byteAt rfl rfl rfl cdX12_byteAt ⟨Nat.le_of_ble_eq_true rfl, Nat.le_of_ble_eq_true rfl⟩) (wb_preV hP hK (wr_12 hK hP (q0 := 0) rfl)) rfl rfl hl.1 rfl (lv_room (Nat.le_of_ble_eq_true rfl)) dX12_steps_143 ⟨Nat.le_of_ble_eq_true rfl, Nat.le_of_ble_eq_true rfl⟩) (fun r9 e9 => ?_)
                rw [e9]
                refine lv_bipush (v := (96 : Int32)) hx hb dX12_steps_146 (by decide) ?_
                refine lv_isub hx hb dX12_steps_148 ?_
                refine lv_i2l hx hb dX12_steps_149 rfl ?_
                refine lv_lor hx hb dX12_steps_150 ?_
                refine va_put (D := D) (ci := 12) (v := .long ((L0_l103 <<< ((5 : Int32).toInt64 &&& 63)) ||| (r21 - (96 : Int32)).toInt64)) (ty := .long) (C := RX12) (T := TX12) (N := 58) hx hb hts hinX12 tyX12 tyX12_ok nmX12 hown hK hP hD hS 0 rfl rfl 21 (by decide) (hts (.fieldLink RX12 152 "WheelBookModel" "word" "J") (List.mem_of_getElem? (i := 4) rfl)) (fun _ h9 => h9) rfl (by decide +kernel) rfl rfl (Nat.le_of_ble_eq_true rfl) dX12_steps_151 (fun H locs hP hD hS => ?_)
                have hP : va_P D vwCl (wWX12 cB cI cZ a0 I0_l103 ((L0_l103 <<< ((5 : Int32).toInt64 &&& 63)) ||| (r21 - (96 : Int32)).toInt64) M0_l103) H := hP
                have hD : va_D A (wWX12 cB cI cZ a0 I0_l103 ((L0_l103 <<< ((5 : Int32).toInt64 &&& 63)) ||| (r21 - (96 : Int32)).toInt64) M0_l103) := hD
                obtain ⟨L0_22, eL0_22, hf⟩ := wb_v hf
                rw [← eL0_22] at hP hD
                refine lv_aload_n hx hb dX12_steps_154 rfl (lv_at hl 0 rfl) ?_
                refine lv_dup hx hb dX12_steps_155 rfl ?_
                refine va_get (D := D) (ci := 12) (v := .int (I0_l103 7)) (C := RX12) (T := TX12) (N := 58) hx hb hts hinX12 hown hK hP 0 rfl rfl 16 (by decide) (hts (.fieldLink RX12 142 "WheelBookModel" "next" "I") (List.mem_of_getElem? (i := 1) rfl)) (fun _ h9 => h9) rfl dX12_steps_156 ?_
                refine lv_iconst (v := (1 : Int32)) hx hb dX12_steps_159 (by decide) ?_
                refine lv_iadd hx hb dX12_steps_160 ?_
                refine va_put (D := D) (ci := 12) (v := .int ((I0_l103 7) + (1 : Int32))) (ty := .int) (C := RX12) (T := TX12) (N := 58) hx hb hts hinX12 tyX12 tyX12_ok nmX12 hown hK hP hD hS 0 rfl rfl 16 (by decide) (hts (.fieldLink RX12 142 "WheelBookModel" "next" "I") (List.mem_of_getElem? (i := 1) rfl)) (fun _ h9 => h9) rfl (by decide +kernel) rfl rfl (Nat.le_of_ble_eq_true rfl) dX12_steps_161 (fun H locs hP hD hS => ?_)
                have hP : va_P D vwCl (wWX12 cB cI cZ a0 (upd I0_l103 7 ((I0_l103 7) + (1 : Int32))) L0_22 M0_l103) H := hP
                have hD : va_D A (wWX12 cB cI cZ a0 (upd I0_l103 7 ((I0_l103 7) + (1 : Int32))) L0_22 M0_l103) := hD
                obtain ⟨I0_23, eI0_23, hf⟩ := wb_v hf
                rw [← eI0_23] at hP hD
                refine lv_goto (tgt := 103) hx hb dX12_steps_164 (by decide) ?_
                exact ih103 I0_23 L0_22 M0_l103 H locs hP hD hS ls (lv_sub hl [0] rfl) hf
        exact Lh103 N I0_5 L0_4 M0_j50 H locs hP hD hS ls (lv_sub hl [1] rfl) hf
    · replace hf := wb_f hc hf
      refine lv_aload_n hx hb dX12_steps_88 rfl (lv_at hl 1 rfl) ?_
      refine lv_iconst (v := (0 : Int32)) hx hb dX12_steps_89 (by decide) ?_
      refine va_put (D := D) (ci := 12) (v := .int (0 : Int32)) (ty := .int) (C := RX12) (T := TX12) (N := 58) hx hb hts hinX12 tyX12 tyX12_ok nmX12 hown hK hP hD hS 0 rfl rfl 17 (by decide) (hts (.fieldLink RX12 159 "WheelBookModel" "sort" "I") (List.mem_of_getElem? (i := 6) rfl)) (fun _ h9 => h9) rfl (by decide +kernel) rfl rfl (Nat.le_of_ble_eq_true rfl) dX12_steps_90 (fun H locs hP hD hS => ?_)
      have hP : va_P D vwCl (wWX12 cB cI cZ a0 (upd I0_5 8 (0 : Int32)) L0_4 M0_j50) H := hP
      have hD : va_D A (wWX12 cB cI cZ a0 (upd I0_5 8 (0 : Int32)) L0_4 M0_j50) := hD
      obtain ⟨I0_24, eI0_24, hf⟩ := wb_v hf
      rw [← eI0_24] at hP hD
      refine lv_goto (tgt := 279) hx hb dX12_steps_93 (by decide) ?_
      exact J279 I0_24 L0_4 M0_j50 H locs hP hD hS ls (lv_sub hl [1] rfl) hf
  have Lh0 : ∀ (fu0 : Nat) (I0_l0 : Nat → Int32) (L0_l0 : Int64) (M0_l0 : Nat → Nat → Int32) (H : Heap) (locs : List Loc), va_P D vwCl (wWX12 cB cI cZ a0 I0_l0 L0_l0 M0_l0) H → va_D A (wWX12 cB cI cZ a0 I0_l0 L0_l0 M0_l0) → va_S A s.heap H locs → ∀ (ls : Array Slot), lv_has ls 2 [(0, .ref (a0 0))] → fX12_steps_L0 N fu0 I0_l0 L0_l0 M0_l0 = some R → W p l e (headSpec wsX12_steps { frames := 1, cells := 0, slots := 0, locals := 21 }).room s m [.ref (a0 0)].toArray below meth c H locs 0 0 (MQ below (va_Qv (fun _ : Unit => True) (fun _ t => wb_post D [(cB, .byte), (cI, .int), (cZ, .boolean)] A (wWX12 cB cI cZ a0 R.1 R.2.1 R.2.2) t) A) [.ref (a0 0)].toArray s 0 0 A) (F0 m 0 ls []) := by
    intro fu0
    induction fu0 with
    | zero =>
      intro I0_l0 L0_l0 M0_l0 H locs hP hD hS ls hl hf
      exact absurd hf (by rw [fX12_steps_L0.eq_1]; exact fun h => nomatch h)
    | succ fu0 ih0 =>
      intro I0_l0 L0_l0 M0_l0 H locs hP hD hS ls hl hf
      rw [fX12_steps_L0.eq_2] at hf
      refine lv_aload_n hx hb dX12_steps_0 rfl (lv_at hl 0 rfl) ?_
      refine va_get (D := D) (ci := 12) (v := .int (I0_l0 7)) (C := RX12) (T := TX12) (N := 58) hx hb hts hinX12 hown hK hP 0 rfl rfl 16 (by decide) (hts (.fieldLink RX12 142 "WheelBookModel" "next" "I") (List.mem_of_getElem? (i := 1) rfl)) (fun _ h9 => h9) rfl dX12_steps_1 ?_
      refine lv_aload_n hx hb dX12_steps_4 rfl (lv_at hl 0 rfl) ?_
      refine va_get (D := D) (ci := 12) (v := .int (I0_l0 6)) (C := RX12) (T := TX12) (N := 58) hx hb hts hinX12 hown hK hP 0 rfl rfl 15 (by decide) (hts (.fieldLink RX12 139 "WheelBookModel" "size" "I") (List.mem_of_getElem? (i := 2) rfl)) (fun _ h9 => h9) rfl dX12_steps_5 ?_
      refine lv_icmp_ge (tgt := 50) hx hb dX12_steps_8 (by decide) (fun hc => ?_) (fun hc => ?_)
      · replace hf := wb_t hc hf
        exact J50 I0_l0 L0_l0 M0_l0 H locs hP hD hS ls (lv_sub hl [0] rfl) hf
      · replace hf := wb_f hc hf
        refine lv_aload_n hx hb dX12_steps_11 rfl (lv_at hl 0 rfl) ?_
        refine lv_aload_n hx hb dX12_steps_12 rfl (lv_at hl 0 rfl) ?_
        refine va_get (D := D) (ci := 12) (v := .int (I0_l0 7)) (C := RX12) (T := TX12) (N := 58) hx hb hts hinX12 hown hK hP 0 rfl rfl 16 (by decide) (hts (.fieldLink RX12 142 "WheelBookModel" "next" "I") (List.mem_of_getElem? (i := 1) rfl)) (fun _ h9 => h9) rfl dX12_steps_13 ?_
        obtain ⟨r25, hr25, hf⟩ := wb_b hf
        refine vp_callSi (W.runV (As := [.int (I0_l0 7)]) (rest := []) ⟨hx, hb, hml, hown, hts⟩ (cn_X12_byteAt l D cB cI cZ N a0 I0_l0 L0_l0 M0_l0 (I0_l0 7) r25 hr25) (cwV 1 hts gX12_steps_X12_byteAt rfl rfl rfl cdX12_byteAt ⟨Nat.le_of_ble_eq_true rfl, Nat.le_of_ble_eq_true rfl⟩) (wb_preV hP hK (wr_12 hK hP (q0 := 0) rfl)) rfl rfl hl.1 rfl (lv_room (Nat.le_of_ble_eq_true rfl)) dX12_steps_16 ⟨Nat.le_of_ble_eq_true rfl, Nat.le_of_ble_eq_true rfl⟩) (fun r9 e9 => ?_)
        rw [e9]
        refine lv_bipush (v := (32 : Int32)) hx hb dX12_steps_19 (by decide) ?_
        refine lv_icmp_eq (tgt := 37) hx hb dX12_steps_21 (by decide) (fun hc => ?_) (fun hc => ?_)
        · replace hf := wb_t hc hf
          refine lv_aload_n hx hb dX12_steps_37 rfl (lv_at hl 0 rfl) ?_
          refine lv_dup hx hb dX12_steps_38 rfl ?_
          refine va_get (D := D) (ci := 12) (v := .int (I0_l0 7)) (C := RX12) (T := TX12) (N := 58) hx hb hts hinX12 hown hK hP 0 rfl rfl 16 (by decide) (hts (.fieldLink RX12 142 "WheelBookModel" "next" "I") (List.mem_of_getElem? (i := 1) rfl)) (fun _ h9 => h9) rfl dX12_steps_39 ?_
          refine lv_iconst (v := (1 : Int32)) hx hb dX12_steps_42 (by decide) ?_
          refine lv_iadd hx hb dX12_steps_43 ?_
          refine va_put (D := D) (ci := 12) (v := .int ((I0_l0 7) + (1 : Int32))) (ty := .int) (C := RX12) (T := TX12) (N := 58) hx hb hts hinX12 tyX12 tyX12_ok nmX12 hown hK hP hD hS 0 rfl rfl 16 (by decide) (hts (.fieldLink RX12 142 "WheelBookModel" "next" "I") (List.mem_of_getElem? (i := 1) rfl)) (fun _ h9 => h9) rfl (by decide +kernel) rfl rfl (Nat.le_of_ble_eq_true rfl) dX12_steps_44 (fun H locs hP hD hS => ?_)
          have hP : va_P D vwCl (wWX12 cB cI cZ a0 (upd I0_l0 7 ((I0_l0 7) + (1 : Int32))) L0_l0 M0_l0) H := hP
          have hD : va_D A (wWX12 cB cI cZ a0 (upd I0_l0 7 ((I0_l0 7) + (1 : Int32))) L0_l0 M0_l0) := hD
          obtain ⟨I0_26, eI0_26, hf⟩ := wb_v hf
          rw [← eI0_26] at hP hD
          refine lv_goto (tgt := 0) hx hb dX12_steps_47 (by decide) ?_
          exact ih0 I0_26 L0_l0 M0_l0 H locs hP hD hS ls (lv_sub hl [0] rfl) hf
        · replace hf := wb_f hc hf
          refine lv_aload_n hx hb dX12_steps_24 rfl (lv_at hl 0 rfl) ?_
          refine lv_aload_n hx hb dX12_steps_25 rfl (lv_at hl 0 rfl) ?_
          refine va_get (D := D) (ci := 12) (v := .int (I0_l0 7)) (C := RX12) (T := TX12) (N := 58) hx hb hts hinX12 hown hK hP 0 rfl rfl 16 (by decide) (hts (.fieldLink RX12 142 "WheelBookModel" "next" "I") (List.mem_of_getElem? (i := 1) rfl)) (fun _ h9 => h9) rfl dX12_steps_26 ?_
          obtain ⟨r27, hr27, hf⟩ := wb_b hf
          refine vp_callSi (W.runV (As := [.int (I0_l0 7)]) (rest := []) ⟨hx, hb, hml, hown, hts⟩ (cn_X12_byteAt l D cB cI cZ N a0 I0_l0 L0_l0 M0_l0 (I0_l0 7) r27 hr27) (cwV 1 hts gX12_steps_X12_byteAt rfl rfl rfl cdX12_byteAt ⟨Nat.le_of_ble_eq_true rfl, Nat.le_of_ble_eq_true rfl⟩) (wb_preV hP hK (wr_12 hK hP (q0 := 0) rfl)) rfl rfl hl.1 rfl (lv_room (Nat.le_of_ble_eq_true rfl)) dX12_steps_29 ⟨Nat.le_of_ble_eq_true rfl, Nat.le_of_ble_eq_true rfl⟩) (fun r9 e9 => ?_)
          rw [e9]
          refine lv_bipush (v := (10 : Int32)) hx hb dX12_steps_32 (by decide) ?_
          refine lv_icmp_ne (tgt := 50) hx hb dX12_steps_34 (by decide) (fun hc => ?_) (fun hc => ?_)
          · replace hf := wb_f hc hf
            exact J50 I0_l0 L0_l0 M0_l0 H locs hP hD hS ls (lv_sub hl [0] rfl) hf
          · replace hf := wb_t hc hf
            refine lv_aload_n hx hb dX12_steps_37 rfl (lv_at hl 0 rfl) ?_
            refine lv_dup hx hb dX12_steps_38 rfl ?_
            refine va_get (D := D) (ci := 12) (v := .int (I0_l0 7)) (C := RX12) (T := TX12) (N := 58) hx hb hts hinX12 hown hK hP 0 rfl rfl 16 (by decide) (hts (.fieldLink RX12 142 "WheelBookModel" "next" "I") (List.mem_of_getElem? (i := 1) rfl)) (fun _ h9 => h9) rfl dX12_steps_39 ?_
            refine lv_iconst (v := (1 : Int32)) hx hb dX12_steps_42 (by decide) ?_
            refine lv_iadd hx hb dX12_steps_43 ?_
            refine va_put (D := D) (ci := 12) (v := .int ((I0_l0 7) + (1 : Int32))) (ty := .int) (C := RX12) (T := TX12) (N := 58) hx hb hts hinX12 tyX12 tyX12_ok nmX12 hown hK hP hD hS 0 rfl rfl 16 (by decide) (hts (.fieldLink RX12 142 "WheelBookModel" "next" "I") (List.mem_of_getElem? (i := 1) rfl)) (fun _ h9 => h9) rfl (by decide +kernel) rfl rfl (Nat.le_of_ble_eq_true rfl) dX12_steps_44 (fun H locs hP hD hS => ?_)
            have hP : va_P D vwCl (wWX12 cB cI cZ a0 (upd I0_l0 7 ((I0_l0 7) + (1 : Int32))) L0_l0 M0_l0) H := hP
            have hD : va_D A (wWX12 cB cI cZ a0 (upd I0_l0 7 ((I0_l0 7) + (1 : Int32))) L0_l0 M0_l0) := hD
            obtain ⟨I0_28, eI0_28, hf⟩ := wb_v hf
            rw [← eI0_28] at hP hD
            refine lv_goto (tgt := 0) hx hb dX12_steps_47 (by decide) ?_
            exact ih0 I0_28 L0_l0 M0_l0 H locs hP hD hS ls (lv_sub hl [0] rfl) hf
  exact Lh0 N I0 L0 M0 H locs hP hD hS ls (lv_sub hl [0] rfl) hf

set_option maxHeartbeats 4000000 in
set_option maxRecDepth 100000 in
theorem cn_X12_spelled (l : Launch) (D : va_G) (cB cI cZ : ClassId) (N : Nat) (x0 : Int32) (x1 : Int32) (x2 : Int32) (x3 : Int32) (x4 : Int32) (x5 : Int32) (x6 : Int32) (R : Int64) (hf : fX12_spelled N x0 x1 x2 x3 x4 x5 x6 = some R) : Met l yX12_spelled wsX12_spelled ({ frames := 0, cells := 0, slots := 0, locals := 0 }) (va_Pc [.int x0, .int x1, .int x2, .int x3, .int x4, .int x5, .int x6] (wb_pre D [(cB, .byte), (cI, .int), (cZ, .boolean)] ([] : va_W))) (vp_Sl (fun r => r = R)) 0 0 (fun _ => False) := by
  refine Met.ofW (cc := cX12_spelled) (maxL := 9) (ret := (some .long)) pn_X12 rfl ?_
  intro p e s m args below meth c s₁ B hml hv
  obtain ⟨rfl, hP, hK⟩ := hv
  have hx := B.exec
  have hb := B.bytes
  have hr := B.returns
  have hts := atoms_spec (ws := wsX12_spelled) B.pre
  have hown : s.vm.findClass RX12 = some m.cls := (findClass_of_methodNamed B.named :)
  have hlocks := B.notSynchronized
  have hl := lv_entry ([.int x0, .int x1, .int x2, .int x3, .int x4, .int x5, .int x6]) (n := 9) (Nat.le_of_ble_eq_true rfl)
  rw [lg_entry_eq]
  generalize (lg_sl ([.int x0, .int x1, .int x2, .int x3, .int x4, .int x5, .int x6]) ++ List.replicate (9 - (lg_sl ([.int x0, .int x1, .int x2, .int x3, .int x4, .int x5, .int x6])).length) Slot.unset).toArray = ls at hl ⊢
  have hl : lv_has ls 9 [(0, .int x0), (1, .int x1), (2, .int x2), (3, .int x3), (4, .int x4), (5, .int x5), (6, .int x6)] := hl
  unfold fX12_spelled at hf
  have J91 : ∀ (y91_7 : Int64), ∀ (ls : Array Slot), lv_has ls 9 [(6, .int x6), (7, .long y91_7)] → fX12_spelled_J91 N x0 x1 x2 x3 x4 x5 x6 y91_7 = some R → W p l e (headSpec wsX12_spelled { frames := 0, cells := 0, slots := 0, locals := 0 }).room s m [.int x0, .int x1, .int x2, .int x3, .int x4, .int x5, .int x6].toArray below meth c s.heap [] 0 0 (MQ below (vp_Sl (fun r => r = R)) [.int x0, .int x1, .int x2, .int x3, .int x4, .int x5, .int x6].toArray s 0 0 (fun _ => False)) (F0 m 91 ls []) := by
    intro y91_7 ls hl hf
    unfold fX12_spelled_J91 at hf
    refine lv_iload hx hb dX12_spelled_91 (lv_at hl 0 rfl) ?_
    refine lv_if_eq (tgt := 109) hx hb dX12_spelled_93 (by decide) (fun hc => ?_) (fun hc => ?_)
    · replace hf := wb_t hc hf
      refine lv_lload hx hb dX12_spelled_109 (lv_at hl 1 rfl) ?_
      exact W.lret (v := y91_7) hx hb hr (fun t ht hW => ⟨_, rfl, Option.some.inj hf, ht⟩) (fun _ h => nomatch h) dX12_spelled_111
    · replace hf := wb_f hc hf
      refine lv_lload hx hb dX12_spelled_96 (lv_at hl 1 rfl) ?_
      refine lv_iconst (v := (5 : Int32)) hx hb dX12_spelled_98 (by decide) ?_
      refine lv_lshl hx hb dX12_spelled_99 rfl ?_
      refine lv_iload hx hb dX12_spelled_100 (lv_at hl 0 rfl) ?_
      refine lv_bipush (v := (96 : Int32)) hx hb dX12_spelled_102 (by decide) ?_
      refine lv_isub hx hb dX12_spelled_104 ?_
      refine lv_i2l hx hb dX12_spelled_105 rfl ?_
      refine lv_lor hx hb dX12_spelled_106 ?_
      obtain ⟨v1, ev1, hf⟩ := wb_v hf
      refine wb_topl ev1 ?_
      refine lv_lstore (lv' := [(7, .long v1), (6, .int x6)]) hx hb dX12_spelled_107 hl (by decide) rfl (fun ls hl => ?_)
      refine lv_lload hx hb dX12_spelled_109 (lv_at hl 0 rfl) ?_
      exact W.lret (v := v1) hx hb hr (fun t ht hW => ⟨_, rfl, Option.some.inj hf, ht⟩) (fun _ h => nomatch h) dX12_spelled_111
  have J73 : ∀ (y73_7 : Int64), ∀ (ls : Array Slot), lv_has ls 9 [(5, .int x5), (6, .int x6), (7, .long y73_7)] → fX12_spelled_J73 N x0 x1 x2 x3 x4 x5 x6 y73_7 = some R → W p l e (headSpec wsX12_spelled { frames := 0, cells := 0, slots := 0, locals := 0 }).room s m [.int x0, .int x1, .int x2, .int x3, .int x4, .int x5, .int x6].toArray below meth c s.heap [] 0 0 (MQ below (vp_Sl (fun r => r = R)) [.int x0, .int x1, .int x2, .int x3, .int x4, .int x5, .int x6].toArray s 0 0 (fun _ => False)) (F0 m 73 ls []) := by
    intro y73_7 ls hl hf
    unfold fX12_spelled_J73 at hf
    refine lv_iload hx hb dX12_spelled_73 (lv_at hl 0 rfl) ?_
    refine lv_if_eq (tgt := 91) hx hb dX12_spelled_75 (by decide) (fun hc => ?_) (fun hc => ?_)
    · replace hf := wb_t hc hf
      exact J91 y73_7 ls (lv_sub hl [1, 2] rfl) hf
    · replace hf := wb_f hc hf
      refine lv_lload hx hb dX12_spelled_78 (lv_at hl 2 rfl) ?_
      refine lv_iconst (v := (5 : Int32)) hx hb dX12_spelled_80 (by decide) ?_
      refine lv_lshl hx hb dX12_spelled_81 rfl ?_
      refine lv_iload hx hb dX12_spelled_82 (lv_at hl 0 rfl) ?_
      refine lv_bipush (v := (96 : Int32)) hx hb dX12_spelled_84 (by decide) ?_
      refine lv_isub hx hb dX12_spelled_86 ?_
      refine lv_i2l hx hb dX12_spelled_87 rfl ?_
      refine lv_lor hx hb dX12_spelled_88 ?_
      obtain ⟨v2, ev2, hf⟩ := wb_v hf
      refine wb_topl ev2 ?_
      refine lv_lstore (lv' := [(7, .long v2), (5, .int x5), (6, .int x6)]) hx hb dX12_spelled_89 hl (by decide) rfl (fun ls hl => ?_)
      exact J91 v2 ls (lv_sub hl [2, 0] rfl) hf
  have J55 : ∀ (y55_7 : Int64), ∀ (ls : Array Slot), lv_has ls 9 [(4, .int x4), (5, .int x5), (6, .int x6), (7, .long y55_7)] → fX12_spelled_J55 N x0 x1 x2 x3 x4 x5 x6 y55_7 = some R → W p l e (headSpec wsX12_spelled { frames := 0, cells := 0, slots := 0, locals := 0 }).room s m [.int x0, .int x1, .int x2, .int x3, .int x4, .int x5, .int x6].toArray below meth c s.heap [] 0 0 (MQ below (vp_Sl (fun r => r = R)) [.int x0, .int x1, .int x2, .int x3, .int x4, .int x5, .int x6].toArray s 0 0 (fun _ => False)) (F0 m 55 ls []) := by
    intro y55_7 ls hl hf
    unfold fX12_spelled_J55 at hf
    refine lv_iload hx hb dX12_spelled_55 (lv_at hl 0 rfl) ?_
    refine lv_if_eq (tgt := 73) hx hb dX12_spelled_57 (by decide) (fun hc => ?_) (fun hc => ?_)
    · replace hf := wb_t hc hf
      exact J73 y55_7 ls (lv_sub hl [1, 2, 3] rfl) hf
    · replace hf := wb_f hc hf
      refine lv_lload hx hb dX12_spelled_60 (lv_at hl 3 rfl) ?_
      refine lv_iconst (v := (5 : Int32)) hx hb dX12_spelled_62 (by decide) ?_
      refine lv_lshl hx hb dX12_spelled_63 rfl ?_
      refine lv_iload hx hb dX12_spelled_64 (lv_at hl 0 rfl) ?_
      refine lv_bipush (v := (96 : Int32)) hx hb dX12_spelled_66 (by decide) ?_
      refine lv_isub hx hb dX12_spelled_68 ?_
      refine lv_i2l hx hb dX12_spelled_69 rfl ?_
      refine lv_lor hx hb dX12_spelled_70 ?_
      obtain ⟨v3, ev3, hf⟩ := wb_v hf
      refine wb_topl ev3 ?_
      refine lv_lstore (lv' := [(7, .long v3), (4, .int x4), (5, .int x5), (6, .int x6)]) hx hb dX12_spelled_71 hl (by decide) rfl (fun ls hl => ?_)
      exact J73 v3 ls (lv_sub hl [2, 3, 0] rfl) hf
  have J39 : ∀ (y39_7 : Int64), ∀ (ls : Array Slot), lv_has ls 9 [(3, .int x3), (4, .int x4), (5, .int x5), (6, .int x6), (7, .long y39_7)] → fX12_spelled_J39 N x0 x1 x2 x3 x4 x5 x6 y39_7 = some R → W p l e (headSpec wsX12_spelled { frames := 0, cells := 0, slots := 0, locals := 0 }).room s m [.int x0, .int x1, .int x2, .int x3, .int x4, .int x5, .int x6].toArray below meth c s.heap [] 0 0 (MQ below (vp_Sl (fun r => r = R)) [.int x0, .int x1, .int x2, .int x3, .int x4, .int x5, .int x6].toArray s 0 0 (fun _ => False)) (F0 m 39 ls []) := by
    intro y39_7 ls hl hf
    unfold fX12_spelled_J39 at hf
    refine lv_iload_n hx hb dX12_spelled_39 rfl (lv_at hl 0 rfl) ?_
    refine lv_if_eq (tgt := 55) hx hb dX12_spelled_40 (by decide) (fun hc => ?_) (fun hc => ?_)
    · replace hf := wb_t hc hf
      exact J55 y39_7 ls (lv_sub hl [1, 2, 3, 4] rfl) hf
    · replace hf := wb_f hc hf
      refine lv_lload hx hb dX12_spelled_43 (lv_at hl 4 rfl) ?_
      refine lv_iconst (v := (5 : Int32)) hx hb dX12_spelled_45 (by decide) ?_
      refine lv_lshl hx hb dX12_spelled_46 rfl ?_
      refine lv_iload_n hx hb dX12_spelled_47 rfl (lv_at hl 0 rfl) ?_
      refine lv_bipush (v := (96 : Int32)) hx hb dX12_spelled_48 (by decide) ?_
      refine lv_isub hx hb dX12_spelled_50 ?_
      refine lv_i2l hx hb dX12_spelled_51 rfl ?_
      refine lv_lor hx hb dX12_spelled_52 ?_
      obtain ⟨v4, ev4, hf⟩ := wb_v hf
      refine wb_topl ev4 ?_
      refine lv_lstore (lv' := [(7, .long v4), (3, .int x3), (4, .int x4), (5, .int x5), (6, .int x6)]) hx hb dX12_spelled_53 hl (by decide) rfl (fun ls hl => ?_)
      exact J55 v4 ls (lv_sub hl [2, 3, 4, 0] rfl) hf
  have J23 : ∀ (y23_7 : Int64), ∀ (ls : Array Slot), lv_has ls 9 [(2, .int x2), (3, .int x3), (4, .int x4), (5, .int x5), (6, .int x6), (7, .long y23_7)] → fX12_spelled_J23 N x0 x1 x2 x3 x4 x5 x6 y23_7 = some R → W p l e (headSpec wsX12_spelled { frames := 0, cells := 0, slots := 0, locals := 0 }).room s m [.int x0, .int x1, .int x2, .int x3, .int x4, .int x5, .int x6].toArray below meth c s.heap [] 0 0 (MQ below (vp_Sl (fun r => r = R)) [.int x0, .int x1, .int x2, .int x3, .int x4, .int x5, .int x6].toArray s 0 0 (fun _ => False)) (F0 m 23 ls []) := by
    intro y23_7 ls hl hf
    unfold fX12_spelled_J23 at hf
    refine lv_iload_n hx hb dX12_spelled_23 rfl (lv_at hl 0 rfl) ?_
    refine lv_if_eq (tgt := 39) hx hb dX12_spelled_24 (by decide) (fun hc => ?_) (fun hc => ?_)
    · replace hf := wb_t hc hf
      exact J39 y23_7 ls (lv_sub hl [1, 2, 3, 4, 5] rfl) hf
    · replace hf := wb_f hc hf
      refine lv_lload hx hb dX12_spelled_27 (lv_at hl 5 rfl) ?_
      refine lv_iconst (v := (5 : Int32)) hx hb dX12_spelled_29 (by decide) ?_
      refine lv_lshl hx hb dX12_spelled_30 rfl ?_
      refine lv_iload_n hx hb dX12_spelled_31 rfl (lv_at hl 0 rfl) ?_
      refine lv_bipush (v := (96 : Int32)) hx hb dX12_spelled_32 (by decide) ?_
      refine lv_isub hx hb dX12_spelled_34 ?_
      refine lv_i2l hx hb dX12_spelled_35 rfl ?_
      refine lv_lor hx hb dX12_spelled_36 ?_
      obtain ⟨v5, ev5, hf⟩ := wb_v hf
      refine wb_topl ev5 ?_
      refine lv_lstore (lv' := [(7, .long v5), (2, .int x2), (3, .int x3), (4, .int x4), (5, .int x5), (6, .int x6)]) hx hb dX12_spelled_37 hl (by decide) rfl (fun ls hl => ?_)
      exact J39 v5 ls (lv_sub hl [2, 3, 4, 5, 0] rfl) hf
  refine lv_iload_n hx hb dX12_spelled_0 rfl (lv_at hl 0 rfl) ?_
  refine lv_bipush (v := (96 : Int32)) hx hb dX12_spelled_1 (by decide) ?_
  refine lv_isub hx hb dX12_spelled_3 ?_
  refine lv_i2l hx hb dX12_spelled_4 rfl ?_
  obtain ⟨v6, ev6, hf⟩ := wb_v hf
  refine wb_topl ev6 ?_
  refine lv_lstore (lv' := [(7, .long v6), (0, .int x0), (1, .int x1), (2, .int x2), (3, .int x3), (4, .int x4), (5, .int x5), (6, .int x6)]) hx hb dX12_spelled_5 hl (by decide) rfl (fun ls hl => ?_)
  refine lv_iload_n hx hb dX12_spelled_7 rfl (lv_at hl 2 rfl) ?_
  refine lv_if_eq (tgt := 23) hx hb dX12_spelled_8 (by decide) (fun hc => ?_) (fun hc => ?_)
  · replace hf := wb_t hc hf
    exact J23 v6 ls (lv_sub hl [3, 4, 5, 6, 7, 0] rfl) hf
  · replace hf := wb_f hc hf
    refine lv_lload hx hb dX12_spelled_11 (lv_at hl 0 rfl) ?_
    refine lv_iconst (v := (5 : Int32)) hx hb dX12_spelled_13 (by decide) ?_
    refine lv_lshl hx hb dX12_spelled_14 rfl ?_
    refine lv_iload_n hx hb dX12_spelled_15 rfl (lv_at hl 2 rfl) ?_
    refine lv_bipush (v := (96 : Int32)) hx hb dX12_spelled_16 (by decide) ?_
    refine lv_isub hx hb dX12_spelled_18 ?_
    refine lv_i2l hx hb dX12_spelled_19 rfl ?_
    refine lv_lor hx hb dX12_spelled_20 ?_
    obtain ⟨v7, ev7, hf⟩ := wb_v hf
    refine wb_topl ev7 ?_
    refine lv_lstore (lv' := [(7, .long v7), (0, .int x0), (1, .int x1), (2, .int x2), (3, .int x3), (4, .int x4), (5, .int x5), (6, .int x6)]) hx hb dX12_spelled_21 hl (by decide) rfl (fun ls hl => ?_)
    exact J23 v7 ls (lv_sub hl [3, 4, 5, 6, 7, 0] rfl) hf

set_option maxHeartbeats 4000000 in
set_option maxRecDepth 100000 in
theorem cn_X12_letters (l : Launch) (D : va_G) (cB cI cZ : ClassId) (N : Nat) (x0 : Int32) (R : Int64) (hf : fX12_letters N x0 = some R) : Met l yX12_letters wsX12_letters ({ frames := 1, cells := 0, slots := 0, locals := 28 }) (va_Pc [.int x0] (wb_pre D [(cB, .byte), (cI, .int), (cZ, .boolean)] ([] : va_W))) (vp_Sl (fun r => r = R)) 0 0 (fun _ => False) := by
  refine Met.ofW (cc := cX12_letters) (maxL := 1) (ret := (some .long)) pn_X12 rfl ?_
  intro p e s m args below meth c s₁ B hml hv
  obtain ⟨rfl, hP, hK⟩ := hv
  have hx := B.exec
  have hb := B.bytes
  have hr := B.returns
  have hts := atoms_spec (ws := wsX12_letters) B.pre
  have hown : s.vm.findClass RX12 = some m.cls := (findClass_of_methodNamed B.named :)
  have hlocks := B.notSynchronized
  have hl := lv_entry ([.int x0]) (n := 1) (Nat.le_of_ble_eq_true rfl)
  rw [lg_entry_eq]
  generalize (lg_sl ([.int x0]) ++ List.replicate (1 - (lg_sl ([.int x0])).length) Slot.unset).toArray = ls at hl ⊢
  have hl : lv_has ls 1 [(0, .int x0)] := hl
  unfold fX12_letters at hf
  refine lv_iload_n hx hb dX12_letters_0 rfl (lv_at hl 0 rfl) ?_
  by_cases hc0 : x0 = (0 : Int32)
  · replace hf := wb_t hc0 hf
    refine lv_tableIn (off := 87) (tgt := 88) hx hb dX12_letters_1 (by rw [hc0]; decide) (by rw [hc0]; decide) (by rw [hc0]; rfl) (by decide) ?_
    refine lv_bipush (v := (115 : Int32)) hx hb dX12_letters_88 (by decide) ?_
    refine lv_bipush (v := (117 : Int32)) hx hb dX12_letters_90 (by decide) ?_
    refine lv_bipush (v := (110 : Int32)) hx hb dX12_letters_92 (by decide) ?_
    refine lv_iconst (v := (0 : Int32)) hx hb dX12_letters_94 (by decide) ?_
    refine lv_iconst (v := (0 : Int32)) hx hb dX12_letters_95 (by decide) ?_
    refine lv_iconst (v := (0 : Int32)) hx hb dX12_letters_96 (by decide) ?_
    refine lv_iconst (v := (0 : Int32)) hx hb dX12_letters_97 (by decide) ?_
    obtain ⟨r1, hr1, hf⟩ := wb_b hf
    refine vp_callSl (W.runS (As := [.int (115 : Int32), .int (117 : Int32), .int (110 : Int32), .int (0 : Int32), .int (0 : Int32), .int (0 : Int32), .int (0 : Int32)]) (rest := []) ⟨hx, hb, hml, hown, hts⟩ (cn_X12_spelled l D cB cI cZ N (115 : Int32) (117 : Int32) (110 : Int32) (0 : Int32) (0 : Int32) (0 : Int32) (0 : Int32) r1 hr1) (va_cwS 7 hts gX12_letters_X12_spelled rfl rfl rfl csX12_spelled ⟨Nat.le_of_ble_eq_true rfl, Nat.le_of_ble_eq_true rfl⟩) (wb_preS hP hK) rfl rfl hl.1 rfl (lv_room (Nat.le_of_ble_eq_true rfl)) dX12_letters_98 ⟨Nat.le_of_ble_eq_true rfl, Nat.le_of_ble_eq_true rfl⟩) (fun r9 e9 => ?_)
    rw [e9]
    exact W.lret (v := r1) hx hb hr (fun t ht hW => ⟨_, rfl, Option.some.inj hf, ht⟩) (fun _ h => nomatch h) dX12_letters_101
  replace hf := wb_f hc0 hf
  by_cases hc1 : x0 = (1 : Int32)
  · replace hf := wb_t hc1 hf
    refine lv_tableIn (off := 101) (tgt := 102) hx hb dX12_letters_1 (by rw [hc1]; decide) (by rw [hc1]; decide) (by rw [hc1]; rfl) (by decide) ?_
    refine lv_bipush (v := (109 : Int32)) hx hb dX12_letters_102 (by decide) ?_
    refine lv_bipush (v := (111 : Int32)) hx hb dX12_letters_104 (by decide) ?_
    refine lv_bipush (v := (111 : Int32)) hx hb dX12_letters_106 (by decide) ?_
    refine lv_bipush (v := (110 : Int32)) hx hb dX12_letters_108 (by decide) ?_
    refine lv_iconst (v := (0 : Int32)) hx hb dX12_letters_110 (by decide) ?_
    refine lv_iconst (v := (0 : Int32)) hx hb dX12_letters_111 (by decide) ?_
    refine lv_iconst (v := (0 : Int32)) hx hb dX12_letters_112 (by decide) ?_
    obtain ⟨r2, hr2, hf⟩ := wb_b hf
    refine vp_callSl (W.runS (As := [.int (109 : Int32), .int (111 : Int32), .int (111 : Int32), .int (110 : Int32), .int (0 : Int32), .int (0 : Int32), .int (0 : Int32)]) (rest := []) ⟨hx, hb, hml, hown, hts⟩ (cn_X12_spelled l D cB cI cZ N (109 : Int32) (111 : Int32) (111 : Int32) (110 : Int32) (0 : Int32) (0 : Int32) (0 : Int32) r2 hr2) (va_cwS 7 hts gX12_letters_X12_spelled rfl rfl rfl csX12_spelled ⟨Nat.le_of_ble_eq_true rfl, Nat.le_of_ble_eq_true rfl⟩) (wb_preS hP hK) rfl rfl hl.1 rfl (lv_room (Nat.le_of_ble_eq_true rfl)) dX12_letters_113 ⟨Nat.le_of_ble_eq_true rfl, Nat.le_of_ble_eq_true rfl⟩) (fun r9 e9 => ?_)
    rw [e9]
    exact W.lret (v := r2) hx hb hr (fun t ht hW => ⟨_, rfl, Option.some.inj hf, ht⟩) (fun _ h => nomatch h) dX12_letters_116
  replace hf := wb_f hc1 hf
  by_cases hc2 : x0 = (2 : Int32)
  · replace hf := wb_t hc2 hf
    refine lv_tableIn (off := 116) (tgt := 117) hx hb dX12_letters_1 (by rw [hc2]; decide) (by rw [hc2]; decide) (by rw [hc2]; rfl) (by decide) ?_
    refine lv_bipush (v := (109 : Int32)) hx hb dX12_letters_117 (by decide) ?_
    refine lv_bipush (v := (101 : Int32)) hx hb dX12_letters_119 (by decide) ?_
    refine lv_bipush (v := (114 : Int32)) hx hb dX12_letters_121 (by decide) ?_
    refine lv_bipush (v := (99 : Int32)) hx hb dX12_letters_123 (by decide) ?_
    refine lv_bipush (v := (117 : Int32)) hx hb dX12_letters_125 (by decide) ?_
    refine lv_bipush (v := (114 : Int32)) hx hb dX12_letters_127 (by decide) ?_
    refine lv_bipush (v := (121 : Int32)) hx hb dX12_letters_129 (by decide) ?_
    obtain ⟨r3, hr3, hf⟩ := wb_b hf
    refine vp_callSl (W.runS (As := [.int (109 : Int32), .int (101 : Int32), .int (114 : Int32), .int (99 : Int32), .int (117 : Int32), .int (114 : Int32), .int (121 : Int32)]) (rest := []) ⟨hx, hb, hml, hown, hts⟩ (cn_X12_spelled l D cB cI cZ N (109 : Int32) (101 : Int32) (114 : Int32) (99 : Int32) (117 : Int32) (114 : Int32) (121 : Int32) r3 hr3) (va_cwS 7 hts gX12_letters_X12_spelled rfl rfl rfl csX12_spelled ⟨Nat.le_of_ble_eq_true rfl, Nat.le_of_ble_eq_true rfl⟩) (wb_preS hP hK) rfl rfl hl.1 rfl (lv_room (Nat.le_of_ble_eq_true rfl)) dX12_letters_131 ⟨Nat.le_of_ble_eq_true rfl, Nat.le_of_ble_eq_true rfl⟩) (fun r9 e9 => ?_)
    rw [e9]
    exact W.lret (v := r3) hx hb hr (fun t ht hW => ⟨_, rfl, Option.some.inj hf, ht⟩) (fun _ h => nomatch h) dX12_letters_134
  replace hf := wb_f hc2 hf
  by_cases hc3 : x0 = (3 : Int32)
  · replace hf := wb_t hc3 hf
    refine lv_tableIn (off := 134) (tgt := 135) hx hb dX12_letters_1 (by rw [hc3]; decide) (by rw [hc3]; decide) (by rw [hc3]; rfl) (by decide) ?_
    refine lv_bipush (v := (118 : Int32)) hx hb dX12_letters_135 (by decide) ?_
    refine lv_bipush (v := (101 : Int32)) hx hb dX12_letters_137 (by decide) ?_
    refine lv_bipush (v := (110 : Int32)) hx hb dX12_letters_139 (by decide) ?_
    refine lv_bipush (v := (117 : Int32)) hx hb dX12_letters_141 (by decide) ?_
    refine lv_bipush (v := (115 : Int32)) hx hb dX12_letters_143 (by decide) ?_
    refine lv_iconst (v := (0 : Int32)) hx hb dX12_letters_145 (by decide) ?_
    refine lv_iconst (v := (0 : Int32)) hx hb dX12_letters_146 (by decide) ?_
    obtain ⟨r4, hr4, hf⟩ := wb_b hf
    refine vp_callSl (W.runS (As := [.int (118 : Int32), .int (101 : Int32), .int (110 : Int32), .int (117 : Int32), .int (115 : Int32), .int (0 : Int32), .int (0 : Int32)]) (rest := []) ⟨hx, hb, hml, hown, hts⟩ (cn_X12_spelled l D cB cI cZ N (118 : Int32) (101 : Int32) (110 : Int32) (117 : Int32) (115 : Int32) (0 : Int32) (0 : Int32) r4 hr4) (va_cwS 7 hts gX12_letters_X12_spelled rfl rfl rfl csX12_spelled ⟨Nat.le_of_ble_eq_true rfl, Nat.le_of_ble_eq_true rfl⟩) (wb_preS hP hK) rfl rfl hl.1 rfl (lv_room (Nat.le_of_ble_eq_true rfl)) dX12_letters_147 ⟨Nat.le_of_ble_eq_true rfl, Nat.le_of_ble_eq_true rfl⟩) (fun r9 e9 => ?_)
    rw [e9]
    exact W.lret (v := r4) hx hb hr (fun t ht hW => ⟨_, rfl, Option.some.inj hf, ht⟩) (fun _ h => nomatch h) dX12_letters_150
  replace hf := wb_f hc3 hf
  by_cases hc4 : x0 = (4 : Int32)
  · replace hf := wb_t hc4 hf
    refine lv_tableIn (off := 150) (tgt := 151) hx hb dX12_letters_1 (by rw [hc4]; decide) (by rw [hc4]; decide) (by rw [hc4]; rfl) (by decide) ?_
    refine lv_bipush (v := (109 : Int32)) hx hb dX12_letters_151 (by decide) ?_
    refine lv_bipush (v := (97 : Int32)) hx hb dX12_letters_153 (by decide) ?_
    refine lv_bipush (v := (114 : Int32)) hx hb dX12_letters_155 (by decide) ?_
    refine lv_bipush (v := (115 : Int32)) hx hb dX12_letters_157 (by decide) ?_
    refine lv_iconst (v := (0 : Int32)) hx hb dX12_letters_159 (by decide) ?_
    refine lv_iconst (v := (0 : Int32)) hx hb dX12_letters_160 (by decide) ?_
    refine lv_iconst (v := (0 : Int32)) hx hb dX12_letters_161 (by decide) ?_
    obtain ⟨r5, hr5, hf⟩ := wb_b hf
    refine vp_callSl (W.runS (As := [.int (109 : Int32), .int (97 : Int32), .int (114 : Int32), .int (115 : Int32), .int (0 : Int32), .int (0 : Int32), .int (0 : Int32)]) (rest := []) ⟨hx, hb, hml, hown, hts⟩ (cn_X12_spelled l D cB cI cZ N (109 : Int32) (97 : Int32) (114 : Int32) (115 : Int32) (0 : Int32) (0 : Int32) (0 : Int32) r5 hr5) (va_cwS 7 hts gX12_letters_X12_spelled rfl rfl rfl csX12_spelled ⟨Nat.le_of_ble_eq_true rfl, Nat.le_of_ble_eq_true rfl⟩) (wb_preS hP hK) rfl rfl hl.1 rfl (lv_room (Nat.le_of_ble_eq_true rfl)) dX12_letters_162 ⟨Nat.le_of_ble_eq_true rfl, Nat.le_of_ble_eq_true rfl⟩) (fun r9 e9 => ?_)
    rw [e9]
    exact W.lret (v := r5) hx hb hr (fun t ht hW => ⟨_, rfl, Option.some.inj hf, ht⟩) (fun _ h => nomatch h) dX12_letters_165
  replace hf := wb_f hc4 hf
  by_cases hc5 : x0 = (5 : Int32)
  · replace hf := wb_t hc5 hf
    refine lv_tableIn (off := 165) (tgt := 166) hx hb dX12_letters_1 (by rw [hc5]; decide) (by rw [hc5]; decide) (by rw [hc5]; rfl) (by decide) ?_
    refine lv_bipush (v := (106 : Int32)) hx hb dX12_letters_166 (by decide) ?_
    refine lv_bipush (v := (117 : Int32)) hx hb dX12_letters_168 (by decide) ?_
    refine lv_bipush (v := (112 : Int32)) hx hb dX12_letters_170 (by decide) ?_
    refine lv_bipush (v := (105 : Int32)) hx hb dX12_letters_172 (by decide) ?_
    refine lv_bipush (v := (116 : Int32)) hx hb dX12_letters_174 (by decide) ?_
    refine lv_bipush (v := (101 : Int32)) hx hb dX12_letters_176 (by decide) ?_
    refine lv_bipush (v := (114 : Int32)) hx hb dX12_letters_178 (by decide) ?_
    obtain ⟨r6, hr6, hf⟩ := wb_b hf
    refine vp_callSl (W.runS (As := [.int (106 : Int32), .int (117 : Int32), .int (112 : Int32), .int (105 : Int32), .int (116 : Int32), .int (101 : Int32), .int (114 : Int32)]) (rest := []) ⟨hx, hb, hml, hown, hts⟩ (cn_X12_spelled l D cB cI cZ N (106 : Int32) (117 : Int32) (112 : Int32) (105 : Int32) (116 : Int32) (101 : Int32) (114 : Int32) r6 hr6) (va_cwS 7 hts gX12_letters_X12_spelled rfl rfl rfl csX12_spelled ⟨Nat.le_of_ble_eq_true rfl, Nat.le_of_ble_eq_true rfl⟩) (wb_preS hP hK) rfl rfl hl.1 rfl (lv_room (Nat.le_of_ble_eq_true rfl)) dX12_letters_180 ⟨Nat.le_of_ble_eq_true rfl, Nat.le_of_ble_eq_true rfl⟩) (fun r9 e9 => ?_)
    rw [e9]
    exact W.lret (v := r6) hx hb hr (fun t ht hW => ⟨_, rfl, Option.some.inj hf, ht⟩) (fun _ h => nomatch h) dX12_letters_183
  replace hf := wb_f hc5 hf
  by_cases hc6 : x0 = (6 : Int32)
  · replace hf := wb_t hc6 hf
    refine lv_tableIn (off := 183) (tgt := 184) hx hb dX12_letters_1 (by rw [hc6]; decide) (by rw [hc6]; decide) (by rw [hc6]; rfl) (by decide) ?_
    refine lv_bipush (v := (115 : Int32)) hx hb dX12_letters_184 (by decide) ?_
    refine lv_bipush (v := (97 : Int32)) hx hb dX12_letters_186 (by decide) ?_
    refine lv_bipush (v := (116 : Int32)) hx hb dX12_letters_188 (by decide) ?_
    refine lv_bipush (v := (117 : Int32)) hx hb dX12_letters_190 (by decide) ?_
    refine lv_bipush (v := (114 : Int32)) hx hb dX12_letters_192 (by decide) ?_
    refine lv_bipush (v := (110 : Int32)) hx hb dX12_letters_194 (by decide) ?_
    refine lv_iconst (v := (0 : Int32)) hx hb dX12_letters_196 (by decide) ?_
    obtain ⟨r7, hr7, hf⟩ := wb_b hf
    refine vp_callSl (W.runS (As := [.int (115 : Int32), .int (97 : Int32), .int (116 : Int32), .int (117 : Int32), .int (114 : Int32), .int (110 : Int32), .int (0 : Int32)]) (rest := []) ⟨hx, hb, hml, hown, hts⟩ (cn_X12_spelled l D cB cI cZ N (115 : Int32) (97 : Int32) (116 : Int32) (117 : Int32) (114 : Int32) (110 : Int32) (0 : Int32) r7 hr7) (va_cwS 7 hts gX12_letters_X12_spelled rfl rfl rfl csX12_spelled ⟨Nat.le_of_ble_eq_true rfl, Nat.le_of_ble_eq_true rfl⟩) (wb_preS hP hK) rfl rfl hl.1 rfl (lv_room (Nat.le_of_ble_eq_true rfl)) dX12_letters_197 ⟨Nat.le_of_ble_eq_true rfl, Nat.le_of_ble_eq_true rfl⟩) (fun r9 e9 => ?_)
    rw [e9]
    exact W.lret (v := r7) hx hb hr (fun t ht hW => ⟨_, rfl, Option.some.inj hf, ht⟩) (fun _ h => nomatch h) dX12_letters_200
  replace hf := wb_f hc6 hf
  by_cases hc7 : x0 = (7 : Int32)
  · replace hf := wb_t hc7 hf
    refine lv_tableIn (off := 200) (tgt := 201) hx hb dX12_letters_1 (by rw [hc7]; decide) (by rw [hc7]; decide) (by rw [hc7]; rfl) (by decide) ?_
    refine lv_bipush (v := (114 : Int32)) hx hb dX12_letters_201 (by decide) ?_
    refine lv_bipush (v := (105 : Int32)) hx hb dX12_letters_203 (by decide) ?_
    refine lv_bipush (v := (115 : Int32)) hx hb dX12_letters_205 (by decide) ?_
    refine lv_bipush (v := (101 : Int32)) hx hb dX12_letters_207 (by decide) ?_
    refine lv_iconst (v := (0 : Int32)) hx hb dX12_letters_209 (by decide) ?_
    refine lv_iconst (v := (0 : Int32)) hx hb dX12_letters_210 (by decide) ?_
    refine lv_iconst (v := (0 : Int32)) hx hb dX12_letters_211 (by decide) ?_
    obtain ⟨r8, hr8, hf⟩ := wb_b hf
    refine vp_callSl (W.runS (As := [.int (114 : Int32), .int (105 : Int32), .int (115 : Int32), .int (101 : Int32), .int (0 : Int32), .int (0 : Int32), .int (0 : Int32)]) (rest := []) ⟨hx, hb, hml, hown, hts⟩ (cn_X12_spelled l D cB cI cZ N (114 : Int32) (105 : Int32) (115 : Int32) (101 : Int32) (0 : Int32) (0 : Int32) (0 : Int32) r8 hr8) (va_cwS 7 hts gX12_letters_X12_spelled rfl rfl rfl csX12_spelled ⟨Nat.le_of_ble_eq_true rfl, Nat.le_of_ble_eq_true rfl⟩) (wb_preS hP hK) rfl rfl hl.1 rfl (lv_room (Nat.le_of_ble_eq_true rfl)) dX12_letters_212 ⟨Nat.le_of_ble_eq_true rfl, Nat.le_of_ble_eq_true rfl⟩) (fun r9 e9 => ?_)
    rw [e9]
    exact W.lret (v := r8) hx hb hr (fun t ht hW => ⟨_, rfl, Option.some.inj hf, ht⟩) (fun _ h => nomatch h) dX12_letters_215
  replace hf := wb_f hc7 hf
  by_cases hc8 : x0 = (8 : Int32)
  · replace hf := wb_t hc8 hf
    refine lv_tableIn (off := 215) (tgt := 216) hx hb dX12_letters_1 (by rw [hc8]; decide) (by rw [hc8]; decide) (by rw [hc8]; rfl) (by decide) ?_
    refine lv_bipush (v := (108 : Int32)) hx hb dX12_letters_216 (by decide) ?_
    refine lv_bipush (v := (111 : Int32)) hx hb dX12_letters_218 (by decide) ?_
    refine lv_bipush (v := (116 : Int32)) hx hb dX12_letters_220 (by decide) ?_
    refine lv_iconst (v := (0 : Int32)) hx hb dX12_letters_222 (by decide) ?_
    refine lv_iconst (v := (0 : Int32)) hx hb dX12_letters_223 (by decide) ?_
    refine lv_iconst (v := (0 : Int32)) hx hb dX12_letters_224 (by decide) ?_
    refine lv_iconst (v := (0 : Int32)) hx hb dX12_letters_225 (by decide) ?_
    obtain ⟨r9b, hr9b, hf⟩ := wb_b hf
    refine vp_callSl (W.runS (As := [.int (108 : Int32), .int (111 : Int32), .int (116 : Int32), .int (0 : Int32), .int (0 : Int32), .int (0 : Int32), .int (0 : Int32)]) (rest := []) ⟨hx, hb, hml, hown, hts⟩ (cn_X12_spelled l D cB cI cZ N (108 : Int32) (111 : Int32) (116 : Int32) (0 : Int32) (0 : Int32) (0 : Int32) (0 : Int32) r9b hr9b) (va_cwS 7 hts gX12_letters_X12_spelled rfl rfl rfl csX12_spelled ⟨Nat.le_of_ble_eq_true rfl, Nat.le_of_ble_eq_true rfl⟩) (wb_preS hP hK) rfl rfl hl.1 rfl (lv_room (Nat.le_of_ble_eq_true rfl)) dX12_letters_226 ⟨Nat.le_of_ble_eq_true rfl, Nat.le_of_ble_eq_true rfl⟩) (fun r9 e9 => ?_)
    rw [e9]
    exact W.lret (v := r9b) hx hb hr (fun t ht hW => ⟨_, rfl, Option.some.inj hf, ht⟩) (fun _ h => nomatch h) dX12_letters_229
  replace hf := wb_f hc8 hf
  by_cases hc9 : x0 = (9 : Int32)
  · replace hf := wb_t hc9 hf
    refine lv_tableIn (off := 229) (tgt := 230) hx hb dX12_letters_1 (by rw [hc9]; decide) (by rw [hc9]; decide) (by rw [hc9]; rfl) (by decide) ?_
    refine lv_bipush (v := (104 : Int32)) hx hb dX12_letters_230 (by decide) ?_
    refine lv_bipush (v := (111 : Int32)) hx hb dX12_letters_232 (by decide) ?_
    refine lv_bipush (v := (117 : Int32)) hx hb dX12_letters_234 (by decide) ?_
    refine lv_bipush (v := (115 : Int32)) hx hb dX12_letters_236 (by decide) ?_
    refine lv_bipush (v := (101 : Int32)) hx hb dX12_letters_238 (by decide) ?_
    refine lv_iconst (v := (0 : Int32)) hx hb dX12_letters_240 (by decide) ?_
    refine lv_iconst (v := (0 : Int32)) hx hb dX12_letters_241 (by decide) ?_
    obtain ⟨r10, hr10, hf⟩ := wb_b hf
    refine vp_callSl (W.runS (As := [.int (104 : Int32), .int (111 : Int32), .int (117 : Int32), .int (115 : Int32), .int (101 : Int32), .int (0 : Int32), .int (0 : Int32)]) (rest := []) ⟨hx, hb, hml, hown, hts⟩ (cn_X12_spelled l D cB cI cZ N (104 : Int32) (111 : Int32) (117 : Int32) (115 : Int32) (101 : Int32) (0 : Int32) (0 : Int32) r10 hr10) (va_cwS 7 hts gX12_letters_X12_spelled rfl rfl rfl csX12_spelled ⟨Nat.le_of_ble_eq_true rfl, Nat.le_of_ble_eq_true rfl⟩) (wb_preS hP hK) rfl rfl hl.1 rfl (lv_room (Nat.le_of_ble_eq_true rfl)) dX12_letters_242 ⟨Nat.le_of_ble_eq_true rfl, Nat.le_of_ble_eq_true rfl⟩) (fun r9 e9 => ?_)
    rw [e9]
    exact W.lret (v := r10) hx hb hr (fun t ht hW => ⟨_, rfl, Option.some.inj hf, ht⟩) (fun _ h => nomatch h) dX12_letters_245
  replace hf := wb_f hc9 hf
  by_cases hc10 : x0 = (10 : Int32)
  · replace hf := wb_t hc10 hf
    refine lv_tableIn (off := 245) (tgt := 246) hx hb dX12_letters_1 (by rw [hc10]; decide) (by rw [hc10]; decide) (by rw [hc10]; rfl) (by decide) ?_
    refine lv_bipush (v := (100 : Int32)) hx hb dX12_letters_246 (by decide) ?_
    refine lv_bipush (v := (97 : Int32)) hx hb dX12_letters_248 (by decide) ?_
    refine lv_bipush (v := (116 : Int32)) hx hb dX12_letters_250 (by decide) ?_
    refine lv_bipush (v := (101 : Int32)) hx hb dX12_letters_252 (by decide) ?_
    refine lv_iconst (v := (0 : Int32)) hx hb dX12_letters_254 (by decide) ?_
    refine lv_iconst (v := (0 : Int32)) hx hb dX12_letters_255 (by decide) ?_
    refine lv_iconst (v := (0 : Int32)) hx hb dX12_letters_256 (by decide) ?_
    obtain ⟨r11, hr11, hf⟩ := wb_b hf
    refine vp_callSl (W.runS (As := [.int (100 : Int32), .int (97 : Int32), .int (116 : Int32), .int (101 : Int32), .int (0 : Int32), .int (0 : Int32), .int (0 : Int32)]) (rest := []) ⟨hx, hb, hml, hown, hts⟩ (cn_X12_spelled l D cB cI cZ N (100 : Int32) (97 : Int32) (116 : Int32) (101 : Int32) (0 : Int32) (0 : Int32) (0 : Int32) r11 hr11) (va_cwS 7 hts gX12_letters_X12_spelled rfl rfl rfl csX12_spelled ⟨Nat.le_of_ble_eq_true rfl, Nat.le_of_ble_eq_true rfl⟩) (wb_preS hP hK) rfl rfl hl.1 rfl (lv_room (Nat.le_of_ble_eq_true rfl)) dX12_letters_257 ⟨Nat.le_of_ble_eq_true rfl, Nat.le_of_ble_eq_true rfl⟩) (fun r9 e9 => ?_)
    rw [e9]
    exact W.lret (v := r11) hx hb hr (fun t ht hW => ⟨_, rfl, Option.some.inj hf, ht⟩) (fun _ h => nomatch h) dX12_letters_260
  replace hf := wb_f hc10 hf
  by_cases hc11 : x0 = (11 : Int32)
  · replace hf := wb_t hc11 hf
    refine lv_tableIn (off := 260) (tgt := 261) hx hb dX12_letters_1 (by rw [hc11]; decide) (by rw [hc11]; decide) (by rw [hc11]; rfl) (by decide) ?_
    refine lv_bipush (v := (115 : Int32)) hx hb dX12_letters_261 (by decide) ?_
    refine lv_bipush (v := (101 : Int32)) hx hb dX12_letters_263 (by decide) ?_
    refine lv_bipush (v := (116 : Int32)) hx hb dX12_letters_265 (by decide) ?_
    refine lv_iconst (v := (0 : Int32)) hx hb dX12_letters_267 (by decide) ?_
    refine lv_iconst (v := (0 : Int32)) hx hb dX12_letters_268 (by decide) ?_
    refine lv_iconst (v := (0 : Int32)) hx hb dX12_letters_269 (by decide) ?_
    refine lv_iconst (v := (0 : Int32)) hx hb dX12_letters_270 (by decide) ?_
    obtain ⟨r12, hr12, hf⟩ := wb_b hf
    refine vp_callSl (W.runS (As := [.int (115 : Int32), .int (101 : Int32), .int (116 : Int32), .int (0 : Int32), .int (0 : Int32), .int (0 : Int32), .int (0 : Int32)]) (rest := []) ⟨hx, hb, hml, hown, hts⟩ (cn_X12_spelled l D cB cI cZ N (115 : Int32) (101 : Int32) (116 : Int32) (0 : Int32) (0 : Int32) (0 : Int32) (0 : Int32) r12 hr12) (va_cwS 7 hts gX12_letters_X12_spelled rfl rfl rfl csX12_spelled ⟨Nat.le_of_ble_eq_true rfl, Nat.le_of_ble_eq_true rfl⟩) (wb_preS hP hK) rfl rfl hl.1 rfl (lv_room (Nat.le_of_ble_eq_true rfl)) dX12_letters_271 ⟨Nat.le_of_ble_eq_true rfl, Nat.le_of_ble_eq_true rfl⟩) (fun r9 e9 => ?_)
    rw [e9]
    exact W.lret (v := r12) hx hb hr (fun t ht hW => ⟨_, rfl, Option.some.inj hf, ht⟩) (fun _ h => nomatch h) dX12_letters_274
  replace hf := wb_f hc11 hf
  by_cases hc12 : x0 = (12 : Int32)
  · replace hf := wb_t hc12 hf
    refine lv_tableIn (off := 274) (tgt := 275) hx hb dX12_letters_1 (by rw [hc12]; decide) (by rw [hc12]; decide) (by rw [hc12]; rfl) (by decide) ?_
    refine lv_bipush (v := (97 : Int32)) hx hb dX12_letters_275 (by decide) ?_
    refine lv_bipush (v := (116 : Int32)) hx hb dX12_letters_277 (by decide) ?_
    refine lv_iconst (v := (0 : Int32)) hx hb dX12_letters_279 (by decide) ?_
    refine lv_iconst (v := (0 : Int32)) hx hb dX12_letters_280 (by decide) ?_
    refine lv_iconst (v := (0 : Int32)) hx hb dX12_letters_281 (by decide) ?_
    refine lv_iconst (v := (0 : Int32)) hx hb dX12_letters_282 (by decide) ?_
    refine lv_iconst (v := (0 : Int32)) hx hb dX12_letters_283 (by decide) ?_
    obtain ⟨r13, hr13, hf⟩ := wb_b hf
    refine vp_callSl (W.runS (As := [.int (97 : Int32), .int (116 : Int32), .int (0 : Int32), .int (0 : Int32), .int (0 : Int32), .int (0 : Int32), .int (0 : Int32)]) (rest := []) ⟨hx, hb, hml, hown, hts⟩ (cn_X12_spelled l D cB cI cZ N (97 : Int32) (116 : Int32) (0 : Int32) (0 : Int32) (0 : Int32) (0 : Int32) (0 : Int32) r13 hr13) (va_cwS 7 hts gX12_letters_X12_spelled rfl rfl rfl csX12_spelled ⟨Nat.le_of_ble_eq_true rfl, Nat.le_of_ble_eq_true rfl⟩) (wb_preS hP hK) rfl rfl hl.1 rfl (lv_room (Nat.le_of_ble_eq_true rfl)) dX12_letters_284 ⟨Nat.le_of_ble_eq_true rfl, Nat.le_of_ble_eq_true rfl⟩) (fun r9 e9 => ?_)
    rw [e9]
    exact W.lret (v := r13) hx hb hr (fun t ht hW => ⟨_, rfl, Option.some.inj hf, ht⟩) (fun _ h => nomatch h) dX12_letters_287
  replace hf := wb_f hc12 hf
  by_cases hc13 : x0 = (13 : Int32)
  · replace hf := wb_t hc13 hf
    refine lv_tableIn (off := 287) (tgt := 288) hx hb dX12_letters_1 (by rw [hc13]; decide) (by rw [hc13]; decide) (by rw [hc13]; rfl) (by decide) ?_
    refine lv_bipush (v := (103 : Int32)) hx hb dX12_letters_288 (by decide) ?_
    refine lv_bipush (v := (111 : Int32)) hx hb dX12_letters_290 (by decide) ?_
    refine lv_bipush (v := (101 : Int32)) hx hb dX12_letters_292 (by decide) ?_
    refine lv_bipush (v := (115 : Int32)) hx hb dX12_letters_294 (by decide) ?_
    refine lv_iconst (v := (0 : Int32)) hx hb dX12_letters_296 (by decide) ?_
    refine lv_iconst (v := (0 : Int32)) hx hb dX12_letters_297 (by decide) ?_
    refine lv_iconst (v := (0 : Int32)) hx hb dX12_letters_298 (by decide) ?_
    obtain ⟨r14, hr14, hf⟩ := wb_b hf
    refine vp_callSl (W.runS (As := [.int (103 : Int32), .int (111 : Int32), .int (101 : Int32), .int (115 : Int32), .int (0 : Int32), .int (0 : Int32), .int (0 : Int32)]) (rest := []) ⟨hx, hb, hml, hown, hts⟩ (cn_X12_spelled l D cB cI cZ N (103 : Int32) (111 : Int32) (101 : Int32) (115 : Int32) (0 : Int32) (0 : Int32) (0 : Int32) r14 hr14) (va_cwS 7 hts gX12_letters_X12_spelled rfl rfl rfl csX12_spelled ⟨Nat.le_of_ble_eq_true rfl, Nat.le_of_ble_eq_true rfl⟩) (wb_preS hP hK) rfl rfl hl.1 rfl (lv_room (Nat.le_of_ble_eq_true rfl)) dX12_letters_299 ⟨Nat.le_of_ble_eq_true rfl, Nat.le_of_ble_eq_true rfl⟩) (fun r9 e9 => ?_)
    rw [e9]
    exact W.lret (v := r14) hx hb hr (fun t ht hW => ⟨_, rfl, Option.some.inj hf, ht⟩) (fun _ h => nomatch h) dX12_letters_302
  replace hf := wb_f hc13 hf
  by_cases hc14 : x0 = (14 : Int32)
  · replace hf := wb_t hc14 hf
    refine lv_tableIn (off := 302) (tgt := 303) hx hb dX12_letters_1 (by rw [hc14]; decide) (by rw [hc14]; decide) (by rw [hc14]; rfl) (by decide) ?_
    refine lv_bipush (v := (115 : Int32)) hx hb dX12_letters_303 (by decide) ?_
    refine lv_bipush (v := (119 : Int32)) hx hb dX12_letters_305 (by decide) ?_
    refine lv_bipush (v := (105 : Int32)) hx hb dX12_letters_307 (by decide) ?_
    refine lv_bipush (v := (110 : Int32)) hx hb dX12_letters_309 (by decide) ?_
    refine lv_bipush (v := (103 : Int32)) hx hb dX12_letters_311 (by decide) ?_
    refine lv_iconst (v := (0 : Int32)) hx hb dX12_letters_313 (by decide) ?_
    refine lv_iconst (v := (0 : Int32)) hx hb dX12_letters_314 (by decide) ?_
    obtain ⟨r15, hr15, hf⟩ := wb_b hf
    refine vp_callSl (W.runS (As := [.int (115 : Int32), .int (119 : Int32), .int (105 : Int32), .int (110 : Int32), .int (103 : Int32), .int (0 : Int32), .int (0 : Int32)]) (rest := []) ⟨hx, hb, hml, hown, hts⟩ (cn_X12_spelled l D cB cI cZ N (115 : Int32) (119 : Int32) (105 : Int32) (110 : Int32) (103 : Int32) (0 : Int32) (0 : Int32) r15 hr15) (va_cwS 7 hts gX12_letters_X12_spelled rfl rfl rfl csX12_spelled ⟨Nat.le_of_ble_eq_true rfl, Nat.le_of_ble_eq_true rfl⟩) (wb_preS hP hK) rfl rfl hl.1 rfl (lv_room (Nat.le_of_ble_eq_true rfl)) dX12_letters_315 ⟨Nat.le_of_ble_eq_true rfl, Nat.le_of_ble_eq_true rfl⟩) (fun r9 e9 => ?_)
    rw [e9]
    exact W.lret (v := r15) hx hb hr (fun t ht hW => ⟨_, rfl, Option.some.inj hf, ht⟩) (fun _ h => nomatch h) dX12_letters_318
  replace hf := wb_f hc14 hf
  by_cases hc15 : x0 = (15 : Int32)
  · replace hf := wb_t hc15 hf
    refine lv_tableIn (off := 318) (tgt := 319) hx hb dX12_letters_1 (by rw [hc15]; decide) (by rw [hc15]; decide) (by rw [hc15]; rfl) (by decide) ?_
    refine lv_bipush (v := (105 : Int32)) hx hb dX12_letters_319 (by decide) ?_
    refine lv_bipush (v := (110 : Int32)) hx hb dX12_letters_321 (by decide) ?_
    refine lv_iconst (v := (0 : Int32)) hx hb dX12_letters_323 (by decide) ?_
    refine lv_iconst (v := (0 : Int32)) hx hb dX12_letters_324 (by decide) ?_
    refine lv_iconst (v := (0 : Int32)) hx hb dX12_letters_325 (by decide) ?_
    refine lv_iconst (v := (0 : Int32)) hx hb dX12_letters_326 (by decide) ?_
    refine lv_iconst (v := (0 : Int32)) hx hb dX12_letters_327 (by decide) ?_
    obtain ⟨r16, hr16, hf⟩ := wb_b hf
    refine vp_callSl (W.runS (As := [.int (105 : Int32), .int (110 : Int32), .int (0 : Int32), .int (0 : Int32), .int (0 : Int32), .int (0 : Int32), .int (0 : Int32)]) (rest := []) ⟨hx, hb, hml, hown, hts⟩ (cn_X12_spelled l D cB cI cZ N (105 : Int32) (110 : Int32) (0 : Int32) (0 : Int32) (0 : Int32) (0 : Int32) (0 : Int32) r16 hr16) (va_cwS 7 hts gX12_letters_X12_spelled rfl rfl rfl csX12_spelled ⟨Nat.le_of_ble_eq_true rfl, Nat.le_of_ble_eq_true rfl⟩) (wb_preS hP hK) rfl rfl hl.1 rfl (lv_room (Nat.le_of_ble_eq_true rfl)) dX12_letters_328 ⟨Nat.le_of_ble_eq_true rfl, Nat.le_of_ble_eq_true rfl⟩) (fun r9 e9 => ?_)
    rw [e9]
    exact W.lret (v := r16) hx hb hr (fun t ht hW => ⟨_, rfl, Option.some.inj hf, ht⟩) (fun _ h => nomatch h) dX12_letters_331
  replace hf := wb_f hc15 hf
  by_cases hc16 : x0 = (16 : Int32)
  · replace hf := wb_t hc16 hf
    refine lv_tableIn (off := 331) (tgt := 332) hx hb dX12_letters_1 (by rw [hc16]; decide) (by rw [hc16]; decide) (by rw [hc16]; rfl) (by decide) ?_
    refine lv_bipush (v := (99 : Int32)) hx hb dX12_letters_332 (by decide) ?_
    refine lv_bipush (v := (108 : Int32)) hx hb dX12_letters_334 (by decide) ?_
    refine lv_bipush (v := (105 : Int32)) hx hb dX12_letters_336 (by decide) ?_
    refine lv_bipush (v := (109 : Int32)) hx hb dX12_letters_338 (by decide) ?_
    refine lv_bipush (v := (97 : Int32)) hx hb dX12_letters_340 (by decide) ?_
    refine lv_bipush (v := (116 : Int32)) hx hb dX12_letters_342 (by decide) ?_
    refine lv_bipush (v := (101 : Int32)) hx hb dX12_letters_344 (by decide) ?_
    obtain ⟨r17, hr17, hf⟩ := wb_b hf
    refine vp_callSl (W.runS (As := [.int (99 : Int32), .int (108 : Int32), .int (105 : Int32), .int (109 : Int32), .int (97 : Int32), .int (116 : Int32), .int (101 : Int32)]) (rest := []) ⟨hx, hb, hml, hown, hts⟩ (cn_X12_spelled l D cB cI cZ N (99 : Int32) (108 : Int32) (105 : Int32) (109 : Int32) (97 : Int32) (116 : Int32) (101 : Int32) r17 hr17) (va_cwS 7 hts gX12_letters_X12_spelled rfl rfl rfl csX12_spelled ⟨Nat.le_of_ble_eq_true rfl, Nat.le_of_ble_eq_true rfl⟩) (wb_preS hP hK) rfl rfl hl.1 rfl (lv_room (Nat.le_of_ble_eq_true rfl)) dX12_letters_346 ⟨Nat.le_of_ble_eq_true rfl, Nat.le_of_ble_eq_true rfl⟩) (fun r9 e9 => ?_)
    rw [e9]
    exact W.lret (v := r17) hx hb hr (fun t ht hW => ⟨_, rfl, Option.some.inj hf, ht⟩) (fun _ h => nomatch h) dX12_letters_349
  replace hf := wb_f hc16 hf
  by_cases hc17 : x0 = (17 : Int32)
  · replace hf := wb_t hc17 hf
    refine lv_tableIn (off := 349) (tgt := 350) hx hb dX12_letters_1 (by rw [hc17]; decide) (by rw [hc17]; decide) (by rw [hc17]; rfl) (by decide) ?_
    refine lv_bipush (v := (104 : Int32)) hx hb dX12_letters_350 (by decide) ?_
    refine lv_bipush (v := (97 : Int32)) hx hb dX12_letters_352 (by decide) ?_
    refine lv_bipush (v := (110 : Int32)) hx hb dX12_letters_354 (by decide) ?_
    refine lv_bipush (v := (100 : Int32)) hx hb dX12_letters_356 (by decide) ?_
    refine lv_iconst (v := (0 : Int32)) hx hb dX12_letters_358 (by decide) ?_
    refine lv_iconst (v := (0 : Int32)) hx hb dX12_letters_359 (by decide) ?_
    refine lv_iconst (v := (0 : Int32)) hx hb dX12_letters_360 (by decide) ?_
    obtain ⟨r18, hr18, hf⟩ := wb_b hf
    refine vp_callSl (W.runS (As := [.int (104 : Int32), .int (97 : Int32), .int (110 : Int32), .int (100 : Int32), .int (0 : Int32), .int (0 : Int32), .int (0 : Int32)]) (rest := []) ⟨hx, hb, hml, hown, hts⟩ (cn_X12_spelled l D cB cI cZ N (104 : Int32) (97 : Int32) (110 : Int32) (100 : Int32) (0 : Int32) (0 : Int32) (0 : Int32) r18 hr18) (va_cwS 7 hts gX12_letters_X12_spelled rfl rfl rfl csX12_spelled ⟨Nat.le_of_ble_eq_true rfl, Nat.le_of_ble_eq_true rfl⟩) (wb_preS hP hK) rfl rfl hl.1 rfl (lv_room (Nat.le_of_ble_eq_true rfl)) dX12_letters_361 ⟨Nat.le_of_ble_eq_true rfl, Nat.le_of_ble_eq_true rfl⟩) (fun r9 e9 => ?_)
    rw [e9]
    exact W.lret (v := r18) hx hb hr (fun t ht hW => ⟨_, rfl, Option.some.inj hf, ht⟩) (fun _ h => nomatch h) dX12_letters_364
  replace hf := wb_f hc17 hf
  refine lv_tableOut (tgt := 365) hx hb dX12_letters_1 (wb_sw18 hc0 hc1 hc2 hc3 hc4 hc5 hc6 hc7 hc8 hc9 hc10 hc11 hc12 hc13 hc14 hc15 hc16 hc17) (by decide) ?_
  refine lv_bipush (v := (102 : Int32)) hx hb dX12_letters_365 (by decide) ?_
  refine lv_bipush (v := (111 : Int32)) hx hb dX12_letters_367 (by decide) ?_
  refine lv_bipush (v := (114 : Int32)) hx hb dX12_letters_369 (by decide) ?_
  refine lv_iconst (v := (0 : Int32)) hx hb dX12_letters_371 (by decide) ?_
  refine lv_iconst (v := (0 : Int32)) hx hb dX12_letters_372 (by decide) ?_
  refine lv_iconst (v := (0 : Int32)) hx hb dX12_letters_373 (by decide) ?_
  refine lv_iconst (v := (0 : Int32)) hx hb dX12_letters_374 (by decide) ?_
  obtain ⟨r19, hr19, hf⟩ := wb_b hf
  refine vp_callSl (W.runS (As := [.int (102 : Int32), .int (111 : Int32), .int (114 : Int32), .int (0 : Int32), .int (0 : Int32), .int (0 : Int32), .int (0 : Int32)]) (rest := []) ⟨hx, hb, hml, hown, hts⟩ (cn_X12_spelled l D cB cI cZ N (102 : Int32) (111 : Int32) (114 : Int32) (0 : Int32) (0 : Int32) (0 : Int32) (0 : Int32) r19 hr19) (va_cwS 7 hts gX12_letters_X12_spelled rfl rfl rfl csX12_spelled ⟨Nat.le_of_ble_eq_true rfl, Nat.le_of_ble_eq_true rfl⟩) (wb_preS hP hK) rfl rfl hl.1 rfl (lv_room (Nat.le_of_ble_eq_true rfl)) dX12_letters_375 ⟨Nat.le_of_ble_eq_true rfl, Nat.le_of_ble_eq_true rfl⟩) (fun r9 e9 => ?_)
  rw [e9]
  exact W.lret (v := r19) hx hb hr (fun t ht hW => ⟨_, rfl, Option.some.inj hf, ht⟩) (fun _ h => nomatch h) dX12_letters_378
