set_option maxHeartbeats 4000000 in
set_option maxRecDepth 100000 in
theorem cn_X12_readsHand (l : Launch) (D : va_G) (cB cI cZ : ClassId) (N : Nat) (a0 : Nat → Nat) (I0 : Nat → Int32) (L0 : Int64) (M0 : Nat → Nat → Int32) (sz : Nat) (R : (Nat → Int32) × Int64 × (Nat → Nat → Int32)) (hf : fX12_readsHand N I0 L0 M0 = some R) : Met l yX12_readsHand wsX12_readsHand ({ frames := 4, cells := 0, slots := 0, locals := 92 }) (va_Pc [.ref (a0 0)] (wb_preD D [(cB, .byte), (cI, .int), (cZ, .boolean)] (wWX12 cB cI cZ a0 I0 L0 M0) sz)) (va_Qv (fun _ : Unit => True) (fun _ t => wb_post D [(cB, .byte), (cI, .int), (cZ, .boolean)] (va_A (wWX12 cB cI cZ a0 I0 L0 M0) sz) (wWX12 cB cI cZ a0 R.1 R.2.1 R.2.2) t) (va_A (wWX12 cB cI cZ a0 I0 L0 M0) sz)) 0 0 (va_A (wWX12 cB cI cZ a0 I0 L0 M0) sz) := by
  refine Met.ofW (cc := cX12_readsHand) (maxL := 3) (ret := none) pn_X12 rfl ?_
  intro p e s m args below meth c s₁ B hml hv
  obtain ⟨rfl, hsz, hP, hK, hD0⟩ := hv
  have hx := B.exec
  have hb := B.bytes
  have hr := B.returns
  have hts := atoms_spec (ws := wsX12_readsHand) B.pre
  have hown : s.vm.findClass RX12 = some m.cls := (findClass_of_methodNamed B.named :)
  have hlocks := B.notSynchronized
  have hinX12 : ∀ w ∈ u_ws RX12 TX12 58, w ∈ wsX12_readsHand := fun w h => List.mem_cons_of_mem _ (List.mem_append_right _ h)
  subst hsz
  have hD := hD0.self (sz := s.heap.size)
  generalize hAe : va_A (wWX12 cB cI cZ a0 I0 L0 M0) s.heap.size = A at hD ⊢
  have hA : ∀ q : Nat, s.heap.size ≤ q → A q := fun q h => by rw [← hAe]; exact Or.inr h
  have hS : va_S A s.heap s.heap [] := va_S.rf
  have hl := lv_entry ([.ref (a0 0)]) (n := 3) (Nat.le_of_ble_eq_true rfl)
  rw [lg_entry_eq]
  generalize (lg_sl ([.ref (a0 0)]) ++ List.replicate (3 - (lg_sl ([.ref (a0 0)])).length) Slot.unset).toArray = ls at hl ⊢
  have hl : lv_has ls 3 [(0, .ref (a0 0))] := hl
  unfold fX12_readsHand at hf
  obtain ⟨H, hHe⟩ : ∃ H : Heap, H = s.heap := ⟨_, rfl⟩
  obtain ⟨locs, hle⟩ : ∃ locs : List Loc, locs = [] := ⟨_, rfl⟩
  refine wb_start (H := H) (locs := locs) hHe hle ?_
  rw [← hHe] at hP
  have hS : va_S A s.heap H locs := by rw [hHe, hle]; exact va_S.rf
  have J14 : ∀ (I0_j14 : Nat → Int32) (L0_j14 : Int64) (M0_j14 : Nat → Nat → Int32) (H : Heap) (locs : List Loc), va_P D vwCl (wWX12 cB cI cZ a0 I0_j14 L0_j14 M0_j14) H → va_D A (wWX12 cB cI cZ a0 I0_j14 L0_j14 M0_j14) → va_S A s.heap H locs → ∀ (ls : Array Slot), lv_has ls 3 [(0, .ref (a0 0))] → fX12_readsHand_J14 N I0_j14 L0_j14 M0_j14 = some R → W p l e (headSpec wsX12_readsHand { frames := 4, cells := 0, slots := 0, locals := 92 }).room s m [.ref (a0 0)].toArray below meth c H locs 0 0 (MQ below (va_Qv (fun _ : Unit => True) (fun _ t => wb_post D [(cB, .byte), (cI, .int), (cZ, .boolean)] A (wWX12 cB cI cZ a0 R.1 R.2.1 R.2.2) t) A) [.ref (a0 0)].toArray s 0 0 A) (F0 m 14 ls []) := by
    intro I0_j14 L0_j14 M0_j14 H locs hP hD hS ls hl hf
    unfold fX12_readsHand_J14 at hf
    refine lv_aload_n hx hb dX12_readsHand_14 rfl (lv_at hl 0 rfl) ?_
    obtain ⟨r1, hr1, hf⟩ := wb_b hf
    refine vp_callSi (W.runV (As := []) (rest := []) ⟨hx, hb, hml, hown, hts⟩ (cn_X12_isGood l D cB cI cZ N a0 I0_j14 L0_j14 M0_j14 r1 hr1) (cwV 0 hts gX12_readsHand_X12_isGood rfl rfl rfl cdX12_isGood ⟨Nat.le_of_ble_eq_true rfl, Nat.le_of_ble_eq_true rfl⟩) (wb_preV hP hK (wr_12 hK hP (q0 := 0) rfl)) rfl rfl hl.1 rfl (lv_room (Nat.le_of_ble_eq_true rfl)) dX12_readsHand_15 ⟨Nat.le_of_ble_eq_true rfl, Nat.le_of_ble_eq_true rfl⟩) (fun r9 e9 => ?_)
    rw [e9]
    refine lv_if_ne (tgt := 22) hx hb dX12_readsHand_18 (by decide) (fun hc => ?_) (fun hc => ?_)
    · replace hf := wb_f hc hf
      refine lv_aload_n hx hb dX12_readsHand_22 rfl (lv_at hl 0 rfl) ?_
      obtain ⟨r2, hr2, hf⟩ := wb_b hf
      have hPc := hP
      have hDc := hD
      have hFc := wj_F hDc hS hA
      refine va_callv (va_runV (As := []) (rest := []) ⟨hx, hb, hml, hown, hts⟩ (cn_X12_steps l D cB cI cZ N a0 I0_j14 L0_j14 M0_j14 H.size r2 hr2) (cwV 0 hts gX12_readsHand_X12_steps rfl rfl rfl cdX12_steps ⟨Nat.le_of_ble_eq_true rfl, Nat.le_of_ble_eq_true rfl⟩) (wb_preDV hPc hK hDc (wr_12 hK hP (q0 := 0) rfl)) rfl rfl hl.1 rfl (lv_room (Nat.le_of_ble_eq_true rfl)) dX12_readsHand_23 ⟨Nat.le_of_ble_eq_true rfl, Nat.le_of_ble_eq_true rfl⟩) hS (fun q _ h => hFc q h) hFc (fun u t H locs ht hvm hw hB hz1 hk1 hS => ?_)
      obtain ⟨hP, hD⟩ := wj_0 hFc ht hB
      refine lv_aload_n hx hb dX12_readsHand_26 rfl (lv_at hl 0 rfl) ?_
      refine lv_iconst (v := (0 : Int32)) hx hb dX12_readsHand_27 (by decide) ?_
      refine lv_bipush (v := (29 : Int32)) hx hb dX12_readsHand_28 (by decide) ?_
      obtain ⟨r3, hr3, hf⟩ := wb_b hf
      have hPc := hP
      have hDc := hD
      have hFc := wj_F hDc hS hA
      refine va_calli (va_runV (As := [.int (0 : Int32), .int (29 : Int32)]) (rest := []) ⟨hx, hb, hml, hown, hts⟩ (cn_X12_number l D cB cI cZ N a0 r2.1 r2.2.1 r2.2.2 (0 : Int32) (29 : Int32) H.size r3 hr3) (cwV 2 hts gX12_readsHand_X12_number rfl rfl rfl cdX12_number ⟨Nat.le_of_ble_eq_true rfl, Nat.le_of_ble_eq_true rfl⟩) (wb_preDV hPc hK hDc (wr_12 hK hP (q0 := 0) rfl)) rfl rfl hl.1 rfl (lv_room (Nat.le_of_ble_eq_true rfl)) dX12_readsHand_30 ⟨Nat.le_of_ble_eq_true rfl, Nat.le_of_ble_eq_true rfl⟩) hS (fun q _ h => hFc q h) hFc (fun r9 u t H locs ht hvm hw hB hz1 hk1 hS => ?_)
      obtain ⟨hP, hD⟩ := wj_0 hFc ht hB
      rw [hw]
      obtain ⟨v4, ev4, hf⟩ := wb_v hf
      refine wb_topi ev4 ?_
      refine lv_istore_n (lv' := [(1, .int v4), (0, .ref (a0 0))]) hx hb dX12_readsHand_33 rfl hl (by decide) rfl (fun ls hl => ?_)
      refine lv_aload_n hx hb dX12_readsHand_34 rfl (lv_at hl 1 rfl) ?_
      refine lv_bipush (v := (18 : Int32)) hx hb dX12_readsHand_35 (by decide) ?_
      refine lv_iconst (v := (0 : Int32)) hx hb dX12_readsHand_37 (by decide) ?_
      refine lv_bipush (v := (29 : Int32)) hx hb dX12_readsHand_38 (by decide) ?_
      obtain ⟨r5, hr5, hf⟩ := wb_b hf
      have hPc := hP
      have hDc := hD
      have hFc := wj_F hDc hS hA
      refine va_calli (va_runV (As := [.int (18 : Int32), .int (0 : Int32), .int (29 : Int32)]) (rest := []) ⟨hx, hb, hml, hown, hts⟩ (cn_X12_named l D cB cI cZ N a0 r3.2.1 r3.2.2.1 r3.2.2.2 (18 : Int32) (0 : Int32) (29 : Int32) H.size r5 hr5) (cwV 3 hts gX12_readsHand_X12_named rfl rfl rfl cdX12_named ⟨Nat.le_of_ble_eq_true rfl, Nat.le_of_ble_eq_true rfl⟩) (wb_preDV hPc hK hDc (wr_12 hK hP (q0 := 0) rfl)) rfl rfl hl.1 rfl (lv_room (Nat.le_of_ble_eq_true rfl)) dX12_readsHand_40 ⟨Nat.le_of_ble_eq_true rfl, Nat.le_of_ble_eq_true rfl⟩) hS (fun q _ h => hFc q h) hFc (fun r9 u t H locs ht hvm hw hB hz1 hk1 hS => ?_)
      obtain ⟨hP, hD⟩ := wj_0 hFc ht hB
      rw [hw]
      obtain ⟨v6, ev6, hf⟩ := wb_v hf
      refine wb_topi ev6 ?_
      refine lv_istore_n (lv' := [(2, .int v6), (1, .int v4), (0, .ref (a0 0))]) hx hb dX12_readsHand_43 rfl hl (by decide) rfl (fun ls hl => ?_)
      refine lv_aload_n hx hb dX12_readsHand_44 rfl (lv_at hl 2 rfl) ?_
      obtain ⟨r7, hr7, hf⟩ := wb_b hf
      refine vp_callSi (W.runV (As := []) (rest := []) ⟨hx, hb, hml, hown, hts⟩ (cn_X12_isGood l D cB cI cZ N a0 r5.2.1 r5.2.2.1 r5.2.2.2 r7 hr7) (cwV 0 hts gX12_readsHand_X12_isGood rfl rfl rfl cdX12_isGood ⟨Nat.le_of_ble_eq_true rfl, Nat.le_of_ble_eq_true rfl⟩) (wb_preV hP hK (wr_12 hK hP (q0 := 0) rfl)) rfl rfl hl.1 rfl (lv_room (Nat.le_of_ble_eq_true rfl)) dX12_readsHand_45 ⟨Nat.le_of_ble_eq_true rfl, Nat.le_of_ble_eq_true rfl⟩) (fun r9 e9 => ?_)
      rw [e9]
      refine lv_if_ne (tgt := 52) hx hb dX12_readsHand_48 (by decide) (fun hc => ?_) (fun hc => ?_)
      · replace hf := wb_f hc hf
        refine lv_aload_n hx hb dX12_readsHand_52 rfl (lv_at hl 2 rfl) ?_
        refine va_get (D := D) (ci := 12) (v := .ref (a0 16)) (C := RX12) (T := TX12) (N := 58) hx hb hts hinX12 hown hK hP 0 rfl rfl 31 (by decide) (hts (.fieldLink RX12 59 "WheelBookModel" "newRead" "[I") (List.mem_of_getElem? (i := 2) rfl)) (fun _ h9 => h9) rfl dX12_readsHand_53 ?_
        refine lv_aload_n hx hb dX12_readsHand_56 rfl (lv_at hl 2 rfl) ?_
        refine va_get (D := D) (ci := 12) (v := .int (r5.2.1 14)) (C := RX12) (T := TX12) (N := 58) hx hb hts hinX12 hown hK hP 0 rfl rfl 24 (by decide) (hts (.fieldLink RX12 222 "WheelBookModel" "newHands" "I") (List.mem_of_getElem? (i := 1) rfl)) (fun _ h9 => h9) rfl dX12_readsHand_57 ?_
        refine lv_iload_n hx hb dX12_readsHand_60 rfl (lv_at hl 1 rfl) ?_
        obtain ⟨hin, hf⟩ := wb_n hf
        refine va_iast hx hb hK hP hD hS 16 1 rfl rfl hin dX12_readsHand_61 (fun H locs hP hD hS => ?_)
        have hP : va_P D vwCl (wWX12 cB cI cZ a0 r5.2.1 r5.2.2.1 (wb_um r5.2.2.2 15 ((r5.2.1 14)).toNatClampNeg v4)) H := hP
        have hD : va_D A (wWX12 cB cI cZ a0 r5.2.1 r5.2.2.1 (wb_um r5.2.2.2 15 ((r5.2.1 14)).toNatClampNeg v4)) := hD
        obtain ⟨M0_8, eM0_8, hf⟩ := wb_v hf
        rw [← eM0_8] at hP hD
        refine lv_aload_n hx hb dX12_readsHand_62 rfl (lv_at hl 2 rfl) ?_
        refine va_get (D := D) (ci := 12) (v := .ref (a0 15)) (C := RX12) (T := TX12) (N := 58) hx hb hts hinX12 hown hK hP 0 rfl rfl 30 (by decide) (hts (.fieldLink RX12 56 "WheelBookModel" "newStood" "[I") (List.mem_of_getElem? (i := 3) rfl)) (fun _ h9 => h9) rfl dX12_readsHand_63 ?_
        refine lv_aload_n hx hb dX12_readsHand_66 rfl (lv_at hl 2 rfl) ?_
        refine va_get (D := D) (ci := 12) (v := .int (r5.2.1 14)) (C := RX12) (T := TX12) (N := 58) hx hb hts hinX12 hown hK hP 0 rfl rfl 24 (by decide) (hts (.fieldLink RX12 222 "WheelBookModel" "newHands" "I") (List.mem_of_getElem? (i := 1) rfl)) (fun _ h9 => h9) rfl dX12_readsHand_67 ?_
        refine lv_iload_n hx hb dX12_readsHand_70 rfl (lv_at hl 0 rfl) ?_
        obtain ⟨hin, hf⟩ := wb_n hf
        refine va_iast hx hb hK hP hD hS 15 1 rfl rfl hin dX12_readsHand_71 (fun H locs hP hD hS => ?_)
        have hP : va_P D vwCl (wWX12 cB cI cZ a0 r5.2.1 r5.2.2.1 (wb_um M0_8 14 ((r5.2.1 14)).toNatClampNeg v6)) H := hP
        have hD : va_D A (wWX12 cB cI cZ a0 r5.2.1 r5.2.2.1 (wb_um M0_8 14 ((r5.2.1 14)).toNatClampNeg v6)) := hD
        obtain ⟨M0_9, eM0_9, hf⟩ := wb_v hf
        rw [← eM0_9] at hP hD
        refine lv_aload_n hx hb dX12_readsHand_72 rfl (lv_at hl 2 rfl) ?_
        refine lv_dup hx hb dX12_readsHand_73 rfl ?_
        refine va_get (D := D) (ci := 12) (v := .int (r5.2.1 14)) (C := RX12) (T := TX12) (N := 58) hx hb hts hinX12 hown hK hP 0 rfl rfl 24 (by decide) (hts (.fieldLink RX12 222 "WheelBookModel" "newHands" "I") (List.mem_of_getElem? (i := 1) rfl)) (fun _ h9 => h9) rfl dX12_readsHand_74 ?_
        refine lv_iconst (v := (1 : Int32)) hx hb dX12_readsHand_77 (by decide) ?_
        refine lv_iadd hx hb dX12_readsHand_78 ?_
        refine va_put (D := D) (ci := 12) (v := .int ((r5.2.1 14) + (1 : Int32))) (ty := .int) (C := RX12) (T := TX12) (N := 58) hx hb hts hinX12 tyX12 tyX12_ok nmX12 hown hK hP hD hS 0 rfl rfl 24 (by decide) (hts (.fieldLink RX12 222 "WheelBookModel" "newHands" "I") (List.mem_of_getElem? (i := 1) rfl)) (fun _ h9 => h9) rfl (by decide +kernel) rfl rfl (Nat.le_of_ble_eq_true rfl) dX12_readsHand_79 (fun H locs hP hD hS => ?_)
        have hP : va_P D vwCl (wWX12 cB cI cZ a0 (upd r5.2.1 14 ((r5.2.1 14) + (1 : Int32))) r5.2.2.1 M0_9) H := hP
        have hD : va_D A (wWX12 cB cI cZ a0 (upd r5.2.1 14 ((r5.2.1 14) + (1 : Int32))) r5.2.2.1 M0_9) := hD
        obtain ⟨I0_10, eI0_10, hf⟩ := wb_v hf
        rw [← eI0_10] at hP hD
        exact W.vret hx hb hr (fun t ht hW => by rw [← Option.some.inj hf]; exact ⟨⟨(), rfl, trivial, by rw [ht]; exact hP, va_K.moved hW.alike hK, hD⟩, hS.F ht⟩) hS.2.2 dX12_readsHand_82
      · replace hf := wb_t hc hf
        exact W.vret hx hb hr (fun t ht hW => by rw [← Option.some.inj hf]; exact ⟨⟨(), rfl, trivial, by rw [ht]; exact hP, va_K.moved hW.alike hK, hD⟩, hS.F ht⟩) hS.2.2 dX12_readsHand_51
    · replace hf := wb_t hc hf
      exact W.vret hx hb hr (fun t ht hW => by rw [← Option.some.inj hf]; exact ⟨⟨(), rfl, trivial, by rw [ht]; exact hP, va_K.moved hW.alike hK, hD⟩, hS.F ht⟩) hS.2.2 dX12_readsHand_21
  refine lv_aload_n hx hb dX12_readsHand_0 rfl (lv_at hl 0 rfl) ?_
  refine va_get (D := D) (ci := 12) (v := .int (I0 14)) (C := RX12) (T := TX12) (N := 58) hx hb hts hinX12 hown hK hP 0 rfl rfl 24 (by decide) (hts (.fieldLink RX12 222 "WheelBookModel" "newHands" "I") (List.mem_of_getElem? (i := 1) rfl)) (fun _ h9 => h9) rfl dX12_readsHand_1 ?_
  refine lv_bipush (v := (30 : Int32)) hx hb dX12_readsHand_4 (by decide) ?_
  refine lv_icmp_ne (tgt := 14) hx hb dX12_readsHand_6 (by decide) (fun hc => ?_) (fun hc => ?_)
  · replace hf := wb_f hc hf
    exact J14 I0 L0 M0 H locs hP hD hS ls (lv_sub hl [0] rfl) hf
  · replace hf := wb_t hc hf
    refine lv_aload_n hx hb dX12_readsHand_9 rfl (lv_at hl 0 rfl) ?_
    refine lv_iconst (v := (2 : Int32)) hx hb dX12_readsHand_10 (by decide) ?_
    obtain ⟨r11, hr11, hf⟩ := wb_b hf
    have hPc := hP
    have hDc := hD
    have hFc := wj_F hDc hS hA
    refine va_callv (va_runV (As := [.int (2 : Int32)]) (rest := []) ⟨hx, hb, hml, hown, hts⟩ (cn_X12_wrong l D cB cI cZ N a0 I0 L0 M0 (2 : Int32) H.size r11 hr11) (cwV 1 hts gX12_readsHand_X12_wrong rfl rfl rfl cdX12_wrong ⟨Nat.le_of_ble_eq_true rfl, Nat.le_of_ble_eq_true rfl⟩) (wb_preDV hPc hK hDc (wr_12 hK hP (q0 := 0) rfl)) rfl rfl hl.1 rfl (lv_room (Nat.le_of_ble_eq_true rfl)) dX12_readsHand_11 ⟨Nat.le_of_ble_eq_true rfl, Nat.le_of_ble_eq_true rfl⟩) hS (fun q _ h => hFc q h) hFc (fun u t H locs ht hvm hw hB hz1 hk1 hS => ?_)
    obtain ⟨hP, hD⟩ := wj_0 hFc ht hB
    exact J14 r11.1 r11.2.1 r11.2.2 H locs hP hD hS ls (lv_sub hl [0] rfl) hf

set_option maxHeartbeats 4000000 in
set_option maxRecDepth 100000 in
theorem cn_X12_copies (l : Launch) (D : va_G) (cB cI cZ : ClassId) (N : Nat) (b0 : Nat) (b1 : Nat) (n1 : Nat) (f1 : Nat → Int32) (b2 : Nat) (n2 : Nat) (f2 : Nat → Int32) (sz : Nat) (R : (Nat → Int32)) (hf : fX12_copies N n1 f1 n2 f2 = some R) : Met l yX12_copies wsX12_copies ({ frames := 0, cells := 0, slots := 0, locals := 0 }) (va_Pc [.ref b0, .ref b1, .ref b2] (wb_preD D [(cB, .byte), (cI, .int), (cZ, .boolean)] ([((b1, .inl (cI, n1, .inl f1)) : Nat × va_E)] ++ [((b2, .inl (cI, n2, .inl f2)) : Nat × va_E)]) sz)) (va_Qv (fun _ : Unit => True) (fun _ t => wb_post D [(cB, .byte), (cI, .int), (cZ, .boolean)] (va_A ([((b1, .inl (cI, n1, .inl f1)) : Nat × va_E)] ++ [((b2, .inl (cI, n2, .inl f2)) : Nat × va_E)]) sz) ([((b1, .inl (cI, n1, .inl f1)) : Nat × va_E)] ++ [((b2, .inl (cI, n2, .inl R)) : Nat × va_E)]) t) (va_A ([((b1, .inl (cI, n1, .inl f1)) : Nat × va_E)] ++ [((b2, .inl (cI, n2, .inl f2)) : Nat × va_E)]) sz)) 0 0 (va_A ([((b1, .inl (cI, n1, .inl f1)) : Nat × va_E)] ++ [((b2, .inl (cI, n2, .inl f2)) : Nat × va_E)]) sz) := by
  refine Met.ofW (cc := cX12_copies) (maxL := 4) (ret := none) pn_X12 rfl ?_
  intro p e s m args below meth c s₁ B hml hv
  obtain ⟨rfl, hsz, hP, hK, hD0⟩ := hv
  have hx := B.exec
  have hb := B.bytes
  have hr := B.returns
  have hts := atoms_spec (ws := wsX12_copies) B.pre
  have hown : s.vm.findClass RX12 = some m.cls := (findClass_of_methodNamed B.named :)
  have hlocks := B.notSynchronized
  subst hsz
  have hD := hD0.self (sz := s.heap.size)
  generalize hAe : va_A ([((b1, .inl (cI, n1, .inl f1)) : Nat × va_E)] ++ [((b2, .inl (cI, n2, .inl f2)) : Nat × va_E)]) s.heap.size = A at hD ⊢
  have hA : ∀ q : Nat, s.heap.size ≤ q → A q := fun q h => by rw [← hAe]; exact Or.inr h
  have hS : va_S A s.heap s.heap [] := va_S.rf
  have hl := lv_entry ([.ref b0, .ref b1, .ref b2]) (n := 4) (Nat.le_of_ble_eq_true rfl)
  rw [lg_entry_eq]
  generalize (lg_sl ([.ref b0, .ref b1, .ref b2]) ++ List.replicate (4 - (lg_sl ([.ref b0, .ref b1, .ref b2])).length) Slot.unset).toArray = ls at hl ⊢
  have hl : lv_has ls 4 [(0, .ref b0), (1, .ref b1), (2, .ref b2)] := hl
  unfold fX12_copies at hf
  obtain ⟨H, hHe⟩ : ∃ H : Heap, H = s.heap := ⟨_, rfl⟩
  obtain ⟨locs, hle⟩ : ∃ locs : List Loc, locs = [] := ⟨_, rfl⟩
  refine wb_start (H := H) (locs := locs) hHe hle ?_
  rw [← hHe] at hP
  have hS : va_S A s.heap H locs := by rw [hHe, hle]; exact va_S.rf
  refine lv_iconst (v := (0 : Int32)) hx hb dX12_copies_0 (by decide) ?_
  refine lv_istore_n (lv' := [(3, .int (0 : Int32)), (0, .ref b0), (1, .ref b1), (2, .ref b2)]) hx hb dX12_copies_1 rfl hl (by decide) rfl (fun ls hl => ?_)
  have Lh2 : ∀ (fu2 : Nat) (f2_l2 : Nat → Int32) (y2_3 : Int32) (H : Heap) (locs : List Loc), va_P D vwCl ([((b1, .inl (cI, n1, .inl f1)) : Nat × va_E)] ++ [((b2, .inl (cI, n2, .inl f2_l2)) : Nat × va_E)]) H → va_D A ([((b1, .inl (cI, n1, .inl f1)) : Nat × va_E)] ++ [((b2, .inl (cI, n2, .inl f2_l2)) : Nat × va_E)]) → va_S A s.heap H locs → ∀ (ls : Array Slot), lv_has ls 4 [(1, .ref b1), (2, .ref b2), (3, .int y2_3)] → fX12_copies_L2 N n1 f1 n2 fu2 f2_l2 y2_3 = some R → W p l e (headSpec wsX12_copies { frames := 0, cells := 0, slots := 0, locals := 0 }).room s m [.ref b0, .ref b1, .ref b2].toArray below meth c H locs 0 0 (MQ below (va_Qv (fun _ : Unit => True) (fun _ t => wb_post D [(cB, .byte), (cI, .int), (cZ, .boolean)] A ([((b1, .inl (cI, n1, .inl f1)) : Nat × va_E)] ++ [((b2, .inl (cI, n2, .inl R)) : Nat × va_E)]) t) A) [.ref b0, .ref b1, .ref b2].toArray s 0 0 A) (F0 m 2 ls []) := by
    intro fu2
    induction fu2 with
    | zero =>
      intro f2_l2 y2_3 H locs hP hD hS ls hl hf
      exact absurd hf (by rw [fX12_copies_L2.eq_1]; exact fun h => nomatch h)
    | succ fu2 ih2 =>
      intro f2_l2 y2_3 H locs hP hD hS ls hl hf
      rw [fX12_copies_L2.eq_2] at hf
      refine lv_iload_n hx hb dX12_copies_2 rfl (lv_at hl 2 rfl) ?_
      refine lv_aload_n hx hb dX12_copies_3 rfl (lv_at hl 0 rfl) ?_
      refine va_alen (v := (Int32.ofNat n1)) hx hb hK hP 0 1 rfl rfl (by rfl) dX12_copies_4 ?_
      refine lv_icmp_ge (tgt := 20) hx hb dX12_copies_5 (by decide) (fun hc => ?_) (fun hc => ?_)
      · replace hf := wb_t hc hf
        exact W.vret hx hb hr (fun t ht hW => by rw [← Option.some.inj hf]; exact ⟨⟨(), rfl, trivial, by rw [ht]; exact hP, va_K.moved hW.alike hK, hD⟩, hS.F ht⟩) hS.2.2 dX12_copies_20
      · replace hf := wb_f hc hf
        refine lv_aload_n hx hb dX12_copies_8 rfl (lv_at hl 1 rfl) ?_
        refine lv_iload_n hx hb dX12_copies_9 rfl (lv_at hl 2 rfl) ?_
        refine lv_aload_n hx hb dX12_copies_10 rfl (lv_at hl 0 rfl) ?_
        refine lv_iload_n hx hb dX12_copies_11 rfl (lv_at hl 2 rfl) ?_
        obtain ⟨hin, hf⟩ := wb_n hf
        refine va_iald hx hb hK hP 0 1 rfl rfl hin dX12_copies_12 ?_
        obtain ⟨hin, hf⟩ := wb_n hf
        refine va_iast hx hb hK hP hD hS 1 1 rfl rfl hin dX12_copies_13 (fun H locs hP hD hS => ?_)
        have hP : va_P D vwCl ([((b1, .inl (cI, n1, .inl f1)) : Nat × va_E)] ++ [((b2, .inl (cI, n2, .inl (upd f2_l2 (y2_3).toNatClampNeg (f1 (y2_3).toNatClampNeg)))) : Nat × va_E)]) H := hP
        have hD : va_D A ([((b1, .inl (cI, n1, .inl f1)) : Nat × va_E)] ++ [((b2, .inl (cI, n2, .inl (upd f2_l2 (y2_3).toNatClampNeg (f1 (y2_3).toNatClampNeg)))) : Nat × va_E)]) := hD
        obtain ⟨f2_1, ef2_1, hf⟩ := wb_v hf
        rw [← ef2_1] at hP hD
        obtain ⟨v2, ev2, hf⟩ := wb_v hf
        refine lv_iinc (v := v2) (lv' := [(3, .int v2), (1, .ref b1), (2, .ref b2)]) hx hb dX12_copies_14 hl (k := 2) rfl (by rw [ev2]; rfl) (by decide) rfl (fun ls hl => ?_)
        refine lv_goto (tgt := 2) hx hb dX12_copies_17 (by decide) ?_
        exact ih2 f2_1 v2 H locs hP hD hS ls (lv_sub hl [1, 2, 0] rfl) hf
  exact Lh2 N f2 (0 : Int32) H locs hP hD hS ls (lv_sub hl [2, 3, 0] rfl) hf

set_option maxHeartbeats 4000000 in
set_option maxRecDepth 100000 in
theorem cn_X12_house (l : Launch) (D : va_G) (cB cI cZ : ClassId) (N : Nat) (a0 : Nat → Nat) (I0 : Nat → Int32) (L0 : Int64) (M0 : Nat → Nat → Int32) (x1 : Int32) (sz : Nat) (R : Int32 × (Nat → Int32) × Int64 × (Nat → Nat → Int32)) (hf : fX12_house N I0 L0 M0 x1 = some R) : Met l yX12_house wsX12_house ({ frames := 5, cells := 0, slots := 0, locals := 118 }) (va_Pc [.ref (a0 0), .int x1] (wb_preD D [(cB, .byte), (cI, .int), (cZ, .boolean)] (wWX12 cB cI cZ a0 I0 L0 M0) sz)) (va_Qi (fun r (_ : Unit) => r = R.1) (fun _ t => wb_post D [(cB, .byte), (cI, .int), (cZ, .boolean)] (va_A (wWX12 cB cI cZ a0 I0 L0 M0) sz) (wWX12 cB cI cZ a0 R.2.1 R.2.2.1 R.2.2.2) t) (va_A (wWX12 cB cI cZ a0 I0 L0 M0) sz)) 0 0 (va_A (wWX12 cB cI cZ a0 I0 L0 M0) sz) := by
  refine Met.ofW (cc := cX12_house) (maxL := 3) (ret := (some .int)) pn_X12 rfl ?_
  intro p e s m args below meth c s₁ B hml hv
  obtain ⟨rfl, hsz, hP, hK, hD0⟩ := hv
  have hx := B.exec
  have hb := B.bytes
  have hr := B.returns
  have hts := atoms_spec (ws := wsX12_house) B.pre
  have hown : s.vm.findClass RX12 = some m.cls := (findClass_of_methodNamed B.named :)
  have hlocks := B.notSynchronized
  have hinX12 : ∀ w ∈ u_ws RX12 TX12 58, w ∈ wsX12_house := fun w h => List.mem_cons_of_mem _ (List.mem_append_right _ h)
  subst hsz
  have hD := hD0.self (sz := s.heap.size)
  generalize hAe : va_A (wWX12 cB cI cZ a0 I0 L0 M0) s.heap.size = A at hD ⊢
  have hA : ∀ q : Nat, s.heap.size ≤ q → A q := fun q h => by rw [← hAe]; exact Or.inr h
  have hS : va_S A s.heap s.heap [] := va_S.rf
  have hl := lv_entry ([.ref (a0 0), .int x1]) (n := 3) (Nat.le_of_ble_eq_true rfl)
  rw [lg_entry_eq]
  generalize (lg_sl ([.ref (a0 0), .int x1]) ++ List.replicate (3 - (lg_sl ([.ref (a0 0), .int x1])).length) Slot.unset).toArray = ls at hl ⊢
  have hl : lv_has ls 3 [(0, .ref (a0 0)), (1, .int x1)] := hl
  unfold fX12_house at hf
  obtain ⟨H, hHe⟩ : ∃ H : Heap, H = s.heap := ⟨_, rfl⟩
  obtain ⟨locs, hle⟩ : ∃ locs : List Loc, locs = [] := ⟨_, rfl⟩
  refine wb_start (H := H) (locs := locs) hHe hle ?_
  rw [← hHe] at hP
  have hS : va_S A s.heap H locs := by rw [hHe, hle]; exact va_S.rf
  have J203 : ∀ (I0_j203 : Nat → Int32) (L0_j203 : Int64) (M0_j203 : Nat → Nat → Int32) (H : Heap) (locs : List Loc), va_P D vwCl (wWX12 cB cI cZ a0 I0_j203 L0_j203 M0_j203) H → va_D A (wWX12 cB cI cZ a0 I0_j203 L0_j203 M0_j203) → va_S A s.heap H locs → ∀ (ls : Array Slot), lv_has ls 3 [(0, .ref (a0 0))] → fX12_house_J203 N x1 I0_j203 L0_j203 M0_j203 = some R → W p l e (headSpec wsX12_house { frames := 5, cells := 0, slots := 0, locals := 118 }).room s m [.ref (a0 0), .int x1].toArray below meth c H locs 0 0 (MQ below (va_Qi (fun r (_ : Unit) => r = R.1) (fun _ t => wb_post D [(cB, .byte), (cI, .int), (cZ, .boolean)] A (wWX12 cB cI cZ a0 R.2.1 R.2.2.1 R.2.2.2) t) A) [.ref (a0 0), .int x1].toArray s 0 0 A) (F0 m 203 ls []) := by
    intro I0_j203 L0_j203 M0_j203 H locs hP hD hS ls hl hf
    unfold fX12_house_J203 at hf
    refine lv_aload_n hx hb dX12_house_203 rfl (lv_at hl 0 rfl) ?_
    obtain ⟨r1, hr1, hf⟩ := wb_b hf
    refine vp_callSi (W.runV (As := []) (rest := []) ⟨hx, hb, hml, hown, hts⟩ (cn_X12_isGood l D cB cI cZ N a0 I0_j203 L0_j203 M0_j203 r1 hr1) (cwV 0 hts gX12_house_X12_isGood rfl rfl rfl cdX12_isGood ⟨Nat.le_of_ble_eq_true rfl, Nat.le_of_ble_eq_true rfl⟩) (wb_preV hP hK (wr_12 hK hP (q0 := 0) rfl)) rfl rfl hl.1 rfl (lv_room (Nat.le_of_ble_eq_true rfl)) dX12_house_204 ⟨Nat.le_of_ble_eq_true rfl, Nat.le_of_ble_eq_true rfl⟩) (fun r9 e9 => ?_)
    rw [e9]
    refine lv_if_ne (tgt := 215) hx hb dX12_house_207 (by decide) (fun hc => ?_) (fun hc => ?_)
    · replace hf := wb_f hc hf
      refine lv_aload_n hx hb dX12_house_215 rfl (lv_at hl 0 rfl) ?_
      refine lv_aload_n hx hb dX12_house_216 rfl (lv_at hl 0 rfl) ?_
      refine va_get (D := D) (ci := 12) (v := .int (I0_j203 13)) (C := RX12) (T := TX12) (N := 58) hx hb hts hinX12 hown hK hP 0 rfl rfl 23 (by decide) (hts (.fieldLink RX12 219 "WheelBookModel" "newClimates" "I") (List.mem_of_getElem? (i := 4) rfl)) (fun _ h9 => h9) rfl dX12_house_217 ?_
      refine va_put (D := D) (ci := 12) (v := .int (I0_j203 13)) (ty := .int) (C := RX12) (T := TX12) (N := 58) hx hb hts hinX12 tyX12 tyX12_ok nmX12 hown hK hP hD hS 0 rfl rfl 5 (by decide) (hts (.fieldLink RX12 228 "WheelBookModel" "climates" "I") (List.mem_of_getElem? (i := 3) rfl)) (fun _ h9 => h9) rfl (by decide +kernel) rfl rfl (Nat.le_of_ble_eq_true rfl) dX12_house_220 (fun H locs hP hD hS => ?_)
      have hP : va_P D vwCl (wWX12 cB cI cZ a0 (upd I0_j203 1 (I0_j203 13)) L0_j203 M0_j203) H := hP
      have hD : va_D A (wWX12 cB cI cZ a0 (upd I0_j203 1 (I0_j203 13)) L0_j203 M0_j203) := hD
      obtain ⟨I0_2, eI0_2, hf⟩ := wb_v hf
      rw [← eI0_2] at hP hD
      refine lv_aload_n hx hb dX12_house_223 rfl (lv_at hl 0 rfl) ?_
      refine lv_aload_n hx hb dX12_house_224 rfl (lv_at hl 0 rfl) ?_
      refine va_get (D := D) (ci := 12) (v := .int (I0_2 14)) (C := RX12) (T := TX12) (N := 58) hx hb hts hinX12 hown hK hP 0 rfl rfl 24 (by decide) (hts (.fieldLink RX12 222 "WheelBookModel" "newHands" "I") (List.mem_of_getElem? (i := 6) rfl)) (fun _ h9 => h9) rfl dX12_house_225 ?_
      refine va_put (D := D) (ci := 12) (v := .int (I0_2 14)) (ty := .int) (C := RX12) (T := TX12) (N := 58) hx hb hts hinX12 tyX12 tyX12_ok nmX12 hown hK hP hD hS 0 rfl rfl 6 (by decide) (hts (.fieldLink RX12 231 "WheelBookModel" "hands" "I") (List.mem_of_getElem? (i := 5) rfl)) (fun _ h9 => h9) rfl (by decide +kernel) rfl rfl (Nat.le_of_ble_eq_true rfl) dX12_house_228 (fun H locs hP hD hS => ?_)
      have hP : va_P D vwCl (wWX12 cB cI cZ a0 (upd I0_2 2 (I0_2 14)) L0_j203 M0_j203) H := hP
      have hD : va_D A (wWX12 cB cI cZ a0 (upd I0_2 2 (I0_2 14)) L0_j203 M0_j203) := hD
      obtain ⟨I0_3, eI0_3, hf⟩ := wb_v hf
      rw [← eI0_3] at hP hD
      refine lv_aload_n hx hb dX12_house_231 rfl (lv_at hl 0 rfl) ?_
      refine lv_aload_n hx hb dX12_house_232 rfl (lv_at hl 0 rfl) ?_
      refine va_get (D := D) (ci := 12) (v := .ref (a0 10)) (C := RX12) (T := TX12) (N := 58) hx hb hts hinX12 hown hK hP 0 rfl rfl 25 (by decide) (hts (.fieldLink RX12 41 "WheelBookModel" "newStarts" "[I") (List.mem_of_getElem? (i := 8) rfl)) (fun _ h9 => h9) rfl dX12_house_233 ?_
      refine lv_aload_n hx hb dX12_house_236 rfl (lv_at hl 0 rfl) ?_
      refine va_get (D := D) (ci := 12) (v := .ref (a0 1)) (C := RX12) (T := TX12) (N := 58) hx hb hts hinX12 hown hK hP 0 rfl rfl 1 (by decide) (hts (.fieldLink RX12 7 "WheelBookModel" "starts" "[I") (List.mem_of_getElem? (i := 7) rfl)) (fun _ h9 => h9) rfl dX12_house_237 ?_
      obtain ⟨r4, hr4, hf⟩ := wb_b hf
      have hPc := hP.sub (ws' := ([(((a0 10), .inl (cI, 28, .inl (M0_j203 9))) : Nat × va_E)] ++ [(((a0 1), .inl (cI, 28, .inl (M0_j203 0))) : Nat × va_E)])) [10, 1] rfl
      have hDc := hD.sub (ws' := ([(((a0 10), .inl (cI, 28, .inl (M0_j203 9))) : Nat × va_E)] ++ [(((a0 1), .inl (cI, 28, .inl (M0_j203 0))) : Nat × va_E)])) [10, 1] (by decide) rfl
      have hFc := va_free (wc := ([(((a0 10), .inl (cI, 28, .inl (M0_j203 9))) : Nat × va_E)] ++ [(((a0 1), .inl (cI, 28, .inl (M0_j203 0))) : Nat × va_E)])) hD hS hA [10, 1] rfl
      refine va_callv (va_runV (As := [.ref (a0 10), .ref (a0 1)]) (rest := []) ⟨hx, hb, hml, hown, hts⟩ (cn_X12_copies l D cB cI cZ N (a0 0) (a0 10) 28 (M0_j203 9) (a0 1) 28 (M0_j203 0) H.size r4 hr4) (cwV 2 hts gX12_house_X12_copies rfl rfl rfl cdX12_copies ⟨Nat.le_of_ble_eq_true rfl, Nat.le_of_ble_eq_true rfl⟩) (wb_preDV hPc hK hDc (wr_12 hK hP (q0 := 0) rfl)) rfl rfl hl.1 rfl (lv_room (Nat.le_of_ble_eq_true rfl)) dX12_house_240 ⟨Nat.le_of_ble_eq_true rfl, Nat.le_of_ble_eq_true rfl⟩) hS (fun q _ h => hFc q h) hFc (fun u t H locs ht hvm hw hB hz1 hk1 hS => ?_)
      obtain ⟨hP, hD⟩ := wj_ba (a := [(((a0 1), .inl (cI, 28, .inl (M0_j203 0))) : Nat × va_E)]) (b := [(((a0 10), .inl (cI, 28, .inl (M0_j203 9))) : Nat × va_E)]) (a' := [(((a0 1), .inl (cI, 28, .inl r4)) : Nat × va_E)]) (b' := [(((a0 10), .inl (cI, 28, .inl (M0_j203 9))) : Nat × va_E)]) (wf := (wWX12 cB cI cZ a0 I0_3 L0_j203 (wb_mm M0_j203 0 r4))) 1 2 8 11 hP hD rfl rfl hk1 hFc ht hB
      obtain ⟨M0_5, eM0_5, hf⟩ := wb_v hf
      rw [← eM0_5] at hP hD
      refine lv_aload_n hx hb dX12_house_243 rfl (lv_at hl 0 rfl) ?_
      refine lv_aload_n hx hb dX12_house_244 rfl (lv_at hl 0 rfl) ?_
      refine va_get (D := D) (ci := 12) (v := .ref (a0 11)) (C := RX12) (T := TX12) (N := 58) hx hb hts hinX12 hown hK hP 0 rfl rfl 26 (by decide) (hts (.fieldLink RX12 44 "WheelBookModel" "newGoes" "[I") (List.mem_of_getElem? (i := 10) rfl)) (fun _ h9 => h9) rfl dX12_house_245 ?_
      refine lv_aload_n hx hb dX12_house_248 rfl (lv_at hl 0 rfl) ?_
      refine va_get (D := D) (ci := 12) (v := .ref (a0 2)) (C := RX12) (T := TX12) (N := 58) hx hb hts hinX12 hown hK hP 0 rfl rfl 2 (by decide) (hts (.fieldLink RX12 13 "WheelBookModel" "goes" "[I") (List.mem_of_getElem? (i := 9) rfl)) (fun _ h9 => h9) rfl dX12_house_249 ?_
      obtain ⟨r6, hr6, hf⟩ := wb_b hf
      have hPc := hP.sub (ws' := ([(((a0 11), .inl (cI, 28, .inl (M0_5 10))) : Nat × va_E)] ++ [(((a0 2), .inl (cI, 28, .inl (M0_5 1))) : Nat × va_E)])) [11, 2] rfl
      have hDc := hD.sub (ws' := ([(((a0 11), .inl (cI, 28, .inl (M0_5 10))) : Nat × va_E)] ++ [(((a0 2), .inl (cI, 28, .inl (M0_5 1))) : Nat × va_E)])) [11, 2] (by decide) rfl
      have hFc := va_free (wc := ([(((a0 11), .inl (cI, 28, .inl (M0_5 10))) : Nat × va_E)] ++ [(((a0 2), .inl (cI, 28, .inl (M0_5 1))) : Nat × va_E)])) hD hS hA [11, 2] rfl
      refine va_callv (va_runV (As := [.ref (a0 11), .ref (a0 2)]) (rest := []) ⟨hx, hb, hml, hown, hts⟩ (cn_X12_copies l D cB cI cZ N (a0 0) (a0 11) 28 (M0_5 10) (a0 2) 28 (M0_5 1) H.size r6 hr6) (cwV 2 hts gX12_house_X12_copies rfl rfl rfl cdX12_copies ⟨Nat.le_of_ble_eq_true rfl, Nat.le_of_ble_eq_true rfl⟩) (wb_preDV hPc hK hDc (wr_12 hK hP (q0 := 0) rfl)) rfl rfl hl.1 rfl (lv_room (Nat.le_of_ble_eq_true rfl)) dX12_house_252 ⟨Nat.le_of_ble_eq_true rfl, Nat.le_of_ble_eq_true rfl⟩) hS (fun q _ h => hFc q h) hFc (fun u t H locs ht hvm hw hB hz1 hk1 hS => ?_)
      obtain ⟨hP, hD⟩ := wj_ba (a := [(((a0 2), .inl (cI, 28, .inl (M0_5 1))) : Nat × va_E)]) (b := [(((a0 11), .inl (cI, 28, .inl (M0_5 10))) : Nat × va_E)]) (a' := [(((a0 2), .inl (cI, 28, .inl r6)) : Nat × va_E)]) (b' := [(((a0 11), .inl (cI, 28, .inl (M0_5 10))) : Nat × va_E)]) (wf := (wWX12 cB cI cZ a0 I0_3 L0_j203 (wb_mm M0_5 1 r6))) 2 3 8 12 hP hD rfl rfl hk1 hFc ht hB
      obtain ⟨M0_7, eM0_7, hf⟩ := wb_v hf
      rw [← eM0_7] at hP hD
      refine lv_aload_n hx hb dX12_house_255 rfl (lv_at hl 0 rfl) ?_
      refine lv_aload_n hx hb dX12_house_256 rfl (lv_at hl 0 rfl) ?_
      refine va_get (D := D) (ci := 12) (v := .ref (a0 12)) (C := RX12) (T := TX12) (N := 58) hx hb hts hinX12 hown hK hP 0 rfl rfl 27 (by decide) (hts (.fieldLink RX12 47 "WheelBookModel" "newSwing" "[I") (List.mem_of_getElem? (i := 12) rfl)) (fun _ h9 => h9) rfl dX12_house_257 ?_
      refine lv_aload_n hx hb dX12_house_260 rfl (lv_at hl 0 rfl) ?_
      refine va_get (D := D) (ci := 12) (v := .ref (a0 3)) (C := RX12) (T := TX12) (N := 58) hx hb hts hinX12 hown hK hP 0 rfl rfl 3 (by decide) (hts (.fieldLink RX12 16 "WheelBookModel" "swing" "[I") (List.mem_of_getElem? (i := 11) rfl)) (fun _ h9 => h9) rfl dX12_house_261 ?_
      obtain ⟨r8, hr8, hf⟩ := wb_b hf
      have hPc := hP.sub (ws' := ([(((a0 12), .inl (cI, 28, .inl (M0_7 11))) : Nat × va_E)] ++ [(((a0 3), .inl (cI, 28, .inl (M0_7 2))) : Nat × va_E)])) [12, 3] rfl
      have hDc := hD.sub (ws' := ([(((a0 12), .inl (cI, 28, .inl (M0_7 11))) : Nat × va_E)] ++ [(((a0 3), .inl (cI, 28, .inl (M0_7 2))) : Nat × va_E)])) [12, 3] (by decide) rfl
      have hFc := va_free (wc := ([(((a0 12), .inl (cI, 28, .inl (M0_7 11))) : Nat × va_E)] ++ [(((a0 3), .inl (cI, 28, .inl (M0_7 2))) : Nat × va_E)])) hD hS hA [12, 3] rfl
      refine va_callv (va_runV (As := [.ref (a0 12), .ref (a0 3)]) (rest := []) ⟨hx, hb, hml, hown, hts⟩ (cn_X12_copies l D cB cI cZ N (a0 0) (a0 12) 28 (M0_7 11) (a0 3) 28 (M0_7 2) H.size r8 hr8) (cwV 2 hts gX12_house_X12_copies rfl rfl rfl cdX12_copies ⟨Nat.le_of_ble_eq_true rfl, Nat.le_of_ble_eq_true rfl⟩) (wb_preDV hPc hK hDc (wr_12 hK hP (q0 := 0) rfl)) rfl rfl hl.1 rfl (lv_room (Nat.le_of_ble_eq_true rfl)) dX12_house_264 ⟨Nat.le_of_ble_eq_true rfl, Nat.le_of_ble_eq_true rfl⟩) hS (fun q _ h => hFc q h) hFc (fun u t H locs ht hvm hw hB hz1 hk1 hS => ?_)
      obtain ⟨hP, hD⟩ := wj_ba (a := [(((a0 3), .inl (cI, 28, .inl (M0_7 2))) : Nat × va_E)]) (b := [(((a0 12), .inl (cI, 28, .inl (M0_7 11))) : Nat × va_E)]) (a' := [(((a0 3), .inl (cI, 28, .inl r8)) : Nat × va_E)]) (b' := [(((a0 12), .inl (cI, 28, .inl (M0_7 11))) : Nat × va_E)]) (wf := (wWX12 cB cI cZ a0 I0_3 L0_j203 (wb_mm M0_7 2 r8))) 3 4 8 13 hP hD rfl rfl hk1 hFc ht hB
      obtain ⟨M0_9, eM0_9, hf⟩ := wb_v hf
      rw [← eM0_9] at hP hD
      refine lv_aload_n hx hb dX12_house_267 rfl (lv_at hl 0 rfl) ?_
      refine lv_aload_n hx hb dX12_house_268 rfl (lv_at hl 0 rfl) ?_
      refine va_get (D := D) (ci := 12) (v := .ref (a0 13)) (C := RX12) (T := TX12) (N := 58) hx hb hts hinX12 hown hK hP 0 rfl rfl 28 (by decide) (hts (.fieldLink RX12 50 "WheelBookModel" "newPeriod" "[I") (List.mem_of_getElem? (i := 14) rfl)) (fun _ h9 => h9) rfl dX12_house_269 ?_
      refine lv_aload_n hx hb dX12_house_272 rfl (lv_at hl 0 rfl) ?_
      refine va_get (D := D) (ci := 12) (v := .ref (a0 4)) (C := RX12) (T := TX12) (N := 58) hx hb hts hinX12 hown hK hP 0 rfl rfl 4 (by decide) (hts (.fieldLink RX12 19 "WheelBookModel" "period" "[I") (List.mem_of_getElem? (i := 13) rfl)) (fun _ h9 => h9) rfl dX12_house_273 ?_
      obtain ⟨r10, hr10, hf⟩ := wb_b hf
      have hPc := hP.sub (ws' := ([(((a0 13), .inl (cI, 28, .inl (M0_9 12))) : Nat × va_E)] ++ [(((a0 4), .inl (cI, 28, .inl (M0_9 3))) : Nat × va_E)])) [13, 4] rfl
      have hDc := hD.sub (ws' := ([(((a0 13), .inl (cI, 28, .inl (M0_9 12))) : Nat × va_E)] ++ [(((a0 4), .inl (cI, 28, .inl (M0_9 3))) : Nat × va_E)])) [13, 4] (by decide) rfl
      have hFc := va_free (wc := ([(((a0 13), .inl (cI, 28, .inl (M0_9 12))) : Nat × va_E)] ++ [(((a0 4), .inl (cI, 28, .inl (M0_9 3))) : Nat × va_E)])) hD hS hA [13, 4] rfl
      refine va_callv (va_runV (As := [.ref (a0 13), .ref (a0 4)]) (rest := []) ⟨hx, hb, hml, hown, hts⟩ (cn_X12_copies l D cB cI cZ N (a0 0) (a0 13) 28 (M0_9 12) (a0 4) 28 (M0_9 3) H.size r10 hr10) (cwV 2 hts gX12_house_X12_copies rfl rfl rfl cdX12_copies ⟨Nat.le_of_ble_eq_true rfl, Nat.le_of_ble_eq_true rfl⟩) (wb_preDV hPc hK hDc (wr_12 hK hP (q0 := 0) rfl)) rfl rfl hl.1 rfl (lv_room (Nat.le_of_ble_eq_true rfl)) dX12_house_276 ⟨Nat.le_of_ble_eq_true rfl, Nat.le_of_ble_eq_true rfl⟩) hS (fun q _ h => hFc q h) hFc (fun u t H locs ht hvm hw hB hz1 hk1 hS => ?_)
      obtain ⟨hP, hD⟩ := wj_ba (a := [(((a0 4), .inl (cI, 28, .inl (M0_9 3))) : Nat × va_E)]) (b := [(((a0 13), .inl (cI, 28, .inl (M0_9 12))) : Nat × va_E)]) (a' := [(((a0 4), .inl (cI, 28, .inl r10)) : Nat × va_E)]) (b' := [(((a0 13), .inl (cI, 28, .inl (M0_9 12))) : Nat × va_E)]) (wf := (wWX12 cB cI cZ a0 I0_3 L0_j203 (wb_mm M0_9 3 r10))) 4 5 8 14 hP hD rfl rfl hk1 hFc ht hB
      obtain ⟨M0_11, eM0_11, hf⟩ := wb_v hf
      rw [← eM0_11] at hP hD
      refine lv_aload_n hx hb dX12_house_279 rfl (lv_at hl 0 rfl) ?_
      refine lv_aload_n hx hb dX12_house_280 rfl (lv_at hl 0 rfl) ?_
      refine va_get (D := D) (ci := 12) (v := .ref (a0 14)) (C := RX12) (T := TX12) (N := 58) hx hb hts hinX12 hown hK hP 0 rfl rfl 29 (by decide) (hts (.fieldLink RX12 53 "WheelBookModel" "newRising" "[I") (List.mem_of_getElem? (i := 16) rfl)) (fun _ h9 => h9) rfl dX12_house_281 ?_
      refine lv_aload_n hx hb dX12_house_284 rfl (lv_at hl 0 rfl) ?_
      refine va_get (D := D) (ci := 12) (v := .ref (a0 5)) (C := RX12) (T := TX12) (N := 58) hx hb hts hinX12 hown hK hP 0 rfl rfl 7 (by decide) (hts (.fieldLink RX12 22 "WheelBookModel" "rising" "[I") (List.mem_of_getElem? (i := 15) rfl)) (fun _ h9 => h9) rfl dX12_house_285 ?_
      obtain ⟨r12, hr12, hf⟩ := wb_b hf
      have hPc := hP.sub (ws' := ([(((a0 14), .inl (cI, 84, .inl (M0_11 13))) : Nat × va_E)] ++ [(((a0 5), .inl (cI, 84, .inl (M0_11 4))) : Nat × va_E)])) [14, 5] rfl
      have hDc := hD.sub (ws' := ([(((a0 14), .inl (cI, 84, .inl (M0_11 13))) : Nat × va_E)] ++ [(((a0 5), .inl (cI, 84, .inl (M0_11 4))) : Nat × va_E)])) [14, 5] (by decide) rfl
      have hFc := va_free (wc := ([(((a0 14), .inl (cI, 84, .inl (M0_11 13))) : Nat × va_E)] ++ [(((a0 5), .inl (cI, 84, .inl (M0_11 4))) : Nat × va_E)])) hD hS hA [14, 5] rfl
      refine va_callv (va_runV (As := [.ref (a0 14), .ref (a0 5)]) (rest := []) ⟨hx, hb, hml, hown, hts⟩ (cn_X12_copies l D cB cI cZ N (a0 0) (a0 14) 84 (M0_11 13) (a0 5) 84 (M0_11 4) H.size r12 hr12) (cwV 2 hts gX12_house_X12_copies rfl rfl rfl cdX12_copies ⟨Nat.le_of_ble_eq_true rfl, Nat.le_of_ble_eq_true rfl⟩) (wb_preDV hPc hK hDc (wr_12 hK hP (q0 := 0) rfl)) rfl rfl hl.1 rfl (lv_room (Nat.le_of_ble_eq_true rfl)) dX12_house_288 ⟨Nat.le_of_ble_eq_true rfl, Nat.le_of_ble_eq_true rfl⟩) hS (fun q _ h => hFc q h) hFc (fun u t H locs ht hvm hw hB hz1 hk1 hS => ?_)
      obtain ⟨hP, hD⟩ := wj_ba (a := [(((a0 5), .inl (cI, 84, .inl (M0_11 4))) : Nat × va_E)]) (b := [(((a0 14), .inl (cI, 84, .inl (M0_11 13))) : Nat × va_E)]) (a' := [(((a0 5), .inl (cI, 84, .inl r12)) : Nat × va_E)]) (b' := [(((a0 14), .inl (cI, 84, .inl (M0_11 13))) : Nat × va_E)]) (wf := (wWX12 cB cI cZ a0 I0_3 L0_j203 (wb_mm M0_11 4 r12))) 5 6 8 15 hP hD rfl rfl hk1 hFc ht hB
      obtain ⟨M0_13, eM0_13, hf⟩ := wb_v hf
      rw [← eM0_13] at hP hD
      refine lv_aload_n hx hb dX12_house_291 rfl (lv_at hl 0 rfl) ?_
      refine lv_aload_n hx hb dX12_house_292 rfl (lv_at hl 0 rfl) ?_
      refine va_get (D := D) (ci := 12) (v := .ref (a0 15)) (C := RX12) (T := TX12) (N := 58) hx hb hts hinX12 hown hK hP 0 rfl rfl 30 (by decide) (hts (.fieldLink RX12 56 "WheelBookModel" "newStood" "[I") (List.mem_of_getElem? (i := 18) rfl)) (fun _ h9 => h9) rfl dX12_house_293 ?_
      refine lv_aload_n hx hb dX12_house_296 rfl (lv_at hl 0 rfl) ?_
      refine va_get (D := D) (ci := 12) (v := .ref (a0 6)) (C := RX12) (T := TX12) (N := 58) hx hb hts hinX12 hown hK hP 0 rfl rfl 8 (by decide) (hts (.fieldLink RX12 25 "WheelBookModel" "stood" "[I") (List.mem_of_getElem? (i := 17) rfl)) (fun _ h9 => h9) rfl dX12_house_297 ?_
      obtain ⟨r14, hr14, hf⟩ := wb_b hf
      have hPc := hP.sub (ws' := ([(((a0 15), .inl (cI, 30, .inl (M0_13 14))) : Nat × va_E)] ++ [(((a0 6), .inl (cI, 30, .inl (M0_13 5))) : Nat × va_E)])) [15, 6] rfl
      have hDc := hD.sub (ws' := ([(((a0 15), .inl (cI, 30, .inl (M0_13 14))) : Nat × va_E)] ++ [(((a0 6), .inl (cI, 30, .inl (M0_13 5))) : Nat × va_E)])) [15, 6] (by decide) rfl
      have hFc := va_free (wc := ([(((a0 15), .inl (cI, 30, .inl (M0_13 14))) : Nat × va_E)] ++ [(((a0 6), .inl (cI, 30, .inl (M0_13 5))) : Nat × va_E)])) hD hS hA [15, 6] rfl
      refine va_callv (va_runV (As := [.ref (a0 15), .ref (a0 6)]) (rest := []) ⟨hx, hb, hml, hown, hts⟩ (cn_X12_copies l D cB cI cZ N (a0 0) (a0 15) 30 (M0_13 14) (a0 6) 30 (M0_13 5) H.size r14 hr14) (cwV 2 hts gX12_house_X12_copies rfl rfl rfl cdX12_copies ⟨Nat.le_of_ble_eq_true rfl, Nat.le_of_ble_eq_true rfl⟩) (wb_preDV hPc hK hDc (wr_12 hK hP (q0 := 0) rfl)) rfl rfl hl.1 rfl (lv_room (Nat.le_of_ble_eq_true rfl)) dX12_house_300 ⟨Nat.le_of_ble_eq_true rfl, Nat.le_of_ble_eq_true rfl⟩) hS (fun q _ h => hFc q h) hFc (fun u t H locs ht hvm hw hB hz1 hk1 hS => ?_)
      obtain ⟨hP, hD⟩ := wj_ba (a := [(((a0 6), .inl (cI, 30, .inl (M0_13 5))) : Nat × va_E)]) (b := [(((a0 15), .inl (cI, 30, .inl (M0_13 14))) : Nat × va_E)]) (a' := [(((a0 6), .inl (cI, 30, .inl r14)) : Nat × va_E)]) (b' := [(((a0 15), .inl (cI, 30, .inl (M0_13 14))) : Nat × va_E)]) (wf := (wWX12 cB cI cZ a0 I0_3 L0_j203 (wb_mm M0_13 5 r14))) 6 7 8 16 hP hD rfl rfl hk1 hFc ht hB
      obtain ⟨M0_15, eM0_15, hf⟩ := wb_v hf
      rw [← eM0_15] at hP hD
      refine lv_aload_n hx hb dX12_house_303 rfl (lv_at hl 0 rfl) ?_
      refine lv_aload_n hx hb dX12_house_304 rfl (lv_at hl 0 rfl) ?_
      refine va_get (D := D) (ci := 12) (v := .ref (a0 16)) (C := RX12) (T := TX12) (N := 58) hx hb hts hinX12 hown hK hP 0 rfl rfl 31 (by decide) (hts (.fieldLink RX12 59 "WheelBookModel" "newRead" "[I") (List.mem_of_getElem? (i := 20) rfl)) (fun _ h9 => h9) rfl dX12_house_305 ?_
      refine lv_aload_n hx hb dX12_house_308 rfl (lv_at hl 0 rfl) ?_
      refine va_get (D := D) (ci := 12) (v := .ref (a0 7)) (C := RX12) (T := TX12) (N := 58) hx hb hts hinX12 hown hK hP 0 rfl rfl 9 (by decide) (hts (.fieldLink RX12 28 "WheelBookModel" "read" "[I") (List.mem_of_getElem? (i := 19) rfl)) (fun _ h9 => h9) rfl dX12_house_309 ?_
      obtain ⟨r16, hr16, hf⟩ := wb_b hf
      have hPc := hP.sub (ws' := ([(((a0 16), .inl (cI, 30, .inl (M0_15 15))) : Nat × va_E)] ++ [(((a0 7), .inl (cI, 30, .inl (M0_15 6))) : Nat × va_E)])) [16, 7] rfl
      have hDc := hD.sub (ws' := ([(((a0 16), .inl (cI, 30, .inl (M0_15 15))) : Nat × va_E)] ++ [(((a0 7), .inl (cI, 30, .inl (M0_15 6))) : Nat × va_E)])) [16, 7] (by decide) rfl
      have hFc := va_free (wc := ([(((a0 16), .inl (cI, 30, .inl (M0_15 15))) : Nat × va_E)] ++ [(((a0 7), .inl (cI, 30, .inl (M0_15 6))) : Nat × va_E)])) hD hS hA [16, 7] rfl
      refine va_callv (va_runV (As := [.ref (a0 16), .ref (a0 7)]) (rest := []) ⟨hx, hb, hml, hown, hts⟩ (cn_X12_copies l D cB cI cZ N (a0 0) (a0 16) 30 (M0_15 15) (a0 7) 30 (M0_15 6) H.size r16 hr16) (cwV 2 hts gX12_house_X12_copies rfl rfl rfl cdX12_copies ⟨Nat.le_of_ble_eq_true rfl, Nat.le_of_ble_eq_true rfl⟩) (wb_preDV hPc hK hDc (wr_12 hK hP (q0 := 0) rfl)) rfl rfl hl.1 rfl (lv_room (Nat.le_of_ble_eq_true rfl)) dX12_house_312 ⟨Nat.le_of_ble_eq_true rfl, Nat.le_of_ble_eq_true rfl⟩) hS (fun q _ h => hFc q h) hFc (fun u t H locs ht hvm hw hB hz1 hk1 hS => ?_)
      obtain ⟨hP, hD⟩ := wj_ba (a := [(((a0 7), .inl (cI, 30, .inl (M0_15 6))) : Nat × va_E)]) (b := [(((a0 16), .inl (cI, 30, .inl (M0_15 15))) : Nat × va_E)]) (a' := [(((a0 7), .inl (cI, 30, .inl r16)) : Nat × va_E)]) (b' := [(((a0 16), .inl (cI, 30, .inl (M0_15 15))) : Nat × va_E)]) (wf := (wWX12 cB cI cZ a0 I0_3 L0_j203 (wb_mm M0_15 6 r16))) 7 8 8 17 hP hD rfl rfl hk1 hFc ht hB
      obtain ⟨M0_17, eM0_17, hf⟩ := wb_v hf
      rw [← eM0_17] at hP hD
      refine lv_iconst (v := (0 : Int32)) hx hb dX12_house_315 (by decide) ?_
      exact W.iret (v := (0 : Int32)) hx hb hr (fun t ht hW => by rw [← Option.some.inj hf]; exact ⟨⟨(0 : Int32), (), rfl, rfl, by rw [ht]; exact hP, va_K.moved hW.alike hK, hD⟩, hS.F ht⟩) hS.2.2 dX12_house_316
    · replace hf := wb_t hc hf
      refine lv_aload_n hx hb dX12_house_210 rfl (lv_at hl 0 rfl) ?_
      refine va_get (D := D) (ci := 12) (v := .int (I0_j203 4)) (C := RX12) (T := TX12) (N := 58) hx hb hts hinX12 hown hK hP 0 rfl rfl 13 (by decide) (hts (.fieldLink RX12 180 "WheelBookModel" "faultKind" "I") (List.mem_of_getElem? (i := 22) rfl)) (fun _ h9 => h9) rfl dX12_house_211 ?_
      exact W.iret (v := (I0_j203 4)) hx hb hr (fun t ht hW => by rw [← Option.some.inj hf]; exact ⟨⟨(I0_j203 4), (), rfl, rfl, by rw [ht]; exact hP, va_K.moved hW.alike hK, hD⟩, hS.F ht⟩) hS.2.2 dX12_house_214
  refine lv_aload_n hx hb dX12_house_0 rfl (lv_at hl 0 rfl) ?_
  refine lv_iconst (v := (0 : Int32)) hx hb dX12_house_1 (by decide) ?_
  refine va_put (D := D) (ci := 12) (v := .int (0 : Int32)) (ty := .int) (C := RX12) (T := TX12) (N := 58) hx hb hts hinX12 tyX12 tyX12_ok nmX12 hown hK hP hD hS 0 rfl rfl 0 (by decide) (hts (.fieldLink RX12 129 "WheelBookModel" "thrown" "I") (List.mem_of_getElem? (i := 1) rfl)) (fun _ h9 => h9) rfl (by decide +kernel) rfl rfl (Nat.le_of_ble_eq_true rfl) dX12_house_2 (fun H locs hP hD hS => ?_)
  have hP : va_P D vwCl (wWX12 cB cI cZ a0 (upd I0 0 (0 : Int32)) L0 M0) H := hP
  have hD : va_D A (wWX12 cB cI cZ a0 (upd I0 0 (0 : Int32)) L0 M0) := hD
  obtain ⟨I0_18, eI0_18, hf⟩ := wb_v hf
  rw [← eI0_18] at hP hD
  refine lv_aload_n hx hb dX12_house_5 rfl (lv_at hl 0 rfl) ?_
  refine lv_iconst (v := (0 : Int32)) hx hb dX12_house_6 (by decide) ?_
  refine va_put (D := D) (ci := 12) (v := .int (0 : Int32)) (ty := .boolean) (C := RX12) (T := TX12) (N := 58) hx hb hts hinX12 tyX12 tyX12_ok nmX12 hown hK hP hD hS 0 rfl rfl 22 (by decide) (hts (.fieldLink RX12 205 "WheelBookModel" "asksWheel" "Z") (List.mem_of_getElem? (i := 2) rfl)) (fun _ h9 => h9) rfl (by decide +kernel) (by decide) (by decide) (Nat.le_of_ble_eq_true rfl) dX12_house_7 (fun H locs hP hD hS => ?_)
  have hP : va_P D vwCl (wWX12 cB cI cZ a0 (upd I0_18 12 (0 : Int32)) L0 M0) H := hP
  have hD : va_D A (wWX12 cB cI cZ a0 (upd I0_18 12 (0 : Int32)) L0 M0) := hD
  obtain ⟨I0_19, eI0_19, hf⟩ := wb_v hf
  rw [← eI0_19] at hP hD
  refine lv_aload_n hx hb dX12_house_10 rfl (lv_at hl 0 rfl) ?_
  refine lv_iload_n hx hb dX12_house_11 rfl (lv_at hl 1 rfl) ?_
  obtain ⟨r20, hr20, hf⟩ := wb_b hf
  have hPc := hP
  have hDc := hD
  have hFc := wj_F hDc hS hA
  refine va_calli (va_runV (As := [.int x1]) (rest := []) ⟨hx, hb, hml, hown, hts⟩ (cn_X12_begins l D cB cI cZ N a0 I0_19 L0 M0 x1 H.size r20 hr20) (cwV 1 hts gX12_house_X12_begins rfl rfl rfl cdX12_begins ⟨Nat.le_of_ble_eq_true rfl, Nat.le_of_ble_eq_true rfl⟩) (wb_preDV hPc hK hDc (wr_12 hK hP (q0 := 0) rfl)) rfl rfl hl.1 rfl (lv_room (Nat.le_of_ble_eq_true rfl)) dX12_house_12 ⟨Nat.le_of_ble_eq_true rfl, Nat.le_of_ble_eq_true rfl⟩) hS (fun q _ h => hFc q h) hFc (fun r9 u t H locs ht hvm hw hB hz1 hk1 hS => ?_)
  obtain ⟨hP, hD⟩ := wj_0 hFc ht hB
  rw [hw]
  refine lv_if_ne (tgt := 20) hx hb dX12_house_15 (by decide) (fun hc => ?_) (fun hc => ?_)
  · replace hf := wb_f hc hf
    refine lv_aload_n hx hb dX12_house_20 rfl (lv_at hl 0 rfl) ?_
    refine lv_aload_n hx hb dX12_house_21 rfl (lv_at hl 0 rfl) ?_
    refine va_get (D := D) (ci := 12) (v := .int (r20.2.1 1)) (C := RX12) (T := TX12) (N := 58) hx hb hts hinX12 hown hK hP 0 rfl rfl 5 (by decide) (hts (.fieldLink RX12 228 "WheelBookModel" "climates" "I") (List.mem_of_getElem? (i := 3) rfl)) (fun _ h9 => h9) rfl dX12_house_22 ?_
    refine va_put (D := D) (ci := 12) (v := .int (r20.2.1 1)) (ty := .int) (C := RX12) (T := TX12) (N := 58) hx hb hts hinX12 tyX12 tyX12_ok nmX12 hown hK hP hD hS 0 rfl rfl 23 (by decide) (hts (.fieldLink RX12 219 "WheelBookModel" "newClimates" "I") (List.mem_of_getElem? (i := 4) rfl)) (fun _ h9 => h9) rfl (by decide +kernel) rfl rfl (Nat.le_of_ble_eq_true rfl) dX12_house_25 (fun H locs hP hD hS => ?_)
    have hP : va_P D vwCl (wWX12 cB cI cZ a0 (upd r20.2.1 13 (r20.2.1 1)) r20.2.2.1 r20.2.2.2) H := hP
    have hD : va_D A (wWX12 cB cI cZ a0 (upd r20.2.1 13 (r20.2.1 1)) r20.2.2.1 r20.2.2.2) := hD
    obtain ⟨I0_21, eI0_21, hf⟩ := wb_v hf
    rw [← eI0_21] at hP hD
    refine lv_aload_n hx hb dX12_house_28 rfl (lv_at hl 0 rfl) ?_
    refine lv_aload_n hx hb dX12_house_29 rfl (lv_at hl 0 rfl) ?_
    refine va_get (D := D) (ci := 12) (v := .int (I0_21 2)) (C := RX12) (T := TX12) (N := 58) hx hb hts hinX12 hown hK hP 0 rfl rfl 6 (by decide) (hts (.fieldLink RX12 231 "WheelBookModel" "hands" "I") (List.mem_of_getElem? (i := 5) rfl)) (fun _ h9 => h9) rfl dX12_house_30 ?_
    refine va_put (D := D) (ci := 12) (v := .int (I0_21 2)) (ty := .int) (C := RX12) (T := TX12) (N := 58) hx hb hts hinX12 tyX12 tyX12_ok nmX12 hown hK hP hD hS 0 rfl rfl 24 (by decide) (hts (.fieldLink RX12 222 "WheelBookModel" "newHands" "I") (List.mem_of_getElem? (i := 6) rfl)) (fun _ h9 => h9) rfl (by decide +kernel) rfl rfl (Nat.le_of_ble_eq_true rfl) dX12_house_33 (fun H locs hP hD hS => ?_)
    have hP : va_P D vwCl (wWX12 cB cI cZ a0 (upd I0_21 14 (I0_21 2)) r20.2.2.1 r20.2.2.2) H := hP
    have hD : va_D A (wWX12 cB cI cZ a0 (upd I0_21 14 (I0_21 2)) r20.2.2.1 r20.2.2.2) := hD
    obtain ⟨I0_22, eI0_22, hf⟩ := wb_v hf
    rw [← eI0_22] at hP hD
    refine lv_aload_n hx hb dX12_house_36 rfl (lv_at hl 0 rfl) ?_
    refine lv_aload_n hx hb dX12_house_37 rfl (lv_at hl 0 rfl) ?_
    refine va_get (D := D) (ci := 12) (v := .ref (a0 1)) (C := RX12) (T := TX12) (N := 58) hx hb hts hinX12 hown hK hP 0 rfl rfl 1 (by decide) (hts (.fieldLink RX12 7 "WheelBookModel" "starts" "[I") (List.mem_of_getElem? (i := 7) rfl)) (fun _ h9 => h9) rfl dX12_house_38 ?_
    refine lv_aload_n hx hb dX12_house_41 rfl (lv_at hl 0 rfl) ?_
    refine va_get (D := D) (ci := 12) (v := .ref (a0 10)) (C := RX12) (T := TX12) (N := 58) hx hb hts hinX12 hown hK hP 0 rfl rfl 25 (by decide) (hts (.fieldLink RX12 41 "WheelBookModel" "newStarts" "[I") (List.mem_of_getElem? (i := 8) rfl)) (fun _ h9 => h9) rfl dX12_house_42 ?_
    obtain ⟨r23, hr23, hf⟩ := wb_b hf
    have hPc := hP.sub (ws' := ([(((a0 1), .inl (cI, 28, .inl (r20.2.2.2 0))) : Nat × va_E)] ++ [(((a0 10), .inl (cI, 28, .inl (r20.2.2.2 9))) : Nat × va_E)])) [1, 10] rfl
    have hDc := hD.sub (ws' := ([(((a0 1), .inl (cI, 28, .inl (r20.2.2.2 0))) : Nat × va_E)] ++ [(((a0 10), .inl (cI, 28, .inl (r20.2.2.2 9))) : Nat × va_E)])) [1, 10] (by decide) rfl
    have hFc := va_free (wc := ([(((a0 1), .inl (cI, 28, .inl (r20.2.2.2 0))) : Nat × va_E)] ++ [(((a0 10), .inl (cI, 28, .inl (r20.2.2.2 9))) : Nat × va_E)])) hD hS hA [1, 10] rfl
    refine va_callv (va_runV (As := [.ref (a0 1), .ref (a0 10)]) (rest := []) ⟨hx, hb, hml, hown, hts⟩ (cn_X12_copies l D cB cI cZ N (a0 0) (a0 1) 28 (r20.2.2.2 0) (a0 10) 28 (r20.2.2.2 9) H.size r23 hr23) (cwV 2 hts gX12_house_X12_copies rfl rfl rfl cdX12_copies ⟨Nat.le_of_ble_eq_true rfl, Nat.le_of_ble_eq_true rfl⟩) (wb_preDV hPc hK hDc (wr_12 hK hP (q0 := 0) rfl)) rfl rfl hl.1 rfl (lv_room (Nat.le_of_ble_eq_true rfl)) dX12_house_45 ⟨Nat.le_of_ble_eq_true rfl, Nat.le_of_ble_eq_true rfl⟩) hS (fun q _ h => hFc q h) hFc (fun u t H locs ht hvm hw hB hz1 hk1 hS => ?_)
    obtain ⟨hP, hD⟩ := wj_ab (a := [(((a0 1), .inl (cI, 28, .inl (r20.2.2.2 0))) : Nat × va_E)]) (b := [(((a0 10), .inl (cI, 28, .inl (r20.2.2.2 9))) : Nat × va_E)]) (a' := [(((a0 1), .inl (cI, 28, .inl (r20.2.2.2 0))) : Nat × va_E)]) (b' := [(((a0 10), .inl (cI, 28, .inl r23)) : Nat × va_E)]) (wf := (wWX12 cB cI cZ a0 I0_22 r20.2.2.1 (wb_mm r20.2.2.2 9 r23))) 1 2 8 11 hP hD rfl rfl hk1 hFc ht hB
    obtain ⟨M0_24, eM0_24, hf⟩ := wb_v hf
    rw [← eM0_24] at hP hD
    refine lv_aload_n hx hb dX12_house_48 rfl (lv_at hl 0 rfl) ?_
    refine lv_aload_n hx hb dX12_house_49 rfl (lv_at hl 0 rfl) ?_
    refine va_get (D := D) (ci := 12) (v := .ref (a0 2)) (C := RX12) (T := TX12) (N := 58) hx hb hts hinX12 hown hK hP 0 rfl rfl 2 (by decide) (hts (.fieldLink RX12 13 "WheelBookModel" "goes" "[I") (List.mem_of_getElem? (i := 9) rfl)) (fun _ h9 => h9) rfl dX12_house_50 ?_
    refine lv_aload_n hx hb dX12_house_53 rfl (lv_at hl 0 rfl) ?_
    refine va_get (D := D) (ci := 12) (v := .ref (a0 11)) (C := RX12) (T := TX12) (N := 58) hx hb hts hinX12 hown hK hP 0 rfl rfl 26 (by decide) (hts (.fieldLink RX12 44 "WheelBookModel" "newGoes" "[I") (List.mem_of_getElem? (i := 10) rfl)) (fun _ h9 => h9) rfl dX12_house_54 ?_
    obtain ⟨r25, hr25, hf⟩ := wb_b hf
    have hPc := hP.sub (ws' := ([(((a0 2), .inl (cI, 28, .inl (M0_24 1))) : Nat × va_E)] ++ [(((a0 11), .inl (cI, 28, .inl (M0_24 10))) : Nat × va_E)])) [2, 11] rfl
    have hDc := hD.sub (ws' := ([(((a0 2), .inl (cI, 28, .inl (M0_24 1))) : Nat × va_E)] ++ [(((a0 11), .inl (cI, 28, .inl (M0_24 10))) : Nat × va_E)])) [2, 11] (by decide) rfl
    have hFc := va_free (wc := ([(((a0 2), .inl (cI, 28, .inl (M0_24 1))) : Nat × va_E)] ++ [(((a0 11), .inl (cI, 28, .inl (M0_24 10))) : Nat × va_E)])) hD hS hA [2, 11] rfl
    refine va_callv (va_runV (As := [.ref (a0 2), .ref (a0 11)]) (rest := []) ⟨hx, hb, hml, hown, hts⟩ (cn_X12_copies l D cB cI cZ N (a0 0) (a0 2) 28 (M0_24 1) (a0 11) 28 (M0_24 10) H.size r25 hr25) (cwV 2 hts gX12_house_X12_copies rfl rfl rfl cdX12_copies ⟨Nat.le_of_ble_eq_true rfl, Nat.le_of_ble_eq_true rfl⟩) (wb_preDV hPc hK hDc (wr_12 hK hP (q0 := 0) rfl)) rfl rfl hl.1 rfl (lv_room (Nat.le_of_ble_eq_true rfl)) dX12_house_57 ⟨Nat.le_of_ble_eq_true rfl, Nat.le_of_ble_eq_true rfl⟩) hS (fun q _ h => hFc q h) hFc (fun u t H locs ht hvm hw hB hz1 hk1 hS => ?_)
    obtain ⟨hP, hD⟩ := wj_ab (a := [(((a0 2), .inl (cI, 28, .inl (M0_24 1))) : Nat × va_E)]) (b := [(((a0 11), .inl (cI, 28, .inl (M0_24 10))) : Nat × va_E)]) (a' := [(((a0 2), .inl (cI, 28, .inl (M0_24 1))) : Nat × va_E)]) (b' := [(((a0 11), .inl (cI, 28, .inl r25)) : Nat × va_E)]) (wf := (wWX12 cB cI cZ a0 I0_22 r20.2.2.1 (wb_mm M0_24 10 r25))) 2 3 8 12 hP hD rfl rfl hk1 hFc ht hB
    obtain ⟨M0_26, eM0_26, hf⟩ := wb_v hf
    rw [← eM0_26] at hP hD
    refine lv_aload_n hx hb dX12_house_60 rfl (lv_at hl 0 rfl) ?_
    refine lv_aload_n hx hb dX12_house_61 rfl (lv_at hl 0 rfl) ?_
    refine va_get (D := D) (ci := 12) (v := .ref (a0 3)) (C := RX12) (T := TX12) (N := 58) hx hb hts hinX12 hown hK hP 0 rfl rfl 3 (by decide) (hts (.fieldLink RX12 16 "WheelBookModel" "swing" "[I") (List.mem_of_getElem? (i := 11) rfl)) (fun _ h9 => h9) rfl dX12_house_62 ?_
    refine lv_aload_n hx hb dX12_house_65 rfl (lv_at hl 0 rfl) ?_
    refine va_get (D := D) (ci := 12) (v := .ref (a0 12)) (C := RX12) (T := TX12) (N := 58) hx hb hts hinX12 hown hK hP 0 rfl rfl 27 (by decide) (hts (.fieldLink RX12 47 "WheelBookModel" "newSwing" "[I") (List.mem_of_getElem? (i := 12) rfl)) (fun _ h9 => h9) rfl dX12_house_66 ?_
    obtain ⟨r27, hr27, hf⟩ := wb_b hf
    have hPc := hP.sub (ws' := ([(((a0 3), .inl (cI, 28, .inl (M0_26 2))) : Nat × va_E)] ++ [(((a0 12), .inl (cI, 28, .inl (M0_26 11))) : Nat × va_E)])) [3, 12] rfl
    have hDc := hD.sub (ws' := ([(((a0 3), .inl (cI, 28, .inl (M0_26 2))) : Nat × va_E)] ++ [(((a0 12), .inl (cI, 28, .inl (M0_26 11))) : Nat × va_E)])) [3, 12] (by decide) rfl
    have hFc := va_free (wc := ([(((a0 3), .inl (cI, 28, .inl (M0_26 2))) : Nat × va_E)] ++ [(((a0 12), .inl (cI, 28, .inl (M0_26 11))) : Nat × va_E)])) hD hS hA [3, 12] rfl
    refine va_callv (va_runV (As := [.ref (a0 3), .ref (a0 12)]) (rest := []) ⟨hx, hb, hml, hown, hts⟩ (cn_X12_copies l D cB cI cZ N (a0 0) (a0 3) 28 (M0_26 2) (a0 12) 28 (M0_26 11) H.size r27 hr27) (cwV 2 hts gX12_house_X12_copies rfl rfl rfl cdX12_copies ⟨Nat.le_of_ble_eq_true rfl, Nat.le_of_ble_eq_true rfl⟩) (wb_preDV hPc hK hDc (wr_12 hK hP (q0 := 0) rfl)) rfl rfl hl.1 rfl (lv_room (Nat.le_of_ble_eq_true rfl)) dX12_house_69 ⟨Nat.le_of_ble_eq_true rfl, Nat.le_of_ble_eq_true rfl⟩) hS (fun q _ h => hFc q h) hFc (fun u t H locs ht hvm hw hB hz1 hk1 hS => ?_)
    obtain ⟨hP, hD⟩ := wj_ab (a := [(((a0 3), .inl (cI, 28, .inl (M0_26 2))) : Nat × va_E)]) (b := [(((a0 12), .inl (cI, 28, .inl (M0_26 11))) : Nat × va_E)]) (a' := [(((a0 3), .inl (cI, 28, .inl (M0_26 2))) : Nat × va_E)]) (b' := [(((a0 12), .inl (cI, 28, .inl r27)) : Nat × va_E)]) (wf := (wWX12 cB cI cZ a0 I0_22 r20.2.2.1 (wb_mm M0_26 11 r27))) 3 4 8 13 hP hD rfl rfl hk1 hFc ht hB
    obtain ⟨M0_28, eM0_28, hf⟩ := wb_v hf
    rw [← eM0_28] at hP hD
    refine lv_aload_n hx hb dX12_house_72 rfl (lv_at hl 0 rfl) ?_
    refine lv_aload_n hx hb dX12_house_73 rfl (lv_at hl 0 rfl) ?_
    refine va_get (D := D) (ci := 12) (v := .ref (a0 4)) (C := RX12) (T := TX12) (N := 58) hx hb hts hinX12 hown hK hP 0 rfl rfl 4 (by decide) (hts (.fieldLink RX12 19 "WheelBookModel" "period" "[I") (List.mem_of_getElem? (i := 13) rfl)) (fun _ h9 => h9) rfl dX12_house_74 ?_
    refine lv_aload_n hx hb dX12_house_77 rfl (lv_at hl 0 rfl) ?_
    refine va_get (D := D) (ci := 12) (v := .ref (a0 13)) (C := RX12) (T := TX12) (N := 58) hx hb hts hinX12 hown hK hP 0 rfl rfl 28 (by decide) (hts (.fieldLink RX12 50 "WheelBookModel" "newPeriod" "[I") (List.mem_of_getElem? (i := 14) rfl)) (fun _ h9 => h9) rfl dX12_house_78 ?_
    obtain ⟨r29, hr29, hf⟩ := wb_b hf
    have hPc := hP.sub (ws' := ([(((a0 4), .inl (cI, 28, .inl (M0_28 3))) : Nat × va_E)] ++ [(((a0 13), .inl (cI, 28, .inl (M0_28 12))) : Nat × va_E)])) [4, 13] rfl
    have hDc := hD.sub (ws' := ([(((a0 4), .inl (cI, 28, .inl (M0_28 3))) : Nat × va_E)] ++ [(((a0 13), .inl (cI, 28, .inl (M0_28 12))) : Nat × va_E)])) [4, 13] (by decide) rfl
    have hFc := va_free (wc := ([(((a0 4), .inl (cI, 28, .inl (M0_28 3))) : Nat × va_E)] ++ [(((a0 13), .inl (cI, 28, .inl (M0_28 12))) : Nat × va_E)])) hD hS hA [4, 13] rfl
    refine va_callv (va_runV (As := [.ref (a0 4), .ref (a0 13)]) (rest := []) ⟨hx, hb, hml, hown, hts⟩ (cn_X12_copies l D cB cI cZ N (a0 0) (a0 4) 28 (M0_28 3) (a0 13) 28 (M0_28 12) H.size r29 hr29) (cwV 2 hts gX12_house_X12_copies rfl rfl rfl cdX12_copies ⟨Nat.le_of_ble_eq_true rfl, Nat.le_of_ble_eq_true rfl⟩) (wb_preDV hPc hK hDc (wr_12 hK hP (q0 := 0) rfl)) rfl rfl hl.1 rfl (lv_room (Nat.le_of_ble_eq_true rfl)) dX12_house_81 ⟨Nat.le_of_ble_eq_true rfl, Nat.le_of_ble_eq_true rfl⟩) hS (fun q _ h => hFc q h) hFc (fun u t H locs ht hvm hw hB hz1 hk1 hS => ?_)
    obtain ⟨hP, hD⟩ := wj_ab (a := [(((a0 4), .inl (cI, 28, .inl (M0_28 3))) : Nat × va_E)]) (b := [(((a0 13), .inl (cI, 28, .inl (M0_28 12))) : Nat × va_E)]) (a' := [(((a0 4), .inl (cI, 28, .inl (M0_28 3))) : Nat × va_E)]) (b' := [(((a0 13), .inl (cI, 28, .inl r29)) : Nat × va_E)]) (wf := (wWX12 cB cI cZ a0 I0_22 r20.2.2.1 (wb_mm M0_28 12 r29))) 4 5 8 14 hP hD rfl rfl hk1 hFc ht hB
    obtain ⟨M0_30, eM0_30, hf⟩ := wb_v hf
    rw [← eM0_30] at hP hD
    refine lv_aload_n hx hb dX12_house_84 rfl (lv_at hl 0 rfl) ?_
    refine lv_aload_n hx hb dX12_house_85 rfl (lv_at hl 0 rfl) ?_
    refine va_get (D := D) (ci := 12) (v := .ref (a0 5)) (C := RX12) (T := TX12) (N := 58) hx hb hts hinX12 hown hK hP 0 rfl rfl 7 (by decide) (hts (.fieldLink RX12 22 "WheelBookModel" "rising" "[I") (List.mem_of_getElem? (i := 15) rfl)) (fun _ h9 => h9) rfl dX12_house_86 ?_
    refine lv_aload_n hx hb dX12_house_89 rfl (lv_at hl 0 rfl) ?_
    refine va_get (D := D) (ci := 12) (v := .ref (a0 14)) (C := RX12) (T := TX12) (N := 58) hx hb hts hinX12 hown hK hP 0 rfl rfl 29 (by decide) (hts (.fieldLink RX12 53 "WheelBookModel" "newRising" "[I") (List.mem_of_getElem? (i := 16) rfl)) (fun _ h9 => h9) rfl dX12_house_90 ?_
    obtain ⟨r31, hr31, hf⟩ := wb_b hf
    have hPc := hP.sub (ws' := ([(((a0 5), .inl (cI, 84, .inl (M0_30 4))) : Nat × va_E)] ++ [(((a0 14), .inl (cI, 84, .inl (M0_30 13))) : Nat × va_E)])) [5, 14] rfl
    have hDc := hD.sub (ws' := ([(((a0 5), .inl (cI, 84, .inl (M0_30 4))) : Nat × va_E)] ++ [(((a0 14), .inl (cI, 84, .inl (M0_30 13))) : Nat × va_E)])) [5, 14] (by decide) rfl
    have hFc := va_free (wc := ([(((a0 5), .inl (cI, 84, .inl (M0_30 4))) : Nat × va_E)] ++ [(((a0 14), .inl (cI, 84, .inl (M0_30 13))) : Nat × va_E)])) hD hS hA [5, 14] rfl
    refine va_callv (va_runV (As := [.ref (a0 5), .ref (a0 14)]) (rest := []) ⟨hx, hb, hml, hown, hts⟩ (cn_X12_copies l D cB cI cZ N (a0 0) (a0 5) 84 (M0_30 4) (a0 14) 84 (M0_30 13) H.size r31 hr31) (cwV 2 hts gX12_house_X12_copies rfl rfl rfl cdX12_copies ⟨Nat.le_of_ble_eq_true rfl, Nat.le_of_ble_eq_true rfl⟩) (wb_preDV hPc hK hDc (wr_12 hK hP (q0 := 0) rfl)) rfl rfl hl.1 rfl (lv_room (Nat.le_of_ble_eq_true rfl)) dX12_house_93 ⟨Nat.le_of_ble_eq_true rfl, Nat.le_of_ble_eq_true rfl⟩) hS (fun q _ h => hFc q h) hFc (fun u t H locs ht hvm hw hB hz1 hk1 hS => ?_)
    obtain ⟨hP, hD⟩ := wj_ab (a := [(((a0 5), .inl (cI, 84, .inl (M0_30 4))) : Nat × va_E)]) (b := [(((a0 14), .inl (cI, 84, .inl (M0_30 13))) : Nat × va_E)]) (a' := [(((a0 5), .inl (cI, 84, .inl (M0_30 4))) : Nat × va_E)]) (b' := [(((a0 14), .inl (cI, 84, .inl r31)) : Nat × va_E)]) (wf := (wWX12 cB cI cZ a0 I0_22 r20.2.2.1 (wb_mm M0_30 13 r31))) 5 6 8 15 hP hD rfl rfl hk1 hFc ht hB
    obtain ⟨M0_32, eM0_32, hf⟩ := wb_v hf
    rw [← eM0_32] at hP hD
    refine lv_aload_n hx hb dX12_house_96 rfl (lv_at hl 0 rfl) ?_
    refine lv_aload_n hx hb dX12_house_97 rfl (lv_at hl 0 rfl) ?_
    refine va_get (D := D) (ci := 12) (v := .ref (a0 6)) (C := RX12) (T := TX12) (N := 58) hx hb hts hinX12 hown hK hP 0 rfl rfl 8 (by decide) (hts (.fieldLink RX12 25 "WheelBookModel" "stood" "[I") (List.mem_of_getElem? (i := 17) rfl)) (fun _ h9 => h9) rfl dX12_house_98 ?_
    refine lv_aload_n hx hb dX12_house_101 rfl (lv_at hl 0 rfl) ?_
    refine va_get (D := D) (ci := 12) (v := .ref (a0 15)) (C := RX12) (T := TX12) (N := 58) hx hb hts hinX12 hown hK hP 0 rfl rfl 30 (by decide) (hts (.fieldLink RX12 56 "WheelBookModel" "newStood" "[I") (List.mem_of_getElem? (i := 18) rfl)) (fun _ h9 => h9) rfl dX12_house_102 ?_
    obtain ⟨r33, hr33, hf⟩ := wb_b hf
    have hPc := hP.sub (ws' := ([(((a0 6), .inl (cI, 30, .inl (M0_32 5))) : Nat × va_E)] ++ [(((a0 15), .inl (cI, 30, .inl (M0_32 14))) : Nat × va_E)])) [6, 15] rfl
    have hDc := hD.sub (ws' := ([(((a0 6), .inl (cI, 30, .inl (M0_32 5))) : Nat × va_E)] ++ [(((a0 15), .inl (cI, 30, .inl (M0_32 14))) : Nat × va_E)])) [6, 15] (by decide) rfl
    have hFc := va_free (wc := ([(((a0 6), .inl (cI, 30, .inl (M0_32 5))) : Nat × va_E)] ++ [(((a0 15), .inl (cI, 30, .inl (M0_32 14))) : Nat × va_E)])) hD hS hA [6, 15] rfl
    refine va_callv (va_runV (As := [.ref (a0 6), .ref (a0 15)]) (rest := []) ⟨hx, hb, hml, hown, hts⟩ (cn_X12_copies l D cB cI cZ N (a0 0) (a0 6) 30 (M0_32 5) (a0 15) 30 (M0_32 14) H.size r33 hr33) (cwV 2 hts gX12_house_X12_copies rfl rfl rfl cdX12_copies ⟨Nat.le_of_ble_eq_true rfl, Nat.le_of_ble_eq_true rfl⟩) (wb_preDV hPc hK hDc (wr_12 hK hP (q0 := 0) rfl)) rfl rfl hl.1 rfl (lv_room (Nat.le_of_ble_eq_true rfl)) dX12_house_105 ⟨Nat.le_of_ble_eq_true rfl, Nat.le_of_ble_eq_true rfl⟩) hS (fun q _ h => hFc q h) hFc (fun u t H locs ht hvm hw hB hz1 hk1 hS => ?_)
    obtain ⟨hP, hD⟩ := wj_ab (a := [(((a0 6), .inl (cI, 30, .inl (M0_32 5))) : Nat × va_E)]) (b := [(((a0 15), .inl (cI, 30, .inl (M0_32 14))) : Nat × va_E)]) (a' := [(((a0 6), .inl (cI, 30, .inl (M0_32 5))) : Nat × va_E)]) (b' := [(((a0 15), .inl (cI, 30, .inl r33)) : Nat × va_E)]) (wf := (wWX12 cB cI cZ a0 I0_22 r20.2.2.1 (wb_mm M0_32 14 r33))) 6 7 8 16 hP hD rfl rfl hk1 hFc ht hB
    obtain ⟨M0_34, eM0_34, hf⟩ := wb_v hf
    rw [← eM0_34] at hP hD
    refine lv_aload_n hx hb dX12_house_108 rfl (lv_at hl 0 rfl) ?_
    refine lv_aload_n hx hb dX12_house_109 rfl (lv_at hl 0 rfl) ?_
    refine va_get (D := D) (ci := 12) (v := .ref (a0 7)) (C := RX12) (T := TX12) (N := 58) hx hb hts hinX12 hown hK hP 0 rfl rfl 9 (by decide) (hts (.fieldLink RX12 28 "WheelBookModel" "read" "[I") (List.mem_of_getElem? (i := 19) rfl)) (fun _ h9 => h9) rfl dX12_house_110 ?_
    refine lv_aload_n hx hb dX12_house_113 rfl (lv_at hl 0 rfl) ?_
    refine va_get (D := D) (ci := 12) (v := .ref (a0 16)) (C := RX12) (T := TX12) (N := 58) hx hb hts hinX12 hown hK hP 0 rfl rfl 31 (by decide) (hts (.fieldLink RX12 59 "WheelBookModel" "newRead" "[I") (List.mem_of_getElem? (i := 20) rfl)) (fun _ h9 => h9) rfl dX12_house_114 ?_
    obtain ⟨r35, hr35, hf⟩ := wb_b hf
    have hPc := hP.sub (ws' := ([(((a0 7), .inl (cI, 30, .inl (M0_34 6))) : Nat × va_E)] ++ [(((a0 16), .inl (cI, 30, .inl (M0_34 15))) : Nat × va_E)])) [7, 16] rfl
    have hDc := hD.sub (ws' := ([(((a0 7), .inl (cI, 30, .inl (M0_34 6))) : Nat × va_E)] ++ [(((a0 16), .inl (cI, 30, .inl (M0_34 15))) : Nat × va_E)])) [7, 16] (by decide) rfl
    have hFc := va_free (wc := ([(((a0 7), .inl (cI, 30, .inl (M0_34 6))) : Nat × va_E)] ++ [(((a0 16), .inl (cI, 30, .inl (M0_34 15))) : Nat × va_E)])) hD hS hA [7, 16] rfl
    refine va_callv (va_runV (As := [.ref (a0 7), .ref (a0 16)]) (rest := []) ⟨hx, hb, hml, hown, hts⟩ (cn_X12_copies l D cB cI cZ N (a0 0) (a0 7) 30 (M0_34 6) (a0 16) 30 (M0_34 15) H.size r35 hr35) (cwV 2 hts gX12_house_X12_copies rfl rfl rfl cdX12_copies ⟨Nat.le_of_ble_eq_true rfl, Nat.le_of_ble_eq_true rfl⟩) (wb_preDV hPc hK hDc (wr_12 hK hP (q0 := 0) rfl)) rfl rfl hl.1 rfl (lv_room (Nat.le_of_ble_eq_true rfl)) dX12_house_117 ⟨Nat.le_of_ble_eq_true rfl, Nat.le_of_ble_eq_true rfl⟩) hS (fun q _ h => hFc q h) hFc (fun u t H locs ht hvm hw hB hz1 hk1 hS => ?_)
    obtain ⟨hP, hD⟩ := wj_ab (a := [(((a0 7), .inl (cI, 30, .inl (M0_34 6))) : Nat × va_E)]) (b := [(((a0 16), .inl (cI, 30, .inl (M0_34 15))) : Nat × va_E)]) (a' := [(((a0 7), .inl (cI, 30, .inl (M0_34 6))) : Nat × va_E)]) (b' := [(((a0 16), .inl (cI, 30, .inl r35)) : Nat × va_E)]) (wf := (wWX12 cB cI cZ a0 I0_22 r20.2.2.1 (wb_mm M0_34 15 r35))) 7 8 8 17 hP hD rfl rfl hk1 hFc ht hB
    obtain ⟨M0_36, eM0_36, hf⟩ := wb_v hf
    rw [← eM0_36] at hP hD
    have Lh120 : ∀ (fu120 : Nat) (I0_l120 : Nat → Int32) (L0_l120 : Int64) (M0_l120 : Nat → Nat → Int32) (H : Heap) (locs : List Loc), va_P D vwCl (wWX12 cB cI cZ a0 I0_l120 L0_l120 M0_l120) H → va_D A (wWX12 cB cI cZ a0 I0_l120 L0_l120 M0_l120) → va_S A s.heap H locs → ∀ (ls : Array Slot), lv_has ls 3 [(0, .ref (a0 0))] → fX12_house_L120 N x1 fu120 I0_l120 L0_l120 M0_l120 = some R → W p l e (headSpec wsX12_house { frames := 5, cells := 0, slots := 0, locals := 118 }).room s m [.ref (a0 0), .int x1].toArray below meth c H locs 0 0 (MQ below (va_Qi (fun r (_ : Unit) => r = R.1) (fun _ t => wb_post D [(cB, .byte), (cI, .int), (cZ, .boolean)] A (wWX12 cB cI cZ a0 R.2.1 R.2.2.1 R.2.2.2) t) A) [.ref (a0 0), .int x1].toArray s 0 0 A) (F0 m 120 ls []) := by
      intro fu120
      induction fu120 with
      | zero =>
        intro I0_l120 L0_l120 M0_l120 H locs hP hD hS ls hl hf
        exact absurd hf (by rw [fX12_house_L120.eq_1]; exact fun h => nomatch h)
      | succ fu120 ih120 =>
        have J183 : ∀ (I0_j183 : Nat → Int32) (L0_j183 : Int64) (M0_j183 : Nat → Nat → Int32) (H : Heap) (locs : List Loc), va_P D vwCl (wWX12 cB cI cZ a0 I0_j183 L0_j183 M0_j183) H → va_D A (wWX12 cB cI cZ a0 I0_j183 L0_j183 M0_j183) → va_S A s.heap H locs → ∀ (ls : Array Slot), lv_has ls 3 [(0, .ref (a0 0))] → fX12_house_J183 N x1 (fX12_house_L120 N x1 fu120) I0_j183 L0_j183 M0_j183 = some R → W p l e (headSpec wsX12_house { frames := 5, cells := 0, slots := 0, locals := 118 }).room s m [.ref (a0 0), .int x1].toArray below meth c H locs 0 0 (MQ below (va_Qi (fun r (_ : Unit) => r = R.1) (fun _ t => wb_post D [(cB, .byte), (cI, .int), (cZ, .boolean)] A (wWX12 cB cI cZ a0 R.2.1 R.2.2.1 R.2.2.2) t) A) [.ref (a0 0), .int x1].toArray s 0 0 A) (F0 m 183 ls []) := by
          intro I0_j183 L0_j183 M0_j183 H locs hP hD hS ls hl hf
          unfold fX12_house_J183 at hf
          refine lv_aload_n hx hb dX12_house_183 rfl (lv_at hl 0 rfl) ?_
          refine lv_aload_n hx hb dX12_house_184 rfl (lv_at hl 0 rfl) ?_
          refine va_get (D := D) (ci := 12) (v := .int (I0_j183 8)) (C := RX12) (T := TX12) (N := 58) hx hb hts hinX12 hown hK hP 0 rfl rfl 17 (by decide) (hts (.fieldLink RX12 159 "WheelBookModel" "sort" "I") (List.mem_of_getElem? (i := 21) rfl)) (fun _ h9 => h9) rfl dX12_house_185 ?_
          refine lv_iconst (v := (3 : Int32)) hx hb dX12_house_188 (by decide) ?_
          refine lv_icmp_ne (tgt := 196) hx hb dX12_house_189 (by decide) (fun hc => ?_) (fun hc => ?_)
          · replace hf := wb_f hc hf
            refine lv_iconst (v := (0 : Int32)) hx hb dX12_house_196 (by decide) ?_
            obtain ⟨r37, hr37, hf⟩ := wb_b hf
            have hPc := hP
            have hDc := hD
            have hFc := wj_F hDc hS hA
            refine va_callv (va_runV (As := [.int (0 : Int32)]) (rest := []) ⟨hx, hb, hml, hown, hts⟩ (cn_X12_need l D cB cI cZ N a0 I0_j183 L0_j183 M0_j183 (0 : Int32) H.size r37 hr37) (cwV 1 hts gX12_house_X12_need rfl rfl rfl cdX12_need ⟨Nat.le_of_ble_eq_true rfl, Nat.le_of_ble_eq_true rfl⟩) (wb_preDV hPc hK hDc (wr_12 hK hP (q0 := 0) rfl)) rfl rfl hl.1 rfl (lv_room (Nat.le_of_ble_eq_true rfl)) dX12_house_197 ⟨Nat.le_of_ble_eq_true rfl, Nat.le_of_ble_eq_true rfl⟩) hS (fun q _ h => hFc q h) hFc (fun u t H locs ht hvm hw hB hz1 hk1 hS => ?_)
            obtain ⟨hP, hD⟩ := wj_0 hFc ht hB
            refine lv_goto (tgt := 120) hx hb dX12_house_200 (by decide) ?_
            exact ih120 r37.1 r37.2.1 r37.2.2 H locs hP hD hS ls (lv_sub hl [0] rfl) hf
          · replace hf := wb_t hc hf
            refine lv_iconst (v := (1 : Int32)) hx hb dX12_house_192 (by decide) ?_
            refine lv_goto (tgt := 197) hx hb dX12_house_193 (by decide) ?_
            obtain ⟨r38, hr38, hf⟩ := wb_b hf
            have hPc := hP
            have hDc := hD
            have hFc := wj_F hDc hS hA
            refine va_callv (va_runV (As := [.int (1 : Int32)]) (rest := []) ⟨hx, hb, hml, hown, hts⟩ (cn_X12_need l D cB cI cZ N a0 I0_j183 L0_j183 M0_j183 (1 : Int32) H.size r38 hr38) (cwV 1 hts gX12_house_X12_need rfl rfl rfl cdX12_need ⟨Nat.le_of_ble_eq_true rfl, Nat.le_of_ble_eq_true rfl⟩) (wb_preDV hPc hK hDc (wr_12 hK hP (q0 := 0) rfl)) rfl rfl hl.1 rfl (lv_room (Nat.le_of_ble_eq_true rfl)) dX12_house_197 ⟨Nat.le_of_ble_eq_true rfl, Nat.le_of_ble_eq_true rfl⟩) hS (fun q _ h => hFc q h) hFc (fun u t H locs ht hvm hw hB hz1 hk1 hS => ?_)
            obtain ⟨hP, hD⟩ := wj_0 hFc ht hB
            refine lv_goto (tgt := 120) hx hb dX12_house_200 (by decide) ?_
            exact ih120 r38.1 r38.2.1 r38.2.2 H locs hP hD hS ls (lv_sub hl [0] rfl) hf
        intro I0_l120 L0_l120 M0_l120 H locs hP hD hS ls hl hf
        rw [fX12_house_L120.eq_2] at hf
        refine lv_aload_n hx hb dX12_house_120 rfl (lv_at hl 0 rfl) ?_
        obtain ⟨r39, hr39, hf⟩ := wb_b hf
        refine vp_callSi (W.runV (As := []) (rest := []) ⟨hx, hb, hml, hown, hts⟩ (cn_X12_isGood l D cB cI cZ N a0 I0_l120 L0_l120 M0_l120 r39 hr39) (cwV 0 hts gX12_house_X12_isGood rfl rfl rfl cdX12_isGood ⟨Nat.le_of_ble_eq_true rfl, Nat.le_of_ble_eq_true rfl⟩) (wb_preV hP hK (wr_12 hK hP (q0 := 0) rfl)) rfl rfl hl.1 rfl (lv_room (Nat.le_of_ble_eq_true rfl)) dX12_house_121 ⟨Nat.le_of_ble_eq_true rfl, Nat.le_of_ble_eq_true rfl⟩) (fun r9 e9 => ?_)
        rw [e9]
        refine lv_if_eq (tgt := 203) hx hb dX12_house_124 (by decide) (fun hc => ?_) (fun hc => ?_)
        · replace hf := wb_t hc hf
          exact J203 I0_l120 L0_l120 M0_l120 H locs hP hD hS ls (lv_sub hl [0] rfl) hf
        · replace hf := wb_f hc hf
          refine lv_aload_n hx hb dX12_house_127 rfl (lv_at hl 0 rfl) ?_
          refine va_get (D := D) (ci := 12) (v := .int (I0_l120 8)) (C := RX12) (T := TX12) (N := 58) hx hb hts hinX12 hown hK hP 0 rfl rfl 17 (by decide) (hts (.fieldLink RX12 159 "WheelBookModel" "sort" "I") (List.mem_of_getElem? (i := 21) rfl)) (fun _ h9 => h9) rfl dX12_house_128 ?_
          refine lv_if_eq (tgt := 203) hx hb dX12_house_131 (by decide) (fun hc => ?_) (fun hc => ?_)
          · replace hf := wb_t hc hf
            exact J203 I0_l120 L0_l120 M0_l120 H locs hP hD hS ls (lv_sub hl [0] rfl) hf
          · replace hf := wb_f hc hf
            refine lv_aload_n hx hb dX12_house_134 rfl (lv_at hl 0 rfl) ?_
            obtain ⟨r40, hr40, hf⟩ := wb_b hf
            refine vp_callSi (W.runV (As := []) (rest := []) ⟨hx, hb, hml, hown, hts⟩ (cn_X12_knownWord l D cB cI cZ N a0 I0_l120 L0_l120 M0_l120 r40 hr40) (cwV 0 hts gX12_house_X12_knownWord rfl rfl rfl cdX12_knownWord ⟨Nat.le_of_ble_eq_true rfl, Nat.le_of_ble_eq_true rfl⟩) (wb_preV hP hK (wr_12 hK hP (q0 := 0) rfl)) rfl rfl hl.1 rfl (lv_room (Nat.le_of_ble_eq_true rfl)) dX12_house_135 ⟨Nat.le_of_ble_eq_true rfl, Nat.le_of_ble_eq_true rfl⟩) (fun r9 e9 => ?_)
            rw [e9]
            refine lv_istore_n (lv' := [(2, .int r40), (0, .ref (a0 0))]) hx hb dX12_house_138 rfl hl (by decide) rfl (fun ls hl => ?_)
            refine lv_iload_n hx hb dX12_house_139 rfl (lv_at hl 0 rfl) ?_
            refine lv_bipush (v := (11 : Int32)) hx hb dX12_house_140 (by decide) ?_
            refine lv_icmp_ne (tgt := 152) hx hb dX12_house_142 (by decide) (fun hc => ?_) (fun hc => ?_)
            · replace hf := wb_f hc hf
              refine lv_iload_n hx hb dX12_house_152 rfl (lv_at hl 0 rfl) ?_
              refine lv_bipush (v := (16 : Int32)) hx hb dX12_house_153 (by decide) ?_
              refine lv_icmp_ne (tgt := 165) hx hb dX12_house_155 (by decide) (fun hc => ?_) (fun hc => ?_)
              · replace hf := wb_f hc hf
                refine lv_iload_n hx hb dX12_house_165 rfl (lv_at hl 0 rfl) ?_
                refine lv_bipush (v := (17 : Int32)) hx hb dX12_house_166 (by decide) ?_
                refine lv_icmp_ne (tgt := 178) hx hb dX12_house_168 (by decide) (fun hc => ?_) (fun hc => ?_)
                · replace hf := wb_f hc hf
                  refine lv_aload_n hx hb dX12_house_178 rfl (lv_at hl 1 rfl) ?_
                  refine lv_iconst (v := (1 : Int32)) hx hb dX12_house_179 (by decide) ?_
                  obtain ⟨r41, hr41, hf⟩ := wb_b hf
                  have hPc := hP
                  have hDc := hD
                  have hFc := wj_F hDc hS hA
                  refine va_callv (va_runV (As := [.int (1 : Int32)]) (rest := []) ⟨hx, hb, hml, hown, hts⟩ (cn_X12_wrong l D cB cI cZ N a0 I0_l120 L0_l120 M0_l120 (1 : Int32) H.size r41 hr41) (cwV 1 hts gX12_house_X12_wrong rfl rfl rfl cdX12_wrong ⟨Nat.le_of_ble_eq_true rfl, Nat.le_of_ble_eq_true rfl⟩) (wb_preDV hPc hK hDc (wr_12 hK hP (q0 := 0) rfl)) rfl rfl hl.1 rfl (lv_room (Nat.le_of_ble_eq_true rfl)) dX12_house_180 ⟨Nat.le_of_ble_eq_true rfl, Nat.le_of_ble_eq_true rfl⟩) hS (fun q _ h => hFc q h) hFc (fun u t H locs ht hvm hw hB hz1 hk1 hS => ?_)
                  obtain ⟨hP, hD⟩ := wj_0 hFc ht hB
                  exact J183 r41.1 r41.2.1 r41.2.2 H locs hP hD hS ls (lv_sub hl [1] rfl) hf
                · replace hf := wb_t hc hf
                  refine lv_aload_n hx hb dX12_house_171 rfl (lv_at hl 1 rfl) ?_
                  obtain ⟨r42, hr42, hf⟩ := wb_b hf
                  have hPc := hP
                  have hDc := hD
                  have hFc := wj_F hDc hS hA
                  refine va_callv (va_runV (As := []) (rest := []) ⟨hx, hb, hml, hown, hts⟩ (cn_X12_readsHand l D cB cI cZ N a0 I0_l120 L0_l120 M0_l120 H.size r42 hr42) (cwV 0 hts gX12_house_X12_readsHand rfl rfl rfl cdX12_readsHand ⟨Nat.le_of_ble_eq_true rfl, Nat.le_of_ble_eq_true rfl⟩) (wb_preDV hPc hK hDc (wr_12 hK hP (q0 := 0) rfl)) rfl rfl hl.1 rfl (lv_room (Nat.le_of_ble_eq_true rfl)) dX12_house_172 ⟨Nat.le_of_ble_eq_true rfl, Nat.le_of_ble_eq_true rfl⟩) hS (fun q _ h => hFc q h) hFc (fun u t H locs ht hvm hw hB hz1 hk1 hS => ?_)
                  obtain ⟨hP, hD⟩ := wj_0 hFc ht hB
                  refine lv_goto (tgt := 183) hx hb dX12_house_175 (by decide) ?_
                  exact J183 r42.1 r42.2.1 r42.2.2 H locs hP hD hS ls (lv_sub hl [1] rfl) hf
              · replace hf := wb_t hc hf
                refine lv_aload_n hx hb dX12_house_158 rfl (lv_at hl 1 rfl) ?_
                obtain ⟨r43, hr43, hf⟩ := wb_b hf
                have hPc := hP
                have hDc := hD
                have hFc := wj_F hDc hS hA
                refine va_callv (va_runV (As := []) (rest := []) ⟨hx, hb, hml, hown, hts⟩ (cn_X12_readsClimate l D cB cI cZ N a0 I0_l120 L0_l120 M0_l120 H.size r43 hr43) (cwV 0 hts gX12_house_X12_readsClimate rfl rfl rfl cdX12_readsClimate ⟨Nat.le_of_ble_eq_true rfl, Nat.le_of_ble_eq_true rfl⟩) (wb_preDV hPc hK hDc (wr_12 hK hP (q0 := 0) rfl)) rfl rfl hl.1 rfl (lv_room (Nat.le_of_ble_eq_true rfl)) dX12_house_159 ⟨Nat.le_of_ble_eq_true rfl, Nat.le_of_ble_eq_true rfl⟩) hS (fun q _ h => hFc q h) hFc (fun u t H locs ht hvm hw hB hz1 hk1 hS => ?_)
                obtain ⟨hP, hD⟩ := wj_0 hFc ht hB
                refine lv_goto (tgt := 183) hx hb dX12_house_162 (by decide) ?_
                exact J183 r43.1 r43.2.1 r43.2.2 H locs hP hD hS ls (lv_sub hl [1] rfl) hf
            · replace hf := wb_t hc hf
              refine lv_aload_n hx hb dX12_house_145 rfl (lv_at hl 1 rfl) ?_
              obtain ⟨r44, hr44, hf⟩ := wb_b hf
              have hPc := hP
              have hDc := hD
              have hFc := wj_F hDc hS hA
              refine va_callv (va_runV (As := []) (rest := []) ⟨hx, hb, hml, hown, hts⟩ (cn_X12_readsSet l D cB cI cZ N a0 I0_l120 L0_l120 M0_l120 H.size r44 hr44) (cwV 0 hts gX12_house_X12_readsSet rfl rfl rfl cdX12_readsSet ⟨Nat.le_of_ble_eq_true rfl, Nat.le_of_ble_eq_true rfl⟩) (wb_preDV hPc hK hDc (wr_12 hK hP (q0 := 0) rfl)) rfl rfl hl.1 rfl (lv_room (Nat.le_of_ble_eq_true rfl)) dX12_house_146 ⟨Nat.le_of_ble_eq_true rfl, Nat.le_of_ble_eq_true rfl⟩) hS (fun q _ h => hFc q h) hFc (fun u t H locs ht hvm hw hB hz1 hk1 hS => ?_)
              obtain ⟨hP, hD⟩ := wj_0 hFc ht hB
              refine lv_goto (tgt := 183) hx hb dX12_house_149 (by decide) ?_
              exact J183 r44.1 r44.2.1 r44.2.2 H locs hP hD hS ls (lv_sub hl [1] rfl) hf
    exact Lh120 N I0_22 r20.2.2.1 M0_36 H locs hP hD hS ls (lv_sub hl [0] rfl) hf
  · replace hf := wb_t hc hf
    refine lv_iconst (v := (0 : Int32)) hx hb dX12_house_18 (by decide) ?_
    exact W.iret (v := (0 : Int32)) hx hb hr (fun t ht hW => by rw [← Option.some.inj hf]; exact ⟨⟨(0 : Int32), (), rfl, rfl, by rw [ht]; exact hP, va_K.moved hW.alike hK, hD⟩, hS.F ht⟩) hS.2.2 dX12_house_19

set_option maxHeartbeats 4000000 in
set_option maxRecDepth 100000 in
theorem cn_X12_isBook (l : Launch) (D : va_G) (cB cI cZ : ClassId) (N : Nat) (a0 : Nat → Nat) (I0 : Nat → Int32) (L0 : Int64) (M0 : Nat → Nat → Int32) (x1 : Int32) (sz : Nat) (R : Int32 × (Nat → Int32) × Int64 × (Nat → Nat → Int32)) (hf : fX12_isBook N I0 L0 M0 x1 = some R) : Met l yX12_isBook wsX12_isBook ({ frames := 1, cells := 0, slots := 0, locals := 22 }) (va_Pc [.ref (a0 0), .int x1] (wb_preD D [(cB, .byte), (cI, .int), (cZ, .boolean)] (wWX12 cB cI cZ a0 I0 L0 M0) sz)) (va_Qi (fun r (_ : Unit) => r = R.1) (fun _ t => wb_post D [(cB, .byte), (cI, .int), (cZ, .boolean)] (va_A (wWX12 cB cI cZ a0 I0 L0 M0) sz) (wWX12 cB cI cZ a0 R.2.1 R.2.2.1 R.2.2.2) t) (va_A (wWX12 cB cI cZ a0 I0 L0 M0) sz)) 0 0 (va_A (wWX12 cB cI cZ a0 I0 L0 M0) sz) := by
  refine Met.ofW (cc := cX12_isBook) (maxL := 2) (ret := (some .boolean)) pn_X12 rfl ?_
  intro p e s m args below meth c s₁ B hml hv
  obtain ⟨rfl, hsz, hP, hK, hD0⟩ := hv
  have hx := B.exec
  have hb := B.bytes
  have hr := B.returns
  have hts := atoms_spec (ws := wsX12_isBook) B.pre
  have hown : s.vm.findClass RX12 = some m.cls := (findClass_of_methodNamed B.named :)
  have hlocks := B.notSynchronized
  subst hsz
  have hD := hD0.self (sz := s.heap.size)
  generalize hAe : va_A (wWX12 cB cI cZ a0 I0 L0 M0) s.heap.size = A at hD ⊢
  have hA : ∀ q : Nat, s.heap.size ≤ q → A q := fun q h => by rw [← hAe]; exact Or.inr h
  have hS : va_S A s.heap s.heap [] := va_S.rf
  have hl := lv_entry ([.ref (a0 0), .int x1]) (n := 2) (Nat.le_of_ble_eq_true rfl)
  rw [lg_entry_eq]
  generalize (lg_sl ([.ref (a0 0), .int x1]) ++ List.replicate (2 - (lg_sl ([.ref (a0 0), .int x1])).length) Slot.unset).toArray = ls at hl ⊢
  have hl : lv_has ls 2 [(0, .ref (a0 0)), (1, .int x1)] := hl
  unfold fX12_isBook at hf
  obtain ⟨H, hHe⟩ : ∃ H : Heap, H = s.heap := ⟨_, rfl⟩
  obtain ⟨locs, hle⟩ : ∃ locs : List Loc, locs = [] := ⟨_, rfl⟩
  refine wb_start (H := H) (locs := locs) hHe hle ?_
  rw [← hHe] at hP
  have hS : va_S A s.heap H locs := by rw [hHe, hle]; exact va_S.rf
  refine lv_aload_n hx hb dX12_isBook_0 rfl (lv_at hl 0 rfl) ?_
  refine lv_iload_n hx hb dX12_isBook_1 rfl (lv_at hl 1 rfl) ?_
  refine lv_if_lt (tgt := 15) hx hb dX12_isBook_2 (by decide) (fun hc => ?_) (fun hc => ?_)
  · replace hf := wb_t hc hf
    refine lv_iconst (v := (0 : Int32)) hx hb dX12_isBook_15 (by decide) ?_
    refine lv_iconst (v := (1 : Int32)) hx hb dX12_isBook_16 (by decide) ?_
    obtain ⟨r1, hr1, hf⟩ := wb_b hf
    have hPc := hP
    have hDc := hD
    have hFc := wj_F hDc hS hA
    refine va_calli (va_runV (As := [.int (0 : Int32), .int (1 : Int32)]) (rest := []) ⟨hx, hb, hml, hown, hts⟩ (cn_X12_right l D cB cI cZ N a0 I0 L0 M0 (0 : Int32) (1 : Int32) H.size r1 hr1) (cwV 2 hts gX12_isBook_X12_right rfl rfl rfl cdX12_right ⟨Nat.le_of_ble_eq_true rfl, Nat.le_of_ble_eq_true rfl⟩) (wb_preDV hPc hK hDc (wr_12 hK hP (q0 := 0) rfl)) rfl rfl hl.1 rfl (lv_room (Nat.le_of_ble_eq_true rfl)) dX12_isBook_17 ⟨Nat.le_of_ble_eq_true rfl, Nat.le_of_ble_eq_true rfl⟩) hS (fun q _ h => hFc q h) hFc (fun r9 u t H locs ht hvm hw hB hz1 hk1 hS => ?_)
    obtain ⟨hP, hD⟩ := wj_0 hFc ht hB
    rw [hw]
    obtain ⟨hz, hf⟩ := wb_y hf
    exact W.zret (v := r1.1) hx hb hr (congrArg Value.int hz) (fun t ht hW => by rw [← Option.some.inj hf]; exact ⟨⟨r1.1, (), rfl, rfl, by rw [ht]; exact hP, va_K.moved hW.alike hK, hD⟩, hS.F ht⟩) hS.2.2 dX12_isBook_20
  · replace hf := wb_f hc hf
    refine lv_iload_n hx hb dX12_isBook_5 rfl (lv_at hl 1 rfl) ?_
    refine lv_bipush (v := (6 : Int32)) hx hb dX12_isBook_6 (by decide) ?_
    refine lv_icmp_ge (tgt := 15) hx hb dX12_isBook_8 (by decide) (fun hc => ?_) (fun hc => ?_)
    · replace hf := wb_t hc hf
      refine lv_iconst (v := (0 : Int32)) hx hb dX12_isBook_15 (by decide) ?_
      refine lv_iconst (v := (1 : Int32)) hx hb dX12_isBook_16 (by decide) ?_
      obtain ⟨r2, hr2, hf⟩ := wb_b hf
      have hPc := hP
      have hDc := hD
      have hFc := wj_F hDc hS hA
      refine va_calli (va_runV (As := [.int (0 : Int32), .int (1 : Int32)]) (rest := []) ⟨hx, hb, hml, hown, hts⟩ (cn_X12_right l D cB cI cZ N a0 I0 L0 M0 (0 : Int32) (1 : Int32) H.size r2 hr2) (cwV 2 hts gX12_isBook_X12_right rfl rfl rfl cdX12_right ⟨Nat.le_of_ble_eq_true rfl, Nat.le_of_ble_eq_true rfl⟩) (wb_preDV hPc hK hDc (wr_12 hK hP (q0 := 0) rfl)) rfl rfl hl.1 rfl (lv_room (Nat.le_of_ble_eq_true rfl)) dX12_isBook_17 ⟨Nat.le_of_ble_eq_true rfl, Nat.le_of_ble_eq_true rfl⟩) hS (fun q _ h => hFc q h) hFc (fun r9 u t H locs ht hvm hw hB hz1 hk1 hS => ?_)
      obtain ⟨hP, hD⟩ := wj_0 hFc ht hB
      rw [hw]
      obtain ⟨hz, hf⟩ := wb_y hf
      exact W.zret (v := r2.1) hx hb hr (congrArg Value.int hz) (fun t ht hW => by rw [← Option.some.inj hf]; exact ⟨⟨r2.1, (), rfl, rfl, by rw [ht]; exact hP, va_K.moved hW.alike hK, hD⟩, hS.F ht⟩) hS.2.2 dX12_isBook_20
    · replace hf := wb_f hc hf
      refine lv_iconst (v := (1 : Int32)) hx hb dX12_isBook_11 (by decide) ?_
      refine lv_goto (tgt := 16) hx hb dX12_isBook_12 (by decide) ?_
      refine lv_iconst (v := (1 : Int32)) hx hb dX12_isBook_16 (by decide) ?_
      obtain ⟨r3, hr3, hf⟩ := wb_b hf
      have hPc := hP
      have hDc := hD
      have hFc := wj_F hDc hS hA
      refine va_calli (va_runV (As := [.int (1 : Int32), .int (1 : Int32)]) (rest := []) ⟨hx, hb, hml, hown, hts⟩ (cn_X12_right l D cB cI cZ N a0 I0 L0 M0 (1 : Int32) (1 : Int32) H.size r3 hr3) (cwV 2 hts gX12_isBook_X12_right rfl rfl rfl cdX12_right ⟨Nat.le_of_ble_eq_true rfl, Nat.le_of_ble_eq_true rfl⟩) (wb_preDV hPc hK hDc (wr_12 hK hP (q0 := 0) rfl)) rfl rfl hl.1 rfl (lv_room (Nat.le_of_ble_eq_true rfl)) dX12_isBook_17 ⟨Nat.le_of_ble_eq_true rfl, Nat.le_of_ble_eq_true rfl⟩) hS (fun q _ h => hFc q h) hFc (fun r9 u t H locs ht hvm hw hB hz1 hk1 hS => ?_)
      obtain ⟨hP, hD⟩ := wj_0 hFc ht hB
      rw [hw]
      obtain ⟨hz, hf⟩ := wb_y hf
      exact W.zret (v := r3.1) hx hb hr (congrArg Value.int hz) (fun t ht hW => by rw [← Option.some.inj hf]; exact ⟨⟨r3.1, (), rfl, rfl, by rw [ht]; exact hP, va_K.moved hW.alike hK, hD⟩, hS.F ht⟩) hS.2.2 dX12_isBook_20

set_option maxHeartbeats 4000000 in
set_option maxRecDepth 100000 in
theorem cn_X12_isWheel (l : Launch) (D : va_G) (cB cI cZ : ClassId) (N : Nat) (a0 : Nat → Nat) (I0 : Nat → Int32) (L0 : Int64) (M0 : Nat → Nat → Int32) (x1 : Int32) (x2 : Int32) (sz : Nat) (R : Int32 × (Nat → Int32) × Int64 × (Nat → Nat → Int32)) (hf : fX12_isWheel N I0 L0 M0 x1 x2 = some R) : Met l yX12_isWheel wsX12_isWheel ({ frames := 1, cells := 0, slots := 0, locals := 22 }) (va_Pc [.ref (a0 0), .int x1, .int x2] (wb_preD D [(cB, .byte), (cI, .int), (cZ, .boolean)] (wWX12 cB cI cZ a0 I0 L0 M0) sz)) (va_Qi (fun r (_ : Unit) => r = R.1) (fun _ t => wb_post D [(cB, .byte), (cI, .int), (cZ, .boolean)] (va_A (wWX12 cB cI cZ a0 I0 L0 M0) sz) (wWX12 cB cI cZ a0 R.2.1 R.2.2.1 R.2.2.2) t) (va_A (wWX12 cB cI cZ a0 I0 L0 M0) sz)) 0 0 (va_A (wWX12 cB cI cZ a0 I0 L0 M0) sz) := by
  refine Met.ofW (cc := cX12_isWheel) (maxL := 3) (ret := (some .boolean)) pn_X12 rfl ?_
  intro p e s m args below meth c s₁ B hml hv
  obtain ⟨rfl, hsz, hP, hK, hD0⟩ := hv
  have hx := B.exec
  have hb := B.bytes
  have hr := B.returns
  have hts := atoms_spec (ws := wsX12_isWheel) B.pre
  have hown : s.vm.findClass RX12 = some m.cls := (findClass_of_methodNamed B.named :)
  have hlocks := B.notSynchronized
  have hinX12 : ∀ w ∈ u_ws RX12 TX12 58, w ∈ wsX12_isWheel := fun w h => List.mem_cons_of_mem _ (List.mem_append_right _ h)
  subst hsz
  have hD := hD0.self (sz := s.heap.size)
  generalize hAe : va_A (wWX12 cB cI cZ a0 I0 L0 M0) s.heap.size = A at hD ⊢
  have hA : ∀ q : Nat, s.heap.size ≤ q → A q := fun q h => by rw [← hAe]; exact Or.inr h
  have hS : va_S A s.heap s.heap [] := va_S.rf
  have hl := lv_entry ([.ref (a0 0), .int x1, .int x2]) (n := 3) (Nat.le_of_ble_eq_true rfl)
  rw [lg_entry_eq]
  generalize (lg_sl ([.ref (a0 0), .int x1, .int x2]) ++ List.replicate (3 - (lg_sl ([.ref (a0 0), .int x1, .int x2])).length) Slot.unset).toArray = ls at hl ⊢
  have hl : lv_has ls 3 [(0, .ref (a0 0)), (1, .int x1), (2, .int x2)] := hl
  unfold fX12_isWheel at hf
  obtain ⟨H, hHe⟩ : ∃ H : Heap, H = s.heap := ⟨_, rfl⟩
  obtain ⟨locs, hle⟩ : ∃ locs : List Loc, locs = [] := ⟨_, rfl⟩
  refine wb_start (H := H) (locs := locs) hHe hle ?_
  rw [← hHe] at hP
  have hS : va_S A s.heap H locs := by rw [hHe, hle]; exact va_S.rf
  refine lv_aload_n hx hb dX12_isWheel_0 rfl (lv_at hl 0 rfl) ?_
  refine lv_iconst (v := (0 : Int32)) hx hb dX12_isWheel_1 (by decide) ?_
  refine va_put (D := D) (ci := 12) (v := .int (0 : Int32)) (ty := .int) (C := RX12) (T := TX12) (N := 58) hx hb hts hinX12 tyX12 tyX12_ok nmX12 hown hK hP hD hS 0 rfl rfl 0 (by decide) (hts (.fieldLink RX12 129 "WheelBookModel" "thrown" "I") (List.mem_of_getElem? (i := 1) rfl)) (fun _ h9 => h9) rfl (by decide +kernel) rfl rfl (Nat.le_of_ble_eq_true rfl) dX12_isWheel_2 (fun H locs hP hD hS => ?_)
  have hP : va_P D vwCl (wWX12 cB cI cZ a0 (upd I0 0 (0 : Int32)) L0 M0) H := hP
  have hD : va_D A (wWX12 cB cI cZ a0 (upd I0 0 (0 : Int32)) L0 M0) := hD
  obtain ⟨I0_1, eI0_1, hf⟩ := wb_v hf
  rw [← eI0_1] at hP hD
  refine lv_aload_n hx hb dX12_isWheel_5 rfl (lv_at hl 0 rfl) ?_
  refine lv_iload_n hx hb dX12_isWheel_6 rfl (lv_at hl 1 rfl) ?_
  refine lv_if_lt (tgt := 30) hx hb dX12_isWheel_7 (by decide) (fun hc => ?_) (fun hc => ?_)
  · replace hf := wb_t hc hf
    refine lv_iconst (v := (0 : Int32)) hx hb dX12_isWheel_30 (by decide) ?_
    refine lv_iconst (v := (1 : Int32)) hx hb dX12_isWheel_31 (by decide) ?_
    obtain ⟨r2, hr2, hf⟩ := wb_b hf
    have hPc := hP
    have hDc := hD
    have hFc := wj_F hDc hS hA
    refine va_calli (va_runV (As := [.int (0 : Int32), .int (1 : Int32)]) (rest := []) ⟨hx, hb, hml, hown, hts⟩ (cn_X12_right l D cB cI cZ N a0 I0_1 L0 M0 (0 : Int32) (1 : Int32) H.size r2 hr2) (cwV 2 hts gX12_isWheel_X12_right rfl rfl rfl cdX12_right ⟨Nat.le_of_ble_eq_true rfl, Nat.le_of_ble_eq_true rfl⟩) (wb_preDV hPc hK hDc (wr_12 hK hP (q0 := 0) rfl)) rfl rfl hl.1 rfl (lv_room (Nat.le_of_ble_eq_true rfl)) dX12_isWheel_32 ⟨Nat.le_of_ble_eq_true rfl, Nat.le_of_ble_eq_true rfl⟩) hS (fun q _ h => hFc q h) hFc (fun r9 u t H locs ht hvm hw hB hz1 hk1 hS => ?_)
    obtain ⟨hP, hD⟩ := wj_0 hFc ht hB
    rw [hw]
    obtain ⟨hz, hf⟩ := wb_y hf
    exact W.zret (v := r2.1) hx hb hr (congrArg Value.int hz) (fun t ht hW => by rw [← Option.some.inj hf]; exact ⟨⟨r2.1, (), rfl, rfl, by rw [ht]; exact hP, va_K.moved hW.alike hK, hD⟩, hS.F ht⟩) hS.2.2 dX12_isWheel_35
  · replace hf := wb_f hc hf
    refine lv_iload_n hx hb dX12_isWheel_10 rfl (lv_at hl 1 rfl) ?_
    refine lv_bipush (v := (6 : Int32)) hx hb dX12_isWheel_11 (by decide) ?_
    refine lv_icmp_ge (tgt := 30) hx hb dX12_isWheel_13 (by decide) (fun hc => ?_) (fun hc => ?_)
    · replace hf := wb_t hc hf
      refine lv_iconst (v := (0 : Int32)) hx hb dX12_isWheel_30 (by decide) ?_
      refine lv_iconst (v := (1 : Int32)) hx hb dX12_isWheel_31 (by decide) ?_
      obtain ⟨r3, hr3, hf⟩ := wb_b hf
      have hPc := hP
      have hDc := hD
      have hFc := wj_F hDc hS hA
      refine va_calli (va_runV (As := [.int (0 : Int32), .int (1 : Int32)]) (rest := []) ⟨hx, hb, hml, hown, hts⟩ (cn_X12_right l D cB cI cZ N a0 I0_1 L0 M0 (0 : Int32) (1 : Int32) H.size r3 hr3) (cwV 2 hts gX12_isWheel_X12_right rfl rfl rfl cdX12_right ⟨Nat.le_of_ble_eq_true rfl, Nat.le_of_ble_eq_true rfl⟩) (wb_preDV hPc hK hDc (wr_12 hK hP (q0 := 0) rfl)) rfl rfl hl.1 rfl (lv_room (Nat.le_of_ble_eq_true rfl)) dX12_isWheel_32 ⟨Nat.le_of_ble_eq_true rfl, Nat.le_of_ble_eq_true rfl⟩) hS (fun q _ h => hFc q h) hFc (fun r9 u t H locs ht hvm hw hB hz1 hk1 hS => ?_)
      obtain ⟨hP, hD⟩ := wj_0 hFc ht hB
      rw [hw]
      obtain ⟨hz, hf⟩ := wb_y hf
      exact W.zret (v := r3.1) hx hb hr (congrArg Value.int hz) (fun t ht hW => by rw [← Option.some.inj hf]; exact ⟨⟨r3.1, (), rfl, rfl, by rw [ht]; exact hP, va_K.moved hW.alike hK, hD⟩, hS.F ht⟩) hS.2.2 dX12_isWheel_35
    · replace hf := wb_f hc hf
      refine lv_iload_n hx hb dX12_isWheel_16 rfl (lv_at hl 2 rfl) ?_
      refine lv_if_lt (tgt := 30) hx hb dX12_isWheel_17 (by decide) (fun hc => ?_) (fun hc => ?_)
      · replace hf := wb_t hc hf
        refine lv_iconst (v := (0 : Int32)) hx hb dX12_isWheel_30 (by decide) ?_
        refine lv_iconst (v := (1 : Int32)) hx hb dX12_isWheel_31 (by decide) ?_
        obtain ⟨r4, hr4, hf⟩ := wb_b hf
        have hPc := hP
        have hDc := hD
        have hFc := wj_F hDc hS hA
        refine va_calli (va_runV (As := [.int (0 : Int32), .int (1 : Int32)]) (rest := []) ⟨hx, hb, hml, hown, hts⟩ (cn_X12_right l D cB cI cZ N a0 I0_1 L0 M0 (0 : Int32) (1 : Int32) H.size r4 hr4) (cwV 2 hts gX12_isWheel_X12_right rfl rfl rfl cdX12_right ⟨Nat.le_of_ble_eq_true rfl, Nat.le_of_ble_eq_true rfl⟩) (wb_preDV hPc hK hDc (wr_12 hK hP (q0 := 0) rfl)) rfl rfl hl.1 rfl (lv_room (Nat.le_of_ble_eq_true rfl)) dX12_isWheel_32 ⟨Nat.le_of_ble_eq_true rfl, Nat.le_of_ble_eq_true rfl⟩) hS (fun q _ h => hFc q h) hFc (fun r9 u t H locs ht hvm hw hB hz1 hk1 hS => ?_)
        obtain ⟨hP, hD⟩ := wj_0 hFc ht hB
        rw [hw]
        obtain ⟨hz, hf⟩ := wb_y hf
        exact W.zret (v := r4.1) hx hb hr (congrArg Value.int hz) (fun t ht hW => by rw [← Option.some.inj hf]; exact ⟨⟨r4.1, (), rfl, rfl, by rw [ht]; exact hP, va_K.moved hW.alike hK, hD⟩, hS.F ht⟩) hS.2.2 dX12_isWheel_35
      · replace hf := wb_f hc hf
        refine lv_iload_n hx hb dX12_isWheel_20 rfl (lv_at hl 2 rfl) ?_
        refine lv_bipush (v := (20 : Int32)) hx hb dX12_isWheel_21 (by decide) ?_
        refine lv_icmp_ge (tgt := 30) hx hb dX12_isWheel_23 (by decide) (fun hc => ?_) (fun hc => ?_)
        · replace hf := wb_t hc hf
          refine lv_iconst (v := (0 : Int32)) hx hb dX12_isWheel_30 (by decide) ?_
          refine lv_iconst (v := (1 : Int32)) hx hb dX12_isWheel_31 (by decide) ?_
          obtain ⟨r5, hr5, hf⟩ := wb_b hf
          have hPc := hP
          have hDc := hD
          have hFc := wj_F hDc hS hA
          refine va_calli (va_runV (As := [.int (0 : Int32), .int (1 : Int32)]) (rest := []) ⟨hx, hb, hml, hown, hts⟩ (cn_X12_right l D cB cI cZ N a0 I0_1 L0 M0 (0 : Int32) (1 : Int32) H.size r5 hr5) (cwV 2 hts gX12_isWheel_X12_right rfl rfl rfl cdX12_right ⟨Nat.le_of_ble_eq_true rfl, Nat.le_of_ble_eq_true rfl⟩) (wb_preDV hPc hK hDc (wr_12 hK hP (q0 := 0) rfl)) rfl rfl hl.1 rfl (lv_room (Nat.le_of_ble_eq_true rfl)) dX12_isWheel_32 ⟨Nat.le_of_ble_eq_true rfl, Nat.le_of_ble_eq_true rfl⟩) hS (fun q _ h => hFc q h) hFc (fun r9 u t H locs ht hvm hw hB hz1 hk1 hS => ?_)
          obtain ⟨hP, hD⟩ := wj_0 hFc ht hB
          rw [hw]
          obtain ⟨hz, hf⟩ := wb_y hf
          exact W.zret (v := r5.1) hx hb hr (congrArg Value.int hz) (fun t ht hW => by rw [← Option.some.inj hf]; exact ⟨⟨r5.1, (), rfl, rfl, by rw [ht]; exact hP, va_K.moved hW.alike hK, hD⟩, hS.F ht⟩) hS.2.2 dX12_isWheel_35
        · replace hf := wb_f hc hf
          refine lv_iconst (v := (1 : Int32)) hx hb dX12_isWheel_26 (by decide) ?_
          refine lv_goto (tgt := 31) hx hb dX12_isWheel_27 (by decide) ?_
          refine lv_iconst (v := (1 : Int32)) hx hb dX12_isWheel_31 (by decide) ?_
          obtain ⟨r6, hr6, hf⟩ := wb_b hf
          have hPc := hP
          have hDc := hD
          have hFc := wj_F hDc hS hA
          refine va_calli (va_runV (As := [.int (1 : Int32), .int (1 : Int32)]) (rest := []) ⟨hx, hb, hml, hown, hts⟩ (cn_X12_right l D cB cI cZ N a0 I0_1 L0 M0 (1 : Int32) (1 : Int32) H.size r6 hr6) (cwV 2 hts gX12_isWheel_X12_right rfl rfl rfl cdX12_right ⟨Nat.le_of_ble_eq_true rfl, Nat.le_of_ble_eq_true rfl⟩) (wb_preDV hPc hK hDc (wr_12 hK hP (q0 := 0) rfl)) rfl rfl hl.1 rfl (lv_room (Nat.le_of_ble_eq_true rfl)) dX12_isWheel_32 ⟨Nat.le_of_ble_eq_true rfl, Nat.le_of_ble_eq_true rfl⟩) hS (fun q _ h => hFc q h) hFc (fun r9 u t H locs ht hvm hw hB hz1 hk1 hS => ?_)
          obtain ⟨hP, hD⟩ := wj_0 hFc ht hB
          rw [hw]
          obtain ⟨hz, hf⟩ := wb_y hf
          exact W.zret (v := r6.1) hx hb hr (congrArg Value.int hz) (fun t ht hW => by rw [← Option.some.inj hf]; exact ⟨⟨r6.1, (), rfl, rfl, by rw [ht]; exact hP, va_K.moved hW.alike hK, hD⟩, hS.F ht⟩) hS.2.2 dX12_isWheel_35

set_option maxHeartbeats 4000000 in
set_option maxRecDepth 100000 in
theorem cn_X12_readsEntry (l : Launch) (D : va_G) (cB cI cZ : ClassId) (N : Nat) (a0 : Nat → Nat) (I0 : Nat → Int32) (L0 : Int64) (M0 : Nat → Nat → Int32) (sz : Nat) (R : (Nat → Int32) × Int64 × (Nat → Nat → Int32)) (hf : fX12_readsEntry N I0 L0 M0 = some R) : Met l yX12_readsEntry wsX12_readsEntry ({ frames := 3, cells := 0, slots := 0, locals := 69 }) (va_Pc [.ref (a0 0)] (wb_preD D [(cB, .byte), (cI, .int), (cZ, .boolean)] (wWX12 cB cI cZ a0 I0 L0 M0) sz)) (va_Qv (fun _ : Unit => True) (fun _ t => wb_post D [(cB, .byte), (cI, .int), (cZ, .boolean)] (va_A (wWX12 cB cI cZ a0 I0 L0 M0) sz) (wWX12 cB cI cZ a0 R.1 R.2.1 R.2.2) t) (va_A (wWX12 cB cI cZ a0 I0 L0 M0) sz)) 0 0 (va_A (wWX12 cB cI cZ a0 I0 L0 M0) sz) := by
  refine Met.ofW (cc := cX12_readsEntry) (maxL := 5) (ret := none) pn_X12 rfl ?_
  intro p e s m args below meth c s₁ B hml hv
  obtain ⟨rfl, hsz, hP, hK, hD0⟩ := hv
  have hx := B.exec
  have hb := B.bytes
  have hr := B.returns
  have hts := atoms_spec (ws := wsX12_readsEntry) B.pre
  have hown : s.vm.findClass RX12 = some m.cls := (findClass_of_methodNamed B.named :)
  have hlocks := B.notSynchronized
  have hinX12 : ∀ w ∈ u_ws RX12 TX12 58, w ∈ wsX12_readsEntry := fun w h => List.mem_cons_of_mem _ (List.mem_append_right _ h)
  subst hsz
  have hD := hD0.self (sz := s.heap.size)
  generalize hAe : va_A (wWX12 cB cI cZ a0 I0 L0 M0) s.heap.size = A at hD ⊢
  have hA : ∀ q : Nat, s.heap.size ≤ q → A q := fun q h => by rw [← hAe]; exact Or.inr h
  have hS : va_S A s.heap s.heap [] := va_S.rf
  have hl := lv_entry ([.ref (a0 0)]) (n := 5) (Nat.le_of_ble_eq_true rfl)
  rw [lg_entry_eq]
  generalize (lg_sl ([.ref (a0 0)]) ++ List.replicate (5 - (lg_sl ([.ref (a0 0)])).length) Slot.unset).toArray = ls at hl ⊢
  have hl : lv_has ls 5 [(0, .ref (a0 0))] := hl
  unfold fX12_readsEntry at hf
  obtain ⟨H, hHe⟩ : ∃ H : Heap, H = s.heap := ⟨_, rfl⟩
  obtain ⟨locs, hle⟩ : ∃ locs : List Loc, locs = [] := ⟨_, rfl⟩
  refine wb_start (H := H) (locs := locs) hHe hle ?_
  rw [← hHe] at hP
  have hS : va_S A s.heap H locs := by rw [hHe, hle]; exact va_S.rf
  have J193 : ∀ (I0_j193 : Nat → Int32) (L0_j193 : Int64) (M0_j193 : Nat → Nat → Int32) (H : Heap) (locs : List Loc), va_P D vwCl (wWX12 cB cI cZ a0 I0_j193 L0_j193 M0_j193) H → va_D A (wWX12 cB cI cZ a0 I0_j193 L0_j193 M0_j193) → va_S A s.heap H locs → ∀ (ls : Array Slot), lv_has ls 5 [(0, .ref (a0 0))] → fX12_readsEntry_J193 N I0_j193 L0_j193 M0_j193 = some R → W p l e (headSpec wsX12_readsEntry { frames := 3, cells := 0, slots := 0, locals := 69 }).room s m [.ref (a0 0)].toArray below meth c H locs 0 0 (MQ below (va_Qv (fun _ : Unit => True) (fun _ t => wb_post D [(cB, .byte), (cI, .int), (cZ, .boolean)] A (wWX12 cB cI cZ a0 R.1 R.2.1 R.2.2) t) A) [.ref (a0 0)].toArray s 0 0 A) (F0 m 193 ls []) := by
    intro I0_j193 L0_j193 M0_j193 H locs hP hD hS ls hl hf
    unfold fX12_readsEntry_J193 at hf
    refine lv_aload_n hx hb dX12_readsEntry_193 rfl (lv_at hl 0 rfl) ?_
    refine lv_aload_n hx hb dX12_readsEntry_194 rfl (lv_at hl 0 rfl) ?_
    refine va_get (D := D) (ci := 12) (v := .int (I0_j193 8)) (C := RX12) (T := TX12) (N := 58) hx hb hts hinX12 hown hK hP 0 rfl rfl 17 (by decide) (hts (.fieldLink RX12 159 "WheelBookModel" "sort" "I") (List.mem_of_getElem? (i := 5) rfl)) (fun _ h9 => h9) rfl dX12_readsEntry_195 ?_
    refine lv_iconst (v := (3 : Int32)) hx hb dX12_readsEntry_198 (by decide) ?_
    refine lv_icmp_ne (tgt := 206) hx hb dX12_readsEntry_199 (by decide) (fun hc => ?_) (fun hc => ?_)
    · replace hf := wb_f hc hf
      refine lv_iconst (v := (0 : Int32)) hx hb dX12_readsEntry_206 (by decide) ?_
      obtain ⟨r1, hr1, hf⟩ := wb_b hf
      have hPc := hP
      have hDc := hD
      have hFc := wj_F hDc hS hA
      refine va_callv (va_runV (As := [.int (0 : Int32)]) (rest := []) ⟨hx, hb, hml, hown, hts⟩ (cn_X12_need l D cB cI cZ N a0 I0_j193 L0_j193 M0_j193 (0 : Int32) H.size r1 hr1) (cwV 1 hts gX12_readsEntry_X12_need rfl rfl rfl cdX12_need ⟨Nat.le_of_ble_eq_true rfl, Nat.le_of_ble_eq_true rfl⟩) (wb_preDV hPc hK hDc (wr_12 hK hP (q0 := 0) rfl)) rfl rfl hl.1 rfl (lv_room (Nat.le_of_ble_eq_true rfl)) dX12_readsEntry_207 ⟨Nat.le_of_ble_eq_true rfl, Nat.le_of_ble_eq_true rfl⟩) hS (fun q _ h => hFc q h) hFc (fun u t H locs ht hvm hw hB hz1 hk1 hS => ?_)
      obtain ⟨hP, hD⟩ := wj_0 hFc ht hB
      exact W.vret hx hb hr (fun t ht hW => by rw [← Option.some.inj hf]; exact ⟨⟨(), rfl, trivial, by rw [ht]; exact hP, va_K.moved hW.alike hK, hD⟩, hS.F ht⟩) hS.2.2 dX12_readsEntry_210
    · replace hf := wb_t hc hf
      refine lv_iconst (v := (1 : Int32)) hx hb dX12_readsEntry_202 (by decide) ?_
      refine lv_goto (tgt := 207) hx hb dX12_readsEntry_203 (by decide) ?_
      obtain ⟨r2, hr2, hf⟩ := wb_b hf
      have hPc := hP
      have hDc := hD
      have hFc := wj_F hDc hS hA
      refine va_callv (va_runV (As := [.int (1 : Int32)]) (rest := []) ⟨hx, hb, hml, hown, hts⟩ (cn_X12_need l D cB cI cZ N a0 I0_j193 L0_j193 M0_j193 (1 : Int32) H.size r2 hr2) (cwV 1 hts gX12_readsEntry_X12_need rfl rfl rfl cdX12_need ⟨Nat.le_of_ble_eq_true rfl, Nat.le_of_ble_eq_true rfl⟩) (wb_preDV hPc hK hDc (wr_12 hK hP (q0 := 0) rfl)) rfl rfl hl.1 rfl (lv_room (Nat.le_of_ble_eq_true rfl)) dX12_readsEntry_207 ⟨Nat.le_of_ble_eq_true rfl, Nat.le_of_ble_eq_true rfl⟩) hS (fun q _ h => hFc q h) hFc (fun u t H locs ht hvm hw hB hz1 hk1 hS => ?_)
      obtain ⟨hP, hD⟩ := wj_0 hFc ht hB
      exact W.vret hx hb hr (fun t ht hW => by rw [← Option.some.inj hf]; exact ⟨⟨(), rfl, trivial, by rw [ht]; exact hP, va_K.moved hW.alike hK, hD⟩, hS.F ht⟩) hS.2.2 dX12_readsEntry_210
  have J168 : ∀ (I0_j168 : Nat → Int32) (L0_j168 : Int64) (M0_j168 : Nat → Nat → Int32) (y168_2 : Int32) (y168_3 : Int32) (z168_0 : Int32) (z168_1 : Int32) (H : Heap) (locs : List Loc), va_P D vwCl (wWX12 cB cI cZ a0 I0_j168 L0_j168 M0_j168) H → va_D A (wWX12 cB cI cZ a0 I0_j168 L0_j168 M0_j168) → va_S A s.heap H locs → ∀ (ls : Array Slot), lv_has ls 5 [(0, .ref (a0 0)), (2, .int y168_2), (3, .int y168_3)] → fX12_readsEntry_J168 N I0_j168 L0_j168 M0_j168 y168_2 y168_3 z168_0 z168_1 = some R → W p l e (headSpec wsX12_readsEntry { frames := 3, cells := 0, slots := 0, locals := 69 }).room s m [.ref (a0 0)].toArray below meth c H locs 0 0 (MQ below (va_Qv (fun _ : Unit => True) (fun _ t => wb_post D [(cB, .byte), (cI, .int), (cZ, .boolean)] A (wWX12 cB cI cZ a0 R.1 R.2.1 R.2.2) t) A) [.ref (a0 0)].toArray s 0 0 A) (F0 m 168 ls [.int z168_0, .int z168_1, .ref (a0 0)]) := by
    intro I0_j168 L0_j168 M0_j168 y168_2 y168_3 z168_0 z168_1 H locs hP hD hS ls hl hf
    unfold fX12_readsEntry_J168 at hf
    obtain ⟨r3, hr3, hf⟩ := wb_b hf
    have hPc := hP
    have hDc := hD
    have hFc := wj_F hDc hS hA
    refine va_calli (va_runV (As := [.int z168_1, .int z168_0]) (rest := []) ⟨hx, hb, hml, hown, hts⟩ (cn_X12_number l D cB cI cZ N a0 I0_j168 L0_j168 M0_j168 z168_1 z168_0 H.size r3 hr3) (cwV 2 hts gX12_readsEntry_X12_number rfl rfl rfl cdX12_number ⟨Nat.le_of_ble_eq_true rfl, Nat.le_of_ble_eq_true rfl⟩) (wb_preDV hPc hK hDc (wr_12 hK hP (q0 := 0) rfl)) rfl rfl hl.1 rfl (lv_room (Nat.le_of_ble_eq_true rfl)) dX12_readsEntry_168 ⟨Nat.le_of_ble_eq_true rfl, Nat.le_of_ble_eq_true rfl⟩) hS (fun q _ h => hFc q h) hFc (fun r9 u t H locs ht hvm hw hB hz1 hk1 hS => ?_)
    obtain ⟨hP, hD⟩ := wj_0 hFc ht hB
    rw [hw]
    obtain ⟨v4, ev4, hf⟩ := wb_v hf
    refine wb_topi ev4 ?_
    refine lv_istore (lv' := [(4, .int v4), (0, .ref (a0 0)), (2, .int y168_2), (3, .int y168_3)]) hx hb dX12_readsEntry_171 hl (by decide) rfl (fun ls hl => ?_)
    refine lv_aload_n hx hb dX12_readsEntry_173 rfl (lv_at hl 1 rfl) ?_
    obtain ⟨r5, hr5, hf⟩ := wb_b hf
    refine vp_callSi (W.runV (As := []) (rest := []) ⟨hx, hb, hml, hown, hts⟩ (cn_X12_isGood l D cB cI cZ N a0 r3.2.1 r3.2.2.1 r3.2.2.2 r5 hr5) (cwV 0 hts gX12_readsEntry_X12_isGood rfl rfl rfl cdX12_isGood ⟨Nat.le_of_ble_eq_true rfl, Nat.le_of_ble_eq_true rfl⟩) (wb_preV hP hK (wr_12 hK hP (q0 := 0) rfl)) rfl rfl hl.1 rfl (lv_room (Nat.le_of_ble_eq_true rfl)) dX12_readsEntry_174 ⟨Nat.le_of_ble_eq_true rfl, Nat.le_of_ble_eq_true rfl⟩) (fun r9 e9 => ?_)
    rw [e9]
    refine lv_if_eq (tgt := 193) hx hb dX12_readsEntry_177 (by decide) (fun hc => ?_) (fun hc => ?_)
    · replace hf := wb_t hc hf
      exact J193 r3.2.1 r3.2.2.1 r3.2.2.2 H locs hP hD hS ls (lv_sub hl [1] rfl) hf
    · replace hf := wb_f hc hf
      refine lv_aload_n hx hb dX12_readsEntry_180 rfl (lv_at hl 1 rfl) ?_
      refine va_get (D := D) (ci := 12) (v := .ref (a0 17)) (C := RX12) (T := TX12) (N := 58) hx hb hts hinX12 hown hK hP 0 rfl rfl 32 (by decide) (hts (.fieldLink RX12 62 "WheelBookModel" "newEntries" "[I") (List.mem_of_getElem? (i := 1) rfl)) (fun _ h9 => h9) rfl dX12_readsEntry_181 ?_
      refine lv_iload_n hx hb dX12_readsEntry_184 rfl (lv_at hl 2 rfl) ?_
      refine lv_bipush (v := (30 : Int32)) hx hb dX12_readsEntry_185 (by decide) ?_
      refine lv_iload_n hx hb dX12_readsEntry_187 rfl (lv_at hl 3 rfl) ?_
      refine lv_imul hx hb dX12_readsEntry_188 ?_
      refine lv_iload hx hb dX12_readsEntry_189 (lv_at hl 0 rfl) ?_
      refine lv_iadd hx hb dX12_readsEntry_191 ?_
      obtain ⟨hin, hf⟩ := wb_n hf
      refine va_iast hx hb hK hP hD hS 17 1 rfl rfl hin dX12_readsEntry_192 (fun H locs hP hD hS => ?_)
      have hP : va_P D vwCl (wWX12 cB cI cZ a0 r3.2.1 r3.2.2.1 (wb_um r3.2.2.2 16 (y168_2).toNatClampNeg (((30 : Int32) * y168_3) + v4))) H := hP
      have hD : va_D A (wWX12 cB cI cZ a0 r3.2.1 r3.2.2.1 (wb_um r3.2.2.2 16 (y168_2).toNatClampNeg (((30 : Int32) * y168_3) + v4))) := hD
      obtain ⟨M0_6, eM0_6, hf⟩ := wb_v hf
      rw [← eM0_6] at hP hD
      exact J193 r3.2.1 r3.2.2.1 M0_6 H locs hP hD hS ls (lv_sub hl [1] rfl) hf
  have J166 : ∀ (I0_j166 : Nat → Int32) (L0_j166 : Int64) (M0_j166 : Nat → Nat → Int32) (y166_2 : Int32) (y166_3 : Int32) (z166_0 : Int32) (H : Heap) (locs : List Loc), va_P D vwCl (wWX12 cB cI cZ a0 I0_j166 L0_j166 M0_j166) H → va_D A (wWX12 cB cI cZ a0 I0_j166 L0_j166 M0_j166) → va_S A s.heap H locs → ∀ (ls : Array Slot), lv_has ls 5 [(0, .ref (a0 0)), (2, .int y166_2), (3, .int y166_3)] → fX12_readsEntry_J166 N I0_j166 L0_j166 M0_j166 y166_2 y166_3 z166_0 = some R → W p l e (headSpec wsX12_readsEntry { frames := 3, cells := 0, slots := 0, locals := 69 }).room s m [.ref (a0 0)].toArray below meth c H locs 0 0 (MQ below (va_Qv (fun _ : Unit => True) (fun _ t => wb_post D [(cB, .byte), (cI, .int), (cZ, .boolean)] A (wWX12 cB cI cZ a0 R.1 R.2.1 R.2.2) t) A) [.ref (a0 0)].toArray s 0 0 A) (F0 m 166 ls [.int z166_0, .ref (a0 0)]) := by
    intro I0_j166 L0_j166 M0_j166 y166_2 y166_3 z166_0 H locs hP hD hS ls hl hf
    unfold fX12_readsEntry_J166 at hf
    refine lv_bipush (v := (29 : Int32)) hx hb dX12_readsEntry_166 (by decide) ?_
    exact J168 I0_j166 L0_j166 M0_j166 y166_2 y166_3 (29 : Int32) z166_0 H locs hP hD hS ls (lv_sub hl [0, 1, 2] rfl) hf
  have J144 : ∀ (I0_j144 : Nat → Int32) (L0_j144 : Int64) (M0_j144 : Nat → Nat → Int32) (y144_1 : Int32) (y144_2 : Int32) (z144_0 : Int32) (z144_1 : Int32) (H : Heap) (locs : List Loc), va_P D vwCl (wWX12 cB cI cZ a0 I0_j144 L0_j144 M0_j144) H → va_D A (wWX12 cB cI cZ a0 I0_j144 L0_j144 M0_j144) → va_S A s.heap H locs → ∀ (ls : Array Slot), lv_has ls 5 [(0, .ref (a0 0)), (1, .int y144_1), (2, .int y144_2)] → fX12_readsEntry_J144 N I0_j144 L0_j144 M0_j144 y144_1 y144_2 z144_0 z144_1 = some R → W p l e (headSpec wsX12_readsEntry { frames := 3, cells := 0, slots := 0, locals := 69 }).room s m [.ref (a0 0)].toArray below meth c H locs 0 0 (MQ below (va_Qv (fun _ : Unit => True) (fun _ t => wb_post D [(cB, .byte), (cI, .int), (cZ, .boolean)] A (wWX12 cB cI cZ a0 R.1 R.2.1 R.2.2) t) A) [.ref (a0 0)].toArray s 0 0 A) (F0 m 144 ls [.int z144_0, .int z144_1, .ref (a0 0)]) := by
    intro I0_j144 L0_j144 M0_j144 y144_1 y144_2 z144_0 z144_1 H locs hP hD hS ls hl hf
    unfold fX12_readsEntry_J144 at hf
    obtain ⟨r7, hr7, hf⟩ := wb_b hf
    have hPc := hP
    have hDc := hD
    have hFc := wj_F hDc hS hA
    refine va_calli (va_runV (As := [.int z144_1, .int z144_0]) (rest := []) ⟨hx, hb, hml, hown, hts⟩ (cn_X12_number l D cB cI cZ N a0 I0_j144 L0_j144 M0_j144 z144_1 z144_0 H.size r7 hr7) (cwV 2 hts gX12_readsEntry_X12_number rfl rfl rfl cdX12_number ⟨Nat.le_of_ble_eq_true rfl, Nat.le_of_ble_eq_true rfl⟩) (wb_preDV hPc hK hDc (wr_12 hK hP (q0 := 0) rfl)) rfl rfl hl.1 rfl (lv_room (Nat.le_of_ble_eq_true rfl)) dX12_readsEntry_144 ⟨Nat.le_of_ble_eq_true rfl, Nat.le_of_ble_eq_true rfl⟩) hS (fun q _ h => hFc q h) hFc (fun r9 u t H locs ht hvm hw hB hz1 hk1 hS => ?_)
    obtain ⟨hP, hD⟩ := wj_0 hFc ht hB
    rw [hw]
    obtain ⟨v8, ev8, hf⟩ := wb_v hf
    refine wb_topi ev8 ?_
    refine lv_istore_n (lv' := [(3, .int v8), (0, .ref (a0 0)), (1, .int y144_1), (2, .int y144_2)]) hx hb dX12_readsEntry_147 rfl hl (by decide) rfl (fun ls hl => ?_)
    refine lv_aload_n hx hb dX12_readsEntry_148 rfl (lv_at hl 1 rfl) ?_
    refine lv_iconst (v := (0 : Int32)) hx hb dX12_readsEntry_149 (by decide) ?_
    refine lv_iload_n hx hb dX12_readsEntry_150 rfl (lv_at hl 2 rfl) ?_
    refine lv_bipush (v := (10 : Int32)) hx hb dX12_readsEntry_151 (by decide) ?_
    refine lv_icmp_ne (tgt := 166) hx hb dX12_readsEntry_153 (by decide) (fun hc => ?_) (fun hc => ?_)
    · replace hf := wb_f hc hf
      exact J166 r7.2.1 r7.2.2.1 r7.2.2.2 y144_2 v8 (0 : Int32) H locs hP hD hS ls (lv_sub hl [1, 3, 0] rfl) hf
    · replace hf := wb_t hc hf
      refine lv_iload_n hx hb dX12_readsEntry_156 rfl (lv_at hl 0 rfl) ?_
      refine lv_bipush (v := (12 : Int32)) hx hb dX12_readsEntry_157 (by decide) ?_
      refine lv_icmp_ne (tgt := 166) hx hb dX12_readsEntry_159 (by decide) (fun hc => ?_) (fun hc => ?_)
      · replace hf := wb_f hc hf
        exact J166 r7.2.1 r7.2.2.1 r7.2.2.2 y144_2 v8 (0 : Int32) H locs hP hD hS ls (lv_sub hl [1, 3, 0] rfl) hf
      · replace hf := wb_t hc hf
        refine lv_iconst (v := (4 : Int32)) hx hb dX12_readsEntry_162 (by decide) ?_
        refine lv_goto (tgt := 168) hx hb dX12_readsEntry_163 (by decide) ?_
        exact J168 r7.2.1 r7.2.2.1 r7.2.2.2 y144_2 v8 (4 : Int32) (0 : Int32) H locs hP hD hS ls (lv_sub hl [1, 3, 0] rfl) hf
  have J129 : ∀ (I0_j129 : Nat → Int32) (L0_j129 : Int64) (M0_j129 : Nat → Nat → Int32) (y129_1 : Int32) (y129_2 : Int32) (H : Heap) (locs : List Loc), va_P D vwCl (wWX12 cB cI cZ a0 I0_j129 L0_j129 M0_j129) H → va_D A (wWX12 cB cI cZ a0 I0_j129 L0_j129 M0_j129) → va_S A s.heap H locs → ∀ (ls : Array Slot), lv_has ls 5 [(0, .ref (a0 0)), (1, .int y129_1), (2, .int y129_2)] → fX12_readsEntry_J129 N I0_j129 L0_j129 M0_j129 y129_1 y129_2 = some R → W p l e (headSpec wsX12_readsEntry { frames := 3, cells := 0, slots := 0, locals := 69 }).room s m [.ref (a0 0)].toArray below meth c H locs 0 0 (MQ below (va_Qv (fun _ : Unit => True) (fun _ t => wb_post D [(cB, .byte), (cI, .int), (cZ, .boolean)] A (wWX12 cB cI cZ a0 R.1 R.2.1 R.2.2) t) A) [.ref (a0 0)].toArray s 0 0 A) (F0 m 129 ls []) := by
    intro I0_j129 L0_j129 M0_j129 y129_1 y129_2 H locs hP hD hS ls hl hf
    unfold fX12_readsEntry_J129 at hf
    refine lv_aload_n hx hb dX12_readsEntry_129 rfl (lv_at hl 0 rfl) ?_
    refine lv_iconst (v := (0 : Int32)) hx hb dX12_readsEntry_130 (by decide) ?_
    refine lv_iload_n hx hb dX12_readsEntry_131 rfl (lv_at hl 1 rfl) ?_
    refine lv_bipush (v := (10 : Int32)) hx hb dX12_readsEntry_132 (by decide) ?_
    refine lv_icmp_ne (tgt := 142) hx hb dX12_readsEntry_134 (by decide) (fun hc => ?_) (fun hc => ?_)
    · replace hf := wb_f hc hf
      refine lv_bipush (v := (11 : Int32)) hx hb dX12_readsEntry_142 (by decide) ?_
      exact J144 I0_j129 L0_j129 M0_j129 y129_1 y129_2 (11 : Int32) (0 : Int32) H locs hP hD hS ls (lv_sub hl [0, 1, 2] rfl) hf
    · replace hf := wb_t hc hf
      refine lv_bipush (v := (12 : Int32)) hx hb dX12_readsEntry_137 (by decide) ?_
      refine lv_goto (tgt := 144) hx hb dX12_readsEntry_139 (by decide) ?_
      exact J144 I0_j129 L0_j129 M0_j129 y129_1 y129_2 (12 : Int32) (0 : Int32) H locs hP hD hS ls (lv_sub hl [0, 1, 2] rfl) hf
  have J62 : ∀ (I0_j62 : Nat → Int32) (L0_j62 : Int64) (M0_j62 : Nat → Nat → Int32) (y62_1 : Int32) (y62_2 : Int32) (H : Heap) (locs : List Loc), va_P D vwCl (wWX12 cB cI cZ a0 I0_j62 L0_j62 M0_j62) H → va_D A (wWX12 cB cI cZ a0 I0_j62 L0_j62 M0_j62) → va_S A s.heap H locs → ∀ (ls : Array Slot), lv_has ls 5 [(0, .ref (a0 0)), (1, .int y62_1), (2, .int y62_2)] → fX12_readsEntry_J62 N I0_j62 L0_j62 M0_j62 y62_1 y62_2 = some R → W p l e (headSpec wsX12_readsEntry { frames := 3, cells := 0, slots := 0, locals := 69 }).room s m [.ref (a0 0)].toArray below meth c H locs 0 0 (MQ below (va_Qv (fun _ : Unit => True) (fun _ t => wb_post D [(cB, .byte), (cI, .int), (cZ, .boolean)] A (wWX12 cB cI cZ a0 R.1 R.2.1 R.2.2) t) A) [.ref (a0 0)].toArray s 0 0 A) (F0 m 62 ls []) := by
    intro I0_j62 L0_j62 M0_j62 y62_1 y62_2 H locs hP hD hS ls hl hf
    unfold fX12_readsEntry_J62 at hf
    refine lv_aload_n hx hb dX12_readsEntry_62 rfl (lv_at hl 0 rfl) ?_
    obtain ⟨r9b, hr9b, hf⟩ := wb_b hf
    refine vp_callSi (W.runV (As := []) (rest := []) ⟨hx, hb, hml, hown, hts⟩ (cn_X12_isGood l D cB cI cZ N a0 I0_j62 L0_j62 M0_j62 r9b hr9b) (cwV 0 hts gX12_readsEntry_X12_isGood rfl rfl rfl cdX12_isGood ⟨Nat.le_of_ble_eq_true rfl, Nat.le_of_ble_eq_true rfl⟩) (wb_preV hP hK (wr_12 hK hP (q0 := 0) rfl)) rfl rfl hl.1 rfl (lv_room (Nat.le_of_ble_eq_true rfl)) dX12_readsEntry_63 ⟨Nat.le_of_ble_eq_true rfl, Nat.le_of_ble_eq_true rfl⟩) (fun r9 e9 => ?_)
    rw [e9]
    refine lv_if_ne (tgt := 70) hx hb dX12_readsEntry_66 (by decide) (fun hc => ?_) (fun hc => ?_)
    · replace hf := wb_f hc hf
      refine lv_aload_n hx hb dX12_readsEntry_70 rfl (lv_at hl 0 rfl) ?_
      obtain ⟨r10, hr10, hf⟩ := wb_b hf
      have hPc := hP
      have hDc := hD
      have hFc := wj_F hDc hS hA
      refine va_callv (va_runV (As := []) (rest := []) ⟨hx, hb, hml, hown, hts⟩ (cn_X12_steps l D cB cI cZ N a0 I0_j62 L0_j62 M0_j62 H.size r10 hr10) (cwV 0 hts gX12_readsEntry_X12_steps rfl rfl rfl cdX12_steps ⟨Nat.le_of_ble_eq_true rfl, Nat.le_of_ble_eq_true rfl⟩) (wb_preDV hPc hK hDc (wr_12 hK hP (q0 := 0) rfl)) rfl rfl hl.1 rfl (lv_room (Nat.le_of_ble_eq_true rfl)) dX12_readsEntry_71 ⟨Nat.le_of_ble_eq_true rfl, Nat.le_of_ble_eq_true rfl⟩) hS (fun q _ h => hFc q h) hFc (fun u t H locs ht hvm hw hB hz1 hk1 hS => ?_)
      obtain ⟨hP, hD⟩ := wj_0 hFc ht hB
      refine lv_iload_n hx hb dX12_readsEntry_74 rfl (lv_at hl 1 rfl) ?_
      refine lv_bipush (v := (9 : Int32)) hx hb dX12_readsEntry_75 (by decide) ?_
      refine lv_icmp_ne (tgt := 129) hx hb dX12_readsEntry_77 (by decide) (fun hc => ?_) (fun hc => ?_)
      · replace hf := wb_f hc hf
        exact J129 r10.1 r10.2.1 r10.2.2 y62_1 y62_2 H locs hP hD hS ls (lv_sub hl [0, 1, 2] rfl) hf
      · replace hf := wb_t hc hf
        refine lv_aload_n hx hb dX12_readsEntry_80 rfl (lv_at hl 0 rfl) ?_
        refine va_get (D := D) (ci := 12) (v := .int (r10.1 9)) (C := RX12) (T := TX12) (N := 58) hx hb hts hinX12 hown hK hP 0 rfl rfl 18 (by decide) (hts (.fieldLink RX12 149 "WheelBookModel" "place" "I") (List.mem_of_getElem? (i := 2) rfl)) (fun _ h9 => h9) rfl dX12_readsEntry_81 ?_
        obtain ⟨v11, ev11, hf⟩ := wb_v hf
        refine wb_topi ev11 ?_
        refine lv_istore_n (lv' := [(3, .int v11), (0, .ref (a0 0)), (1, .int y62_1), (2, .int y62_2)]) hx hb dX12_readsEntry_84 rfl hl (by decide) rfl (fun ls hl => ?_)
        refine lv_aload_n hx hb dX12_readsEntry_85 rfl (lv_at hl 1 rfl) ?_
        refine lv_iconst (v := (1 : Int32)) hx hb dX12_readsEntry_86 (by decide) ?_
        refine lv_bipush (v := (12 : Int32)) hx hb dX12_readsEntry_87 (by decide) ?_
        obtain ⟨r12, hr12, hf⟩ := wb_b hf
        have hPc := hP
        have hDc := hD
        have hFc := wj_F hDc hS hA
        refine va_calli (va_runV (As := [.int (1 : Int32), .int (12 : Int32)]) (rest := []) ⟨hx, hb, hml, hown, hts⟩ (cn_X12_number l D cB cI cZ N a0 r10.1 r10.2.1 r10.2.2 (1 : Int32) (12 : Int32) H.size r12 hr12) (cwV 2 hts gX12_readsEntry_X12_number rfl rfl rfl cdX12_number ⟨Nat.le_of_ble_eq_true rfl, Nat.le_of_ble_eq_true rfl⟩) (wb_preDV hPc hK hDc (wr_12 hK hP (q0 := 0) rfl)) rfl rfl hl.1 rfl (lv_room (Nat.le_of_ble_eq_true rfl)) dX12_readsEntry_89 ⟨Nat.le_of_ble_eq_true rfl, Nat.le_of_ble_eq_true rfl⟩) hS (fun q _ h => hFc q h) hFc (fun r9 u t H locs ht hvm hw hB hz1 hk1 hS => ?_)
        obtain ⟨hP, hD⟩ := wj_0 hFc ht hB
        rw [hw]
        obtain ⟨v13, ev13, hf⟩ := wb_v hf
        refine wb_topi ev13 ?_
        refine lv_istore (lv' := [(4, .int v13), (3, .int v11), (0, .ref (a0 0)), (1, .int y62_1), (2, .int y62_2)]) hx hb dX12_readsEntry_92 hl (by decide) rfl (fun ls hl => ?_)
        refine lv_bipush (v := (9 : Int32)) hx hb dX12_readsEntry_94 (by decide) ?_
        refine lv_iload hx hb dX12_readsEntry_96 (lv_at hl 0 rfl) ?_
        refine lv_iadd hx hb dX12_readsEntry_98 ?_
        refine lv_iconst (v := (1 : Int32)) hx hb dX12_readsEntry_99 (by decide) ?_
        refine lv_isub hx hb dX12_readsEntry_100 ?_
        obtain ⟨v14, ev14, hf⟩ := wb_v hf
        refine wb_topi ev14 ?_
        refine lv_istore_n (lv' := [(2, .int v14), (4, .int v13), (3, .int v11), (0, .ref (a0 0)), (1, .int y62_1)]) hx hb dX12_readsEntry_101 rfl hl (by decide) rfl (fun ls hl => ?_)
        refine lv_aload_n hx hb dX12_readsEntry_102 rfl (lv_at hl 3 rfl) ?_
        obtain ⟨r15, hr15, hf⟩ := wb_b hf
        refine vp_callSi (W.runV (As := []) (rest := []) ⟨hx, hb, hml, hown, hts⟩ (cn_X12_isGood l D cB cI cZ N a0 r12.2.1 r12.2.2.1 r12.2.2.2 r15 hr15) (cwV 0 hts gX12_readsEntry_X12_isGood rfl rfl rfl cdX12_isGood ⟨Nat.le_of_ble_eq_true rfl, Nat.le_of_ble_eq_true rfl⟩) (wb_preV hP hK (wr_12 hK hP (q0 := 0) rfl)) rfl rfl hl.1 rfl (lv_room (Nat.le_of_ble_eq_true rfl)) dX12_readsEntry_103 ⟨Nat.le_of_ble_eq_true rfl, Nat.le_of_ble_eq_true rfl⟩) (fun r9 e9 => ?_)
        rw [e9]
        refine lv_if_eq (tgt := 129) hx hb dX12_readsEntry_106 (by decide) (fun hc => ?_) (fun hc => ?_)
        · replace hf := wb_t hc hf
          exact J129 r12.2.1 r12.2.2.1 r12.2.2.2 y62_1 v14 H locs hP hD hS ls (lv_sub hl [3, 4, 0] rfl) hf
        · replace hf := wb_f hc hf
          refine lv_aload_n hx hb dX12_readsEntry_109 rfl (lv_at hl 3 rfl) ?_
          refine va_get (D := D) (ci := 12) (v := .ref (a0 17)) (C := RX12) (T := TX12) (N := 58) hx hb hts hinX12 hown hK hP 0 rfl rfl 32 (by decide) (hts (.fieldLink RX12 62 "WheelBookModel" "newEntries" "[I") (List.mem_of_getElem? (i := 1) rfl)) (fun _ h9 => h9) rfl dX12_readsEntry_110 ?_
          refine lv_iload_n hx hb dX12_readsEntry_113 rfl (lv_at hl 0 rfl) ?_
          obtain ⟨hin, hf⟩ := wb_n hf
          refine va_iald hx hb hK hP 17 1 rfl rfl hin dX12_readsEntry_114 ?_
          refine lv_iconst (v := (-1 : Int32)) hx hb dX12_readsEntry_115 (by decide) ?_
          refine lv_icmp_eq (tgt := 129) hx hb dX12_readsEntry_116 (by decide) (fun hc => ?_) (fun hc => ?_)
          · replace hf := wb_t hc hf
            exact J129 r12.2.1 r12.2.2.1 r12.2.2.2 y62_1 v14 H locs hP hD hS ls (lv_sub hl [3, 4, 0] rfl) hf
          · replace hf := wb_f hc hf
            refine lv_aload_n hx hb dX12_readsEntry_119 rfl (lv_at hl 3 rfl) ?_
            refine lv_iconst (v := (3 : Int32)) hx hb dX12_readsEntry_120 (by decide) ?_
            refine va_put (D := D) (ci := 12) (v := .int (3 : Int32)) (ty := .int) (C := RX12) (T := TX12) (N := 58) hx hb hts hinX12 tyX12 tyX12_ok nmX12 hown hK hP hD hS 0 rfl rfl 13 (by decide) (hts (.fieldLink RX12 180 "WheelBookModel" "faultKind" "I") (List.mem_of_getElem? (i := 3) rfl)) (fun _ h9 => h9) rfl (by decide +kernel) rfl rfl (Nat.le_of_ble_eq_true rfl) dX12_readsEntry_121 (fun H locs hP hD hS => ?_)
            have hP : va_P D vwCl (wWX12 cB cI cZ a0 (upd r12.2.1 4 (3 : Int32)) r12.2.2.1 r12.2.2.2) H := hP
            have hD : va_D A (wWX12 cB cI cZ a0 (upd r12.2.1 4 (3 : Int32)) r12.2.2.1 r12.2.2.2) := hD
            obtain ⟨I0_16, eI0_16, hf⟩ := wb_v hf
            rw [← eI0_16] at hP hD
            refine lv_aload_n hx hb dX12_readsEntry_124 rfl (lv_at hl 3 rfl) ?_
            refine lv_iload_n hx hb dX12_readsEntry_125 rfl (lv_at hl 2 rfl) ?_
            refine va_put (D := D) (ci := 12) (v := .int v11) (ty := .int) (C := RX12) (T := TX12) (N := 58) hx hb hts hinX12 tyX12 tyX12_ok nmX12 hown hK hP hD hS 0 rfl rfl 14 (by decide) (hts (.fieldLink RX12 37 "WheelBookModel" "faultPlace" "I") (List.mem_of_getElem? (i := 4) rfl)) (fun _ h9 => h9) rfl (by decide +kernel) rfl rfl (Nat.le_of_ble_eq_true rfl) dX12_readsEntry_126 (fun H locs hP hD hS => ?_)
            have hP : va_P D vwCl (wWX12 cB cI cZ a0 (upd I0_16 5 v11) r12.2.2.1 r12.2.2.2) H := hP
            have hD : va_D A (wWX12 cB cI cZ a0 (upd I0_16 5 v11) r12.2.2.1 r12.2.2.2) := hD
            obtain ⟨I0_17, eI0_17, hf⟩ := wb_v hf
            rw [← eI0_17] at hP hD
            exact J129 I0_17 r12.2.2.1 r12.2.2.2 y62_1 v14 H locs hP hD hS ls (lv_sub hl [3, 4, 0] rfl) hf
    · replace hf := wb_t hc hf
      exact W.vret hx hb hr (fun t ht hW => by rw [← Option.some.inj hf]; exact ⟨⟨(), rfl, trivial, by rw [ht]; exact hP, va_K.moved hW.alike hK, hD⟩, hS.F ht⟩) hS.2.2 dX12_readsEntry_69
  have J40 : ∀ (I0_j40 : Nat → Int32) (L0_j40 : Int64) (M0_j40 : Nat → Nat → Int32) (y40_1 : Int32) (z40_0 : Int32) (H : Heap) (locs : List Loc), va_P D vwCl (wWX12 cB cI cZ a0 I0_j40 L0_j40 M0_j40) H → va_D A (wWX12 cB cI cZ a0 I0_j40 L0_j40 M0_j40) → va_S A s.heap H locs → ∀ (ls : Array Slot), lv_has ls 5 [(0, .ref (a0 0)), (1, .int y40_1)] → fX12_readsEntry_J40 N I0_j40 L0_j40 M0_j40 y40_1 z40_0 = some R → W p l e (headSpec wsX12_readsEntry { frames := 3, cells := 0, slots := 0, locals := 69 }).room s m [.ref (a0 0)].toArray below meth c H locs 0 0 (MQ below (va_Qv (fun _ : Unit => True) (fun _ t => wb_post D [(cB, .byte), (cI, .int), (cZ, .boolean)] A (wWX12 cB cI cZ a0 R.1 R.2.1 R.2.2) t) A) [.ref (a0 0)].toArray s 0 0 A) (F0 m 40 ls [.int z40_0]) := by
    intro I0_j40 L0_j40 M0_j40 y40_1 z40_0 H locs hP hD hS ls hl hf
    unfold fX12_readsEntry_J40 at hf
    refine lv_istore_n (lv' := [(2, .int z40_0), (0, .ref (a0 0)), (1, .int y40_1)]) hx hb dX12_readsEntry_40 rfl hl (by decide) rfl (fun ls hl => ?_)
    refine lv_iload_n hx hb dX12_readsEntry_41 rfl (lv_at hl 2 rfl) ?_
    refine lv_bipush (v := (9 : Int32)) hx hb dX12_readsEntry_42 (by decide) ?_
    refine lv_icmp_eq (tgt := 62) hx hb dX12_readsEntry_44 (by decide) (fun hc => ?_) (fun hc => ?_)
    · replace hf := wb_t hc hf
      exact J62 I0_j40 L0_j40 M0_j40 y40_1 z40_0 H locs hP hD hS ls (lv_sub hl [1, 2, 0] rfl) hf
    · replace hf := wb_f hc hf
      refine lv_aload_n hx hb dX12_readsEntry_47 rfl (lv_at hl 1 rfl) ?_
      refine va_get (D := D) (ci := 12) (v := .ref (a0 17)) (C := RX12) (T := TX12) (N := 58) hx hb hts hinX12 hown hK hP 0 rfl rfl 32 (by decide) (hts (.fieldLink RX12 62 "WheelBookModel" "newEntries" "[I") (List.mem_of_getElem? (i := 1) rfl)) (fun _ h9 => h9) rfl dX12_readsEntry_48 ?_
      refine lv_iload_n hx hb dX12_readsEntry_51 rfl (lv_at hl 0 rfl) ?_
      obtain ⟨hin, hf⟩ := wb_n hf
      refine va_iald hx hb hK hP 17 1 rfl rfl hin dX12_readsEntry_52 ?_
      refine lv_iconst (v := (-1 : Int32)) hx hb dX12_readsEntry_53 (by decide) ?_
      refine lv_icmp_eq (tgt := 62) hx hb dX12_readsEntry_54 (by decide) (fun hc => ?_) (fun hc => ?_)
      · replace hf := wb_t hc hf
        exact J62 I0_j40 L0_j40 M0_j40 y40_1 z40_0 H locs hP hD hS ls (lv_sub hl [1, 2, 0] rfl) hf
      · replace hf := wb_f hc hf
        refine lv_aload_n hx hb dX12_readsEntry_57 rfl (lv_at hl 1 rfl) ?_
        refine lv_iconst (v := (3 : Int32)) hx hb dX12_readsEntry_58 (by decide) ?_
        obtain ⟨r18, hr18, hf⟩ := wb_b hf
        have hPc := hP
        have hDc := hD
        have hFc := wj_F hDc hS hA
        refine va_callv (va_runV (As := [.int (3 : Int32)]) (rest := []) ⟨hx, hb, hml, hown, hts⟩ (cn_X12_wrong l D cB cI cZ N a0 I0_j40 L0_j40 M0_j40 (3 : Int32) H.size r18 hr18) (cwV 1 hts gX12_readsEntry_X12_wrong rfl rfl rfl cdX12_wrong ⟨Nat.le_of_ble_eq_true rfl, Nat.le_of_ble_eq_true rfl⟩) (wb_preDV hPc hK hDc (wr_12 hK hP (q0 := 0) rfl)) rfl rfl hl.1 rfl (lv_room (Nat.le_of_ble_eq_true rfl)) dX12_readsEntry_59 ⟨Nat.le_of_ble_eq_true rfl, Nat.le_of_ble_eq_true rfl⟩) hS (fun q _ h => hFc q h) hFc (fun u t H locs ht hvm hw hB hz1 hk1 hS => ?_)
        obtain ⟨hP, hD⟩ := wj_0 hFc ht hB
        exact J62 r18.1 r18.2.1 r18.2.2 y40_1 z40_0 H locs hP hD hS ls (lv_sub hl [1, 2, 0] rfl) hf
  have J20 : ∀ (I0_j20 : Nat → Int32) (L0_j20 : Int64) (M0_j20 : Nat → Nat → Int32) (y20_1 : Int32) (H : Heap) (locs : List Loc), va_P D vwCl (wWX12 cB cI cZ a0 I0_j20 L0_j20 M0_j20) H → va_D A (wWX12 cB cI cZ a0 I0_j20 L0_j20 M0_j20) → va_S A s.heap H locs → ∀ (ls : Array Slot), lv_has ls 5 [(0, .ref (a0 0)), (1, .int y20_1)] → fX12_readsEntry_J20 N I0_j20 L0_j20 M0_j20 y20_1 = some R → W p l e (headSpec wsX12_readsEntry { frames := 3, cells := 0, slots := 0, locals := 69 }).room s m [.ref (a0 0)].toArray below meth c H locs 0 0 (MQ below (va_Qv (fun _ : Unit => True) (fun _ t => wb_post D [(cB, .byte), (cI, .int), (cZ, .boolean)] A (wWX12 cB cI cZ a0 R.1 R.2.1 R.2.2) t) A) [.ref (a0 0)].toArray s 0 0 A) (F0 m 20 ls []) := by
    intro I0_j20 L0_j20 M0_j20 y20_1 H locs hP hD hS ls hl hf
    unfold fX12_readsEntry_J20 at hf
    refine lv_aload_n hx hb dX12_readsEntry_20 rfl (lv_at hl 0 rfl) ?_
    obtain ⟨r19, hr19, hf⟩ := wb_b hf
    refine vp_callSi (W.runV (As := []) (rest := []) ⟨hx, hb, hml, hown, hts⟩ (cn_X12_isGood l D cB cI cZ N a0 I0_j20 L0_j20 M0_j20 r19 hr19) (cwV 0 hts gX12_readsEntry_X12_isGood rfl rfl rfl cdX12_isGood ⟨Nat.le_of_ble_eq_true rfl, Nat.le_of_ble_eq_true rfl⟩) (wb_preV hP hK (wr_12 hK hP (q0 := 0) rfl)) rfl rfl hl.1 rfl (lv_room (Nat.le_of_ble_eq_true rfl)) dX12_readsEntry_21 ⟨Nat.le_of_ble_eq_true rfl, Nat.le_of_ble_eq_true rfl⟩) (fun r9 e9 => ?_)
    rw [e9]
    refine lv_if_ne (tgt := 28) hx hb dX12_readsEntry_24 (by decide) (fun hc => ?_) (fun hc => ?_)
    · replace hf := wb_f hc hf
      refine lv_iload_n hx hb dX12_readsEntry_28 rfl (lv_at hl 1 rfl) ?_
      refine lv_bipush (v := (10 : Int32)) hx hb dX12_readsEntry_29 (by decide) ?_
      refine lv_icmp_ne (tgt := 39) hx hb dX12_readsEntry_31 (by decide) (fun hc => ?_) (fun hc => ?_)
      · replace hf := wb_f hc hf
        refine lv_iload_n hx hb dX12_readsEntry_39 rfl (lv_at hl 1 rfl) ?_
        exact J40 I0_j20 L0_j20 M0_j20 y20_1 y20_1 H locs hP hD hS ls (lv_sub hl [0, 1] rfl) hf
      · replace hf := wb_t hc hf
        refine lv_bipush (v := (21 : Int32)) hx hb dX12_readsEntry_34 (by decide) ?_
        refine lv_goto (tgt := 40) hx hb dX12_readsEntry_36 (by decide) ?_
        exact J40 I0_j20 L0_j20 M0_j20 y20_1 (21 : Int32) H locs hP hD hS ls (lv_sub hl [0, 1] rfl) hf
    · replace hf := wb_t hc hf
      exact W.vret hx hb hr (fun t ht hW => by rw [← Option.some.inj hf]; exact ⟨⟨(), rfl, trivial, by rw [ht]; exact hP, va_K.moved hW.alike hK, hD⟩, hS.F ht⟩) hS.2.2 dX12_readsEntry_27
  have J15 : ∀ (I0_j15 : Nat → Int32) (L0_j15 : Int64) (M0_j15 : Nat → Nat → Int32) (y15_1 : Int32) (H : Heap) (locs : List Loc), va_P D vwCl (wWX12 cB cI cZ a0 I0_j15 L0_j15 M0_j15) H → va_D A (wWX12 cB cI cZ a0 I0_j15 L0_j15 M0_j15) → va_S A s.heap H locs → ∀ (ls : Array Slot), lv_has ls 5 [(0, .ref (a0 0)), (1, .int y15_1)] → fX12_readsEntry_J15 N I0_j15 L0_j15 M0_j15 y15_1 = some R → W p l e (headSpec wsX12_readsEntry { frames := 3, cells := 0, slots := 0, locals := 69 }).room s m [.ref (a0 0)].toArray below meth c H locs 0 0 (MQ below (va_Qv (fun _ : Unit => True) (fun _ t => wb_post D [(cB, .byte), (cI, .int), (cZ, .boolean)] A (wWX12 cB cI cZ a0 R.1 R.2.1 R.2.2) t) A) [.ref (a0 0)].toArray s 0 0 A) (F0 m 15 ls []) := by
    intro I0_j15 L0_j15 M0_j15 y15_1 H locs hP hD hS ls hl hf
    unfold fX12_readsEntry_J15 at hf
    refine lv_aload_n hx hb dX12_readsEntry_15 rfl (lv_at hl 0 rfl) ?_
    refine lv_iconst (v := (1 : Int32)) hx hb dX12_readsEntry_16 (by decide) ?_
    obtain ⟨r20, hr20, hf⟩ := wb_b hf
    have hPc := hP
    have hDc := hD
    have hFc := wj_F hDc hS hA
    refine va_callv (va_runV (As := [.int (1 : Int32)]) (rest := []) ⟨hx, hb, hml, hown, hts⟩ (cn_X12_wrong l D cB cI cZ N a0 I0_j15 L0_j15 M0_j15 (1 : Int32) H.size r20 hr20) (cwV 1 hts gX12_readsEntry_X12_wrong rfl rfl rfl cdX12_wrong ⟨Nat.le_of_ble_eq_true rfl, Nat.le_of_ble_eq_true rfl⟩) (wb_preDV hPc hK hDc (wr_12 hK hP (q0 := 0) rfl)) rfl rfl hl.1 rfl (lv_room (Nat.le_of_ble_eq_true rfl)) dX12_readsEntry_17 ⟨Nat.le_of_ble_eq_true rfl, Nat.le_of_ble_eq_true rfl⟩) hS (fun q _ h => hFc q h) hFc (fun u t H locs ht hvm hw hB hz1 hk1 hS => ?_)
    obtain ⟨hP, hD⟩ := wj_0 hFc ht hB
    exact J20 r20.1 r20.2.1 r20.2.2 y15_1 H locs hP hD hS ls (lv_sub hl [0, 1] rfl) hf
  refine lv_aload_n hx hb dX12_readsEntry_0 rfl (lv_at hl 0 rfl) ?_
  obtain ⟨r21, hr21, hf⟩ := wb_b hf
  refine vp_callSi (W.runV (As := []) (rest := []) ⟨hx, hb, hml, hown, hts⟩ (cn_X12_knownWord l D cB cI cZ N a0 I0 L0 M0 r21 hr21) (cwV 0 hts gX12_readsEntry_X12_knownWord rfl rfl rfl cdX12_knownWord ⟨Nat.le_of_ble_eq_true rfl, Nat.le_of_ble_eq_true rfl⟩) (wb_preV hP hK (wr_12 hK hP (q0 := 0) rfl)) rfl rfl hl.1 rfl (lv_room (Nat.le_of_ble_eq_true rfl)) dX12_readsEntry_1 ⟨Nat.le_of_ble_eq_true rfl, Nat.le_of_ble_eq_true rfl⟩) (fun r9 e9 => ?_)
  rw [e9]
  refine lv_istore_n (lv' := [(1, .int r21), (0, .ref (a0 0))]) hx hb dX12_readsEntry_4 rfl hl (by decide) rfl (fun ls hl => ?_)
  refine lv_iload_n hx hb dX12_readsEntry_5 rfl (lv_at hl 0 rfl) ?_
  refine lv_if_lt (tgt := 15) hx hb dX12_readsEntry_6 (by decide) (fun hc => ?_) (fun hc => ?_)
  · replace hf := wb_t hc hf
    exact J15 I0 L0 M0 r21 H locs hP hD hS ls (lv_sub hl [1, 0] rfl) hf
  · replace hf := wb_f hc hf
    refine lv_iload_n hx hb dX12_readsEntry_9 rfl (lv_at hl 0 rfl) ?_
    refine lv_bipush (v := (10 : Int32)) hx hb dX12_readsEntry_10 (by decide) ?_
    refine lv_icmp_le (tgt := 20) hx hb dX12_readsEntry_12 (by decide) (fun hc => ?_) (fun hc => ?_)
    · replace hf := wb_t hc hf
      exact J20 I0 L0 M0 r21 H locs hP hD hS ls (lv_sub hl [1, 0] rfl) hf
    · replace hf := wb_f hc hf
      exact J15 I0 L0 M0 r21 H locs hP hD hS ls (lv_sub hl [1, 0] rfl) hf
