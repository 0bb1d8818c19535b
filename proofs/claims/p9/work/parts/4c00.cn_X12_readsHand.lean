set_option maxHeartbeats 4000000 in
set_option maxRecDepth 100000 in
theorem cn_X12_readsHand (l : Launch) (D : va_G) (cB cI cZ : ClassId) (N : Nat) (a0 : Nat → Nat) (I0 : Nat → Int32) (L0 : Int64) (M0 : Nat → Nat → Int32) (sz : Nat) (R : (Nat → Int32) × Int64 × (Nat → Nat → Int32)) (hf : fX12_readsHand N I0 L0 M0 = some R) : Met l yX12_readsHand wsX12_readsHand ({ frames := 4, cells := 0, slots := 0, locals := 92 }) (va_Pc [.ref (a0 0)] (wb_preD D [(cB, .byte), (cI, .int), (cZ, .boolean)] (wWX12 cB cI cZ a0 I0 L0 M0) sz)) (va_Qv (fun _ : Unit => True) (fun _ t => wb_post D [(cB, .byte), (cI, .int), (cZ, .boolean)] (va_A (wWX12 cB cI cZ a0 I0 L0 M0) sz) (wWX12 cB cI cZ a0 R.1 R.2.1 R.2.2) t) (va_A (wWX12 cB cI cZ a0 I0 L0 M0) sz)) 0 0 (va_A (wWX12 cB cI cZ a0 I0 L0 M0) sz) := by
  refine Met.ofW (cc := cX12_readsHand) (maxL := 3) (ret := none) (by decide) rfl ?_
  intro p e s m args below meth c s₁ B hml hv
  obtain ⟨rfl, hsz, hP, hK, hD0⟩ := hv
  have hx := B.exec
  have hb := B.bytes
  have hr := B.returns
  have hts := atoms_spec (ws := wsX12_readsHand) B.pre
  have hown : s.vm.findClass RX12 = some m.cls := findClass_of_methodNamed B.named
  have hlocks := B.notSynchronized
  have hinX12 : ∀ w ∈ u_ws RX12 TX12 58, w ∈ wsX12_readsHand := fun w h => List.mem_cons_of_mem _ (List.mem_append_right _ h)
  subst hsz
  have hD := hD0.self (sz := s.heap.size)
  generalize hAe : va_A (wWX12 cB cI cZ a0 I0 L0 M0) s.heap.size = A at hD ⊢
  have hA : ∀ q : Nat, s.heap.size ≤ q → A q := fun q h => by rw [← hAe]; exact Or.inr h
  have hS : va_S A s.heap s.heap [] := va_S.rf
  have hl := lv_entry ([.ref (a0 0)]) (n := 3) (Nat.le_of_ble_eq_true rfl)
  rw [lg_entry_eq]
  generalize (lg_sl ([.ref (a0 0)]) ++ List.replicate (3 - (lg_sl ([.ref (a0 0)])).length) Slot.unset).toArray = ls at hl ⊢
  have hl : lv_has ls 3 [(0, .ref (a0 0))] := hl
  unfold fX12_readsHand at hf
  obtain ⟨H, hHe⟩ : ∃ H : Heap, H = s.heap := ⟨_, rfl⟩
  obtain ⟨locs, hle⟩ : ∃ locs : List Loc, locs = [] := ⟨_, rfl⟩
  refine wb_start (H := H) (locs := locs) hHe hle ?_
  rw [← hHe] at hP
  have hS : va_S A s.heap H locs := by rw [hHe, hle]; exact va_S.rf
  have J14 : ∀ (I0_j14 : Nat → Int32) (L0_j14 : Int64) (M0_j14 : Nat → Nat → Int32) (H : Heap) (locs : List Loc), va_P D vwCl (wWX12 cB cI cZ a0 I0_j14 L0_j14 M0_j14) H → va_D A (wWX12 cB cI cZ a0 I0_j14 L0_j14 M0_j14) → va_S A s.heap H locs → ∀ (ls : Array Slot), lv_has ls 3 [(0, .ref (a0 0))] → fX12_readsHand_J14 N I0_j14 L0_j14 M0_j14 = some R → W p l e (headSpec wsX12_readsHand { frames := 4, cells := 0, slots := 0, locals := 92 }).room s m [.ref (a0 0)].toArray below meth c H locs 0 0 (MQ below (va_Qv (fun _ : Unit => True) (fun _ t => wb_post D [(cB, .byte), (cI, .int), (cZ, .boolean)] A (wWX12 cB cI cZ a0 R.1 R.2.1 R.2.2) t) A) [.ref (a0 0)].toArray s 0 0 A) (F0 m 14 ls []) := by
    intro I0_j14 L0_j14 M0_j14 H locs hP hD hS ls hl hf
    unfold fX12_readsHand_J14 at hf
    refine lv_aload_n hx hb dX12_readsHand_14 rfl (lv_at hl 0 rfl) ?_
    obtain ⟨r1, hr1, hf⟩ := wb_b hf
    refine vp_callSi (W.runV (As := []) (rest := []) ⟨hx, hb, hml, hown, hts⟩ (cn_X12_isGood l D cB cI cZ N a0 I0_j14 L0_j14 M0_j14 r1 hr1) (cwV 0 hts gX12_readsHand_X12_isGood rfl rfl rfl cdX12_isGood ⟨Nat.le_of_ble_eq_true rfl, Nat.le_of_ble_eq_true rfl⟩) (wb_preV hP hK (va_recv hK hP (ci := 12) (q0 := 0) rfl rfl)) rfl rfl hl.1 rfl (lv_room (Nat.le_of_ble_eq_true rfl)) dX12_readsHand_15 ⟨Nat.le_of_ble_eq_true rfl, Nat.le_of_ble_eq_true rfl⟩) (fun r9 e9 => ?_)
    rw [e9]
    refine lv_if_ne (tgt := 22) hx hb dX12_readsHand_18 (by decide) (fun hc => ?_) (fun hc => ?_)
    · replace hf := wb_f hc hf
      refine lv_aload_n hx hb dX12_readsHand_22 rfl (lv_at hl 0 rfl) ?_
      obtain ⟨r2, hr2, hf⟩ := wb_b hf
      have hPc := hP
      have hDc := hD
      have hFc := wj_F hDc hS hA
      refine va_callv (va_runV (As := []) (rest := []) ⟨hx, hb, hml, hown, hts⟩ (cn_X12_steps l D cB cI cZ N a0 I0_j14 L0_j14 M0_j14 H.size r2 hr2) (cwV 0 hts gX12_readsHand_X12_steps rfl rfl rfl cdX12_steps ⟨Nat.le_of_ble_eq_true rfl, Nat.le_of_ble_eq_true rfl⟩) (wb_preDV hPc hK hDc (va_recv hK hP (ci := 12) (q0 := 0) rfl rfl)) rfl rfl hl.1 rfl (lv_room (Nat.le_of_ble_eq_true rfl)) dX12_readsHand_23 ⟨Nat.le_of_ble_eq_true rfl, Nat.le_of_ble_eq_true rfl⟩) hS (fun q _ h => hFc q h) hFc (fun u t H locs ht hvm hw hB hz1 hk1 hS => ?_)
      obtain ⟨hP, hD⟩ := wj_0 hFc ht hB
      refine lv_aload_n hx hb dX12_readsHand_26 rfl (lv_at hl 0 rfl) ?_
      refine lv_iconst (v := (0 : Int32)) hx hb dX12_readsHand_27 (by decide) ?_
      refine lv_bipush (v := (29 : Int32)) hx hb dX12_readsHand_28 (by decide) ?_
      obtain ⟨r3, hr3, hf⟩ := wb_b hf
      have hPc := hP
      have hDc := hD
      have hFc := wj_F hDc hS hA
      refine va_calli (va_runV (As := [.int (0 : Int32), .int (29 : Int32)]) (rest := []) ⟨hx, hb, hml, hown, hts⟩ (cn_X12_number l D cB cI cZ N a0 r2.1 r2.2.1 r2.2.2 (0 : Int32) (29 : Int32) H.size r3 hr3) (cwV 2 hts gX12_readsHand_X12_number rfl rfl rfl cdX12_number ⟨Nat.le_of_ble_eq_true rfl, Nat.le_of_ble_eq_true rfl⟩) (wb_preDV hPc hK hDc (va_recv hK hP (ci := 12) (q0 := 0) rfl rfl)) rfl rfl hl.1 rfl (lv_room (Nat.le_of_ble_eq_true rfl)) dX12_readsHand_30 ⟨Nat.le_of_ble_eq_true rfl, Nat.le_of_ble_eq_true rfl⟩) hS (fun q _ h => hFc q h) hFc (fun r9 u t H locs ht hvm hw hB hz1 hk1 hS => ?_)
      obtain ⟨hP, hD⟩ := wj_0 hFc ht hB
      rw [hw]
      obtain ⟨v4, ev4, hf⟩ := wb_v hf
      refine wb_topi ev4 ?_
      refine lv_istore_n (lv' := [(1, .int v4), (0, .ref (a0 0))]) hx hb dX12_readsHand_33 rfl hl (by decide) rfl (fun ls hl => ?_)
      refine lv_aload_n hx hb dX12_readsHand_34 rfl (lv_at hl 1 rfl) ?_
      refine lv_bipush (v := (18 : Int32)) hx hb dX12_readsHand_35 (by decide) ?_
      refine lv_iconst (v := (0 : Int32)) hx hb dX12_readsHand_37 (by decide) ?_
      refine lv_bipush (v := (29 : Int32)) hx hb dX12_readsHand_38 (by decide) ?_
      obtain ⟨r5, hr5, hf⟩ := wb_b hf
      have hPc := hP
      have hDc := hD
      have hFc := wj_F hDc hS hA
      refine va_calli (va_runV (As := [.int (18 : Int32), .int (0 : Int32), .int (29 : Int32)]) (rest := []) ⟨hx, hb, hml, hown, hts⟩ (cn_X12_named l D cB cI cZ N a0 r3.2.1 r3.2.2.1 r3.2.2.2 (18 : Int32) (0 : Int32) (29 : Int32) H.size r5 hr5) (cwV 3 hts gX12_readsHand_X12_named rfl rfl rfl cdX12_named ⟨Nat.le_of_ble_eq_true rfl, Nat.le_of_ble_eq_true rfl⟩) (wb_preDV hPc hK hDc (va_recv hK hP (ci := 12) (q0 := 0) rfl rfl)) rfl rfl hl.1 rfl (lv_room (Nat.le_of_ble_eq_true rfl)) dX12_readsHand_40 ⟨Nat.le_of_ble_eq_true rfl, Nat.le_of_ble_eq_true rfl⟩) hS (fun q _ h => hFc q h) hFc (fun r9 u t H locs ht hvm hw hB hz1 hk1 hS => ?_)
      obtain ⟨hP, hD⟩ := wj_0 hFc ht hB
      rw [hw]
      obtain ⟨v6, ev6, hf⟩ := wb_v hf
      refine wb_topi ev6 ?_
      refine lv_istore_n (lv' := [(2, .int v6), (1, .int v4), (0, .ref (a0 0))]) hx hb dX12_readsHand_43 rfl hl (by decide) rfl (fun ls hl => ?_)
      refine lv_aload_n hx hb dX12_readsHand_44 rfl (lv_at hl 2 rfl) ?_
      obtain ⟨r7, hr7, hf⟩ := wb_b hf
      refine vp_callSi (W.runV (As := []) (rest := []) ⟨hx, hb, hml, hown, hts⟩ (cn_X12_isGood l D cB cI cZ N a0 r5.2.1 r5.2.2.1 r5.2.2.2 r7 hr7) (cwV 0 hts gX12_readsHand_X12_isGood rfl rfl rfl cdX12_isGood ⟨Nat.le_of_ble_eq_true rfl, Nat.le_of_ble_eq_true rfl⟩) (wb_preV hP hK (va_recv hK hP (ci := 12) (q0 := 0) rfl rfl)) rfl rfl hl.1 rfl (lv_room (Nat.le_of_ble_eq_true rfl)) dX12_readsHand_45 ⟨Nat.le_of_ble_eq_true rfl, Nat.le_of_ble_eq_true rfl⟩) (fun r9 e9 => ?_)
      rw [e9]
      refine lv_if_ne (tgt := 52) hx hb dX12_readsHand_48 (by decide) (fun hc => ?_) (fun hc => ?_)
      · replace hf := wb_f hc hf
        refine lv_aload_n hx hb dX12_readsHand_52 rfl (lv_at hl 2 rfl) ?_
        refine va_get (D := D) (ci := 12) (v := .ref (a0 16)) (C := RX12) (T := TX12) (N := 58) hx hb hts hinX12 hown hK hP 0 rfl rfl 31 (by decide) (hts (.fieldLink RX12 59 "WheelBookModel" "newRead" "[I") (List.mem_of_getElem? (i := 2) rfl)) (fun _ h9 => h9) rfl dX12_readsHand_53 ?_
        refine lv_aload_n hx hb dX12_readsHand_56 rfl (lv_at hl 2 rfl) ?_
        refine va_get (D := D) (ci := 12) (v := .int (r5.2.1 14)) (C := RX12) (T := TX12) (N := 58) hx hb hts hinX12 hown hK hP 0 rfl rfl 24 (by decide) (hts (.fieldLink RX12 222 "WheelBookModel" "newHands" "I") (List.mem_of_getElem? (i := 1) rfl)) (fun _ h9 => h9) rfl dX12_readsHand_57 ?_
        refine lv_iload_n hx hb dX12_readsHand_60 rfl (lv_at hl 1 rfl) ?_
        obtain ⟨hin, hf⟩ := wb_n hf
        refine va_iast hx hb hK hP hD hS 16 1 rfl rfl hin dX12_readsHand_61 (fun H locs hP hD hS => ?_)
        have hP : va_P D vwCl (wWX12 cB cI cZ a0 r5.2.1 r5.2.2.1 (wb_um r5.2.2.2 15 ((r5.2.1 14)).toNatClampNeg v4)) H := hP
        have hD : va_D A (wWX12 cB cI cZ a0 r5.2.1 r5.2.2.1 (wb_um r5.2.2.2 15 ((r5.2.1 14)).toNatClampNeg v4)) := hD
        obtain ⟨M0_8, eM0_8, hf⟩ := wb_v hf
        rw [← eM0_8] at hP hD
        refine lv_aload_n hx hb dX12_readsHand_62 rfl (lv_at hl 2 rfl) ?_
        refine va_get (D := D) (ci := 12) (v := .ref (a0 15)) (C := RX12) (T := TX12) (N := 58) hx hb hts hinX12 hown hK hP 0 rfl rfl 30 (by decide) (hts (.fieldLink RX12 56 "WheelBookModel" "newStood" "[I") (List.mem_of_getElem? (i := 3) rfl)) (fun _ h9 => h9) rfl dX12_readsHand_63 ?_
        refine lv_aload_n hx hb dX12_readsHand_66 rfl (lv_at hl 2 rfl) ?_
        refine va_get (D := D) (ci := 12) (v := .int (r5.2.1 14)) (C := RX12) (T := TX12) (N := 58) hx hb hts hinX12 hown hK hP 0 rfl rfl 24 (by decide) (hts (.fieldLink RX12 222 "WheelBookModel" "newHands" "I") (List.mem_of_getElem? (i := 1) rfl)) (fun _ h9 => h9) rfl dX12_readsHand_67 ?_
        refine lv_iload_n hx hb dX12_readsHand_70 rfl (lv_at hl 0 rfl) ?_
        obtain ⟨hin, hf⟩ := wb_n hf
        refine va_iast hx hb hK hP hD hS 15 1 rfl rfl hin dX12_readsHand_71 (fun H locs hP hD hS => ?_)
        have hP : va_P D vwCl (wWX12 cB cI cZ a0 r5.2.1 r5.2.2.1 (wb_um M0_8 14 ((r5.2.1 14)).toNatClampNeg v6)) H := hP
        have hD : va_D A (wWX12 cB cI cZ a0 r5.2.1 r5.2.2.1 (wb_um M0_8 14 ((r5.2.1 14)).toNatClampNeg v6)) := hD
        obtain ⟨M0_9, eM0_9, hf⟩ := wb_v hf
        rw [← eM0_9] at hP hD
        refine lv_aload_n hx hb dX12_readsHand_72 rfl (lv_at hl 2 rfl) ?_
        refine lv_dup hx hb dX12_readsHand_73 rfl ?_
        refine va_get (D := D) (ci := 12) (v := .int (r5.2.1 14)) (C := RX12) (T := TX12) (N := 58) hx hb hts hinX12 hown hK hP 0 rfl rfl 24 (by decide) (hts (.fieldLink RX12 222 "WheelBookModel" "newHands" "I") (List.mem_of_getElem? (i := 1) rfl)) (fun _ h9 => h9) rfl dX12_readsHand_74 ?_
        refine lv_iconst (v := (1 : Int32)) hx hb dX12_readsHand_77 (by decide) ?_
        refine lv_iadd hx hb dX12_readsHand_78 ?_
        refine va_put (D := D) (ci := 12) (v := .int ((r5.2.1 14) + (1 : Int32))) (ty := .int) (C := RX12) (T := TX12) (N := 58) hx hb hts hinX12 tyX12 tyX12_ok nmX12 hown hK hP hD hS 0 rfl rfl 24 (by decide) (hts (.fieldLink RX12 222 "WheelBookModel" "newHands" "I") (List.mem_of_getElem? (i := 1) rfl)) (fun _ h9 => h9) rfl (by decide +kernel) rfl rfl (Nat.le_of_ble_eq_true rfl) dX12_readsHand_79 (fun H locs hP hD hS => ?_)
        have hP : va_P D vwCl (wWX12 cB cI cZ a0 (upd r5.2.1 14 ((r5.2.1 14) + (1 : Int32))) r5.2.2.1 M0_9) H := hP
        have hD : va_D A (wWX12 cB cI cZ a0 (upd r5.2.1 14 ((r5.2.1 14) + (1 : Int32))) r5.2.2.1 M0_9) := hD
        obtain ⟨I0_10, eI0_10, hf⟩ := wb_v hf
        rw [← eI0_10] at hP hD
        exact W.vret hx hb hr (fun t ht hW => by rw [← Option.some.inj hf]; exact ⟨⟨(), rfl, trivial, by rw [ht]; exact hP, va_K.moved hW.alike hK, hD⟩, hS.F ht⟩) hS.2.2 dX12_readsHand_82
      · replace hf := wb_t hc hf
        exact W.vret hx hb hr (fun t ht hW => by rw [← Option.some.inj hf]; exact ⟨⟨(), rfl, trivial, by rw [ht]; exact hP, va_K.moved hW.alike hK, hD⟩, hS.F ht⟩) hS.2.2 dX12_readsHand_51
    · replace hf := wb_t hc hf
      exact W.vret hx hb hr (fun t ht hW => by rw [← Option.some.inj hf]; exact ⟨⟨(), rfl, trivial, by rw [ht]; exact hP, va_K.moved hW.alike hK, hD⟩, hS.F ht⟩) hS.2.2 dX12_readsHand_21
  refine lv_aload_n hx hb dX12_readsHand_0 rfl (lv_at hl 0 rfl) ?_
  refine va_get (D := D) (ci := 12) (v := .int (I0 14)) (C := RX12) (T := TX12) (N := 58) hx hb hts hinX12 hown hK hP 0 rfl rfl 24 (by decide) (hts (.fieldLink RX12 222 "WheelBookModel" "newHands" "I") (List.mem_of_getElem? (i := 1) rfl)) (fun _ h9 => h9) rfl dX12_readsHand_1 ?_
  refine lv_bipush (v := (30 : Int32)) hx hb dX12_readsHand_4 (by decide) ?_
  refine lv_icmp_ne (tgt := 14) hx hb dX12_readsHand_6 (by decide) (fun hc => ?_) (fun hc => ?_)
  · replace hf := wb_f hc hf
    exact J14 I0 L0 M0 H locs hP hD hS ls (lv_sub hl [0] rfl) hf
  · replace hf := wb_t hc hf
    refine lv_aload_n hx hb dX12_readsHand_9 rfl (lv_at hl 0 rfl) ?_
    refine lv_iconst (v := (2 : Int32)) hx hb dX12_readsHand_10 (by decide) ?_
    obtain ⟨r11, hr11, hf⟩ := wb_b hf
    have hPc := hP
    have hDc := hD
    have hFc := wj_F hDc hS hA
    refine va_callv (va_runV (As := [.int (2 : Int32)]) (rest := []) ⟨hx, hb, hml, hown, hts⟩ (cn_X12_wrong l D cB cI cZ N a0 I0 L0 M0 (2 : Int32) H.size r11 hr11) (cwV 1 hts gX12_readsHand_X12_wrong rfl rfl rfl cdX12_wrong ⟨Nat.le_of_ble_eq_true rfl, Nat.le_of_ble_eq_true rfl⟩) (wb_preDV hPc hK hDc (va_recv hK hP (ci := 12) (q0 := 0) rfl rfl)) rfl rfl hl.1 rfl (lv_room (Nat.le_of_ble_eq_true rfl)) dX12_readsHand_11 ⟨Nat.le_of_ble_eq_true rfl, Nat.le_of_ble_eq_true rfl⟩) hS (fun q _ h => hFc q h) hFc (fun u t H locs ht hvm hw hB hz1 hk1 hS => ?_)
    obtain ⟨hP, hD⟩ := wj_0 hFc ht hB
    exact J14 r11.1 r11.2.1 r11.2.2 H locs hP hD hS ls (lv_sub hl [0] rfl) hf

