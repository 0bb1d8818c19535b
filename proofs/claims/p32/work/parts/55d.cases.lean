set_option maxHeartbeats 4000000 in
set_option maxRecDepth 100000 in
theorem law_case30 {p : Program} {e : Env} {s : State} {m : MethodId} {below : List Frame} {meth : Method} {c : Code} (l : Launch) (hlt : l.stackTraces = false) (D : va_G) (cB cI cZ cJ : ClassId) (N : Nat) {b L : Nat} {xs : Nat → Int32} (C0 : lw_At p s m meth c b L xs) (hX0 : wb_XH s.heap s) (hNc : va_Nc wb_E2 wb_E1 s) (a0 a1 : Nat → Nat) (b2 : Nat) (I0 : Nat → Int32) (M0 : Nat → Nat → Int32) (I1 : Nat → Int32) (L1 : Int64) (M1 : Nat → Nat → Int32) (o2 : Nat → Int64) (y4 : Int32) (c0 s0 : Nat) (hc1 : c0 + 1 ≤ room_1.cells) (hs1 : s0 + 6 ≤ room_1.slots) (H : Heap) (locs : List Loc) (hK : va_K D vwCl [(cB, .byte), (cI, .int), (cZ, .boolean), (cJ, .long)] s) (hP : va_P D vwCl ((wWX11 cB cI cZ a0 I0 M0) ++ ((wWX12 cB cI cZ a1 I1 L1 M1) ++ [((b2, .inl (cJ, 1, .inr (.inl o2))) : Nat × va_E)])) H) (hD : va_D (fun q : Nat => s.heap.size ≤ q) ((wWX11 cB cI cZ a0 I0 M0) ++ ((wWX12 cB cI cZ a1 I1 L1 M1) ++ [((b2, .inl (cJ, 1, .inr (.inl o2))) : Nat × va_E)]))) (hS : va_S (fun q : Nat => s.heap.size ≤ q) s.heap H locs) (ls : Array Slot) (hl : lv_has ls 7 [(0, .ref b), (1, .ref (a0 0)), (2, .ref (a1 0)), (3, .ref b2), (4, .int y4)]) (R : (Nat → Int32) × (Nat → Nat → Int32) × (Nat → Int32) × Int64 × (Nat → Nat → Int32) × (Nat → Int64)) (hf : fL_case30 N L xs I0 M0 I1 L1 M1 o2 y4 = some R)
    (kk : ∀ (H : Heap) (locs : List Loc) (ls : Array Slot), va_P D vwCl ((wWX11 cB cI cZ a0 R.1 R.2.1) ++ ((wWX12 cB cI cZ a1 R.2.2.1 R.2.2.2.1 R.2.2.2.2.1) ++ [((b2, .inl (cJ, 1, .inr (.inl R.2.2.2.2.2))) : Nat × va_E)])) H → va_D (fun q : Nat => s.heap.size ≤ q) ((wWX11 cB cI cZ a0 R.1 R.2.1) ++ ((wWX12 cB cI cZ a1 R.2.2.1 R.2.2.2.1 R.2.2.2.2.1) ++ [((b2, .inl (cJ, 1, .inr (.inl R.2.2.2.2.2))) : Nat × va_E)])) → va_S (fun q : Nat => s.heap.size ≤ q) s.heap H locs → lv_has ls 7 [(0, .ref b), (1, .ref (a0 0)), (2, .ref (a1 0)), (3, .ref b2), (4, .int y4)] → W p l e room_1 s m #[Value.ref b] below meth c H locs (c0 + 1) (s0 + 6) (lw_Z below #[Value.ref b] s) (F0 m 2066 ls [])) : W p l e room_1 s m #[Value.ref b] below meth c H locs c0 s0 (lw_Z below #[Value.ref b] s) (F0 m 1653 ls []) := by
  obtain ⟨hx, hb, hr, hml, hown, hts0, hXs, hbl, hlocks, hgv⟩ := id C0
  have hown : s.vm.findClass RL = some m.cls := hown
  have hb : c.code = cL_law := hb
  have hts : ∀ w ∈ wyL_law, w.before #[Value.ref b] s = true := fun w h => hts0 w (wl_law w h)
  have hA : ∀ q : Nat, s.heap.size ≤ q → (fun q : Nat => s.heap.size ≤ q) q := fun _ h => h
  have hbA : ¬ (fun q : Nat => s.heap.size ≤ q) b := Nat.not_le.mpr hbl
  have hK3 : va_K D vwCl [(cB, .byte), (cI, .int), (cZ, .boolean)] s := hK.sub [0, 1, 2] rfl
  have hc0 : c0 ≤ room_1.cells := Nat.le_of_succ_le hc1
  have hs0 : s0 ≤ room_1.slots := Nat.le_trans (Nat.le_add_right _ 6) hs1
  unfold fL_case30 at hf
  refine lv_aload_n hx hb dL_law_1653 rfl (lv_at hl 1 rfl) ?_
  refine lv_aload_n hx hb dL_law_1654 rfl (lv_at hl 0 rfl) ?_
  refine lv_iload hx hb dL_law_1655 (lv_at hl 4 rfl) ?_
  refine lv_iconst (v := (1 : Int32)) hx hb dL_law_1657 (by decide) ?_
  refine lv_iadd hx hb dL_law_1658 ?_
  obtain ⟨hin, hf⟩ := wb_n hf
  refine va_sld hx hb hXs hbl hbA hS hin dL_law_1659 ?_
  refine lv_aload_n hx hb dL_law_1660 rfl (lv_at hl 0 rfl) ?_
  refine lv_iload hx hb dL_law_1661 (lv_at hl 4 rfl) ?_
  refine lv_iconst (v := (2 : Int32)) hx hb dL_law_1663 (by decide) ?_
  refine lv_iadd hx hb dL_law_1664 ?_
  obtain ⟨hin, hf⟩ := wb_n hf
  refine va_sld hx hb hXs hbl hbA hS hin dL_law_1665 ?_
  refine lv_aload_n hx hb dL_law_1666 rfl (lv_at hl 3 rfl) ?_
  obtain ⟨r1, hr1, hf⟩ := wb_b hf
  have hPc := wj_P3 hP
  have hDc := wj_D3 hD
  have hFc := wj_F hDc hS hA
  refine va_calli (vx_runSW (As := [.ref (a0 0), .int (xs ((y4 + (1 : Int32))).toNatClampNeg), .int (xs ((y4 + (2 : Int32))).toNatClampNeg), .ref b2]) (rest := []) ⟨hx, hb, hml, hown, hts⟩ (cn_L_leaf l hlt D cB cI cZ cJ N a0 I0 M0 (xs ((y4 + (1 : Int32))).toNatClampNeg) (xs ((y4 + (2 : Int32))).toNatClampNeg) b2 o2 H.size r1 hr1) (vx_cwSW 4 hts gyL_law_L_leaf rfl rfl rfl csL_leaf ⟨Nat.le_of_ble_eq_true rfl, Nat.le_of_ble_eq_true rfl⟩) (wb_preLS hPc hK hDc (hX0.kept hS) hNc) rfl rfl hl.1 rfl (lv_room (Nat.le_of_ble_eq_true rfl)) dL_law_1667 ⟨hc1, hs1⟩) hS (fun q _ h => hFc q h) hFc (fun r9 u t H locs ht hvm hw hB hz1 hk1 hS => ?_)
  obtain ⟨hP, hD⟩ := wj_3 hP hD hk1 hFc ht hB
  rw [hw]
  obtain ⟨v2, ev2, hf⟩ := wb_v hf
  refine wb_topi ev2 ?_
  refine lv_istore (lv' := [(5, .int v2), (0, .ref b), (1, .ref (a0 0)), (2, .ref (a1 0)), (3, .ref b2), (4, .int y4)]) hx hb dL_law_1670 hl (by decide) rfl (fun ls hl => ?_)
  refine lv_aload_n hx hb dL_law_1672 rfl (lv_at hl 3 rfl) ?_
  refine lv_aload_n hx hb dL_law_1673 rfl (lv_at hl 1 rfl) ?_
  refine lv_iload hx hb dL_law_1674 (lv_at hl 5 rfl) ?_
  refine lv_iconst (v := (1 : Int32)) hx hb dL_law_1676 (by decide) ?_
  refine lv_iadd hx hb dL_law_1677 ?_
  obtain ⟨hin, hf⟩ := wb_n hf
  refine va_sld hx hb hXs hbl hbA hS hin dL_law_1678 ?_
  refine lv_aload_n hx hb dL_law_1679 rfl (lv_at hl 1 rfl) ?_
  refine lv_iload hx hb dL_law_1680 (lv_at hl 5 rfl) ?_
  refine lv_iconst (v := (2 : Int32)) hx hb dL_law_1682 (by decide) ?_
  refine lv_iadd hx hb dL_law_1683 ?_
  obtain ⟨hin, hf⟩ := wb_n hf
  refine va_sld hx hb hXs hbl hbA hS hin dL_law_1684 ?_
  obtain ⟨r3, hr3, hf⟩ := wb_b hf
  have hPc := wj_P2 hP
  have hDc := wj_D2 hD
  have hFc := wj_F hDc hS hA
  refine va_calli (va_runV (As := [.int (xs ((y4 + (1 : Int32))).toNatClampNeg), .int (xs ((y4 + (2 : Int32))).toNatClampNeg)]) (rest := []) ⟨hx, hb, hml, hown, hts⟩ (cn_X12_leaf l D cB cI cZ N a1 I1 L1 M1 (xs ((y4 + (1 : Int32))).toNatClampNeg) (xs ((y4 + (2 : Int32))).toNatClampNeg) H.size r3 hr3) (cwV 2 hts gyL_law_X12_leaf rfl rfl rfl cdX12_leaf ⟨Nat.le_of_ble_eq_true rfl, Nat.le_of_ble_eq_true rfl⟩) (wb_preDV hPc hK3 hDc (wr_12 hK hP (q0 := 52) rfl)) rfl rfl hl.1 rfl (lv_room (Nat.le_of_ble_eq_true rfl)) dL_law_1685 ⟨hc1, hs1⟩) hS (fun q _ h => hFc q h) hFc (fun r9 u t H locs ht hvm hw hB hz1 hk1 hS => ?_)
  obtain ⟨hP, hD⟩ := wj_2 hP hD hk1 hFc ht hB
  rw [hw]
  obtain ⟨v4, ev4, hf⟩ := wb_v hf
  refine wb_topi ev4 ?_
  refine lv_istore (lv' := [(6, .int v4), (5, .int v2), (0, .ref b), (1, .ref (a0 0)), (2, .ref (a1 0)), (3, .ref b2), (4, .int y4)]) hx hb dL_law_1688 hl (by decide) rfl (fun ls hl => ?_)
  refine lv_aload_n hx hb dL_law_1690 rfl (lv_at hl 4 rfl) ?_
  obtain ⟨r5, hr5, hf⟩ := wb_b hf
  refine vp_callSi (W.runV (As := []) (rest := []) ⟨hx, hb, hml, hown, hts⟩ (cn_X12_thrown l D cB cI cZ N a1 r3.2.1 r3.2.2.1 r3.2.2.2 r5 hr5) (cwV 0 hts gyL_law_X12_thrown rfl rfl rfl cdX12_thrown ⟨Nat.le_of_ble_eq_true rfl, Nat.le_of_ble_eq_true rfl⟩) (wb_preV (hP.sub (ws' := (wWX12 cB cI cZ a1 r3.2.1 r3.2.2.1 r3.2.2.2)) [52, 53, 54, 55, 56, 57, 58, 59, 60, 61, 62, 63, 64, 65, 66, 67, 68, 69, 70, 71, 72, 73, 74, 75, 76, 77, 78, 79, 80, 81, 82, 83, 84, 85, 86, 87, 88, 89] rfl) hK3 (wr_12 hK hP (q0 := 52) rfl)) rfl rfl hl.1 rfl (lv_room (Nat.le_of_ble_eq_true rfl)) dL_law_1691 ⟨hc1, hs1⟩) (fun r9 e9 => ?_)
  rw [e9]
  refine lv_iload hx hb dL_law_1694 (lv_at hl 1 rfl) ?_
  refine lv_icmp_eq (tgt := 1701) hx hb dL_law_1696 (by decide) (fun hc => ?_) (fun hc => ?_)
  · replace hf := wb_t hc hf
    refine lv_iload hx hb dL_law_1701 (lv_at hl 1 rfl) ?_
    refine lv_if_ne (tgt := 1718) hx hb dL_law_1703 (by decide) (fun hc => ?_) (fun hc => ?_)
    · replace hf := wb_f hc hf
      refine lv_goto (tgt := 2066) hx hb dL_law_1718 (by decide) ?_
      refine W.widen (k := c0 + 1) (n := s0 + 6) (Nat.le_refl _) (Nat.le_refl _) ?_
      have h9 := Option.some.inj hf
      exact kk H locs ls (by rw [← h9]; exact hP) (by rw [← h9]; exact hD) hS (lv_sub hl [2, 3, 4, 5, 6] rfl)
    · replace hf := wb_t hc hf
      refine lv_aload_n hx hb dL_law_1706 rfl (lv_at hl 5 rfl) ?_
      refine lv_iconst (v := (0 : Int32)) hx hb dL_law_1707 (by decide) ?_
      refine va_lald hx hb hK hP 90 3 rfl rfl (show ¬ ((0 : Int32) < 0 ∨ 1 ≤ (0 : Int32).toNatClampNeg) from by decide) dL_law_1708 ?_
      refine lv_iload hx hb dL_law_1709 (lv_at hl 0 rfl) ?_
      refine lv_i2l hx hb dL_law_1711 rfl ?_
      refine W.lcmp hx hb dL_law_1712 ?_
      refine lv_if_eq (tgt := 1718) hx hb dL_law_1713 (by decide) (fun hc => ?_) (fun hc => ?_)
      · replace hf := wb_t hc hf
        refine lv_goto (tgt := 2066) hx hb dL_law_1718 (by decide) ?_
        refine W.widen (k := c0 + 1) (n := s0 + 6) (Nat.le_refl _) (Nat.le_refl _) ?_
        have h9 := Option.some.inj hf
        exact kk H locs ls (by rw [← h9]; exact hP) (by rw [← h9]; exact hD) hS (lv_sub hl [2, 3, 4, 5, 6] rfl)
      · replace hf := wb_f hc hf
        refine lv_iconst (v := (0 : Int32)) hx hb dL_law_1716 (by decide) ?_
        exact absurd hf (fun h => nomatch h)
  · replace hf := wb_f hc hf
    refine lv_iconst (v := (0 : Int32)) hx hb dL_law_1699 (by decide) ?_
    exact absurd hf (fun h => nomatch h)

set_option maxHeartbeats 4000000 in
set_option maxRecDepth 100000 in
theorem law_case31 {p : Program} {e : Env} {s : State} {m : MethodId} {below : List Frame} {meth : Method} {c : Code} (l : Launch) (hlt : l.stackTraces = false) (D : va_G) (cB cI cZ cJ : ClassId) (N : Nat) {b L : Nat} {xs : Nat → Int32} (C0 : lw_At p s m meth c b L xs) (hX0 : wb_XH s.heap s) (hNc : va_Nc wb_E2 wb_E1 s) (a0 a1 : Nat → Nat) (b2 : Nat) (I0 : Nat → Int32) (M0 : Nat → Nat → Int32) (I1 : Nat → Int32) (L1 : Int64) (M1 : Nat → Nat → Int32) (o2 : Nat → Int64) (y4 : Int32) (c0 s0 : Nat) (hc1 : c0 + 1 ≤ room_1.cells) (hs1 : s0 + 6 ≤ room_1.slots) (H : Heap) (locs : List Loc) (hK : va_K D vwCl [(cB, .byte), (cI, .int), (cZ, .boolean), (cJ, .long)] s) (hP : va_P D vwCl ((wWX11 cB cI cZ a0 I0 M0) ++ ((wWX12 cB cI cZ a1 I1 L1 M1) ++ [((b2, .inl (cJ, 1, .inr (.inl o2))) : Nat × va_E)])) H) (hD : va_D (fun q : Nat => s.heap.size ≤ q) ((wWX11 cB cI cZ a0 I0 M0) ++ ((wWX12 cB cI cZ a1 I1 L1 M1) ++ [((b2, .inl (cJ, 1, .inr (.inl o2))) : Nat × va_E)]))) (hS : va_S (fun q : Nat => s.heap.size ≤ q) s.heap H locs) (ls : Array Slot) (hl : lv_has ls 7 [(0, .ref b), (1, .ref (a0 0)), (2, .ref (a1 0)), (3, .ref b2), (4, .int y4)]) (R : (Nat → Int32) × (Nat → Nat → Int32) × (Nat → Int32) × Int64 × (Nat → Nat → Int32) × (Nat → Int64)) (hf : fL_case31 N L xs I0 M0 I1 L1 M1 o2 y4 = some R)
    (kk : ∀ (H : Heap) (locs : List Loc) (ls : Array Slot), va_P D vwCl ((wWX11 cB cI cZ a0 R.1 R.2.1) ++ ((wWX12 cB cI cZ a1 R.2.2.1 R.2.2.2.1 R.2.2.2.2.1) ++ [((b2, .inl (cJ, 1, .inr (.inl R.2.2.2.2.2))) : Nat × va_E)])) H → va_D (fun q : Nat => s.heap.size ≤ q) ((wWX11 cB cI cZ a0 R.1 R.2.1) ++ ((wWX12 cB cI cZ a1 R.2.2.1 R.2.2.2.1 R.2.2.2.2.1) ++ [((b2, .inl (cJ, 1, .inr (.inl R.2.2.2.2.2))) : Nat × va_E)])) → va_S (fun q : Nat => s.heap.size ≤ q) s.heap H locs → lv_has ls 7 [(0, .ref b), (1, .ref (a0 0)), (2, .ref (a1 0)), (3, .ref b2), (4, .int y4)] → W p l e room_1 s m #[Value.ref b] below meth c H locs (c0 + 1) (s0 + 6) (lw_Z below #[Value.ref b] s) (F0 m 2066 ls [])) : W p l e room_1 s m #[Value.ref b] below meth c H locs c0 s0 (lw_Z below #[Value.ref b] s) (F0 m 1721 ls []) := by
  obtain ⟨hx, hb, hr, hml, hown, hts0, hXs, hbl, hlocks, hgv⟩ := id C0
  have hown : s.vm.findClass RL = some m.cls := hown
  have hb : c.code = cL_law := hb
  have hts : ∀ w ∈ wyL_law, w.before #[Value.ref b] s = true := fun w h => hts0 w (wl_law w h)
  have hA : ∀ q : Nat, s.heap.size ≤ q → (fun q : Nat => s.heap.size ≤ q) q := fun _ h => h
  have hbA : ¬ (fun q : Nat => s.heap.size ≤ q) b := Nat.not_le.mpr hbl
  have hK3 : va_K D vwCl [(cB, .byte), (cI, .int), (cZ, .boolean)] s := hK.sub [0, 1, 2] rfl
  have hc0 : c0 ≤ room_1.cells := Nat.le_of_succ_le hc1
  have hs0 : s0 ≤ room_1.slots := Nat.le_trans (Nat.le_add_right _ 6) hs1
  unfold fL_case31 at hf
  refine lv_aload_n hx hb dL_law_1721 rfl (lv_at hl 1 rfl) ?_
  refine lv_aload_n hx hb dL_law_1722 rfl (lv_at hl 0 rfl) ?_
  refine lv_iload hx hb dL_law_1723 (lv_at hl 4 rfl) ?_
  refine lv_iconst (v := (1 : Int32)) hx hb dL_law_1725 (by decide) ?_
  refine lv_iadd hx hb dL_law_1726 ?_
  obtain ⟨hin, hf⟩ := wb_n hf
  refine va_sld hx hb hXs hbl hbA hS hin dL_law_1727 ?_
  refine lv_aload_n hx hb dL_law_1728 rfl (lv_at hl 0 rfl) ?_
  refine lv_iload hx hb dL_law_1729 (lv_at hl 4 rfl) ?_
  refine lv_iconst (v := (2 : Int32)) hx hb dL_law_1731 (by decide) ?_
  refine lv_iadd hx hb dL_law_1732 ?_
  obtain ⟨hin, hf⟩ := wb_n hf
  refine va_sld hx hb hXs hbl hbA hS hin dL_law_1733 ?_
  refine lv_aload_n hx hb dL_law_1734 rfl (lv_at hl 0 rfl) ?_
  refine lv_iload hx hb dL_law_1735 (lv_at hl 4 rfl) ?_
  refine lv_iconst (v := (3 : Int32)) hx hb dL_law_1737 (by decide) ?_
  refine lv_iadd hx hb dL_law_1738 ?_
  obtain ⟨hin, hf⟩ := wb_n hf
  refine va_sld hx hb hXs hbl hbA hS hin dL_law_1739 ?_
  refine lv_aload_n hx hb dL_law_1740 rfl (lv_at hl 3 rfl) ?_
  obtain ⟨r1, hr1, hf⟩ := wb_b hf
  have hPc := wj_P3 hP
  have hDc := wj_D3 hD
  have hFc := wj_F hDc hS hA
  refine va_calli (vx_runSW (As := [.ref (a0 0), .int (xs ((y4 + (1 : Int32))).toNatClampNeg), .int (xs ((y4 + (2 : Int32))).toNatClampNeg), .int (xs ((y4 + (3 : Int32))).toNatClampNeg), .ref b2]) (rest := []) ⟨hx, hb, hml, hown, hts⟩ (cn_L_order l hlt D cB cI cZ cJ N a0 I0 M0 (xs ((y4 + (1 : Int32))).toNatClampNeg) (xs ((y4 + (2 : Int32))).toNatClampNeg) (xs ((y4 + (3 : Int32))).toNatClampNeg) b2 o2 H.size r1 hr1) (vx_cwSW 5 hts gyL_law_L_order rfl rfl rfl csL_order ⟨Nat.le_of_ble_eq_true rfl, Nat.le_of_ble_eq_true rfl⟩) (wb_preLS hPc hK hDc (hX0.kept hS) hNc) rfl rfl hl.1 rfl (lv_room (Nat.le_of_ble_eq_true rfl)) dL_law_1741 ⟨hc1, hs1⟩) hS (fun q _ h => hFc q h) hFc (fun r9 u t H locs ht hvm hw hB hz1 hk1 hS => ?_)
  obtain ⟨hP, hD⟩ := wj_3 hP hD hk1 hFc ht hB
  rw [hw]
  obtain ⟨v2, ev2, hf⟩ := wb_v hf
  refine wb_topi ev2 ?_
  refine lv_istore (lv' := [(5, .int v2), (0, .ref b), (1, .ref (a0 0)), (2, .ref (a1 0)), (3, .ref b2), (4, .int y4)]) hx hb dL_law_1744 hl (by decide) rfl (fun ls hl => ?_)
  refine lv_aload_n hx hb dL_law_1746 rfl (lv_at hl 3 rfl) ?_
  refine lv_aload_n hx hb dL_law_1747 rfl (lv_at hl 1 rfl) ?_
  refine lv_iload hx hb dL_law_1748 (lv_at hl 5 rfl) ?_
  refine lv_iconst (v := (1 : Int32)) hx hb dL_law_1750 (by decide) ?_
  refine lv_iadd hx hb dL_law_1751 ?_
  obtain ⟨hin, hf⟩ := wb_n hf
  refine va_sld hx hb hXs hbl hbA hS hin dL_law_1752 ?_
  refine lv_aload_n hx hb dL_law_1753 rfl (lv_at hl 1 rfl) ?_
  refine lv_iload hx hb dL_law_1754 (lv_at hl 5 rfl) ?_
  refine lv_iconst (v := (2 : Int32)) hx hb dL_law_1756 (by decide) ?_
  refine lv_iadd hx hb dL_law_1757 ?_
  obtain ⟨hin, hf⟩ := wb_n hf
  refine va_sld hx hb hXs hbl hbA hS hin dL_law_1758 ?_
  refine lv_aload_n hx hb dL_law_1759 rfl (lv_at hl 1 rfl) ?_
  refine lv_iload hx hb dL_law_1760 (lv_at hl 5 rfl) ?_
  refine lv_iconst (v := (3 : Int32)) hx hb dL_law_1762 (by decide) ?_
  refine lv_iadd hx hb dL_law_1763 ?_
  obtain ⟨hin, hf⟩ := wb_n hf
  refine va_sld hx hb hXs hbl hbA hS hin dL_law_1764 ?_
  obtain ⟨r3, hr3, hf⟩ := wb_b hf
  have hPc := wj_P2 hP
  have hDc := wj_D2 hD
  have hFc := wj_F hDc hS hA
  refine va_calli (va_runV (As := [.int (xs ((y4 + (1 : Int32))).toNatClampNeg), .int (xs ((y4 + (2 : Int32))).toNatClampNeg), .int (xs ((y4 + (3 : Int32))).toNatClampNeg)]) (rest := []) ⟨hx, hb, hml, hown, hts⟩ (cn_X12_order l D cB cI cZ N a1 I1 L1 M1 (xs ((y4 + (1 : Int32))).toNatClampNeg) (xs ((y4 + (2 : Int32))).toNatClampNeg) (xs ((y4 + (3 : Int32))).toNatClampNeg) H.size r3 hr3) (cwV 3 hts gyL_law_X12_order rfl rfl rfl cdX12_order ⟨Nat.le_of_ble_eq_true rfl, Nat.le_of_ble_eq_true rfl⟩) (wb_preDV hPc hK3 hDc (wr_12 hK hP (q0 := 52) rfl)) rfl rfl hl.1 rfl (lv_room (Nat.le_of_ble_eq_true rfl)) dL_law_1765 ⟨hc1, hs1⟩) hS (fun q _ h => hFc q h) hFc (fun r9 u t H locs ht hvm hw hB hz1 hk1 hS => ?_)
  obtain ⟨hP, hD⟩ := wj_2 hP hD hk1 hFc ht hB
  rw [hw]
  obtain ⟨v4, ev4, hf⟩ := wb_v hf
  refine wb_topi ev4 ?_
  refine lv_istore (lv' := [(6, .int v4), (5, .int v2), (0, .ref b), (1, .ref (a0 0)), (2, .ref (a1 0)), (3, .ref b2), (4, .int y4)]) hx hb dL_law_1768 hl (by decide) rfl (fun ls hl => ?_)
  refine lv_goto (tgt := 2066) hx hb dL_law_1770 (by decide) ?_
  refine W.widen (k := c0 + 1) (n := s0 + 6) (Nat.le_refl _) (Nat.le_refl _) ?_
  have h9 := Option.some.inj hf
  exact kk H locs ls (by rw [← h9]; exact hP) (by rw [← h9]; exact hD) hS (lv_sub hl [2, 3, 4, 5, 6] rfl)

set_option maxHeartbeats 4000000 in
set_option maxRecDepth 100000 in
theorem law_case32 {p : Program} {e : Env} {s : State} {m : MethodId} {below : List Frame} {meth : Method} {c : Code} (l : Launch) (hlt : l.stackTraces = false) (D : va_G) (cB cI cZ cJ : ClassId) (N : Nat) {b L : Nat} {xs : Nat → Int32} (C0 : lw_At p s m meth c b L xs) (hX0 : wb_XH s.heap s) (hNc : va_Nc wb_E2 wb_E1 s) (a0 a1 : Nat → Nat) (b2 : Nat) (I0 : Nat → Int32) (M0 : Nat → Nat → Int32) (I1 : Nat → Int32) (L1 : Int64) (M1 : Nat → Nat → Int32) (o2 : Nat → Int64) (y4 : Int32) (c0 s0 : Nat) (hc1 : c0 + 1 ≤ room_1.cells) (hs1 : s0 + 6 ≤ room_1.slots) (H : Heap) (locs : List Loc) (hK : va_K D vwCl [(cB, .byte), (cI, .int), (cZ, .boolean), (cJ, .long)] s) (hP : va_P D vwCl ((wWX11 cB cI cZ a0 I0 M0) ++ ((wWX12 cB cI cZ a1 I1 L1 M1) ++ [((b2, .inl (cJ, 1, .inr (.inl o2))) : Nat × va_E)])) H) (hD : va_D (fun q : Nat => s.heap.size ≤ q) ((wWX11 cB cI cZ a0 I0 M0) ++ ((wWX12 cB cI cZ a1 I1 L1 M1) ++ [((b2, .inl (cJ, 1, .inr (.inl o2))) : Nat × va_E)]))) (hS : va_S (fun q : Nat => s.heap.size ≤ q) s.heap H locs) (ls : Array Slot) (hl : lv_has ls 7 [(0, .ref b), (1, .ref (a0 0)), (2, .ref (a1 0)), (3, .ref b2), (4, .int y4)]) (R : (Nat → Int32) × (Nat → Nat → Int32) × (Nat → Int32) × Int64 × (Nat → Nat → Int32) × (Nat → Int64)) (hf : fL_case32 N L xs I0 M0 I1 L1 M1 o2 y4 = some R)
    (kk : ∀ (H : Heap) (locs : List Loc) (ls : Array Slot), va_P D vwCl ((wWX11 cB cI cZ a0 R.1 R.2.1) ++ ((wWX12 cB cI cZ a1 R.2.2.1 R.2.2.2.1 R.2.2.2.2.1) ++ [((b2, .inl (cJ, 1, .inr (.inl R.2.2.2.2.2))) : Nat × va_E)])) H → va_D (fun q : Nat => s.heap.size ≤ q) ((wWX11 cB cI cZ a0 R.1 R.2.1) ++ ((wWX12 cB cI cZ a1 R.2.2.1 R.2.2.2.1 R.2.2.2.2.1) ++ [((b2, .inl (cJ, 1, .inr (.inl R.2.2.2.2.2))) : Nat × va_E)])) → va_S (fun q : Nat => s.heap.size ≤ q) s.heap H locs → lv_has ls 7 [(0, .ref b), (1, .ref (a0 0)), (2, .ref (a1 0)), (3, .ref b2), (4, .int y4)] → W p l e room_1 s m #[Value.ref b] below meth c H locs (c0 + 1) (s0 + 6) (lw_Z below #[Value.ref b] s) (F0 m 2066 ls [])) : W p l e room_1 s m #[Value.ref b] below meth c H locs c0 s0 (lw_Z below #[Value.ref b] s) (F0 m 1773 ls []) := by
  obtain ⟨hx, hb, hr, hml, hown, hts0, hXs, hbl, hlocks, hgv⟩ := id C0
  have hown : s.vm.findClass RL = some m.cls := hown
  have hb : c.code = cL_law := hb
  have hts : ∀ w ∈ wyL_law, w.before #[Value.ref b] s = true := fun w h => hts0 w (wl_law w h)
  have hA : ∀ q : Nat, s.heap.size ≤ q → (fun q : Nat => s.heap.size ≤ q) q := fun _ h => h
  have hbA : ¬ (fun q : Nat => s.heap.size ≤ q) b := Nat.not_le.mpr hbl
  have hK3 : va_K D vwCl [(cB, .byte), (cI, .int), (cZ, .boolean)] s := hK.sub [0, 1, 2] rfl
  have hc0 : c0 ≤ room_1.cells := Nat.le_of_succ_le hc1
  have hs0 : s0 ≤ room_1.slots := Nat.le_trans (Nat.le_add_right _ 6) hs1
  unfold fL_case32 at hf
  refine lv_aload_n hx hb dL_law_1773 rfl (lv_at hl 1 rfl) ?_
  refine lv_aload_n hx hb dL_law_1774 rfl (lv_at hl 0 rfl) ?_
  refine lv_iload hx hb dL_law_1775 (lv_at hl 4 rfl) ?_
  refine lv_iconst (v := (1 : Int32)) hx hb dL_law_1777 (by decide) ?_
  refine lv_iadd hx hb dL_law_1778 ?_
  obtain ⟨hin, hf⟩ := wb_n hf
  refine va_sld hx hb hXs hbl hbA hS hin dL_law_1779 ?_
  refine lv_aload_n hx hb dL_law_1780 rfl (lv_at hl 0 rfl) ?_
  refine lv_iload hx hb dL_law_1781 (lv_at hl 4 rfl) ?_
  refine lv_iconst (v := (2 : Int32)) hx hb dL_law_1783 (by decide) ?_
  refine lv_iadd hx hb dL_law_1784 ?_
  obtain ⟨hin, hf⟩ := wb_n hf
  refine va_sld hx hb hXs hbl hbA hS hin dL_law_1785 ?_
  refine lv_aload_n hx hb dL_law_1786 rfl (lv_at hl 0 rfl) ?_
  refine lv_iload hx hb dL_law_1787 (lv_at hl 4 rfl) ?_
  refine lv_iconst (v := (3 : Int32)) hx hb dL_law_1789 (by decide) ?_
  refine lv_iadd hx hb dL_law_1790 ?_
  obtain ⟨hin, hf⟩ := wb_n hf
  refine va_sld hx hb hXs hbl hbA hS hin dL_law_1791 ?_
  refine lv_aload_n hx hb dL_law_1792 rfl (lv_at hl 3 rfl) ?_
  obtain ⟨r1, hr1, hf⟩ := wb_b hf
  have hPc := wj_P3 hP
  have hDc := wj_D3 hD
  have hFc := wj_F hDc hS hA
  refine va_calli (vx_runSW (As := [.ref (a0 0), .int (xs ((y4 + (1 : Int32))).toNatClampNeg), .int (xs ((y4 + (2 : Int32))).toNatClampNeg), .int (xs ((y4 + (3 : Int32))).toNatClampNeg), .ref b2]) (rest := []) ⟨hx, hb, hml, hown, hts⟩ (cn_L_same l hlt D cB cI cZ cJ N a0 I0 M0 (xs ((y4 + (1 : Int32))).toNatClampNeg) (xs ((y4 + (2 : Int32))).toNatClampNeg) (xs ((y4 + (3 : Int32))).toNatClampNeg) b2 o2 H.size r1 hr1) (vx_cwSW 5 hts gyL_law_L_same rfl rfl rfl csL_same ⟨Nat.le_of_ble_eq_true rfl, Nat.le_of_ble_eq_true rfl⟩) (wb_preLS hPc hK hDc (hX0.kept hS) hNc) rfl rfl hl.1 rfl (lv_room (Nat.le_of_ble_eq_true rfl)) dL_law_1793 ⟨hc1, hs1⟩) hS (fun q _ h => hFc q h) hFc (fun r9 u t H locs ht hvm hw hB hz1 hk1 hS => ?_)
  obtain ⟨hP, hD⟩ := wj_3 hP hD hk1 hFc ht hB
  rw [hw]
  obtain ⟨v2, ev2, hf⟩ := wb_v hf
  refine wb_topi ev2 ?_
  refine lv_istore (lv' := [(5, .int v2), (0, .ref b), (1, .ref (a0 0)), (2, .ref (a1 0)), (3, .ref b2), (4, .int y4)]) hx hb dL_law_1796 hl (by decide) rfl (fun ls hl => ?_)
  refine lv_aload_n hx hb dL_law_1798 rfl (lv_at hl 3 rfl) ?_
  refine lv_aload_n hx hb dL_law_1799 rfl (lv_at hl 1 rfl) ?_
  refine lv_iload hx hb dL_law_1800 (lv_at hl 5 rfl) ?_
  refine lv_iconst (v := (1 : Int32)) hx hb dL_law_1802 (by decide) ?_
  refine lv_iadd hx hb dL_law_1803 ?_
  obtain ⟨hin, hf⟩ := wb_n hf
  refine va_sld hx hb hXs hbl hbA hS hin dL_law_1804 ?_
  refine lv_aload_n hx hb dL_law_1805 rfl (lv_at hl 1 rfl) ?_
  refine lv_iload hx hb dL_law_1806 (lv_at hl 5 rfl) ?_
  refine lv_iconst (v := (2 : Int32)) hx hb dL_law_1808 (by decide) ?_
  refine lv_iadd hx hb dL_law_1809 ?_
  obtain ⟨hin, hf⟩ := wb_n hf
  refine va_sld hx hb hXs hbl hbA hS hin dL_law_1810 ?_
  refine lv_aload_n hx hb dL_law_1811 rfl (lv_at hl 1 rfl) ?_
  refine lv_iload hx hb dL_law_1812 (lv_at hl 5 rfl) ?_
  refine lv_iconst (v := (3 : Int32)) hx hb dL_law_1814 (by decide) ?_
  refine lv_iadd hx hb dL_law_1815 ?_
  obtain ⟨hin, hf⟩ := wb_n hf
  refine va_sld hx hb hXs hbl hbA hS hin dL_law_1816 ?_
  obtain ⟨r3, hr3, hf⟩ := wb_b hf
  have hPc := wj_P2 hP
  have hDc := wj_D2 hD
  have hFc := wj_F hDc hS hA
  refine va_calli (va_runV (As := [.int (xs ((y4 + (1 : Int32))).toNatClampNeg), .int (xs ((y4 + (2 : Int32))).toNatClampNeg), .int (xs ((y4 + (3 : Int32))).toNatClampNeg)]) (rest := []) ⟨hx, hb, hml, hown, hts⟩ (cn_X12_same l D cB cI cZ N a1 I1 L1 M1 (xs ((y4 + (1 : Int32))).toNatClampNeg) (xs ((y4 + (2 : Int32))).toNatClampNeg) (xs ((y4 + (3 : Int32))).toNatClampNeg) H.size r3 hr3) (cwV 3 hts gyL_law_X12_same rfl rfl rfl cdX12_same ⟨Nat.le_of_ble_eq_true rfl, Nat.le_of_ble_eq_true rfl⟩) (wb_preDV hPc hK3 hDc (wr_12 hK hP (q0 := 52) rfl)) rfl rfl hl.1 rfl (lv_room (Nat.le_of_ble_eq_true rfl)) dL_law_1817 ⟨hc1, hs1⟩) hS (fun q _ h => hFc q h) hFc (fun r9 u t H locs ht hvm hw hB hz1 hk1 hS => ?_)
  obtain ⟨hP, hD⟩ := wj_2 hP hD hk1 hFc ht hB
  rw [hw]
  obtain ⟨v4, ev4, hf⟩ := wb_v hf
  refine wb_topi ev4 ?_
  refine lv_istore (lv' := [(6, .int v4), (5, .int v2), (0, .ref b), (1, .ref (a0 0)), (2, .ref (a1 0)), (3, .ref b2), (4, .int y4)]) hx hb dL_law_1820 hl (by decide) rfl (fun ls hl => ?_)
  refine lv_goto (tgt := 2066) hx hb dL_law_1822 (by decide) ?_
  refine W.widen (k := c0 + 1) (n := s0 + 6) (Nat.le_refl _) (Nat.le_refl _) ?_
  have h9 := Option.some.inj hf
  exact kk H locs ls (by rw [← h9]; exact hP) (by rw [← h9]; exact hD) hS (lv_sub hl [2, 3, 4, 5, 6] rfl)

set_option maxHeartbeats 4000000 in
set_option maxRecDepth 100000 in
theorem law_case33 {p : Program} {e : Env} {s : State} {m : MethodId} {below : List Frame} {meth : Method} {c : Code} (l : Launch) (hlt : l.stackTraces = false) (D : va_G) (cB cI cZ cJ : ClassId) (N : Nat) {b L : Nat} {xs : Nat → Int32} (C0 : lw_At p s m meth c b L xs) (hX0 : wb_XH s.heap s) (hNc : va_Nc wb_E2 wb_E1 s) (a0 a1 : Nat → Nat) (b2 : Nat) (I0 : Nat → Int32) (M0 : Nat → Nat → Int32) (I1 : Nat → Int32) (L1 : Int64) (M1 : Nat → Nat → Int32) (o2 : Nat → Int64) (y4 : Int32) (c0 s0 : Nat) (hc1 : c0 + 1 ≤ room_1.cells) (hs1 : s0 + 6 ≤ room_1.slots) (H : Heap) (locs : List Loc) (hK : va_K D vwCl [(cB, .byte), (cI, .int), (cZ, .boolean), (cJ, .long)] s) (hP : va_P D vwCl ((wWX11 cB cI cZ a0 I0 M0) ++ ((wWX12 cB cI cZ a1 I1 L1 M1) ++ [((b2, .inl (cJ, 1, .inr (.inl o2))) : Nat × va_E)])) H) (hD : va_D (fun q : Nat => s.heap.size ≤ q) ((wWX11 cB cI cZ a0 I0 M0) ++ ((wWX12 cB cI cZ a1 I1 L1 M1) ++ [((b2, .inl (cJ, 1, .inr (.inl o2))) : Nat × va_E)]))) (hS : va_S (fun q : Nat => s.heap.size ≤ q) s.heap H locs) (ls : Array Slot) (hl : lv_has ls 7 [(0, .ref b), (1, .ref (a0 0)), (2, .ref (a1 0)), (3, .ref b2), (4, .int y4)]) (R : (Nat → Int32) × (Nat → Nat → Int32) × (Nat → Int32) × Int64 × (Nat → Nat → Int32) × (Nat → Int64)) (hf : fL_case33 N L xs I0 M0 I1 L1 M1 o2 y4 = some R)
    (kk : ∀ (H : Heap) (locs : List Loc) (ls : Array Slot), va_P D vwCl ((wWX11 cB cI cZ a0 R.1 R.2.1) ++ ((wWX12 cB cI cZ a1 R.2.2.1 R.2.2.2.1 R.2.2.2.2.1) ++ [((b2, .inl (cJ, 1, .inr (.inl R.2.2.2.2.2))) : Nat × va_E)])) H → va_D (fun q : Nat => s.heap.size ≤ q) ((wWX11 cB cI cZ a0 R.1 R.2.1) ++ ((wWX12 cB cI cZ a1 R.2.2.1 R.2.2.2.1 R.2.2.2.2.1) ++ [((b2, .inl (cJ, 1, .inr (.inl R.2.2.2.2.2))) : Nat × va_E)])) → va_S (fun q : Nat => s.heap.size ≤ q) s.heap H locs → lv_has ls 7 [(0, .ref b), (1, .ref (a0 0)), (2, .ref (a1 0)), (3, .ref b2), (4, .int y4)] → W p l e room_1 s m #[Value.ref b] below meth c H locs (c0 + 1) (s0 + 6) (lw_Z below #[Value.ref b] s) (F0 m 2066 ls [])) : W p l e room_1 s m #[Value.ref b] below meth c H locs c0 s0 (lw_Z below #[Value.ref b] s) (F0 m 1825 ls []) := by
  obtain ⟨hx, hb, hr, hml, hown, hts0, hXs, hbl, hlocks, hgv⟩ := id C0
  have hown : s.vm.findClass RL = some m.cls := hown
  have hb : c.code = cL_law := hb
  have hts : ∀ w ∈ wyL_law, w.before #[Value.ref b] s = true := fun w h => hts0 w (wl_law w h)
  have hA : ∀ q : Nat, s.heap.size ≤ q → (fun q : Nat => s.heap.size ≤ q) q := fun _ h => h
  have hbA : ¬ (fun q : Nat => s.heap.size ≤ q) b := Nat.not_le.mpr hbl
  have hK3 : va_K D vwCl [(cB, .byte), (cI, .int), (cZ, .boolean)] s := hK.sub [0, 1, 2] rfl
  have hc0 : c0 ≤ room_1.cells := Nat.le_of_succ_le hc1
  have hs0 : s0 ≤ room_1.slots := Nat.le_trans (Nat.le_add_right _ 6) hs1
  unfold fL_case33 at hf
  refine lv_aload_n hx hb dL_law_1825 rfl (lv_at hl 1 rfl) ?_
  refine lv_aload_n hx hb dL_law_1826 rfl (lv_at hl 0 rfl) ?_
  refine lv_iload hx hb dL_law_1827 (lv_at hl 4 rfl) ?_
  refine lv_iconst (v := (1 : Int32)) hx hb dL_law_1829 (by decide) ?_
  refine lv_iadd hx hb dL_law_1830 ?_
  obtain ⟨hin, hf⟩ := wb_n hf
  refine va_sld hx hb hXs hbl hbA hS hin dL_law_1831 ?_
  refine lv_aload_n hx hb dL_law_1832 rfl (lv_at hl 0 rfl) ?_
  refine lv_iload hx hb dL_law_1833 (lv_at hl 4 rfl) ?_
  refine lv_iconst (v := (2 : Int32)) hx hb dL_law_1835 (by decide) ?_
  refine lv_iadd hx hb dL_law_1836 ?_
  obtain ⟨hin, hf⟩ := wb_n hf
  refine va_sld hx hb hXs hbl hbA hS hin dL_law_1837 ?_
  refine lv_aload_n hx hb dL_law_1838 rfl (lv_at hl 3 rfl) ?_
  obtain ⟨r1, hr1, hf⟩ := wb_b hf
  have hPc := wj_P3 hP
  have hDc := wj_D3 hD
  have hFc := wj_F hDc hS hA
  refine va_calli (vx_runSW (As := [.ref (a0 0), .int (xs ((y4 + (1 : Int32))).toNatClampNeg), .int (xs ((y4 + (2 : Int32))).toNatClampNeg), .ref b2]) (rest := []) ⟨hx, hb, hml, hown, hts⟩ (cn_L_births l hlt D cB cI cZ cJ N a0 I0 M0 (xs ((y4 + (1 : Int32))).toNatClampNeg) (xs ((y4 + (2 : Int32))).toNatClampNeg) b2 o2 H.size r1 hr1) (vx_cwSW 4 hts gyL_law_L_births rfl rfl rfl csL_births ⟨Nat.le_of_ble_eq_true rfl, Nat.le_of_ble_eq_true rfl⟩) (wb_preLS hPc hK hDc (hX0.kept hS) hNc) rfl rfl hl.1 rfl (lv_room (Nat.le_of_ble_eq_true rfl)) dL_law_1839 ⟨hc1, hs1⟩) hS (fun q _ h => hFc q h) hFc (fun r9 u t H locs ht hvm hw hB hz1 hk1 hS => ?_)
  obtain ⟨hP, hD⟩ := wj_3 hP hD hk1 hFc ht hB
  rw [hw]
  obtain ⟨v2, ev2, hf⟩ := wb_v hf
  refine wb_topi ev2 ?_
  refine lv_istore (lv' := [(5, .int v2), (0, .ref b), (1, .ref (a0 0)), (2, .ref (a1 0)), (3, .ref b2), (4, .int y4)]) hx hb dL_law_1842 hl (by decide) rfl (fun ls hl => ?_)
  refine lv_aload_n hx hb dL_law_1844 rfl (lv_at hl 3 rfl) ?_
  refine lv_aload_n hx hb dL_law_1845 rfl (lv_at hl 1 rfl) ?_
  refine lv_iload hx hb dL_law_1846 (lv_at hl 5 rfl) ?_
  refine lv_iconst (v := (1 : Int32)) hx hb dL_law_1848 (by decide) ?_
  refine lv_iadd hx hb dL_law_1849 ?_
  obtain ⟨hin, hf⟩ := wb_n hf
  refine va_sld hx hb hXs hbl hbA hS hin dL_law_1850 ?_
  refine lv_aload_n hx hb dL_law_1851 rfl (lv_at hl 1 rfl) ?_
  refine lv_iload hx hb dL_law_1852 (lv_at hl 5 rfl) ?_
  refine lv_iconst (v := (2 : Int32)) hx hb dL_law_1854 (by decide) ?_
  refine lv_iadd hx hb dL_law_1855 ?_
  obtain ⟨hin, hf⟩ := wb_n hf
  refine va_sld hx hb hXs hbl hbA hS hin dL_law_1856 ?_
  obtain ⟨r3, hr3, hf⟩ := wb_b hf
  have hPc := wj_P2 hP
  have hDc := wj_D2 hD
  have hFc := wj_F hDc hS hA
  refine va_calli (va_runV (As := [.int (xs ((y4 + (1 : Int32))).toNatClampNeg), .int (xs ((y4 + (2 : Int32))).toNatClampNeg)]) (rest := []) ⟨hx, hb, hml, hown, hts⟩ (cn_X12_births l D cB cI cZ N a1 I1 L1 M1 (xs ((y4 + (1 : Int32))).toNatClampNeg) (xs ((y4 + (2 : Int32))).toNatClampNeg) H.size r3 hr3) (cwV 2 hts gyL_law_X12_births rfl rfl rfl cdX12_births ⟨Nat.le_of_ble_eq_true rfl, Nat.le_of_ble_eq_true rfl⟩) (wb_preDV hPc hK3 hDc (wr_12 hK hP (q0 := 52) rfl)) rfl rfl hl.1 rfl (lv_room (Nat.le_of_ble_eq_true rfl)) dL_law_1857 ⟨hc1, hs1⟩) hS (fun q _ h => hFc q h) hFc (fun r9 u t H locs ht hvm hw hB hz1 hk1 hS => ?_)
  obtain ⟨hP, hD⟩ := wj_2 hP hD hk1 hFc ht hB
  rw [hw]
  obtain ⟨v4, ev4, hf⟩ := wb_v hf
  refine wb_topi ev4 ?_
  refine lv_istore (lv' := [(6, .int v4), (5, .int v2), (0, .ref b), (1, .ref (a0 0)), (2, .ref (a1 0)), (3, .ref b2), (4, .int y4)]) hx hb dL_law_1860 hl (by decide) rfl (fun ls hl => ?_)
  refine lv_goto (tgt := 2066) hx hb dL_law_1862 (by decide) ?_
  refine W.widen (k := c0 + 1) (n := s0 + 6) (Nat.le_refl _) (Nat.le_refl _) ?_
  have h9 := Option.some.inj hf
  exact kk H locs ls (by rw [← h9]; exact hP) (by rw [← h9]; exact hD) hS (lv_sub hl [2, 3, 4, 5, 6] rfl)

set_option maxHeartbeats 4000000 in
set_option maxRecDepth 100000 in
theorem law_case34 {p : Program} {e : Env} {s : State} {m : MethodId} {below : List Frame} {meth : Method} {c : Code} (l : Launch) (hlt : l.stackTraces = false) (D : va_G) (cB cI cZ cJ : ClassId) (N : Nat) {b L : Nat} {xs : Nat → Int32} (C0 : lw_At p s m meth c b L xs) (hX0 : wb_XH s.heap s) (hNc : va_Nc wb_E2 wb_E1 s) (a0 a1 : Nat → Nat) (b2 : Nat) (I0 : Nat → Int32) (M0 : Nat → Nat → Int32) (I1 : Nat → Int32) (L1 : Int64) (M1 : Nat → Nat → Int32) (o2 : Nat → Int64) (y4 : Int32) (c0 s0 : Nat) (hc1 : c0 + 1 ≤ room_1.cells) (hs1 : s0 + 6 ≤ room_1.slots) (H : Heap) (locs : List Loc) (hK : va_K D vwCl [(cB, .byte), (cI, .int), (cZ, .boolean), (cJ, .long)] s) (hP : va_P D vwCl ((wWX11 cB cI cZ a0 I0 M0) ++ ((wWX12 cB cI cZ a1 I1 L1 M1) ++ [((b2, .inl (cJ, 1, .inr (.inl o2))) : Nat × va_E)])) H) (hD : va_D (fun q : Nat => s.heap.size ≤ q) ((wWX11 cB cI cZ a0 I0 M0) ++ ((wWX12 cB cI cZ a1 I1 L1 M1) ++ [((b2, .inl (cJ, 1, .inr (.inl o2))) : Nat × va_E)]))) (hS : va_S (fun q : Nat => s.heap.size ≤ q) s.heap H locs) (ls : Array Slot) (hl : lv_has ls 7 [(0, .ref b), (1, .ref (a0 0)), (2, .ref (a1 0)), (3, .ref b2), (4, .int y4)]) (R : (Nat → Int32) × (Nat → Nat → Int32) × (Nat → Int32) × Int64 × (Nat → Nat → Int32) × (Nat → Int64)) (hf : fL_case34 N L xs I0 M0 I1 L1 M1 o2 y4 = some R)
    (kk : ∀ (H : Heap) (locs : List Loc) (ls : Array Slot), va_P D vwCl ((wWX11 cB cI cZ a0 R.1 R.2.1) ++ ((wWX12 cB cI cZ a1 R.2.2.1 R.2.2.2.1 R.2.2.2.2.1) ++ [((b2, .inl (cJ, 1, .inr (.inl R.2.2.2.2.2))) : Nat × va_E)])) H → va_D (fun q : Nat => s.heap.size ≤ q) ((wWX11 cB cI cZ a0 R.1 R.2.1) ++ ((wWX12 cB cI cZ a1 R.2.2.1 R.2.2.2.1 R.2.2.2.2.1) ++ [((b2, .inl (cJ, 1, .inr (.inl R.2.2.2.2.2))) : Nat × va_E)])) → va_S (fun q : Nat => s.heap.size ≤ q) s.heap H locs → lv_has ls 7 [(0, .ref b), (1, .ref (a0 0)), (2, .ref (a1 0)), (3, .ref b2), (4, .int y4)] → W p l e room_1 s m #[Value.ref b] below meth c H locs (c0 + 1) (s0 + 6) (lw_Z below #[Value.ref b] s) (F0 m 2066 ls [])) : W p l e room_1 s m #[Value.ref b] below meth c H locs c0 s0 (lw_Z below #[Value.ref b] s) (F0 m 1865 ls []) := by
  obtain ⟨hx, hb, hr, hml, hown, hts0, hXs, hbl, hlocks, hgv⟩ := id C0
  have hown : s.vm.findClass RL = some m.cls := hown
  have hb : c.code = cL_law := hb
  have hts : ∀ w ∈ wyL_law, w.before #[Value.ref b] s = true := fun w h => hts0 w (wl_law w h)
  have hA : ∀ q : Nat, s.heap.size ≤ q → (fun q : Nat => s.heap.size ≤ q) q := fun _ h => h
  have hbA : ¬ (fun q : Nat => s.heap.size ≤ q) b := Nat.not_le.mpr hbl
  have hK3 : va_K D vwCl [(cB, .byte), (cI, .int), (cZ, .boolean)] s := hK.sub [0, 1, 2] rfl
  have hc0 : c0 ≤ room_1.cells := Nat.le_of_succ_le hc1
  have hs0 : s0 ≤ room_1.slots := Nat.le_trans (Nat.le_add_right _ 6) hs1
  unfold fL_case34 at hf
  refine lv_aload_n hx hb dL_law_1865 rfl (lv_at hl 1 rfl) ?_
  obtain ⟨r1, hr1, hf⟩ := wb_b hf
  have hPc := wj_P1 hP
  have hDc := wj_D1 hD
  have hFc := wj_F hDc hS hA
  refine va_calli (va_runV (As := []) (rest := []) ⟨hx, hb, hml, hown, hts⟩ (cn_X11_tree l D cB cI cZ N a0 I0 M0 H.size r1 hr1) (cwV 0 hts gyL_law_X11_tree rfl rfl rfl cdX11_tree ⟨Nat.le_of_ble_eq_true rfl, Nat.le_of_ble_eq_true rfl⟩) (wb_preDV hPc hK3 hDc (wr_11 hK hP (q0 := 0) rfl)) rfl rfl hl.1 rfl (lv_room (Nat.le_of_ble_eq_true rfl)) dL_law_1866 ⟨hc0, hs0⟩) hS (fun q _ h => hFc q h) hFc (fun r9 u t H locs ht hvm hw hB hz1 hk1 hS => ?_)
  obtain ⟨hP, hD⟩ := wj_1 hP hD hk1 hFc ht hB
  rw [hw]
  refine lv_pop hx hb dL_law_1869 rfl ?_
  refine lv_aload_n hx hb dL_law_1870 rfl (lv_at hl 2 rfl) ?_
  obtain ⟨r2, hr2, hf⟩ := wb_b hf
  have hPc := wj_P2 hP
  have hDc := wj_D2 hD
  have hFc := wj_F hDc hS hA
  refine va_calli (va_runV (As := []) (rest := []) ⟨hx, hb, hml, hown, hts⟩ (cn_X12_tree l D cB cI cZ N a1 I1 L1 M1 H.size r2 hr2) (cwV 0 hts gyL_law_X12_tree rfl rfl rfl cdX12_tree ⟨Nat.le_of_ble_eq_true rfl, Nat.le_of_ble_eq_true rfl⟩) (wb_preDV hPc hK3 hDc (wr_12 hK hP (q0 := 52) rfl)) rfl rfl hl.1 rfl (lv_room (Nat.le_of_ble_eq_true rfl)) dL_law_1871 ⟨hc0, hs0⟩) hS (fun q _ h => hFc q h) hFc (fun r9 u t H locs ht hvm hw hB hz1 hk1 hS => ?_)
  obtain ⟨hP, hD⟩ := wj_2 hP hD hk1 hFc ht hB
  rw [hw]
  refine lv_pop hx hb dL_law_1874 rfl ?_
  refine lv_goto (tgt := 2066) hx hb dL_law_1875 (by decide) ?_
  refine W.widen (k := c0 + 1) (n := s0 + 6) (Nat.le_succ _) (Nat.le_add_right _ _) ?_
  have h9 := Option.some.inj hf
  exact kk H locs ls (by rw [← h9]; exact hP) (by rw [← h9]; exact hD) hS (lv_sub hl [0, 1, 2, 3, 4] rfl)

set_option maxHeartbeats 4000000 in
set_option maxRecDepth 100000 in
theorem law_case35 {p : Program} {e : Env} {s : State} {m : MethodId} {below : List Frame} {meth : Method} {c : Code} (l : Launch) (hlt : l.stackTraces = false) (D : va_G) (cB cI cZ cJ : ClassId) (N : Nat) {b L : Nat} {xs : Nat → Int32} (C0 : lw_At p s m meth c b L xs) (hX0 : wb_XH s.heap s) (hNc : va_Nc wb_E2 wb_E1 s) (a0 a1 : Nat → Nat) (b2 : Nat) (I0 : Nat → Int32) (M0 : Nat → Nat → Int32) (I1 : Nat → Int32) (L1 : Int64) (M1 : Nat → Nat → Int32) (o2 : Nat → Int64) (y4 : Int32) (c0 s0 : Nat) (hc1 : c0 + 1 ≤ room_1.cells) (hs1 : s0 + 6 ≤ room_1.slots) (H : Heap) (locs : List Loc) (hK : va_K D vwCl [(cB, .byte), (cI, .int), (cZ, .boolean), (cJ, .long)] s) (hP : va_P D vwCl ((wWX11 cB cI cZ a0 I0 M0) ++ ((wWX12 cB cI cZ a1 I1 L1 M1) ++ [((b2, .inl (cJ, 1, .inr (.inl o2))) : Nat × va_E)])) H) (hD : va_D (fun q : Nat => s.heap.size ≤ q) ((wWX11 cB cI cZ a0 I0 M0) ++ ((wWX12 cB cI cZ a1 I1 L1 M1) ++ [((b2, .inl (cJ, 1, .inr (.inl o2))) : Nat × va_E)]))) (hS : va_S (fun q : Nat => s.heap.size ≤ q) s.heap H locs) (ls : Array Slot) (hl : lv_has ls 7 [(0, .ref b), (1, .ref (a0 0)), (2, .ref (a1 0)), (3, .ref b2), (4, .int y4)]) (R : (Nat → Int32) × (Nat → Nat → Int32) × (Nat → Int32) × Int64 × (Nat → Nat → Int32) × (Nat → Int64)) (hf : fL_case35 N L xs I0 M0 I1 L1 M1 o2 y4 = some R)
    (kk : ∀ (H : Heap) (locs : List Loc) (ls : Array Slot), va_P D vwCl ((wWX11 cB cI cZ a0 R.1 R.2.1) ++ ((wWX12 cB cI cZ a1 R.2.2.1 R.2.2.2.1 R.2.2.2.2.1) ++ [((b2, .inl (cJ, 1, .inr (.inl R.2.2.2.2.2))) : Nat × va_E)])) H → va_D (fun q : Nat => s.heap.size ≤ q) ((wWX11 cB cI cZ a0 R.1 R.2.1) ++ ((wWX12 cB cI cZ a1 R.2.2.1 R.2.2.2.1 R.2.2.2.2.1) ++ [((b2, .inl (cJ, 1, .inr (.inl R.2.2.2.2.2))) : Nat × va_E)])) → va_S (fun q : Nat => s.heap.size ≤ q) s.heap H locs → lv_has ls 7 [(0, .ref b), (1, .ref (a0 0)), (2, .ref (a1 0)), (3, .ref b2), (4, .int y4)] → W p l e room_1 s m #[Value.ref b] below meth c H locs (c0 + 1) (s0 + 6) (lw_Z below #[Value.ref b] s) (F0 m 2066 ls [])) : W p l e room_1 s m #[Value.ref b] below meth c H locs c0 s0 (lw_Z below #[Value.ref b] s) (F0 m 1878 ls []) := by
  obtain ⟨hx, hb, hr, hml, hown, hts0, hXs, hbl, hlocks, hgv⟩ := id C0
  have hown : s.vm.findClass RL = some m.cls := hown
  have hb : c.code = cL_law := hb
  have hts : ∀ w ∈ wyL_law, w.before #[Value.ref b] s = true := fun w h => hts0 w (wl_law w h)
  have hA : ∀ q : Nat, s.heap.size ≤ q → (fun q : Nat => s.heap.size ≤ q) q := fun _ h => h
  have hbA : ¬ (fun q : Nat => s.heap.size ≤ q) b := Nat.not_le.mpr hbl
  have hK3 : va_K D vwCl [(cB, .byte), (cI, .int), (cZ, .boolean)] s := hK.sub [0, 1, 2] rfl
  have hc0 : c0 ≤ room_1.cells := Nat.le_of_succ_le hc1
  have hs0 : s0 ≤ room_1.slots := Nat.le_trans (Nat.le_add_right _ 6) hs1
  unfold fL_case35 at hf
  refine lv_aload_n hx hb dL_law_1878 rfl (lv_at hl 1 rfl) ?_
  refine lv_aload_n hx hb dL_law_1879 rfl (lv_at hl 0 rfl) ?_
  refine lv_iload hx hb dL_law_1880 (lv_at hl 4 rfl) ?_
  refine lv_iconst (v := (1 : Int32)) hx hb dL_law_1882 (by decide) ?_
  refine lv_iadd hx hb dL_law_1883 ?_
  obtain ⟨hin, hf⟩ := wb_n hf
  refine va_sld hx hb hXs hbl hbA hS hin dL_law_1884 ?_
  refine lv_aload_n hx hb dL_law_1885 rfl (lv_at hl 3 rfl) ?_
  obtain ⟨r1, hr1, hf⟩ := wb_b hf
  have hPc := wj_P3 hP
  have hDc := wj_D3 hD
  have hFc := wj_F hDc hS hA
  refine va_calli (vx_runSW (As := [.ref (a0 0), .int (xs ((y4 + (1 : Int32))).toNatClampNeg), .ref b2]) (rest := []) ⟨hx, hb, hml, hown, hts⟩ (cn_L_whence l hlt D cB cI cZ cJ N a0 I0 M0 (xs ((y4 + (1 : Int32))).toNatClampNeg) b2 o2 H.size r1 hr1) (vx_cwSW 3 hts gyL_law_L_whence rfl rfl rfl csL_whence ⟨Nat.le_of_ble_eq_true rfl, Nat.le_of_ble_eq_true rfl⟩) (wb_preLS hPc hK hDc (hX0.kept hS) hNc) rfl rfl hl.1 rfl (lv_room (Nat.le_of_ble_eq_true rfl)) dL_law_1886 ⟨hc1, hs1⟩) hS (fun q _ h => hFc q h) hFc (fun r9 u t H locs ht hvm hw hB hz1 hk1 hS => ?_)
  obtain ⟨hP, hD⟩ := wj_3 hP hD hk1 hFc ht hB
  rw [hw]
  obtain ⟨v2, ev2, hf⟩ := wb_v hf
  refine wb_topi ev2 ?_
  refine lv_istore (lv' := [(5, .int v2), (0, .ref b), (1, .ref (a0 0)), (2, .ref (a1 0)), (3, .ref b2), (4, .int y4)]) hx hb dL_law_1889 hl (by decide) rfl (fun ls hl => ?_)
  refine lv_aload_n hx hb dL_law_1891 rfl (lv_at hl 3 rfl) ?_
  refine lv_aload_n hx hb dL_law_1892 rfl (lv_at hl 1 rfl) ?_
  refine lv_iload hx hb dL_law_1893 (lv_at hl 5 rfl) ?_
  refine lv_iconst (v := (1 : Int32)) hx hb dL_law_1895 (by decide) ?_
  refine lv_iadd hx hb dL_law_1896 ?_
  obtain ⟨hin, hf⟩ := wb_n hf
  refine va_sld hx hb hXs hbl hbA hS hin dL_law_1897 ?_
  obtain ⟨r3, hr3, hf⟩ := wb_b hf
  have hPc := wj_P2 hP
  have hDc := wj_D2 hD
  have hFc := wj_F hDc hS hA
  refine va_calli (va_runV (As := [.int (xs ((y4 + (1 : Int32))).toNatClampNeg)]) (rest := []) ⟨hx, hb, hml, hown, hts⟩ (cn_X12_whence l D cB cI cZ N a1 I1 L1 M1 (xs ((y4 + (1 : Int32))).toNatClampNeg) H.size r3 hr3) (cwV 1 hts gyL_law_X12_whence rfl rfl rfl cdX12_whence ⟨Nat.le_of_ble_eq_true rfl, Nat.le_of_ble_eq_true rfl⟩) (wb_preDV hPc hK3 hDc (wr_12 hK hP (q0 := 52) rfl)) rfl rfl hl.1 rfl (lv_room (Nat.le_of_ble_eq_true rfl)) dL_law_1898 ⟨hc1, hs1⟩) hS (fun q _ h => hFc q h) hFc (fun r9 u t H locs ht hvm hw hB hz1 hk1 hS => ?_)
  obtain ⟨hP, hD⟩ := wj_2 hP hD hk1 hFc ht hB
  rw [hw]
  obtain ⟨v4, ev4, hf⟩ := wb_v hf
  refine wb_topi ev4 ?_
  refine lv_istore (lv' := [(6, .int v4), (5, .int v2), (0, .ref b), (1, .ref (a0 0)), (2, .ref (a1 0)), (3, .ref b2), (4, .int y4)]) hx hb dL_law_1901 hl (by decide) rfl (fun ls hl => ?_)
  refine lv_goto (tgt := 2066) hx hb dL_law_1903 (by decide) ?_
  refine W.widen (k := c0 + 1) (n := s0 + 6) (Nat.le_refl _) (Nat.le_refl _) ?_
  have h9 := Option.some.inj hf
  exact kk H locs ls (by rw [← h9]; exact hP) (by rw [← h9]; exact hD) hS (lv_sub hl [2, 3, 4, 5, 6] rfl)

set_option maxHeartbeats 4000000 in
set_option maxRecDepth 100000 in
theorem law_case36 {p : Program} {e : Env} {s : State} {m : MethodId} {below : List Frame} {meth : Method} {c : Code} (l : Launch) (hlt : l.stackTraces = false) (D : va_G) (cB cI cZ cJ : ClassId) (N : Nat) {b L : Nat} {xs : Nat → Int32} (C0 : lw_At p s m meth c b L xs) (hX0 : wb_XH s.heap s) (hNc : va_Nc wb_E2 wb_E1 s) (a0 a1 : Nat → Nat) (b2 : Nat) (I0 : Nat → Int32) (M0 : Nat → Nat → Int32) (I1 : Nat → Int32) (L1 : Int64) (M1 : Nat → Nat → Int32) (o2 : Nat → Int64) (y4 : Int32) (c0 s0 : Nat) (hc1 : c0 + 1 ≤ room_1.cells) (hs1 : s0 + 6 ≤ room_1.slots) (H : Heap) (locs : List Loc) (hK : va_K D vwCl [(cB, .byte), (cI, .int), (cZ, .boolean), (cJ, .long)] s) (hP : va_P D vwCl ((wWX11 cB cI cZ a0 I0 M0) ++ ((wWX12 cB cI cZ a1 I1 L1 M1) ++ [((b2, .inl (cJ, 1, .inr (.inl o2))) : Nat × va_E)])) H) (hD : va_D (fun q : Nat => s.heap.size ≤ q) ((wWX11 cB cI cZ a0 I0 M0) ++ ((wWX12 cB cI cZ a1 I1 L1 M1) ++ [((b2, .inl (cJ, 1, .inr (.inl o2))) : Nat × va_E)]))) (hS : va_S (fun q : Nat => s.heap.size ≤ q) s.heap H locs) (ls : Array Slot) (hl : lv_has ls 7 [(0, .ref b), (1, .ref (a0 0)), (2, .ref (a1 0)), (3, .ref b2), (4, .int y4)]) (R : (Nat → Int32) × (Nat → Nat → Int32) × (Nat → Int32) × Int64 × (Nat → Nat → Int32) × (Nat → Int64)) (hf : fL_case36 N L xs I0 M0 I1 L1 M1 o2 y4 = some R)
    (kk : ∀ (H : Heap) (locs : List Loc) (ls : Array Slot), va_P D vwCl ((wWX11 cB cI cZ a0 R.1 R.2.1) ++ ((wWX12 cB cI cZ a1 R.2.2.1 R.2.2.2.1 R.2.2.2.2.1) ++ [((b2, .inl (cJ, 1, .inr (.inl R.2.2.2.2.2))) : Nat × va_E)])) H → va_D (fun q : Nat => s.heap.size ≤ q) ((wWX11 cB cI cZ a0 R.1 R.2.1) ++ ((wWX12 cB cI cZ a1 R.2.2.1 R.2.2.2.1 R.2.2.2.2.1) ++ [((b2, .inl (cJ, 1, .inr (.inl R.2.2.2.2.2))) : Nat × va_E)])) → va_S (fun q : Nat => s.heap.size ≤ q) s.heap H locs → lv_has ls 7 [(0, .ref b), (1, .ref (a0 0)), (2, .ref (a1 0)), (3, .ref b2), (4, .int y4)] → W p l e room_1 s m #[Value.ref b] below meth c H locs (c0 + 1) (s0 + 6) (lw_Z below #[Value.ref b] s) (F0 m 2066 ls [])) : W p l e room_1 s m #[Value.ref b] below meth c H locs c0 s0 (lw_Z below #[Value.ref b] s) (F0 m 1906 ls []) := by
  obtain ⟨hx, hb, hr, hml, hown, hts0, hXs, hbl, hlocks, hgv⟩ := id C0
  have hown : s.vm.findClass RL = some m.cls := hown
  have hb : c.code = cL_law := hb
  have hts : ∀ w ∈ wyL_law, w.before #[Value.ref b] s = true := fun w h => hts0 w (wl_law w h)
  have hA : ∀ q : Nat, s.heap.size ≤ q → (fun q : Nat => s.heap.size ≤ q) q := fun _ h => h
  have hbA : ¬ (fun q : Nat => s.heap.size ≤ q) b := Nat.not_le.mpr hbl
  have hK3 : va_K D vwCl [(cB, .byte), (cI, .int), (cZ, .boolean)] s := hK.sub [0, 1, 2] rfl
  have hc0 : c0 ≤ room_1.cells := Nat.le_of_succ_le hc1
  have hs0 : s0 ≤ room_1.slots := Nat.le_trans (Nat.le_add_right _ 6) hs1
  unfold fL_case36 at hf
  refine lv_aload_n hx hb dL_law_1906 rfl (lv_at hl 1 rfl) ?_
  refine lv_aload_n hx hb dL_law_1907 rfl (lv_at hl 0 rfl) ?_
  refine lv_iload hx hb dL_law_1908 (lv_at hl 4 rfl) ?_
  refine lv_iconst (v := (1 : Int32)) hx hb dL_law_1910 (by decide) ?_
  refine lv_iadd hx hb dL_law_1911 ?_
  obtain ⟨hin, hf⟩ := wb_n hf
  refine va_sld hx hb hXs hbl hbA hS hin dL_law_1912 ?_
  refine lv_aload_n hx hb dL_law_1913 rfl (lv_at hl 0 rfl) ?_
  refine lv_iload hx hb dL_law_1914 (lv_at hl 4 rfl) ?_
  refine lv_iconst (v := (2 : Int32)) hx hb dL_law_1916 (by decide) ?_
  refine lv_iadd hx hb dL_law_1917 ?_
  obtain ⟨hin, hf⟩ := wb_n hf
  refine va_sld hx hb hXs hbl hbA hS hin dL_law_1918 ?_
  refine lv_aload_n hx hb dL_law_1919 rfl (lv_at hl 0 rfl) ?_
  refine lv_iload hx hb dL_law_1920 (lv_at hl 4 rfl) ?_
  refine lv_iconst (v := (3 : Int32)) hx hb dL_law_1922 (by decide) ?_
  refine lv_iadd hx hb dL_law_1923 ?_
  obtain ⟨hin, hf⟩ := wb_n hf
  refine va_sld hx hb hXs hbl hbA hS hin dL_law_1924 ?_
  refine lv_aload_n hx hb dL_law_1925 rfl (lv_at hl 3 rfl) ?_
  obtain ⟨r1, hr1, hf⟩ := wb_b hf
  have hPc := wj_P3 hP
  have hDc := wj_D3 hD
  have hFc := wj_F hDc hS hA
  refine va_calli (vx_runSW (As := [.ref (a0 0), .int (xs ((y4 + (1 : Int32))).toNatClampNeg), .int (xs ((y4 + (2 : Int32))).toNatClampNeg), .int (xs ((y4 + (3 : Int32))).toNatClampNeg), .ref b2]) (rest := []) ⟨hx, hb, hml, hown, hts⟩ (cn_L_life l hlt D cB cI cZ cJ N a0 I0 M0 (xs ((y4 + (1 : Int32))).toNatClampNeg) (xs ((y4 + (2 : Int32))).toNatClampNeg) (xs ((y4 + (3 : Int32))).toNatClampNeg) b2 o2 H.size r1 hr1) (vx_cwSW 5 hts gyL_law_L_life rfl rfl rfl csL_life ⟨Nat.le_of_ble_eq_true rfl, Nat.le_of_ble_eq_true rfl⟩) (wb_preLS hPc hK hDc (hX0.kept hS) hNc) rfl rfl hl.1 rfl (lv_room (Nat.le_of_ble_eq_true rfl)) dL_law_1926 ⟨hc1, hs1⟩) hS (fun q _ h => hFc q h) hFc (fun r9 u t H locs ht hvm hw hB hz1 hk1 hS => ?_)
  obtain ⟨hP, hD⟩ := wj_3 hP hD hk1 hFc ht hB
  rw [hw]
  obtain ⟨v2, ev2, hf⟩ := wb_v hf
  refine wb_topi ev2 ?_
  refine lv_istore (lv' := [(5, .int v2), (0, .ref b), (1, .ref (a0 0)), (2, .ref (a1 0)), (3, .ref b2), (4, .int y4)]) hx hb dL_law_1929 hl (by decide) rfl (fun ls hl => ?_)
  refine lv_aload_n hx hb dL_law_1931 rfl (lv_at hl 3 rfl) ?_
  refine lv_aload_n hx hb dL_law_1932 rfl (lv_at hl 1 rfl) ?_
  refine lv_iload hx hb dL_law_1933 (lv_at hl 5 rfl) ?_
  refine lv_iconst (v := (1 : Int32)) hx hb dL_law_1935 (by decide) ?_
  refine lv_iadd hx hb dL_law_1936 ?_
  obtain ⟨hin, hf⟩ := wb_n hf
  refine va_sld hx hb hXs hbl hbA hS hin dL_law_1937 ?_
  refine lv_aload_n hx hb dL_law_1938 rfl (lv_at hl 1 rfl) ?_
  refine lv_iload hx hb dL_law_1939 (lv_at hl 5 rfl) ?_
  refine lv_iconst (v := (2 : Int32)) hx hb dL_law_1941 (by decide) ?_
  refine lv_iadd hx hb dL_law_1942 ?_
  obtain ⟨hin, hf⟩ := wb_n hf
  refine va_sld hx hb hXs hbl hbA hS hin dL_law_1943 ?_
  refine lv_aload_n hx hb dL_law_1944 rfl (lv_at hl 1 rfl) ?_
  refine lv_iload hx hb dL_law_1945 (lv_at hl 5 rfl) ?_
  refine lv_iconst (v := (3 : Int32)) hx hb dL_law_1947 (by decide) ?_
  refine lv_iadd hx hb dL_law_1948 ?_
  obtain ⟨hin, hf⟩ := wb_n hf
  refine va_sld hx hb hXs hbl hbA hS hin dL_law_1949 ?_
  obtain ⟨r3, hr3, hf⟩ := wb_b hf
  have hPc := wj_P2 hP
  have hDc := wj_D2 hD
  have hFc := wj_F hDc hS hA
  refine va_calli (va_runV (As := [.int (xs ((y4 + (1 : Int32))).toNatClampNeg), .int (xs ((y4 + (2 : Int32))).toNatClampNeg), .int (xs ((y4 + (3 : Int32))).toNatClampNeg)]) (rest := []) ⟨hx, hb, hml, hown, hts⟩ (cn_X12_life l D cB cI cZ N a1 I1 L1 M1 (xs ((y4 + (1 : Int32))).toNatClampNeg) (xs ((y4 + (2 : Int32))).toNatClampNeg) (xs ((y4 + (3 : Int32))).toNatClampNeg) H.size r3 hr3) (cwV 3 hts gyL_law_X12_life rfl rfl rfl cdX12_life ⟨Nat.le_of_ble_eq_true rfl, Nat.le_of_ble_eq_true rfl⟩) (wb_preDV hPc hK3 hDc (wr_12 hK hP (q0 := 52) rfl)) rfl rfl hl.1 rfl (lv_room (Nat.le_of_ble_eq_true rfl)) dL_law_1950 ⟨hc1, hs1⟩) hS (fun q _ h => hFc q h) hFc (fun r9 u t H locs ht hvm hw hB hz1 hk1 hS => ?_)
  obtain ⟨hP, hD⟩ := wj_2 hP hD hk1 hFc ht hB
  rw [hw]
  obtain ⟨v4, ev4, hf⟩ := wb_v hf
  refine wb_topi ev4 ?_
  refine lv_istore (lv' := [(6, .int v4), (5, .int v2), (0, .ref b), (1, .ref (a0 0)), (2, .ref (a1 0)), (3, .ref b2), (4, .int y4)]) hx hb dL_law_1953 hl (by decide) rfl (fun ls hl => ?_)
  refine lv_goto (tgt := 2066) hx hb dL_law_1955 (by decide) ?_
  refine W.widen (k := c0 + 1) (n := s0 + 6) (Nat.le_refl _) (Nat.le_refl _) ?_
  have h9 := Option.some.inj hf
  exact kk H locs ls (by rw [← h9]; exact hP) (by rw [← h9]; exact hD) hS (lv_sub hl [2, 3, 4, 5, 6] rfl)

set_option maxHeartbeats 4000000 in
set_option maxRecDepth 100000 in
theorem law_case37 {p : Program} {e : Env} {s : State} {m : MethodId} {below : List Frame} {meth : Method} {c : Code} (l : Launch) (hlt : l.stackTraces = false) (D : va_G) (cB cI cZ cJ : ClassId) (N : Nat) {b L : Nat} {xs : Nat → Int32} (C0 : lw_At p s m meth c b L xs) (hX0 : wb_XH s.heap s) (hNc : va_Nc wb_E2 wb_E1 s) (a0 a1 : Nat → Nat) (b2 : Nat) (I0 : Nat → Int32) (M0 : Nat → Nat → Int32) (I1 : Nat → Int32) (L1 : Int64) (M1 : Nat → Nat → Int32) (o2 : Nat → Int64) (y4 : Int32) (c0 s0 : Nat) (hc1 : c0 + 1 ≤ room_1.cells) (hs1 : s0 + 6 ≤ room_1.slots) (H : Heap) (locs : List Loc) (hK : va_K D vwCl [(cB, .byte), (cI, .int), (cZ, .boolean), (cJ, .long)] s) (hP : va_P D vwCl ((wWX11 cB cI cZ a0 I0 M0) ++ ((wWX12 cB cI cZ a1 I1 L1 M1) ++ [((b2, .inl (cJ, 1, .inr (.inl o2))) : Nat × va_E)])) H) (hD : va_D (fun q : Nat => s.heap.size ≤ q) ((wWX11 cB cI cZ a0 I0 M0) ++ ((wWX12 cB cI cZ a1 I1 L1 M1) ++ [((b2, .inl (cJ, 1, .inr (.inl o2))) : Nat × va_E)]))) (hS : va_S (fun q : Nat => s.heap.size ≤ q) s.heap H locs) (ls : Array Slot) (hl : lv_has ls 7 [(0, .ref b), (1, .ref (a0 0)), (2, .ref (a1 0)), (3, .ref b2), (4, .int y4)]) (R : (Nat → Int32) × (Nat → Nat → Int32) × (Nat → Int32) × Int64 × (Nat → Nat → Int32) × (Nat → Int64)) (hf : fL_case37 N L xs I0 M0 I1 L1 M1 o2 y4 = some R)
    (kk : ∀ (H : Heap) (locs : List Loc) (ls : Array Slot), va_P D vwCl ((wWX11 cB cI cZ a0 R.1 R.2.1) ++ ((wWX12 cB cI cZ a1 R.2.2.1 R.2.2.2.1 R.2.2.2.2.1) ++ [((b2, .inl (cJ, 1, .inr (.inl R.2.2.2.2.2))) : Nat × va_E)])) H → va_D (fun q : Nat => s.heap.size ≤ q) ((wWX11 cB cI cZ a0 R.1 R.2.1) ++ ((wWX12 cB cI cZ a1 R.2.2.1 R.2.2.2.1 R.2.2.2.2.1) ++ [((b2, .inl (cJ, 1, .inr (.inl R.2.2.2.2.2))) : Nat × va_E)])) → va_S (fun q : Nat => s.heap.size ≤ q) s.heap H locs → lv_has ls 7 [(0, .ref b), (1, .ref (a0 0)), (2, .ref (a1 0)), (3, .ref b2), (4, .int y4)] → W p l e room_1 s m #[Value.ref b] below meth c H locs (c0 + 1) (s0 + 6) (lw_Z below #[Value.ref b] s) (F0 m 2066 ls [])) : W p l e room_1 s m #[Value.ref b] below meth c H locs c0 s0 (lw_Z below #[Value.ref b] s) (F0 m 1958 ls []) := by
  obtain ⟨hx, hb, hr, hml, hown, hts0, hXs, hbl, hlocks, hgv⟩ := id C0
  have hown : s.vm.findClass RL = some m.cls := hown
  have hb : c.code = cL_law := hb
  have hts : ∀ w ∈ wyL_law, w.before #[Value.ref b] s = true := fun w h => hts0 w (wl_law w h)
  have hA : ∀ q : Nat, s.heap.size ≤ q → (fun q : Nat => s.heap.size ≤ q) q := fun _ h => h
  have hbA : ¬ (fun q : Nat => s.heap.size ≤ q) b := Nat.not_le.mpr hbl
  have hK3 : va_K D vwCl [(cB, .byte), (cI, .int), (cZ, .boolean)] s := hK.sub [0, 1, 2] rfl
  have hc0 : c0 ≤ room_1.cells := Nat.le_of_succ_le hc1
  have hs0 : s0 ≤ room_1.slots := Nat.le_trans (Nat.le_add_right _ 6) hs1
  unfold fL_case37 at hf
  refine lv_aload_n hx hb dL_law_1958 rfl (lv_at hl 1 rfl) ?_
  refine lv_aload_n hx hb dL_law_1959 rfl (lv_at hl 0 rfl) ?_
  refine lv_iload hx hb dL_law_1960 (lv_at hl 4 rfl) ?_
  refine lv_iconst (v := (1 : Int32)) hx hb dL_law_1962 (by decide) ?_
  refine lv_iadd hx hb dL_law_1963 ?_
  obtain ⟨hin, hf⟩ := wb_n hf
  refine va_sld hx hb hXs hbl hbA hS hin dL_law_1964 ?_
  refine lv_aload_n hx hb dL_law_1965 rfl (lv_at hl 0 rfl) ?_
  refine lv_iload hx hb dL_law_1966 (lv_at hl 4 rfl) ?_
  refine lv_iconst (v := (2 : Int32)) hx hb dL_law_1968 (by decide) ?_
  refine lv_iadd hx hb dL_law_1969 ?_
  obtain ⟨hin, hf⟩ := wb_n hf
  refine va_sld hx hb hXs hbl hbA hS hin dL_law_1970 ?_
  refine lv_aload_n hx hb dL_law_1971 rfl (lv_at hl 3 rfl) ?_
  obtain ⟨r1, hr1, hf⟩ := wb_b hf
  have hPc := wj_P3 hP
  have hDc := wj_D3 hD
  have hFc := wj_F hDc hS hA
  refine va_calli (vx_runSW (As := [.ref (a0 0), .int (xs ((y4 + (1 : Int32))).toNatClampNeg), .int (xs ((y4 + (2 : Int32))).toNatClampNeg), .ref b2]) (rest := []) ⟨hx, hb, hml, hown, hts⟩ (cn_L_fate l hlt D cB cI cZ cJ N a0 I0 M0 (xs ((y4 + (1 : Int32))).toNatClampNeg) (xs ((y4 + (2 : Int32))).toNatClampNeg) b2 o2 H.size r1 hr1) (vx_cwSW 4 hts gyL_law_L_fate rfl rfl rfl csL_fate ⟨Nat.le_of_ble_eq_true rfl, Nat.le_of_ble_eq_true rfl⟩) (wb_preLS hPc hK hDc (hX0.kept hS) hNc) rfl rfl hl.1 rfl (lv_room (Nat.le_of_ble_eq_true rfl)) dL_law_1972 ⟨hc1, hs1⟩) hS (fun q _ h => hFc q h) hFc (fun r9 u t H locs ht hvm hw hB hz1 hk1 hS => ?_)
  obtain ⟨hP, hD⟩ := wj_3 hP hD hk1 hFc ht hB
  rw [hw]
  obtain ⟨v2, ev2, hf⟩ := wb_v hf
  refine wb_topi ev2 ?_
  refine lv_istore (lv' := [(5, .int v2), (0, .ref b), (1, .ref (a0 0)), (2, .ref (a1 0)), (3, .ref b2), (4, .int y4)]) hx hb dL_law_1975 hl (by decide) rfl (fun ls hl => ?_)
  refine lv_aload_n hx hb dL_law_1977 rfl (lv_at hl 3 rfl) ?_
  refine lv_aload_n hx hb dL_law_1978 rfl (lv_at hl 1 rfl) ?_
  refine lv_iload hx hb dL_law_1979 (lv_at hl 5 rfl) ?_
  refine lv_iconst (v := (1 : Int32)) hx hb dL_law_1981 (by decide) ?_
  refine lv_iadd hx hb dL_law_1982 ?_
  obtain ⟨hin, hf⟩ := wb_n hf
  refine va_sld hx hb hXs hbl hbA hS hin dL_law_1983 ?_
  refine lv_aload_n hx hb dL_law_1984 rfl (lv_at hl 1 rfl) ?_
  refine lv_iload hx hb dL_law_1985 (lv_at hl 5 rfl) ?_
  refine lv_iconst (v := (2 : Int32)) hx hb dL_law_1987 (by decide) ?_
  refine lv_iadd hx hb dL_law_1988 ?_
  obtain ⟨hin, hf⟩ := wb_n hf
  refine va_sld hx hb hXs hbl hbA hS hin dL_law_1989 ?_
  obtain ⟨r3, hr3, hf⟩ := wb_b hf
  have hPc := wj_P2 hP
  have hDc := wj_D2 hD
  have hFc := wj_F hDc hS hA
  refine va_calli (va_runV (As := [.int (xs ((y4 + (1 : Int32))).toNatClampNeg), .int (xs ((y4 + (2 : Int32))).toNatClampNeg)]) (rest := []) ⟨hx, hb, hml, hown, hts⟩ (cn_X12_fate l D cB cI cZ N a1 I1 L1 M1 (xs ((y4 + (1 : Int32))).toNatClampNeg) (xs ((y4 + (2 : Int32))).toNatClampNeg) H.size r3 hr3) (cwV 2 hts gyL_law_X12_fate rfl rfl rfl cdX12_fate ⟨Nat.le_of_ble_eq_true rfl, Nat.le_of_ble_eq_true rfl⟩) (wb_preDV hPc hK3 hDc (wr_12 hK hP (q0 := 52) rfl)) rfl rfl hl.1 rfl (lv_room (Nat.le_of_ble_eq_true rfl)) dL_law_1990 ⟨hc1, hs1⟩) hS (fun q _ h => hFc q h) hFc (fun r9 u t H locs ht hvm hw hB hz1 hk1 hS => ?_)
  obtain ⟨hP, hD⟩ := wj_2 hP hD hk1 hFc ht hB
  rw [hw]
  obtain ⟨v4, ev4, hf⟩ := wb_v hf
  refine wb_topi ev4 ?_
  refine lv_istore (lv' := [(6, .int v4), (5, .int v2), (0, .ref b), (1, .ref (a0 0)), (2, .ref (a1 0)), (3, .ref b2), (4, .int y4)]) hx hb dL_law_1993 hl (by decide) rfl (fun ls hl => ?_)
  refine lv_goto (tgt := 2066) hx hb dL_law_1995 (by decide) ?_
  refine W.widen (k := c0 + 1) (n := s0 + 6) (Nat.le_refl _) (Nat.le_refl _) ?_
  have h9 := Option.some.inj hf
  exact kk H locs ls (by rw [← h9]; exact hP) (by rw [← h9]; exact hD) hS (lv_sub hl [2, 3, 4, 5, 6] rfl)

set_option maxHeartbeats 4000000 in
set_option maxRecDepth 100000 in
theorem law_case38 {p : Program} {e : Env} {s : State} {m : MethodId} {below : List Frame} {meth : Method} {c : Code} (l : Launch) (hlt : l.stackTraces = false) (D : va_G) (cB cI cZ cJ : ClassId) (N : Nat) {b L : Nat} {xs : Nat → Int32} (C0 : lw_At p s m meth c b L xs) (hX0 : wb_XH s.heap s) (hNc : va_Nc wb_E2 wb_E1 s) (a0 a1 : Nat → Nat) (b2 : Nat) (I0 : Nat → Int32) (M0 : Nat → Nat → Int32) (I1 : Nat → Int32) (L1 : Int64) (M1 : Nat → Nat → Int32) (o2 : Nat → Int64) (y4 : Int32) (c0 s0 : Nat) (hc1 : c0 + 1 ≤ room_1.cells) (hs1 : s0 + 6 ≤ room_1.slots) (H : Heap) (locs : List Loc) (hK : va_K D vwCl [(cB, .byte), (cI, .int), (cZ, .boolean), (cJ, .long)] s) (hP : va_P D vwCl ((wWX11 cB cI cZ a0 I0 M0) ++ ((wWX12 cB cI cZ a1 I1 L1 M1) ++ [((b2, .inl (cJ, 1, .inr (.inl o2))) : Nat × va_E)])) H) (hD : va_D (fun q : Nat => s.heap.size ≤ q) ((wWX11 cB cI cZ a0 I0 M0) ++ ((wWX12 cB cI cZ a1 I1 L1 M1) ++ [((b2, .inl (cJ, 1, .inr (.inl o2))) : Nat × va_E)]))) (hS : va_S (fun q : Nat => s.heap.size ≤ q) s.heap H locs) (ls : Array Slot) (hl : lv_has ls 7 [(0, .ref b), (1, .ref (a0 0)), (2, .ref (a1 0)), (3, .ref b2), (4, .int y4)]) (R : (Nat → Int32) × (Nat → Nat → Int32) × (Nat → Int32) × Int64 × (Nat → Nat → Int32) × (Nat → Int64)) (hf : fL_case38 N L xs I0 M0 I1 L1 M1 o2 y4 = some R)
    (kk : ∀ (H : Heap) (locs : List Loc) (ls : Array Slot), va_P D vwCl ((wWX11 cB cI cZ a0 R.1 R.2.1) ++ ((wWX12 cB cI cZ a1 R.2.2.1 R.2.2.2.1 R.2.2.2.2.1) ++ [((b2, .inl (cJ, 1, .inr (.inl R.2.2.2.2.2))) : Nat × va_E)])) H → va_D (fun q : Nat => s.heap.size ≤ q) ((wWX11 cB cI cZ a0 R.1 R.2.1) ++ ((wWX12 cB cI cZ a1 R.2.2.1 R.2.2.2.1 R.2.2.2.2.1) ++ [((b2, .inl (cJ, 1, .inr (.inl R.2.2.2.2.2))) : Nat × va_E)])) → va_S (fun q : Nat => s.heap.size ≤ q) s.heap H locs → lv_has ls 7 [(0, .ref b), (1, .ref (a0 0)), (2, .ref (a1 0)), (3, .ref b2), (4, .int y4)] → W p l e room_1 s m #[Value.ref b] below meth c H locs (c0 + 1) (s0 + 6) (lw_Z below #[Value.ref b] s) (F0 m 2066 ls [])) : W p l e room_1 s m #[Value.ref b] below meth c H locs c0 s0 (lw_Z below #[Value.ref b] s) (F0 m 1998 ls []) := by
  obtain ⟨hx, hb, hr, hml, hown, hts0, hXs, hbl, hlocks, hgv⟩ := id C0
  have hown : s.vm.findClass RL = some m.cls := hown
  have hb : c.code = cL_law := hb
  have hts : ∀ w ∈ wyL_law, w.before #[Value.ref b] s = true := fun w h => hts0 w (wl_law w h)
  have hA : ∀ q : Nat, s.heap.size ≤ q → (fun q : Nat => s.heap.size ≤ q) q := fun _ h => h
  have hbA : ¬ (fun q : Nat => s.heap.size ≤ q) b := Nat.not_le.mpr hbl
  have hK3 : va_K D vwCl [(cB, .byte), (cI, .int), (cZ, .boolean)] s := hK.sub [0, 1, 2] rfl
  have hc0 : c0 ≤ room_1.cells := Nat.le_of_succ_le hc1
  have hs0 : s0 ≤ room_1.slots := Nat.le_trans (Nat.le_add_right _ 6) hs1
  unfold fL_case38 at hf
  refine lv_aload_n hx hb dL_law_1998 rfl (lv_at hl 1 rfl) ?_
  refine lv_aload_n hx hb dL_law_1999 rfl (lv_at hl 0 rfl) ?_
  refine lv_iload hx hb dL_law_2000 (lv_at hl 4 rfl) ?_
  refine lv_iconst (v := (1 : Int32)) hx hb dL_law_2002 (by decide) ?_
  refine lv_iadd hx hb dL_law_2003 ?_
  obtain ⟨hin, hf⟩ := wb_n hf
  refine va_sld hx hb hXs hbl hbA hS hin dL_law_2004 ?_
  refine lv_aload_n hx hb dL_law_2005 rfl (lv_at hl 3 rfl) ?_
  obtain ⟨r1, hr1, hf⟩ := wb_b hf
  have hPc := wj_P3 hP
  have hDc := wj_D3 hD
  have hFc := wj_F hDc hS hA
  refine va_calli (vx_runSW (As := [.ref (a0 0), .int (xs ((y4 + (1 : Int32))).toNatClampNeg), .ref b2]) (rest := []) ⟨hx, hb, hml, hown, hts⟩ (cn_L_fates l hlt D cB cI cZ cJ N a0 I0 M0 (xs ((y4 + (1 : Int32))).toNatClampNeg) b2 o2 H.size r1 hr1) (vx_cwSW 3 hts gyL_law_L_fates rfl rfl rfl csL_fates ⟨Nat.le_of_ble_eq_true rfl, Nat.le_of_ble_eq_true rfl⟩) (wb_preLS hPc hK hDc (hX0.kept hS) hNc) rfl rfl hl.1 rfl (lv_room (Nat.le_of_ble_eq_true rfl)) dL_law_2006 ⟨hc1, hs1⟩) hS (fun q _ h => hFc q h) hFc (fun r9 u t H locs ht hvm hw hB hz1 hk1 hS => ?_)
  obtain ⟨hP, hD⟩ := wj_3 hP hD hk1 hFc ht hB
  rw [hw]
  obtain ⟨v2, ev2, hf⟩ := wb_v hf
  refine wb_topi ev2 ?_
  refine lv_istore (lv' := [(5, .int v2), (0, .ref b), (1, .ref (a0 0)), (2, .ref (a1 0)), (3, .ref b2), (4, .int y4)]) hx hb dL_law_2009 hl (by decide) rfl (fun ls hl => ?_)
  refine lv_aload_n hx hb dL_law_2011 rfl (lv_at hl 3 rfl) ?_
  refine lv_aload_n hx hb dL_law_2012 rfl (lv_at hl 1 rfl) ?_
  refine lv_iload hx hb dL_law_2013 (lv_at hl 5 rfl) ?_
  refine lv_iconst (v := (1 : Int32)) hx hb dL_law_2015 (by decide) ?_
  refine lv_iadd hx hb dL_law_2016 ?_
  obtain ⟨hin, hf⟩ := wb_n hf
  refine va_sld hx hb hXs hbl hbA hS hin dL_law_2017 ?_
  obtain ⟨r3, hr3, hf⟩ := wb_b hf
  have hPc := wj_P2 hP
  have hDc := wj_D2 hD
  have hFc := wj_F hDc hS hA
  refine va_calli (va_runV (As := [.int (xs ((y4 + (1 : Int32))).toNatClampNeg)]) (rest := []) ⟨hx, hb, hml, hown, hts⟩ (cn_X12_fates l D cB cI cZ N a1 I1 L1 M1 (xs ((y4 + (1 : Int32))).toNatClampNeg) H.size r3 hr3) (cwV 1 hts gyL_law_X12_fates rfl rfl rfl cdX12_fates ⟨Nat.le_of_ble_eq_true rfl, Nat.le_of_ble_eq_true rfl⟩) (wb_preDV hPc hK3 hDc (wr_12 hK hP (q0 := 52) rfl)) rfl rfl hl.1 rfl (lv_room (Nat.le_of_ble_eq_true rfl)) dL_law_2018 ⟨hc1, hs1⟩) hS (fun q _ h => hFc q h) hFc (fun r9 u t H locs ht hvm hw hB hz1 hk1 hS => ?_)
  obtain ⟨hP, hD⟩ := wj_2 hP hD hk1 hFc ht hB
  rw [hw]
  obtain ⟨v4, ev4, hf⟩ := wb_v hf
  refine wb_topi ev4 ?_
  refine lv_istore (lv' := [(6, .int v4), (5, .int v2), (0, .ref b), (1, .ref (a0 0)), (2, .ref (a1 0)), (3, .ref b2), (4, .int y4)]) hx hb dL_law_2021 hl (by decide) rfl (fun ls hl => ?_)
  refine lv_goto (tgt := 2066) hx hb dL_law_2023 (by decide) ?_
  refine W.widen (k := c0 + 1) (n := s0 + 6) (Nat.le_refl _) (Nat.le_refl _) ?_
  have h9 := Option.some.inj hf
  exact kk H locs ls (by rw [← h9]; exact hP) (by rw [← h9]; exact hD) hS (lv_sub hl [2, 3, 4, 5, 6] rfl)

set_option maxHeartbeats 4000000 in
set_option maxRecDepth 100000 in
theorem law_case39 {p : Program} {e : Env} {s : State} {m : MethodId} {below : List Frame} {meth : Method} {c : Code} (l : Launch) (hlt : l.stackTraces = false) (D : va_G) (cB cI cZ cJ : ClassId) (N : Nat) {b L : Nat} {xs : Nat → Int32} (C0 : lw_At p s m meth c b L xs) (hX0 : wb_XH s.heap s) (hNc : va_Nc wb_E2 wb_E1 s) (a0 a1 : Nat → Nat) (b2 : Nat) (I0 : Nat → Int32) (M0 : Nat → Nat → Int32) (I1 : Nat → Int32) (L1 : Int64) (M1 : Nat → Nat → Int32) (o2 : Nat → Int64) (y4 : Int32) (c0 s0 : Nat) (hc1 : c0 + 1 ≤ room_1.cells) (hs1 : s0 + 6 ≤ room_1.slots) (H : Heap) (locs : List Loc) (hK : va_K D vwCl [(cB, .byte), (cI, .int), (cZ, .boolean), (cJ, .long)] s) (hP : va_P D vwCl ((wWX11 cB cI cZ a0 I0 M0) ++ ((wWX12 cB cI cZ a1 I1 L1 M1) ++ [((b2, .inl (cJ, 1, .inr (.inl o2))) : Nat × va_E)])) H) (hD : va_D (fun q : Nat => s.heap.size ≤ q) ((wWX11 cB cI cZ a0 I0 M0) ++ ((wWX12 cB cI cZ a1 I1 L1 M1) ++ [((b2, .inl (cJ, 1, .inr (.inl o2))) : Nat × va_E)]))) (hS : va_S (fun q : Nat => s.heap.size ≤ q) s.heap H locs) (ls : Array Slot) (hl : lv_has ls 7 [(0, .ref b), (1, .ref (a0 0)), (2, .ref (a1 0)), (3, .ref b2), (4, .int y4)]) (R : (Nat → Int32) × (Nat → Nat → Int32) × (Nat → Int32) × Int64 × (Nat → Nat → Int32) × (Nat → Int64)) (hf : fL_case39 N L xs I0 M0 I1 L1 M1 o2 y4 = some R)
    (kk : ∀ (H : Heap) (locs : List Loc) (ls : Array Slot), va_P D vwCl ((wWX11 cB cI cZ a0 R.1 R.2.1) ++ ((wWX12 cB cI cZ a1 R.2.2.1 R.2.2.2.1 R.2.2.2.2.1) ++ [((b2, .inl (cJ, 1, .inr (.inl R.2.2.2.2.2))) : Nat × va_E)])) H → va_D (fun q : Nat => s.heap.size ≤ q) ((wWX11 cB cI cZ a0 R.1 R.2.1) ++ ((wWX12 cB cI cZ a1 R.2.2.1 R.2.2.2.1 R.2.2.2.2.1) ++ [((b2, .inl (cJ, 1, .inr (.inl R.2.2.2.2.2))) : Nat × va_E)])) → va_S (fun q : Nat => s.heap.size ≤ q) s.heap H locs → lv_has ls 7 [(0, .ref b), (1, .ref (a0 0)), (2, .ref (a1 0)), (3, .ref b2), (4, .int y4)] → W p l e room_1 s m #[Value.ref b] below meth c H locs (c0 + 1) (s0 + 6) (lw_Z below #[Value.ref b] s) (F0 m 2066 ls [])) : W p l e room_1 s m #[Value.ref b] below meth c H locs c0 s0 (lw_Z below #[Value.ref b] s) (F0 m 2026 ls []) := by
  obtain ⟨hx, hb, hr, hml, hown, hts0, hXs, hbl, hlocks, hgv⟩ := id C0
  have hown : s.vm.findClass RL = some m.cls := hown
  have hb : c.code = cL_law := hb
  have hts : ∀ w ∈ wyL_law, w.before #[Value.ref b] s = true := fun w h => hts0 w (wl_law w h)
  have hA : ∀ q : Nat, s.heap.size ≤ q → (fun q : Nat => s.heap.size ≤ q) q := fun _ h => h
  have hbA : ¬ (fun q : Nat => s.heap.size ≤ q) b := Nat.not_le.mpr hbl
  have hK3 : va_K D vwCl [(cB, .byte), (cI, .int), (cZ, .boolean)] s := hK.sub [0, 1, 2] rfl
  have hc0 : c0 ≤ room_1.cells := Nat.le_of_succ_le hc1
  have hs0 : s0 ≤ room_1.slots := Nat.le_trans (Nat.le_add_right _ 6) hs1
  unfold fL_case39 at hf
  refine lv_aload_n hx hb dL_law_2026 rfl (lv_at hl 1 rfl) ?_
  refine lv_aload_n hx hb dL_law_2027 rfl (lv_at hl 0 rfl) ?_
  refine lv_iload hx hb dL_law_2028 (lv_at hl 4 rfl) ?_
  refine lv_iconst (v := (1 : Int32)) hx hb dL_law_2030 (by decide) ?_
  refine lv_iadd hx hb dL_law_2031 ?_
  obtain ⟨hin, hf⟩ := wb_n hf
  refine va_sld hx hb hXs hbl hbA hS hin dL_law_2032 ?_
  refine lv_aload_n hx hb dL_law_2033 rfl (lv_at hl 0 rfl) ?_
  refine lv_iload hx hb dL_law_2034 (lv_at hl 4 rfl) ?_
  refine lv_iconst (v := (2 : Int32)) hx hb dL_law_2036 (by decide) ?_
  refine lv_iadd hx hb dL_law_2037 ?_
  obtain ⟨hin, hf⟩ := wb_n hf
  refine va_sld hx hb hXs hbl hbA hS hin dL_law_2038 ?_
  refine lv_aload_n hx hb dL_law_2039 rfl (lv_at hl 3 rfl) ?_
  obtain ⟨r1, hr1, hf⟩ := wb_b hf
  have hPc := wj_P3 hP
  have hDc := wj_D3 hD
  have hFc := wj_F hDc hS hA
  refine va_calli (vx_runSW (As := [.ref (a0 0), .int (xs ((y4 + (1 : Int32))).toNatClampNeg), .int (xs ((y4 + (2 : Int32))).toNatClampNeg), .ref b2]) (rest := []) ⟨hx, hb, hml, hown, hts⟩ (cn_L_hits l hlt D cB cI cZ cJ N a0 I0 M0 (xs ((y4 + (1 : Int32))).toNatClampNeg) (xs ((y4 + (2 : Int32))).toNatClampNeg) b2 o2 H.size r1 hr1) (vx_cwSW 4 hts gyL_law_L_hits rfl rfl rfl csL_hits ⟨Nat.le_of_ble_eq_true rfl, Nat.le_of_ble_eq_true rfl⟩) (wb_preLS hPc hK hDc (hX0.kept hS) hNc) rfl rfl hl.1 rfl (lv_room (Nat.le_of_ble_eq_true rfl)) dL_law_2040 ⟨hc1, hs1⟩) hS (fun q _ h => hFc q h) hFc (fun r9 u t H locs ht hvm hw hB hz1 hk1 hS => ?_)
  obtain ⟨hP, hD⟩ := wj_3 hP hD hk1 hFc ht hB
  rw [hw]
  obtain ⟨v2, ev2, hf⟩ := wb_v hf
  refine wb_topi ev2 ?_
  refine lv_istore (lv' := [(5, .int v2), (0, .ref b), (1, .ref (a0 0)), (2, .ref (a1 0)), (3, .ref b2), (4, .int y4)]) hx hb dL_law_2043 hl (by decide) rfl (fun ls hl => ?_)
  refine lv_aload_n hx hb dL_law_2045 rfl (lv_at hl 3 rfl) ?_
  refine lv_aload_n hx hb dL_law_2046 rfl (lv_at hl 1 rfl) ?_
  refine lv_iload hx hb dL_law_2047 (lv_at hl 5 rfl) ?_
  refine lv_iconst (v := (1 : Int32)) hx hb dL_law_2049 (by decide) ?_
  refine lv_iadd hx hb dL_law_2050 ?_
  obtain ⟨hin, hf⟩ := wb_n hf
  refine va_sld hx hb hXs hbl hbA hS hin dL_law_2051 ?_
  refine lv_aload_n hx hb dL_law_2052 rfl (lv_at hl 1 rfl) ?_
  refine lv_iload hx hb dL_law_2053 (lv_at hl 5 rfl) ?_
  refine lv_iconst (v := (2 : Int32)) hx hb dL_law_2055 (by decide) ?_
  refine lv_iadd hx hb dL_law_2056 ?_
  obtain ⟨hin, hf⟩ := wb_n hf
  refine va_sld hx hb hXs hbl hbA hS hin dL_law_2057 ?_
  obtain ⟨r3, hr3, hf⟩ := wb_b hf
  have hPc := wj_P2 hP
  have hDc := wj_D2 hD
  have hFc := wj_F hDc hS hA
  refine va_calli (va_runV (As := [.int (xs ((y4 + (1 : Int32))).toNatClampNeg), .int (xs ((y4 + (2 : Int32))).toNatClampNeg)]) (rest := []) ⟨hx, hb, hml, hown, hts⟩ (cn_X12_hits l D cB cI cZ N a1 I1 L1 M1 (xs ((y4 + (1 : Int32))).toNatClampNeg) (xs ((y4 + (2 : Int32))).toNatClampNeg) H.size r3 hr3) (cwV 2 hts gyL_law_X12_hits rfl rfl rfl cdX12_hits ⟨Nat.le_of_ble_eq_true rfl, Nat.le_of_ble_eq_true rfl⟩) (wb_preDV hPc hK3 hDc (wr_12 hK hP (q0 := 52) rfl)) rfl rfl hl.1 rfl (lv_room (Nat.le_of_ble_eq_true rfl)) dL_law_2058 ⟨hc1, hs1⟩) hS (fun q _ h => hFc q h) hFc (fun r9 u t H locs ht hvm hw hB hz1 hk1 hS => ?_)
  obtain ⟨hP, hD⟩ := wj_2 hP hD hk1 hFc ht hB
  rw [hw]
  obtain ⟨v4, ev4, hf⟩ := wb_v hf
  refine wb_topi ev4 ?_
  refine lv_istore (lv' := [(6, .int v4), (5, .int v2), (0, .ref b), (1, .ref (a0 0)), (2, .ref (a1 0)), (3, .ref b2), (4, .int y4)]) hx hb dL_law_2061 hl (by decide) rfl (fun ls hl => ?_)
  refine lv_goto (tgt := 2066) hx hb dL_law_2063 (by decide) ?_
  refine W.widen (k := c0 + 1) (n := s0 + 6) (Nat.le_refl _) (Nat.le_refl _) ?_
  have h9 := Option.some.inj hf
  exact kk H locs ls (by rw [← h9]; exact hP) (by rw [← h9]; exact hD) hS (lv_sub hl [2, 3, 4, 5, 6] rfl)
