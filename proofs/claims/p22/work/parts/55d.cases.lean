set_option maxHeartbeats 4000000 in
set_option maxRecDepth 100000 in
theorem law_case30 {p : Program} {e : Env} {s : State} {m : MethodId} {below : List Frame} {meth : Method} {c : Code} (l : Launch) (hlt : l.stackTraces = false) (D : va_G) (cB cI cZ cJ : ClassId) (N : Nat) {b L : Nat} {xs : Nat → Int32} (C0 : lw_At p s m meth c b L xs) (hX0 : wb_XH s.heap s) (hNc : va_Nc wb_E2 wb_E1 s) (a0 a1 : Nat → Nat) (b2 : Nat) (I0 : Nat → Int32) (M0 : Nat → Nat → Int32) (I1 : Nat → Int32) (L1 : Int64) (M1 : Nat → Nat → Int32) (o2 : Nat → Int64) (y4 : Int32) (c0 s0 : Nat) (hc1 : c0 + 1 ≤ room_1.cells) (hs1 : s0 + 6 ≤ room_1.slots) (H : Heap) (locs : List Loc) (hK : va_K D vwCl [(cB, .byte), (cI, .int), (cZ, .boolean), (cJ, .long)] s) (hP : va_P D vwCl ((wWX11 cB cI cZ a0 I0 M0) ++ ((wWX12 cB cI cZ a1 I1 L1 M1) ++ [(b2, .inl (cJ, 1, .inr (.inl o2)))])) H) (hD : va_D (fun q : Nat => s.heap.size ≤ q) ((wWX11 cB cI cZ a0 I0 M0) ++ ((wWX12 cB cI cZ a1 I1 L1 M1) ++ [(b2, .inl (cJ, 1, .inr (.inl o2)))]))) (hS : va_S (fun q : Nat => s.heap.size ≤ q) s.heap H locs) (ls : Array Slot) (hl : lv_has ls 7 [(0, .ref b), (1, .ref (a0 0)), (2, .ref (a1 0)), (3, .ref b2), (4, .int y4)]) (R : (Nat → Int32) × (Nat → Nat → Int32) × (Nat → Int32) × Int64 × (Nat → Nat → Int32) × (Nat → Int64)) (hf : fL_case30 N L xs I0 M0 I1 L1 M1 o2 y4 = some R)
    (kk : ∀ (H : Heap) (locs : List Loc) (ls : Array Slot), va_P D vwCl ((wWX11 cB cI cZ a0 R.1 R.2.1) ++ ((wWX12 cB cI cZ a1 R.2.2.1 R.2.2.2.1 R.2.2.2.2.1) ++ [(b2, .inl (cJ, 1, .inr (.inl R.2.2.2.2.2)))])) H → va_D (fun q : Nat => s.heap.size ≤ q) ((wWX11 cB cI cZ a0 R.1 R.2.1) ++ ((wWX12 cB cI cZ a1 R.2.2.1 R.2.2.2.1 R.2.2.2.2.1) ++ [(b2, .inl (cJ, 1, .inr (.inl R.2.2.2.2.2)))])) → va_S (fun q : Nat => s.heap.size ≤ q) s.heap H locs → lv_has ls 7 [(0, .ref b), (1, .ref (a0 0)), (2, .ref (a1 0)), (3, .ref b2), (4, .int y4)] → W p l e room_1 s m #[Value.ref b] below meth c H locs (c0 + 1) (s0 + 6) (lw_Z below #[Value.ref b] s) (F0 m 2049 ls [])) : W p l e room_1 s m #[Value.ref b] below meth c H locs c0 s0 (lw_Z below #[Value.ref b] s) (F0 m 1664 ls []) := by
  obtain ⟨hx, hb, hr, hml, hown, hts0, hXs, hbl, hlocks, hgv⟩ := id C0
  have hown : s.vm.findClass RL = some m.cls := hown
  have hb : c.code = cL_law := hb
  have hts : ∀ w ∈ wyL_law, w.before #[Value.ref b] s = true := fun w h => hts0 w (wl_law w h)
  have hA : ∀ q : Nat, s.heap.size ≤ q → (fun q : Nat => s.heap.size ≤ q) q := fun _ h => h
  have hbA : ¬ (fun q : Nat => s.heap.size ≤ q) b := Nat.not_le.mpr hbl
  have hK3 : va_K D vwCl [(cB, .byte), (cI, .int), (cZ, .boolean)] s := hK.sub [0, 1, 2] rfl
  have hc0 : c0 ≤ room_1.cells := Nat.le_of_succ_le hc1
  have hs0 : s0 ≤ room_1.slots := Nat.le_trans (Nat.le_add_right _ 6) hs1
  unfold fL_case30 at hf
  refine lv_aload_n hx hb dL_law_1664 rfl (lv_at hl 1 rfl) ?_
  refine lv_aload_n hx hb dL_law_1665 rfl (lv_at hl 0 rfl) ?_
  refine lv_iload hx hb dL_law_1666 (lv_at hl 4 rfl) ?_
  refine lv_iconst (v := (1 : Int32)) hx hb dL_law_1668 (by decide) ?_
  refine lv_iadd hx hb dL_law_1669 ?_
  obtain ⟨hin, hf⟩ := wb_n hf
  refine va_sld hx hb hXs hbl hbA hS hin dL_law_1670 ?_
  refine lv_aload_n hx hb dL_law_1671 rfl (lv_at hl 0 rfl) ?_
  refine lv_iload hx hb dL_law_1672 (lv_at hl 4 rfl) ?_
  refine lv_iconst (v := (2 : Int32)) hx hb dL_law_1674 (by decide) ?_
  refine lv_iadd hx hb dL_law_1675 ?_
  obtain ⟨hin, hf⟩ := wb_n hf
  refine va_sld hx hb hXs hbl hbA hS hin dL_law_1676 ?_
  refine lv_aload_n hx hb dL_law_1677 rfl (lv_at hl 3 rfl) ?_
  obtain ⟨r1, hr1, hf⟩ := wb_b hf
  have hPc := wj_P3 hP
  have hDc := wj_D3 hD
  have hFc := wj_F hDc hS hA
  refine va_calli (vx_runSW (As := [.ref (a0 0), .int (xs ((y4 + (1 : Int32))).toNatClampNeg), .int (xs ((y4 + (2 : Int32))).toNatClampNeg), .ref b2]) (rest := []) ⟨hx, hb, hml, hown, hts⟩ (cn_L_leaf l hlt D cB cI cZ cJ N a0 I0 M0 (xs ((y4 + (1 : Int32))).toNatClampNeg) (xs ((y4 + (2 : Int32))).toNatClampNeg) b2 o2 H.size r1 hr1) (vx_cwSW 4 hts gyL_law_L_leaf rfl rfl rfl csL_leaf ⟨Nat.le_of_ble_eq_true rfl, Nat.le_of_ble_eq_true rfl⟩) (wb_preLS hPc hK hDc (hX0.kept hS) hNc) rfl rfl hl.1 rfl (lv_room (Nat.le_of_ble_eq_true rfl)) dL_law_1678 ⟨hc1, hs1⟩) hS (fun q _ h => hFc q h) hFc (fun r9 u t H locs ht hvm hw hB hz1 hk1 hS => ?_)
  obtain ⟨hP, hD⟩ := wj_3 hP hD hk1 hFc ht hB
  rw [hw]
  obtain ⟨v2, ev2, hf⟩ := wb_v hf
  refine wb_topi ev2 ?_
  refine lv_istore (lv' := [(5, .int v2), (0, .ref b), (1, .ref (a0 0)), (2, .ref (a1 0)), (3, .ref b2), (4, .int y4)]) hx hb dL_law_1681 hl (by decide) rfl (fun ls hl => ?_)
  refine lv_aload_n hx hb dL_law_1683 rfl (lv_at hl 3 rfl) ?_
  refine lv_aload_n hx hb dL_law_1684 rfl (lv_at hl 1 rfl) ?_
  refine lv_iload hx hb dL_law_1685 (lv_at hl 5 rfl) ?_
  refine lv_iconst (v := (1 : Int32)) hx hb dL_law_1687 (by decide) ?_
  refine lv_iadd hx hb dL_law_1688 ?_
  obtain ⟨hin, hf⟩ := wb_n hf
  refine va_sld hx hb hXs hbl hbA hS hin dL_law_1689 ?_
  refine lv_aload_n hx hb dL_law_1690 rfl (lv_at hl 1 rfl) ?_
  refine lv_iload hx hb dL_law_1691 (lv_at hl 5 rfl) ?_
  refine lv_iconst (v := (2 : Int32)) hx hb dL_law_1693 (by decide) ?_
  refine lv_iadd hx hb dL_law_1694 ?_
  obtain ⟨hin, hf⟩ := wb_n hf
  refine va_sld hx hb hXs hbl hbA hS hin dL_law_1695 ?_
  obtain ⟨r3, hr3, hf⟩ := wb_b hf
  have hPc := wj_P2 hP
  have hDc := wj_D2 hD
  have hFc := wj_F hDc hS hA
  refine va_calli (va_runV (As := [.int (xs ((y4 + (1 : Int32))).toNatClampNeg), .int (xs ((y4 + (2 : Int32))).toNatClampNeg)]) (rest := []) ⟨hx, hb, hml, hown, hts⟩ (cn_X12_leaf l D cB cI cZ N a1 I1 L1 M1 (xs ((y4 + (1 : Int32))).toNatClampNeg) (xs ((y4 + (2 : Int32))).toNatClampNeg) H.size r3 hr3) (cwV 2 hts gyL_law_X12_leaf rfl rfl rfl cdX12_leaf ⟨Nat.le_of_ble_eq_true rfl, Nat.le_of_ble_eq_true rfl⟩) (wb_preDV hPc hK3 hDc (va_recv hK hP (ci := 12) (q0 := 52) rfl rfl)) rfl rfl hl.1 rfl (lv_room (Nat.le_of_ble_eq_true rfl)) dL_law_1696 ⟨hc1, hs1⟩) hS (fun q _ h => hFc q h) hFc (fun r9 u t H locs ht hvm hw hB hz1 hk1 hS => ?_)
  obtain ⟨hP, hD⟩ := wj_2 hP hD hk1 hFc ht hB
  rw [hw]
  obtain ⟨v4, ev4, hf⟩ := wb_v hf
  refine wb_topi ev4 ?_
  refine lv_istore (lv' := [(6, .int v4), (5, .int v2), (0, .ref b), (1, .ref (a0 0)), (2, .ref (a1 0)), (3, .ref b2), (4, .int y4)]) hx hb dL_law_1699 hl (by decide) rfl (fun ls hl => ?_)
  refine lv_goto (tgt := 2049) hx hb dL_law_1701 (by decide) ?_
  refine W.widen (k := c0 + 1) (n := s0 + 6) (Nat.le_refl _) (Nat.le_refl _) ?_
  have h9 := Option.some.inj hf
  exact kk H locs ls (by rw [← h9]; exact hP) (by rw [← h9]; exact hD) hS (lv_sub hl [2, 3, 4, 5, 6] rfl)

set_option maxHeartbeats 4000000 in
set_option maxRecDepth 100000 in
theorem law_case31 {p : Program} {e : Env} {s : State} {m : MethodId} {below : List Frame} {meth : Method} {c : Code} (l : Launch) (hlt : l.stackTraces = false) (D : va_G) (cB cI cZ cJ : ClassId) (N : Nat) {b L : Nat} {xs : Nat → Int32} (C0 : lw_At p s m meth c b L xs) (hX0 : wb_XH s.heap s) (hNc : va_Nc wb_E2 wb_E1 s) (a0 a1 : Nat → Nat) (b2 : Nat) (I0 : Nat → Int32) (M0 : Nat → Nat → Int32) (I1 : Nat → Int32) (L1 : Int64) (M1 : Nat → Nat → Int32) (o2 : Nat → Int64) (y4 : Int32) (c0 s0 : Nat) (hc1 : c0 + 1 ≤ room_1.cells) (hs1 : s0 + 6 ≤ room_1.slots) (H : Heap) (locs : List Loc) (hK : va_K D vwCl [(cB, .byte), (cI, .int), (cZ, .boolean), (cJ, .long)] s) (hP : va_P D vwCl ((wWX11 cB cI cZ a0 I0 M0) ++ ((wWX12 cB cI cZ a1 I1 L1 M1) ++ [(b2, .inl (cJ, 1, .inr (.inl o2)))])) H) (hD : va_D (fun q : Nat => s.heap.size ≤ q) ((wWX11 cB cI cZ a0 I0 M0) ++ ((wWX12 cB cI cZ a1 I1 L1 M1) ++ [(b2, .inl (cJ, 1, .inr (.inl o2)))]))) (hS : va_S (fun q : Nat => s.heap.size ≤ q) s.heap H locs) (ls : Array Slot) (hl : lv_has ls 7 [(0, .ref b), (1, .ref (a0 0)), (2, .ref (a1 0)), (3, .ref b2), (4, .int y4)]) (R : (Nat → Int32) × (Nat → Nat → Int32) × (Nat → Int32) × Int64 × (Nat → Nat → Int32) × (Nat → Int64)) (hf : fL_case31 N L xs I0 M0 I1 L1 M1 o2 y4 = some R)
    (kk : ∀ (H : Heap) (locs : List Loc) (ls : Array Slot), va_P D vwCl ((wWX11 cB cI cZ a0 R.1 R.2.1) ++ ((wWX12 cB cI cZ a1 R.2.2.1 R.2.2.2.1 R.2.2.2.2.1) ++ [(b2, .inl (cJ, 1, .inr (.inl R.2.2.2.2.2)))])) H → va_D (fun q : Nat => s.heap.size ≤ q) ((wWX11 cB cI cZ a0 R.1 R.2.1) ++ ((wWX12 cB cI cZ a1 R.2.2.1 R.2.2.2.1 R.2.2.2.2.1) ++ [(b2, .inl (cJ, 1, .inr (.inl R.2.2.2.2.2)))])) → va_S (fun q : Nat => s.heap.size ≤ q) s.heap H locs → lv_has ls 7 [(0, .ref b), (1, .ref (a0 0)), (2, .ref (a1 0)), (3, .ref b2), (4, .int y4)] → W p l e room_1 s m #[Value.ref b] below meth c H locs (c0 + 1) (s0 + 6) (lw_Z below #[Value.ref b] s) (F0 m 2049 ls [])) : W p l e room_1 s m #[Value.ref b] below meth c H locs c0 s0 (lw_Z below #[Value.ref b] s) (F0 m 1704 ls []) := by
  obtain ⟨hx, hb, hr, hml, hown, hts0, hXs, hbl, hlocks, hgv⟩ := id C0
  have hown : s.vm.findClass RL = some m.cls := hown
  have hb : c.code = cL_law := hb
  have hts : ∀ w ∈ wyL_law, w.before #[Value.ref b] s = true := fun w h => hts0 w (wl_law w h)
  have hA : ∀ q : Nat, s.heap.size ≤ q → (fun q : Nat => s.heap.size ≤ q) q := fun _ h => h
  have hbA : ¬ (fun q : Nat => s.heap.size ≤ q) b := Nat.not_le.mpr hbl
  have hK3 : va_K D vwCl [(cB, .byte), (cI, .int), (cZ, .boolean)] s := hK.sub [0, 1, 2] rfl
  have hc0 : c0 ≤ room_1.cells := Nat.le_of_succ_le hc1
  have hs0 : s0 ≤ room_1.slots := Nat.le_trans (Nat.le_add_right _ 6) hs1
  unfold fL_case31 at hf
  refine lv_aload_n hx hb dL_law_1704 rfl (lv_at hl 1 rfl) ?_
  refine lv_aload_n hx hb dL_law_1705 rfl (lv_at hl 0 rfl) ?_
  refine lv_iload hx hb dL_law_1706 (lv_at hl 4 rfl) ?_
  refine lv_iconst (v := (1 : Int32)) hx hb dL_law_1708 (by decide) ?_
  refine lv_iadd hx hb dL_law_1709 ?_
  obtain ⟨hin, hf⟩ := wb_n hf
  refine va_sld hx hb hXs hbl hbA hS hin dL_law_1710 ?_
  refine lv_aload_n hx hb dL_law_1711 rfl (lv_at hl 0 rfl) ?_
  refine lv_iload hx hb dL_law_1712 (lv_at hl 4 rfl) ?_
  refine lv_iconst (v := (2 : Int32)) hx hb dL_law_1714 (by decide) ?_
  refine lv_iadd hx hb dL_law_1715 ?_
  obtain ⟨hin, hf⟩ := wb_n hf
  refine va_sld hx hb hXs hbl hbA hS hin dL_law_1716 ?_
  refine lv_aload_n hx hb dL_law_1717 rfl (lv_at hl 0 rfl) ?_
  refine lv_iload hx hb dL_law_1718 (lv_at hl 4 rfl) ?_
  refine lv_iconst (v := (3 : Int32)) hx hb dL_law_1720 (by decide) ?_
  refine lv_iadd hx hb dL_law_1721 ?_
  obtain ⟨hin, hf⟩ := wb_n hf
  refine va_sld hx hb hXs hbl hbA hS hin dL_law_1722 ?_
  refine lv_aload_n hx hb dL_law_1723 rfl (lv_at hl 3 rfl) ?_
  obtain ⟨r1, hr1, hf⟩ := wb_b hf
  have hPc := wj_P3 hP
  have hDc := wj_D3 hD
  have hFc := wj_F hDc hS hA
  refine va_calli (vx_runSW (As := [.ref (a0 0), .int (xs ((y4 + (1 : Int32))).toNatClampNeg), .int (xs ((y4 + (2 : Int32))).toNatClampNeg), .int (xs ((y4 + (3 : Int32))).toNatClampNeg), .ref b2]) (rest := []) ⟨hx, hb, hml, hown, hts⟩ (cn_L_order l hlt D cB cI cZ cJ N a0 I0 M0 (xs ((y4 + (1 : Int32))).toNatClampNeg) (xs ((y4 + (2 : Int32))).toNatClampNeg) (xs ((y4 + (3 : Int32))).toNatClampNeg) b2 o2 H.size r1 hr1) (vx_cwSW 5 hts gyL_law_L_order rfl rfl rfl csL_order ⟨Nat.le_of_ble_eq_true rfl, Nat.le_of_ble_eq_true rfl⟩) (wb_preLS hPc hK hDc (hX0.kept hS) hNc) rfl rfl hl.1 rfl (lv_room (Nat.le_of_ble_eq_true rfl)) dL_law_1724 ⟨hc1, hs1⟩) hS (fun q _ h => hFc q h) hFc (fun r9 u t H locs ht hvm hw hB hz1 hk1 hS => ?_)
  obtain ⟨hP, hD⟩ := wj_3 hP hD hk1 hFc ht hB
  rw [hw]
  obtain ⟨v2, ev2, hf⟩ := wb_v hf
  refine wb_topi ev2 ?_
  refine lv_istore (lv' := [(5, .int v2), (0, .ref b), (1, .ref (a0 0)), (2, .ref (a1 0)), (3, .ref b2), (4, .int y4)]) hx hb dL_law_1727 hl (by decide) rfl (fun ls hl => ?_)
  refine lv_aload_n hx hb dL_law_1729 rfl (lv_at hl 3 rfl) ?_
  refine lv_aload_n hx hb dL_law_1730 rfl (lv_at hl 1 rfl) ?_
  refine lv_iload hx hb dL_law_1731 (lv_at hl 5 rfl) ?_
  refine lv_iconst (v := (1 : Int32)) hx hb dL_law_1733 (by decide) ?_
  refine lv_iadd hx hb dL_law_1734 ?_
  obtain ⟨hin, hf⟩ := wb_n hf
  refine va_sld hx hb hXs hbl hbA hS hin dL_law_1735 ?_
  refine lv_aload_n hx hb dL_law_1736 rfl (lv_at hl 1 rfl) ?_
  refine lv_iload hx hb dL_law_1737 (lv_at hl 5 rfl) ?_
  refine lv_iconst (v := (2 : Int32)) hx hb dL_law_1739 (by decide) ?_
  refine lv_iadd hx hb dL_law_1740 ?_
  obtain ⟨hin, hf⟩ := wb_n hf
  refine va_sld hx hb hXs hbl hbA hS hin dL_law_1741 ?_
  refine lv_aload_n hx hb dL_law_1742 rfl (lv_at hl 1 rfl) ?_
  refine lv_iload hx hb dL_law_1743 (lv_at hl 5 rfl) ?_
  refine lv_iconst (v := (3 : Int32)) hx hb dL_law_1745 (by decide) ?_
  refine lv_iadd hx hb dL_law_1746 ?_
  obtain ⟨hin, hf⟩ := wb_n hf
  refine va_sld hx hb hXs hbl hbA hS hin dL_law_1747 ?_
  obtain ⟨r3, hr3, hf⟩ := wb_b hf
  have hPc := wj_P2 hP
  have hDc := wj_D2 hD
  have hFc := wj_F hDc hS hA
  refine va_calli (va_runV (As := [.int (xs ((y4 + (1 : Int32))).toNatClampNeg), .int (xs ((y4 + (2 : Int32))).toNatClampNeg), .int (xs ((y4 + (3 : Int32))).toNatClampNeg)]) (rest := []) ⟨hx, hb, hml, hown, hts⟩ (cn_X12_order l D cB cI cZ N a1 I1 L1 M1 (xs ((y4 + (1 : Int32))).toNatClampNeg) (xs ((y4 + (2 : Int32))).toNatClampNeg) (xs ((y4 + (3 : Int32))).toNatClampNeg) H.size r3 hr3) (cwV 3 hts gyL_law_X12_order rfl rfl rfl cdX12_order ⟨Nat.le_of_ble_eq_true rfl, Nat.le_of_ble_eq_true rfl⟩) (wb_preDV hPc hK3 hDc (va_recv hK hP (ci := 12) (q0 := 52) rfl rfl)) rfl rfl hl.1 rfl (lv_room (Nat.le_of_ble_eq_true rfl)) dL_law_1748 ⟨hc1, hs1⟩) hS (fun q _ h => hFc q h) hFc (fun r9 u t H locs ht hvm hw hB hz1 hk1 hS => ?_)
  obtain ⟨hP, hD⟩ := wj_2 hP hD hk1 hFc ht hB
  rw [hw]
  obtain ⟨v4, ev4, hf⟩ := wb_v hf
  refine wb_topi ev4 ?_
  refine lv_istore (lv' := [(6, .int v4), (5, .int v2), (0, .ref b), (1, .ref (a0 0)), (2, .ref (a1 0)), (3, .ref b2), (4, .int y4)]) hx hb dL_law_1751 hl (by decide) rfl (fun ls hl => ?_)
  refine lv_goto (tgt := 2049) hx hb dL_law_1753 (by decide) ?_
  refine W.widen (k := c0 + 1) (n := s0 + 6) (Nat.le_refl _) (Nat.le_refl _) ?_
  have h9 := Option.some.inj hf
  exact kk H locs ls (by rw [← h9]; exact hP) (by rw [← h9]; exact hD) hS (lv_sub hl [2, 3, 4, 5, 6] rfl)

set_option maxHeartbeats 4000000 in
set_option maxRecDepth 100000 in
theorem law_case32 {p : Program} {e : Env} {s : State} {m : MethodId} {below : List Frame} {meth : Method} {c : Code} (l : Launch) (hlt : l.stackTraces = false) (D : va_G) (cB cI cZ cJ : ClassId) (N : Nat) {b L : Nat} {xs : Nat → Int32} (C0 : lw_At p s m meth c b L xs) (hX0 : wb_XH s.heap s) (hNc : va_Nc wb_E2 wb_E1 s) (a0 a1 : Nat → Nat) (b2 : Nat) (I0 : Nat → Int32) (M0 : Nat → Nat → Int32) (I1 : Nat → Int32) (L1 : Int64) (M1 : Nat → Nat → Int32) (o2 : Nat → Int64) (y4 : Int32) (c0 s0 : Nat) (hc1 : c0 + 1 ≤ room_1.cells) (hs1 : s0 + 6 ≤ room_1.slots) (H : Heap) (locs : List Loc) (hK : va_K D vwCl [(cB, .byte), (cI, .int), (cZ, .boolean), (cJ, .long)] s) (hP : va_P D vwCl ((wWX11 cB cI cZ a0 I0 M0) ++ ((wWX12 cB cI cZ a1 I1 L1 M1) ++ [(b2, .inl (cJ, 1, .inr (.inl o2)))])) H) (hD : va_D (fun q : Nat => s.heap.size ≤ q) ((wWX11 cB cI cZ a0 I0 M0) ++ ((wWX12 cB cI cZ a1 I1 L1 M1) ++ [(b2, .inl (cJ, 1, .inr (.inl o2)))]))) (hS : va_S (fun q : Nat => s.heap.size ≤ q) s.heap H locs) (ls : Array Slot) (hl : lv_has ls 7 [(0, .ref b), (1, .ref (a0 0)), (2, .ref (a1 0)), (3, .ref b2), (4, .int y4)]) (R : (Nat → Int32) × (Nat → Nat → Int32) × (Nat → Int32) × Int64 × (Nat → Nat → Int32) × (Nat → Int64)) (hf : fL_case32 N L xs I0 M0 I1 L1 M1 o2 y4 = some R)
    (kk : ∀ (H : Heap) (locs : List Loc) (ls : Array Slot), va_P D vwCl ((wWX11 cB cI cZ a0 R.1 R.2.1) ++ ((wWX12 cB cI cZ a1 R.2.2.1 R.2.2.2.1 R.2.2.2.2.1) ++ [(b2, .inl (cJ, 1, .inr (.inl R.2.2.2.2.2)))])) H → va_D (fun q : Nat => s.heap.size ≤ q) ((wWX11 cB cI cZ a0 R.1 R.2.1) ++ ((wWX12 cB cI cZ a1 R.2.2.1 R.2.2.2.1 R.2.2.2.2.1) ++ [(b2, .inl (cJ, 1, .inr (.inl R.2.2.2.2.2)))])) → va_S (fun q : Nat => s.heap.size ≤ q) s.heap H locs → lv_has ls 7 [(0, .ref b), (1, .ref (a0 0)), (2, .ref (a1 0)), (3, .ref b2), (4, .int y4)] → W p l e room_1 s m #[Value.ref b] below meth c H locs (c0 + 1) (s0 + 6) (lw_Z below #[Value.ref b] s) (F0 m 2049 ls [])) : W p l e room_1 s m #[Value.ref b] below meth c H locs c0 s0 (lw_Z below #[Value.ref b] s) (F0 m 1756 ls []) := by
  obtain ⟨hx, hb, hr, hml, hown, hts0, hXs, hbl, hlocks, hgv⟩ := id C0
  have hown : s.vm.findClass RL = some m.cls := hown
  have hb : c.code = cL_law := hb
  have hts : ∀ w ∈ wyL_law, w.before #[Value.ref b] s = true := fun w h => hts0 w (wl_law w h)
  have hA : ∀ q : Nat, s.heap.size ≤ q → (fun q : Nat => s.heap.size ≤ q) q := fun _ h => h
  have hbA : ¬ (fun q : Nat => s.heap.size ≤ q) b := Nat.not_le.mpr hbl
  have hK3 : va_K D vwCl [(cB, .byte), (cI, .int), (cZ, .boolean)] s := hK.sub [0, 1, 2] rfl
  have hc0 : c0 ≤ room_1.cells := Nat.le_of_succ_le hc1
  have hs0 : s0 ≤ room_1.slots := Nat.le_trans (Nat.le_add_right _ 6) hs1
  unfold fL_case32 at hf
  refine lv_aload_n hx hb dL_law_1756 rfl (lv_at hl 1 rfl) ?_
  refine lv_aload_n hx hb dL_law_1757 rfl (lv_at hl 0 rfl) ?_
  refine lv_iload hx hb dL_law_1758 (lv_at hl 4 rfl) ?_
  refine lv_iconst (v := (1 : Int32)) hx hb dL_law_1760 (by decide) ?_
  refine lv_iadd hx hb dL_law_1761 ?_
  obtain ⟨hin, hf⟩ := wb_n hf
  refine va_sld hx hb hXs hbl hbA hS hin dL_law_1762 ?_
  refine lv_aload_n hx hb dL_law_1763 rfl (lv_at hl 0 rfl) ?_
  refine lv_iload hx hb dL_law_1764 (lv_at hl 4 rfl) ?_
  refine lv_iconst (v := (2 : Int32)) hx hb dL_law_1766 (by decide) ?_
  refine lv_iadd hx hb dL_law_1767 ?_
  obtain ⟨hin, hf⟩ := wb_n hf
  refine va_sld hx hb hXs hbl hbA hS hin dL_law_1768 ?_
  refine lv_aload_n hx hb dL_law_1769 rfl (lv_at hl 0 rfl) ?_
  refine lv_iload hx hb dL_law_1770 (lv_at hl 4 rfl) ?_
  refine lv_iconst (v := (3 : Int32)) hx hb dL_law_1772 (by decide) ?_
  refine lv_iadd hx hb dL_law_1773 ?_
  obtain ⟨hin, hf⟩ := wb_n hf
  refine va_sld hx hb hXs hbl hbA hS hin dL_law_1774 ?_
  refine lv_aload_n hx hb dL_law_1775 rfl (lv_at hl 3 rfl) ?_
  obtain ⟨r1, hr1, hf⟩ := wb_b hf
  have hPc := wj_P3 hP
  have hDc := wj_D3 hD
  have hFc := wj_F hDc hS hA
  refine va_calli (vx_runSW (As := [.ref (a0 0), .int (xs ((y4 + (1 : Int32))).toNatClampNeg), .int (xs ((y4 + (2 : Int32))).toNatClampNeg), .int (xs ((y4 + (3 : Int32))).toNatClampNeg), .ref b2]) (rest := []) ⟨hx, hb, hml, hown, hts⟩ (cn_L_same l hlt D cB cI cZ cJ N a0 I0 M0 (xs ((y4 + (1 : Int32))).toNatClampNeg) (xs ((y4 + (2 : Int32))).toNatClampNeg) (xs ((y4 + (3 : Int32))).toNatClampNeg) b2 o2 H.size r1 hr1) (vx_cwSW 5 hts gyL_law_L_same rfl rfl rfl csL_same ⟨Nat.le_of_ble_eq_true rfl, Nat.le_of_ble_eq_true rfl⟩) (wb_preLS hPc hK hDc (hX0.kept hS) hNc) rfl rfl hl.1 rfl (lv_room (Nat.le_of_ble_eq_true rfl)) dL_law_1776 ⟨hc1, hs1⟩) hS (fun q _ h => hFc q h) hFc (fun r9 u t H locs ht hvm hw hB hz1 hk1 hS => ?_)
  obtain ⟨hP, hD⟩ := wj_3 hP hD hk1 hFc ht hB
  rw [hw]
  obtain ⟨v2, ev2, hf⟩ := wb_v hf
  refine wb_topi ev2 ?_
  refine lv_istore (lv' := [(5, .int v2), (0, .ref b), (1, .ref (a0 0)), (2, .ref (a1 0)), (3, .ref b2), (4, .int y4)]) hx hb dL_law_1779 hl (by decide) rfl (fun ls hl => ?_)
  refine lv_aload_n hx hb dL_law_1781 rfl (lv_at hl 3 rfl) ?_
  refine lv_aload_n hx hb dL_law_1782 rfl (lv_at hl 1 rfl) ?_
  refine lv_iload hx hb dL_law_1783 (lv_at hl 5 rfl) ?_
  refine lv_iconst (v := (1 : Int32)) hx hb dL_law_1785 (by decide) ?_
  refine lv_iadd hx hb dL_law_1786 ?_
  obtain ⟨hin, hf⟩ := wb_n hf
  refine va_sld hx hb hXs hbl hbA hS hin dL_law_1787 ?_
  refine lv_aload_n hx hb dL_law_1788 rfl (lv_at hl 1 rfl) ?_
  refine lv_iload hx hb dL_law_1789 (lv_at hl 5 rfl) ?_
  refine lv_iconst (v := (2 : Int32)) hx hb dL_law_1791 (by decide) ?_
  refine lv_iadd hx hb dL_law_1792 ?_
  obtain ⟨hin, hf⟩ := wb_n hf
  refine va_sld hx hb hXs hbl hbA hS hin dL_law_1793 ?_
  refine lv_aload_n hx hb dL_law_1794 rfl (lv_at hl 1 rfl) ?_
  refine lv_iload hx hb dL_law_1795 (lv_at hl 5 rfl) ?_
  refine lv_iconst (v := (3 : Int32)) hx hb dL_law_1797 (by decide) ?_
  refine lv_iadd hx hb dL_law_1798 ?_
  obtain ⟨hin, hf⟩ := wb_n hf
  refine va_sld hx hb hXs hbl hbA hS hin dL_law_1799 ?_
  obtain ⟨r3, hr3, hf⟩ := wb_b hf
  have hPc := wj_P2 hP
  have hDc := wj_D2 hD
  have hFc := wj_F hDc hS hA
  refine va_calli (va_runV (As := [.int (xs ((y4 + (1 : Int32))).toNatClampNeg), .int (xs ((y4 + (2 : Int32))).toNatClampNeg), .int (xs ((y4 + (3 : Int32))).toNatClampNeg)]) (rest := []) ⟨hx, hb, hml, hown, hts⟩ (cn_X12_same l D cB cI cZ N a1 I1 L1 M1 (xs ((y4 + (1 : Int32))).toNatClampNeg) (xs ((y4 + (2 : Int32))).toNatClampNeg) (xs ((y4 + (3 : Int32))).toNatClampNeg) H.size r3 hr3) (cwV 3 hts gyL_law_X12_same rfl rfl rfl cdX12_same ⟨Nat.le_of_ble_eq_true rfl, Nat.le_of_ble_eq_true rfl⟩) (wb_preDV hPc hK3 hDc (va_recv hK hP (ci := 12) (q0 := 52) rfl rfl)) rfl rfl hl.1 rfl (lv_room (Nat.le_of_ble_eq_true rfl)) dL_law_1800 ⟨hc1, hs1⟩) hS (fun q _ h => hFc q h) hFc (fun r9 u t H locs ht hvm hw hB hz1 hk1 hS => ?_)
  obtain ⟨hP, hD⟩ := wj_2 hP hD hk1 hFc ht hB
  rw [hw]
  obtain ⟨v4, ev4, hf⟩ := wb_v hf
  refine wb_topi ev4 ?_
  refine lv_istore (lv' := [(6, .int v4), (5, .int v2), (0, .ref b), (1, .ref (a0 0)), (2, .ref (a1 0)), (3, .ref b2), (4, .int y4)]) hx hb dL_law_1803 hl (by decide) rfl (fun ls hl => ?_)
  refine lv_goto (tgt := 2049) hx hb dL_law_1805 (by decide) ?_
  refine W.widen (k := c0 + 1) (n := s0 + 6) (Nat.le_refl _) (Nat.le_refl _) ?_
  have h9 := Option.some.inj hf
  exact kk H locs ls (by rw [← h9]; exact hP) (by rw [← h9]; exact hD) hS (lv_sub hl [2, 3, 4, 5, 6] rfl)

set_option maxHeartbeats 4000000 in
set_option maxRecDepth 100000 in
theorem law_case33 {p : Program} {e : Env} {s : State} {m : MethodId} {below : List Frame} {meth : Method} {c : Code} (l : Launch) (hlt : l.stackTraces = false) (D : va_G) (cB cI cZ cJ : ClassId) (N : Nat) {b L : Nat} {xs : Nat → Int32} (C0 : lw_At p s m meth c b L xs) (hX0 : wb_XH s.heap s) (hNc : va_Nc wb_E2 wb_E1 s) (a0 a1 : Nat → Nat) (b2 : Nat) (I0 : Nat → Int32) (M0 : Nat → Nat → Int32) (I1 : Nat → Int32) (L1 : Int64) (M1 : Nat → Nat → Int32) (o2 : Nat → Int64) (y4 : Int32) (c0 s0 : Nat) (hc1 : c0 + 1 ≤ room_1.cells) (hs1 : s0 + 6 ≤ room_1.slots) (H : Heap) (locs : List Loc) (hK : va_K D vwCl [(cB, .byte), (cI, .int), (cZ, .boolean), (cJ, .long)] s) (hP : va_P D vwCl ((wWX11 cB cI cZ a0 I0 M0) ++ ((wWX12 cB cI cZ a1 I1 L1 M1) ++ [(b2, .inl (cJ, 1, .inr (.inl o2)))])) H) (hD : va_D (fun q : Nat => s.heap.size ≤ q) ((wWX11 cB cI cZ a0 I0 M0) ++ ((wWX12 cB cI cZ a1 I1 L1 M1) ++ [(b2, .inl (cJ, 1, .inr (.inl o2)))]))) (hS : va_S (fun q : Nat => s.heap.size ≤ q) s.heap H locs) (ls : Array Slot) (hl : lv_has ls 7 [(0, .ref b), (1, .ref (a0 0)), (2, .ref (a1 0)), (3, .ref b2), (4, .int y4)]) (R : (Nat → Int32) × (Nat → Nat → Int32) × (Nat → Int32) × Int64 × (Nat → Nat → Int32) × (Nat → Int64)) (hf : fL_case33 N L xs I0 M0 I1 L1 M1 o2 y4 = some R)
    (kk : ∀ (H : Heap) (locs : List Loc) (ls : Array Slot), va_P D vwCl ((wWX11 cB cI cZ a0 R.1 R.2.1) ++ ((wWX12 cB cI cZ a1 R.2.2.1 R.2.2.2.1 R.2.2.2.2.1) ++ [(b2, .inl (cJ, 1, .inr (.inl R.2.2.2.2.2)))])) H → va_D (fun q : Nat => s.heap.size ≤ q) ((wWX11 cB cI cZ a0 R.1 R.2.1) ++ ((wWX12 cB cI cZ a1 R.2.2.1 R.2.2.2.1 R.2.2.2.2.1) ++ [(b2, .inl (cJ, 1, .inr (.inl R.2.2.2.2.2)))])) → va_S (fun q : Nat => s.heap.size ≤ q) s.heap H locs → lv_has ls 7 [(0, .ref b), (1, .ref (a0 0)), (2, .ref (a1 0)), (3, .ref b2), (4, .int y4)] → W p l e room_1 s m #[Value.ref b] below meth c H locs (c0 + 1) (s0 + 6) (lw_Z below #[Value.ref b] s) (F0 m 2049 ls [])) : W p l e room_1 s m #[Value.ref b] below meth c H locs c0 s0 (lw_Z below #[Value.ref b] s) (F0 m 1808 ls []) := by
  obtain ⟨hx, hb, hr, hml, hown, hts0, hXs, hbl, hlocks, hgv⟩ := id C0
  have hown : s.vm.findClass RL = some m.cls := hown
  have hb : c.code = cL_law := hb
  have hts : ∀ w ∈ wyL_law, w.before #[Value.ref b] s = true := fun w h => hts0 w (wl_law w h)
  have hA : ∀ q : Nat, s.heap.size ≤ q → (fun q : Nat => s.heap.size ≤ q) q := fun _ h => h
  have hbA : ¬ (fun q : Nat => s.heap.size ≤ q) b := Nat.not_le.mpr hbl
  have hK3 : va_K D vwCl [(cB, .byte), (cI, .int), (cZ, .boolean)] s := hK.sub [0, 1, 2] rfl
  have hc0 : c0 ≤ room_1.cells := Nat.le_of_succ_le hc1
  have hs0 : s0 ≤ room_1.slots := Nat.le_trans (Nat.le_add_right _ 6) hs1
  unfold fL_case33 at hf
  refine lv_aload_n hx hb dL_law_1808 rfl (lv_at hl 1 rfl) ?_
  refine lv_aload_n hx hb dL_law_1809 rfl (lv_at hl 0 rfl) ?_
  refine lv_iload hx hb dL_law_1810 (lv_at hl 4 rfl) ?_
  refine lv_iconst (v := (1 : Int32)) hx hb dL_law_1812 (by decide) ?_
  refine lv_iadd hx hb dL_law_1813 ?_
  obtain ⟨hin, hf⟩ := wb_n hf
  refine va_sld hx hb hXs hbl hbA hS hin dL_law_1814 ?_
  refine lv_aload_n hx hb dL_law_1815 rfl (lv_at hl 0 rfl) ?_
  refine lv_iload hx hb dL_law_1816 (lv_at hl 4 rfl) ?_
  refine lv_iconst (v := (2 : Int32)) hx hb dL_law_1818 (by decide) ?_
  refine lv_iadd hx hb dL_law_1819 ?_
  obtain ⟨hin, hf⟩ := wb_n hf
  refine va_sld hx hb hXs hbl hbA hS hin dL_law_1820 ?_
  refine lv_aload_n hx hb dL_law_1821 rfl (lv_at hl 3 rfl) ?_
  obtain ⟨r1, hr1, hf⟩ := wb_b hf
  have hPc := wj_P3 hP
  have hDc := wj_D3 hD
  have hFc := wj_F hDc hS hA
  refine va_calli (vx_runSW (As := [.ref (a0 0), .int (xs ((y4 + (1 : Int32))).toNatClampNeg), .int (xs ((y4 + (2 : Int32))).toNatClampNeg), .ref b2]) (rest := []) ⟨hx, hb, hml, hown, hts⟩ (cn_L_births l hlt D cB cI cZ cJ N a0 I0 M0 (xs ((y4 + (1 : Int32))).toNatClampNeg) (xs ((y4 + (2 : Int32))).toNatClampNeg) b2 o2 H.size r1 hr1) (vx_cwSW 4 hts gyL_law_L_births rfl rfl rfl csL_births ⟨Nat.le_of_ble_eq_true rfl, Nat.le_of_ble_eq_true rfl⟩) (wb_preLS hPc hK hDc (hX0.kept hS) hNc) rfl rfl hl.1 rfl (lv_room (Nat.le_of_ble_eq_true rfl)) dL_law_1822 ⟨hc1, hs1⟩) hS (fun q _ h => hFc q h) hFc (fun r9 u t H locs ht hvm hw hB hz1 hk1 hS => ?_)
  obtain ⟨hP, hD⟩ := wj_3 hP hD hk1 hFc ht hB
  rw [hw]
  obtain ⟨v2, ev2, hf⟩ := wb_v hf
  refine wb_topi ev2 ?_
  refine lv_istore (lv' := [(5, .int v2), (0, .ref b), (1, .ref (a0 0)), (2, .ref (a1 0)), (3, .ref b2), (4, .int y4)]) hx hb dL_law_1825 hl (by decide) rfl (fun ls hl => ?_)
  refine lv_aload_n hx hb dL_law_1827 rfl (lv_at hl 3 rfl) ?_
  refine lv_aload_n hx hb dL_law_1828 rfl (lv_at hl 1 rfl) ?_
  refine lv_iload hx hb dL_law_1829 (lv_at hl 5 rfl) ?_
  refine lv_iconst (v := (1 : Int32)) hx hb dL_law_1831 (by decide) ?_
  refine lv_iadd hx hb dL_law_1832 ?_
  obtain ⟨hin, hf⟩ := wb_n hf
  refine va_sld hx hb hXs hbl hbA hS hin dL_law_1833 ?_
  refine lv_aload_n hx hb dL_law_1834 rfl (lv_at hl 1 rfl) ?_
  refine lv_iload hx hb dL_law_1835 (lv_at hl 5 rfl) ?_
  refine lv_iconst (v := (2 : Int32)) hx hb dL_law_1837 (by decide) ?_
  refine lv_iadd hx hb dL_law_1838 ?_
  obtain ⟨hin, hf⟩ := wb_n hf
  refine va_sld hx hb hXs hbl hbA hS hin dL_law_1839 ?_
  obtain ⟨r3, hr3, hf⟩ := wb_b hf
  have hPc := wj_P2 hP
  have hDc := wj_D2 hD
  have hFc := wj_F hDc hS hA
  refine va_calli (va_runV (As := [.int (xs ((y4 + (1 : Int32))).toNatClampNeg), .int (xs ((y4 + (2 : Int32))).toNatClampNeg)]) (rest := []) ⟨hx, hb, hml, hown, hts⟩ (cn_X12_births l D cB cI cZ N a1 I1 L1 M1 (xs ((y4 + (1 : Int32))).toNatClampNeg) (xs ((y4 + (2 : Int32))).toNatClampNeg) H.size r3 hr3) (cwV 2 hts gyL_law_X12_births rfl rfl rfl cdX12_births ⟨Nat.le_of_ble_eq_true rfl, Nat.le_of_ble_eq_true rfl⟩) (wb_preDV hPc hK3 hDc (va_recv hK hP (ci := 12) (q0 := 52) rfl rfl)) rfl rfl hl.1 rfl (lv_room (Nat.le_of_ble_eq_true rfl)) dL_law_1840 ⟨hc1, hs1⟩) hS (fun q _ h => hFc q h) hFc (fun r9 u t H locs ht hvm hw hB hz1 hk1 hS => ?_)
  obtain ⟨hP, hD⟩ := wj_2 hP hD hk1 hFc ht hB
  rw [hw]
  obtain ⟨v4, ev4, hf⟩ := wb_v hf
  refine wb_topi ev4 ?_
  refine lv_istore (lv' := [(6, .int v4), (5, .int v2), (0, .ref b), (1, .ref (a0 0)), (2, .ref (a1 0)), (3, .ref b2), (4, .int y4)]) hx hb dL_law_1843 hl (by decide) rfl (fun ls hl => ?_)
  refine lv_goto (tgt := 2049) hx hb dL_law_1845 (by decide) ?_
  refine W.widen (k := c0 + 1) (n := s0 + 6) (Nat.le_refl _) (Nat.le_refl _) ?_
  have h9 := Option.some.inj hf
  exact kk H locs ls (by rw [← h9]; exact hP) (by rw [← h9]; exact hD) hS (lv_sub hl [2, 3, 4, 5, 6] rfl)

set_option maxHeartbeats 4000000 in
set_option maxRecDepth 100000 in
theorem law_case34 {p : Program} {e : Env} {s : State} {m : MethodId} {below : List Frame} {meth : Method} {c : Code} (l : Launch) (hlt : l.stackTraces = false) (D : va_G) (cB cI cZ cJ : ClassId) (N : Nat) {b L : Nat} {xs : Nat → Int32} (C0 : lw_At p s m meth c b L xs) (hX0 : wb_XH s.heap s) (hNc : va_Nc wb_E2 wb_E1 s) (a0 a1 : Nat → Nat) (b2 : Nat) (I0 : Nat → Int32) (M0 : Nat → Nat → Int32) (I1 : Nat → Int32) (L1 : Int64) (M1 : Nat → Nat → Int32) (o2 : Nat → Int64) (y4 : Int32) (c0 s0 : Nat) (hc1 : c0 + 1 ≤ room_1.cells) (hs1 : s0 + 6 ≤ room_1.slots) (H : Heap) (locs : List Loc) (hK : va_K D vwCl [(cB, .byte), (cI, .int), (cZ, .boolean), (cJ, .long)] s) (hP : va_P D vwCl ((wWX11 cB cI cZ a0 I0 M0) ++ ((wWX12 cB cI cZ a1 I1 L1 M1) ++ [(b2, .inl (cJ, 1, .inr (.inl o2)))])) H) (hD : va_D (fun q : Nat => s.heap.size ≤ q) ((wWX11 cB cI cZ a0 I0 M0) ++ ((wWX12 cB cI cZ a1 I1 L1 M1) ++ [(b2, .inl (cJ, 1, .inr (.inl o2)))]))) (hS : va_S (fun q : Nat => s.heap.size ≤ q) s.heap H locs) (ls : Array Slot) (hl : lv_has ls 7 [(0, .ref b), (1, .ref (a0 0)), (2, .ref (a1 0)), (3, .ref b2), (4, .int y4)]) (R : (Nat → Int32) × (Nat → Nat → Int32) × (Nat → Int32) × Int64 × (Nat → Nat → Int32) × (Nat → Int64)) (hf : fL_case34 N L xs I0 M0 I1 L1 M1 o2 y4 = some R)
    (kk : ∀ (H : Heap) (locs : List Loc) (ls : Array Slot), va_P D vwCl ((wWX11 cB cI cZ a0 R.1 R.2.1) ++ ((wWX12 cB cI cZ a1 R.2.2.1 R.2.2.2.1 R.2.2.2.2.1) ++ [(b2, .inl (cJ, 1, .inr (.inl R.2.2.2.2.2)))])) H → va_D (fun q : Nat => s.heap.size ≤ q) ((wWX11 cB cI cZ a0 R.1 R.2.1) ++ ((wWX12 cB cI cZ a1 R.2.2.1 R.2.2.2.1 R.2.2.2.2.1) ++ [(b2, .inl (cJ, 1, .inr (.inl R.2.2.2.2.2)))])) → va_S (fun q : Nat => s.heap.size ≤ q) s.heap H locs → lv_has ls 7 [(0, .ref b), (1, .ref (a0 0)), (2, .ref (a1 0)), (3, .ref b2), (4, .int y4)] → W p l e room_1 s m #[Value.ref b] below meth c H locs (c0 + 1) (s0 + 6) (lw_Z below #[Value.ref b] s) (F0 m 2049 ls [])) : W p l e room_1 s m #[Value.ref b] below meth c H locs c0 s0 (lw_Z below #[Value.ref b] s) (F0 m 1848 ls []) := by
  obtain ⟨hx, hb, hr, hml, hown, hts0, hXs, hbl, hlocks, hgv⟩ := id C0
  have hown : s.vm.findClass RL = some m.cls := hown
  have hb : c.code = cL_law := hb
  have hts : ∀ w ∈ wyL_law, w.before #[Value.ref b] s = true := fun w h => hts0 w (wl_law w h)
  have hA : ∀ q : Nat, s.heap.size ≤ q → (fun q : Nat => s.heap.size ≤ q) q := fun _ h => h
  have hbA : ¬ (fun q : Nat => s.heap.size ≤ q) b := Nat.not_le.mpr hbl
  have hK3 : va_K D vwCl [(cB, .byte), (cI, .int), (cZ, .boolean)] s := hK.sub [0, 1, 2] rfl
  have hc0 : c0 ≤ room_1.cells := Nat.le_of_succ_le hc1
  have hs0 : s0 ≤ room_1.slots := Nat.le_trans (Nat.le_add_right _ 6) hs1
  unfold fL_case34 at hf
  refine lv_aload_n hx hb dL_law_1848 rfl (lv_at hl 1 rfl) ?_
  obtain ⟨r1, hr1, hf⟩ := wb_b hf
  have hPc := wj_P1 hP
  have hDc := wj_D1 hD
  have hFc := wj_F hDc hS hA
  refine va_calli (va_runV (As := []) (rest := []) ⟨hx, hb, hml, hown, hts⟩ (cn_X11_tree l D cB cI cZ N a0 I0 M0 H.size r1 hr1) (cwV 0 hts gyL_law_X11_tree rfl rfl rfl cdX11_tree ⟨Nat.le_of_ble_eq_true rfl, Nat.le_of_ble_eq_true rfl⟩) (wb_preDV hPc hK3 hDc (va_recv hK hP (ci := 11) (q0 := 0) rfl rfl)) rfl rfl hl.1 rfl (lv_room (Nat.le_of_ble_eq_true rfl)) dL_law_1849 ⟨hc0, hs0⟩) hS (fun q _ h => hFc q h) hFc (fun r9 u t H locs ht hvm hw hB hz1 hk1 hS => ?_)
  obtain ⟨hP, hD⟩ := wj_1 hP hD hk1 hFc ht hB
  rw [hw]
  refine lv_pop hx hb dL_law_1852 rfl ?_
  refine lv_aload_n hx hb dL_law_1853 rfl (lv_at hl 2 rfl) ?_
  obtain ⟨r2, hr2, hf⟩ := wb_b hf
  have hPc := wj_P2 hP
  have hDc := wj_D2 hD
  have hFc := wj_F hDc hS hA
  refine va_calli (va_runV (As := []) (rest := []) ⟨hx, hb, hml, hown, hts⟩ (cn_X12_tree l D cB cI cZ N a1 I1 L1 M1 H.size r2 hr2) (cwV 0 hts gyL_law_X12_tree rfl rfl rfl cdX12_tree ⟨Nat.le_of_ble_eq_true rfl, Nat.le_of_ble_eq_true rfl⟩) (wb_preDV hPc hK3 hDc (va_recv hK hP (ci := 12) (q0 := 52) rfl rfl)) rfl rfl hl.1 rfl (lv_room (Nat.le_of_ble_eq_true rfl)) dL_law_1854 ⟨hc0, hs0⟩) hS (fun q _ h => hFc q h) hFc (fun r9 u t H locs ht hvm hw hB hz1 hk1 hS => ?_)
  obtain ⟨hP, hD⟩ := wj_2 hP hD hk1 hFc ht hB
  rw [hw]
  refine lv_pop hx hb dL_law_1857 rfl ?_
  refine lv_goto (tgt := 2049) hx hb dL_law_1858 (by decide) ?_
  refine W.widen (k := c0 + 1) (n := s0 + 6) (Nat.le_succ _) (Nat.le_add_right _ _) ?_
  have h9 := Option.some.inj hf
  exact kk H locs ls (by rw [← h9]; exact hP) (by rw [← h9]; exact hD) hS (lv_sub hl [0, 1, 2, 3, 4] rfl)

set_option maxHeartbeats 4000000 in
set_option maxRecDepth 100000 in
theorem law_case35 {p : Program} {e : Env} {s : State} {m : MethodId} {below : List Frame} {meth : Method} {c : Code} (l : Launch) (hlt : l.stackTraces = false) (D : va_G) (cB cI cZ cJ : ClassId) (N : Nat) {b L : Nat} {xs : Nat → Int32} (C0 : lw_At p s m meth c b L xs) (hX0 : wb_XH s.heap s) (hNc : va_Nc wb_E2 wb_E1 s) (a0 a1 : Nat → Nat) (b2 : Nat) (I0 : Nat → Int32) (M0 : Nat → Nat → Int32) (I1 : Nat → Int32) (L1 : Int64) (M1 : Nat → Nat → Int32) (o2 : Nat → Int64) (y4 : Int32) (c0 s0 : Nat) (hc1 : c0 + 1 ≤ room_1.cells) (hs1 : s0 + 6 ≤ room_1.slots) (H : Heap) (locs : List Loc) (hK : va_K D vwCl [(cB, .byte), (cI, .int), (cZ, .boolean), (cJ, .long)] s) (hP : va_P D vwCl ((wWX11 cB cI cZ a0 I0 M0) ++ ((wWX12 cB cI cZ a1 I1 L1 M1) ++ [(b2, .inl (cJ, 1, .inr (.inl o2)))])) H) (hD : va_D (fun q : Nat => s.heap.size ≤ q) ((wWX11 cB cI cZ a0 I0 M0) ++ ((wWX12 cB cI cZ a1 I1 L1 M1) ++ [(b2, .inl (cJ, 1, .inr (.inl o2)))]))) (hS : va_S (fun q : Nat => s.heap.size ≤ q) s.heap H locs) (ls : Array Slot) (hl : lv_has ls 7 [(0, .ref b), (1, .ref (a0 0)), (2, .ref (a1 0)), (3, .ref b2), (4, .int y4)]) (R : (Nat → Int32) × (Nat → Nat → Int32) × (Nat → Int32) × Int64 × (Nat → Nat → Int32) × (Nat → Int64)) (hf : fL_case35 N L xs I0 M0 I1 L1 M1 o2 y4 = some R)
    (kk : ∀ (H : Heap) (locs : List Loc) (ls : Array Slot), va_P D vwCl ((wWX11 cB cI cZ a0 R.1 R.2.1) ++ ((wWX12 cB cI cZ a1 R.2.2.1 R.2.2.2.1 R.2.2.2.2.1) ++ [(b2, .inl (cJ, 1, .inr (.inl R.2.2.2.2.2)))])) H → va_D (fun q : Nat => s.heap.size ≤ q) ((wWX11 cB cI cZ a0 R.1 R.2.1) ++ ((wWX12 cB cI cZ a1 R.2.2.1 R.2.2.2.1 R.2.2.2.2.1) ++ [(b2, .inl (cJ, 1, .inr (.inl R.2.2.2.2.2)))])) → va_S (fun q : Nat => s.heap.size ≤ q) s.heap H locs → lv_has ls 7 [(0, .ref b), (1, .ref (a0 0)), (2, .ref (a1 0)), (3, .ref b2), (4, .int y4)] → W p l e room_1 s m #[Value.ref b] below meth c H locs (c0 + 1) (s0 + 6) (lw_Z below #[Value.ref b] s) (F0 m 2049 ls [])) : W p l e room_1 s m #[Value.ref b] below meth c H locs c0 s0 (lw_Z below #[Value.ref b] s) (F0 m 1861 ls []) := by
  obtain ⟨hx, hb, hr, hml, hown, hts0, hXs, hbl, hlocks, hgv⟩ := id C0
  have hown : s.vm.findClass RL = some m.cls := hown
  have hb : c.code = cL_law := hb
  have hts : ∀ w ∈ wyL_law, w.before #[Value.ref b] s = true := fun w h => hts0 w (wl_law w h)
  have hA : ∀ q : Nat, s.heap.size ≤ q → (fun q : Nat => s.heap.size ≤ q) q := fun _ h => h
  have hbA : ¬ (fun q : Nat => s.heap.size ≤ q) b := Nat.not_le.mpr hbl
  have hK3 : va_K D vwCl [(cB, .byte), (cI, .int), (cZ, .boolean)] s := hK.sub [0, 1, 2] rfl
  have hc0 : c0 ≤ room_1.cells := Nat.le_of_succ_le hc1
  have hs0 : s0 ≤ room_1.slots := Nat.le_trans (Nat.le_add_right _ 6) hs1
  unfold fL_case35 at hf
  refine lv_aload_n hx hb dL_law_1861 rfl (lv_at hl 1 rfl) ?_
  refine lv_aload_n hx hb dL_law_1862 rfl (lv_at hl 0 rfl) ?_
  refine lv_iload hx hb dL_law_1863 (lv_at hl 4 rfl) ?_
  refine lv_iconst (v := (1 : Int32)) hx hb dL_law_1865 (by decide) ?_
  refine lv_iadd hx hb dL_law_1866 ?_
  obtain ⟨hin, hf⟩ := wb_n hf
  refine va_sld hx hb hXs hbl hbA hS hin dL_law_1867 ?_
  refine lv_aload_n hx hb dL_law_1868 rfl (lv_at hl 3 rfl) ?_
  obtain ⟨r1, hr1, hf⟩ := wb_b hf
  have hPc := wj_P3 hP
  have hDc := wj_D3 hD
  have hFc := wj_F hDc hS hA
  refine va_calli (vx_runSW (As := [.ref (a0 0), .int (xs ((y4 + (1 : Int32))).toNatClampNeg), .ref b2]) (rest := []) ⟨hx, hb, hml, hown, hts⟩ (cn_L_whence l hlt D cB cI cZ cJ N a0 I0 M0 (xs ((y4 + (1 : Int32))).toNatClampNeg) b2 o2 H.size r1 hr1) (vx_cwSW 3 hts gyL_law_L_whence rfl rfl rfl csL_whence ⟨Nat.le_of_ble_eq_true rfl, Nat.le_of_ble_eq_true rfl⟩) (wb_preLS hPc hK hDc (hX0.kept hS) hNc) rfl rfl hl.1 rfl (lv_room (Nat.le_of_ble_eq_true rfl)) dL_law_1869 ⟨hc1, hs1⟩) hS (fun q _ h => hFc q h) hFc (fun r9 u t H locs ht hvm hw hB hz1 hk1 hS => ?_)
  obtain ⟨hP, hD⟩ := wj_3 hP hD hk1 hFc ht hB
  rw [hw]
  obtain ⟨v2, ev2, hf⟩ := wb_v hf
  refine wb_topi ev2 ?_
  refine lv_istore (lv' := [(5, .int v2), (0, .ref b), (1, .ref (a0 0)), (2, .ref (a1 0)), (3, .ref b2), (4, .int y4)]) hx hb dL_law_1872 hl (by decide) rfl (fun ls hl => ?_)
  refine lv_aload_n hx hb dL_law_1874 rfl (lv_at hl 3 rfl) ?_
  refine lv_aload_n hx hb dL_law_1875 rfl (lv_at hl 1 rfl) ?_
  refine lv_iload hx hb dL_law_1876 (lv_at hl 5 rfl) ?_
  refine lv_iconst (v := (1 : Int32)) hx hb dL_law_1878 (by decide) ?_
  refine lv_iadd hx hb dL_law_1879 ?_
  obtain ⟨hin, hf⟩ := wb_n hf
  refine va_sld hx hb hXs hbl hbA hS hin dL_law_1880 ?_
  obtain ⟨r3, hr3, hf⟩ := wb_b hf
  have hPc := wj_P2 hP
  have hDc := wj_D2 hD
  have hFc := wj_F hDc hS hA
  refine va_calli (va_runV (As := [.int (xs ((y4 + (1 : Int32))).toNatClampNeg)]) (rest := []) ⟨hx, hb, hml, hown, hts⟩ (cn_X12_whence l D cB cI cZ N a1 I1 L1 M1 (xs ((y4 + (1 : Int32))).toNatClampNeg) H.size r3 hr3) (cwV 1 hts gyL_law_X12_whence rfl rfl rfl cdX12_whence ⟨Nat.le_of_ble_eq_true rfl, Nat.le_of_ble_eq_true rfl⟩) (wb_preDV hPc hK3 hDc (va_recv hK hP (ci := 12) (q0 := 52) rfl rfl)) rfl rfl hl.1 rfl (lv_room (Nat.le_of_ble_eq_true rfl)) dL_law_1881 ⟨hc1, hs1⟩) hS (fun q _ h => hFc q h) hFc (fun r9 u t H locs ht hvm hw hB hz1 hk1 hS => ?_)
  obtain ⟨hP, hD⟩ := wj_2 hP hD hk1 hFc ht hB
  rw [hw]
  obtain ⟨v4, ev4, hf⟩ := wb_v hf
  refine wb_topi ev4 ?_
  refine lv_istore (lv' := [(6, .int v4), (5, .int v2), (0, .ref b), (1, .ref (a0 0)), (2, .ref (a1 0)), (3, .ref b2), (4, .int y4)]) hx hb dL_law_1884 hl (by decide) rfl (fun ls hl => ?_)
  refine lv_goto (tgt := 2049) hx hb dL_law_1886 (by decide) ?_
  refine W.widen (k := c0 + 1) (n := s0 + 6) (Nat.le_refl _) (Nat.le_refl _) ?_
  have h9 := Option.some.inj hf
  exact kk H locs ls (by rw [← h9]; exact hP) (by rw [← h9]; exact hD) hS (lv_sub hl [2, 3, 4, 5, 6] rfl)

set_option maxHeartbeats 4000000 in
set_option maxRecDepth 100000 in
theorem law_case36 {p : Program} {e : Env} {s : State} {m : MethodId} {below : List Frame} {meth : Method} {c : Code} (l : Launch) (hlt : l.stackTraces = false) (D : va_G) (cB cI cZ cJ : ClassId) (N : Nat) {b L : Nat} {xs : Nat → Int32} (C0 : lw_At p s m meth c b L xs) (hX0 : wb_XH s.heap s) (hNc : va_Nc wb_E2 wb_E1 s) (a0 a1 : Nat → Nat) (b2 : Nat) (I0 : Nat → Int32) (M0 : Nat → Nat → Int32) (I1 : Nat → Int32) (L1 : Int64) (M1 : Nat → Nat → Int32) (o2 : Nat → Int64) (y4 : Int32) (c0 s0 : Nat) (hc1 : c0 + 1 ≤ room_1.cells) (hs1 : s0 + 6 ≤ room_1.slots) (H : Heap) (locs : List Loc) (hK : va_K D vwCl [(cB, .byte), (cI, .int), (cZ, .boolean), (cJ, .long)] s) (hP : va_P D vwCl ((wWX11 cB cI cZ a0 I0 M0) ++ ((wWX12 cB cI cZ a1 I1 L1 M1) ++ [(b2, .inl (cJ, 1, .inr (.inl o2)))])) H) (hD : va_D (fun q : Nat => s.heap.size ≤ q) ((wWX11 cB cI cZ a0 I0 M0) ++ ((wWX12 cB cI cZ a1 I1 L1 M1) ++ [(b2, .inl (cJ, 1, .inr (.inl o2)))]))) (hS : va_S (fun q : Nat => s.heap.size ≤ q) s.heap H locs) (ls : Array Slot) (hl : lv_has ls 7 [(0, .ref b), (1, .ref (a0 0)), (2, .ref (a1 0)), (3, .ref b2), (4, .int y4)]) (R : (Nat → Int32) × (Nat → Nat → Int32) × (Nat → Int32) × Int64 × (Nat → Nat → Int32) × (Nat → Int64)) (hf : fL_case36 N L xs I0 M0 I1 L1 M1 o2 y4 = some R)
    (kk : ∀ (H : Heap) (locs : List Loc) (ls : Array Slot), va_P D vwCl ((wWX11 cB cI cZ a0 R.1 R.2.1) ++ ((wWX12 cB cI cZ a1 R.2.2.1 R.2.2.2.1 R.2.2.2.2.1) ++ [(b2, .inl (cJ, 1, .inr (.inl R.2.2.2.2.2)))])) H → va_D (fun q : Nat => s.heap.size ≤ q) ((wWX11 cB cI cZ a0 R.1 R.2.1) ++ ((wWX12 cB cI cZ a1 R.2.2.1 R.2.2.2.1 R.2.2.2.2.1) ++ [(b2, .inl (cJ, 1, .inr (.inl R.2.2.2.2.2)))])) → va_S (fun q : Nat => s.heap.size ≤ q) s.heap H locs → lv_has ls 7 [(0, .ref b), (1, .ref (a0 0)), (2, .ref (a1 0)), (3, .ref b2), (4, .int y4)] → W p l e room_1 s m #[Value.ref b] below meth c H locs (c0 + 1) (s0 + 6) (lw_Z below #[Value.ref b] s) (F0 m 2049 ls [])) : W p l e room_1 s m #[Value.ref b] below meth c H locs c0 s0 (lw_Z below #[Value.ref b] s) (F0 m 1889 ls []) := by
  obtain ⟨hx, hb, hr, hml, hown, hts0, hXs, hbl, hlocks, hgv⟩ := id C0
  have hown : s.vm.findClass RL = some m.cls := hown
  have hb : c.code = cL_law := hb
  have hts : ∀ w ∈ wyL_law, w.before #[Value.ref b] s = true := fun w h => hts0 w (wl_law w h)
  have hA : ∀ q : Nat, s.heap.size ≤ q → (fun q : Nat => s.heap.size ≤ q) q := fun _ h => h
  have hbA : ¬ (fun q : Nat => s.heap.size ≤ q) b := Nat.not_le.mpr hbl
  have hK3 : va_K D vwCl [(cB, .byte), (cI, .int), (cZ, .boolean)] s := hK.sub [0, 1, 2] rfl
  have hc0 : c0 ≤ room_1.cells := Nat.le_of_succ_le hc1
  have hs0 : s0 ≤ room_1.slots := Nat.le_trans (Nat.le_add_right _ 6) hs1
  unfold fL_case36 at hf
  refine lv_aload_n hx hb dL_law_1889 rfl (lv_at hl 1 rfl) ?_
  refine lv_aload_n hx hb dL_law_1890 rfl (lv_at hl 0 rfl) ?_
  refine lv_iload hx hb dL_law_1891 (lv_at hl 4 rfl) ?_
  refine lv_iconst (v := (1 : Int32)) hx hb dL_law_1893 (by decide) ?_
  refine lv_iadd hx hb dL_law_1894 ?_
  obtain ⟨hin, hf⟩ := wb_n hf
  refine va_sld hx hb hXs hbl hbA hS hin dL_law_1895 ?_
  refine lv_aload_n hx hb dL_law_1896 rfl (lv_at hl 0 rfl) ?_
  refine lv_iload hx hb dL_law_1897 (lv_at hl 4 rfl) ?_
  refine lv_iconst (v := (2 : Int32)) hx hb dL_law_1899 (by decide) ?_
  refine lv_iadd hx hb dL_law_1900 ?_
  obtain ⟨hin, hf⟩ := wb_n hf
  refine va_sld hx hb hXs hbl hbA hS hin dL_law_1901 ?_
  refine lv_aload_n hx hb dL_law_1902 rfl (lv_at hl 0 rfl) ?_
  refine lv_iload hx hb dL_law_1903 (lv_at hl 4 rfl) ?_
  refine lv_iconst (v := (3 : Int32)) hx hb dL_law_1905 (by decide) ?_
  refine lv_iadd hx hb dL_law_1906 ?_
  obtain ⟨hin, hf⟩ := wb_n hf
  refine va_sld hx hb hXs hbl hbA hS hin dL_law_1907 ?_
  refine lv_aload_n hx hb dL_law_1908 rfl (lv_at hl 3 rfl) ?_
  obtain ⟨r1, hr1, hf⟩ := wb_b hf
  have hPc := wj_P3 hP
  have hDc := wj_D3 hD
  have hFc := wj_F hDc hS hA
  refine va_calli (vx_runSW (As := [.ref (a0 0), .int (xs ((y4 + (1 : Int32))).toNatClampNeg), .int (xs ((y4 + (2 : Int32))).toNatClampNeg), .int (xs ((y4 + (3 : Int32))).toNatClampNeg), .ref b2]) (rest := []) ⟨hx, hb, hml, hown, hts⟩ (cn_L_life l hlt D cB cI cZ cJ N a0 I0 M0 (xs ((y4 + (1 : Int32))).toNatClampNeg) (xs ((y4 + (2 : Int32))).toNatClampNeg) (xs ((y4 + (3 : Int32))).toNatClampNeg) b2 o2 H.size r1 hr1) (vx_cwSW 5 hts gyL_law_L_life rfl rfl rfl csL_life ⟨Nat.le_of_ble_eq_true rfl, Nat.le_of_ble_eq_true rfl⟩) (wb_preLS hPc hK hDc (hX0.kept hS) hNc) rfl rfl hl.1 rfl (lv_room (Nat.le_of_ble_eq_true rfl)) dL_law_1909 ⟨hc1, hs1⟩) hS (fun q _ h => hFc q h) hFc (fun r9 u t H locs ht hvm hw hB hz1 hk1 hS => ?_)
  obtain ⟨hP, hD⟩ := wj_3 hP hD hk1 hFc ht hB
  rw [hw]
  obtain ⟨v2, ev2, hf⟩ := wb_v hf
  refine wb_topi ev2 ?_
  refine lv_istore (lv' := [(5, .int v2), (0, .ref b), (1, .ref (a0 0)), (2, .ref (a1 0)), (3, .ref b2), (4, .int y4)]) hx hb dL_law_1912 hl (by decide) rfl (fun ls hl => ?_)
  refine lv_aload_n hx hb dL_law_1914 rfl (lv_at hl 3 rfl) ?_
  refine lv_aload_n hx hb dL_law_1915 rfl (lv_at hl 1 rfl) ?_
  refine lv_iload hx hb dL_law_1916 (lv_at hl 5 rfl) ?_
  refine lv_iconst (v := (1 : Int32)) hx hb dL_law_1918 (by decide) ?_
  refine lv_iadd hx hb dL_law_1919 ?_
  obtain ⟨hin, hf⟩ := wb_n hf
  refine va_sld hx hb hXs hbl hbA hS hin dL_law_1920 ?_
  refine lv_aload_n hx hb dL_law_1921 rfl (lv_at hl 1 rfl) ?_
  refine lv_iload hx hb dL_law_1922 (lv_at hl 5 rfl) ?_
  refine lv_iconst (v := (2 : Int32)) hx hb dL_law_1924 (by decide) ?_
  refine lv_iadd hx hb dL_law_1925 ?_
  obtain ⟨hin, hf⟩ := wb_n hf
  refine va_sld hx hb hXs hbl hbA hS hin dL_law_1926 ?_
  refine lv_aload_n hx hb dL_law_1927 rfl (lv_at hl 1 rfl) ?_
  refine lv_iload hx hb dL_law_1928 (lv_at hl 5 rfl) ?_
  refine lv_iconst (v := (3 : Int32)) hx hb dL_law_1930 (by decide) ?_
  refine lv_iadd hx hb dL_law_1931 ?_
  obtain ⟨hin, hf⟩ := wb_n hf
  refine va_sld hx hb hXs hbl hbA hS hin dL_law_1932 ?_
  obtain ⟨r3, hr3, hf⟩ := wb_b hf
  have hPc := wj_P2 hP
  have hDc := wj_D2 hD
  have hFc := wj_F hDc hS hA
  refine va_calli (va_runV (As := [.int (xs ((y4 + (1 : Int32))).toNatClampNeg), .int (xs ((y4 + (2 : Int32))).toNatClampNeg), .int (xs ((y4 + (3 : Int32))).toNatClampNeg)]) (rest := []) ⟨hx, hb, hml, hown, hts⟩ (cn_X12_life l D cB cI cZ N a1 I1 L1 M1 (xs ((y4 + (1 : Int32))).toNatClampNeg) (xs ((y4 + (2 : Int32))).toNatClampNeg) (xs ((y4 + (3 : Int32))).toNatClampNeg) H.size r3 hr3) (cwV 3 hts gyL_law_X12_life rfl rfl rfl cdX12_life ⟨Nat.le_of_ble_eq_true rfl, Nat.le_of_ble_eq_true rfl⟩) (wb_preDV hPc hK3 hDc (va_recv hK hP (ci := 12) (q0 := 52) rfl rfl)) rfl rfl hl.1 rfl (lv_room (Nat.le_of_ble_eq_true rfl)) dL_law_1933 ⟨hc1, hs1⟩) hS (fun q _ h => hFc q h) hFc (fun r9 u t H locs ht hvm hw hB hz1 hk1 hS => ?_)
  obtain ⟨hP, hD⟩ := wj_2 hP hD hk1 hFc ht hB
  rw [hw]
  obtain ⟨v4, ev4, hf⟩ := wb_v hf
  refine wb_topi ev4 ?_
  refine lv_istore (lv' := [(6, .int v4), (5, .int v2), (0, .ref b), (1, .ref (a0 0)), (2, .ref (a1 0)), (3, .ref b2), (4, .int y4)]) hx hb dL_law_1936 hl (by decide) rfl (fun ls hl => ?_)
  refine lv_goto (tgt := 2049) hx hb dL_law_1938 (by decide) ?_
  refine W.widen (k := c0 + 1) (n := s0 + 6) (Nat.le_refl _) (Nat.le_refl _) ?_
  have h9 := Option.some.inj hf
  exact kk H locs ls (by rw [← h9]; exact hP) (by rw [← h9]; exact hD) hS (lv_sub hl [2, 3, 4, 5, 6] rfl)

set_option maxHeartbeats 4000000 in
set_option maxRecDepth 100000 in
theorem law_case37 {p : Program} {e : Env} {s : State} {m : MethodId} {below : List Frame} {meth : Method} {c : Code} (l : Launch) (hlt : l.stackTraces = false) (D : va_G) (cB cI cZ cJ : ClassId) (N : Nat) {b L : Nat} {xs : Nat → Int32} (C0 : lw_At p s m meth c b L xs) (hX0 : wb_XH s.heap s) (hNc : va_Nc wb_E2 wb_E1 s) (a0 a1 : Nat → Nat) (b2 : Nat) (I0 : Nat → Int32) (M0 : Nat → Nat → Int32) (I1 : Nat → Int32) (L1 : Int64) (M1 : Nat → Nat → Int32) (o2 : Nat → Int64) (y4 : Int32) (c0 s0 : Nat) (hc1 : c0 + 1 ≤ room_1.cells) (hs1 : s0 + 6 ≤ room_1.slots) (H : Heap) (locs : List Loc) (hK : va_K D vwCl [(cB, .byte), (cI, .int), (cZ, .boolean), (cJ, .long)] s) (hP : va_P D vwCl ((wWX11 cB cI cZ a0 I0 M0) ++ ((wWX12 cB cI cZ a1 I1 L1 M1) ++ [(b2, .inl (cJ, 1, .inr (.inl o2)))])) H) (hD : va_D (fun q : Nat => s.heap.size ≤ q) ((wWX11 cB cI cZ a0 I0 M0) ++ ((wWX12 cB cI cZ a1 I1 L1 M1) ++ [(b2, .inl (cJ, 1, .inr (.inl o2)))]))) (hS : va_S (fun q : Nat => s.heap.size ≤ q) s.heap H locs) (ls : Array Slot) (hl : lv_has ls 7 [(0, .ref b), (1, .ref (a0 0)), (2, .ref (a1 0)), (3, .ref b2), (4, .int y4)]) (R : (Nat → Int32) × (Nat → Nat → Int32) × (Nat → Int32) × Int64 × (Nat → Nat → Int32) × (Nat → Int64)) (hf : fL_case37 N L xs I0 M0 I1 L1 M1 o2 y4 = some R)
    (kk : ∀ (H : Heap) (locs : List Loc) (ls : Array Slot), va_P D vwCl ((wWX11 cB cI cZ a0 R.1 R.2.1) ++ ((wWX12 cB cI cZ a1 R.2.2.1 R.2.2.2.1 R.2.2.2.2.1) ++ [(b2, .inl (cJ, 1, .inr (.inl R.2.2.2.2.2)))])) H → va_D (fun q : Nat => s.heap.size ≤ q) ((wWX11 cB cI cZ a0 R.1 R.2.1) ++ ((wWX12 cB cI cZ a1 R.2.2.1 R.2.2.2.1 R.2.2.2.2.1) ++ [(b2, .inl (cJ, 1, .inr (.inl R.2.2.2.2.2)))])) → va_S (fun q : Nat => s.heap.size ≤ q) s.heap H locs → lv_has ls 7 [(0, .ref b), (1, .ref (a0 0)), (2, .ref (a1 0)), (3, .ref b2), (4, .int y4)] → W p l e room_1 s m #[Value.ref b] below meth c H locs (c0 + 1) (s0 + 6) (lw_Z below #[Value.ref b] s) (F0 m 2049 ls [])) : W p l e room_1 s m #[Value.ref b] below meth c H locs c0 s0 (lw_Z below #[Value.ref b] s) (F0 m 1941 ls []) := by
  obtain ⟨hx, hb, hr, hml, hown, hts0, hXs, hbl, hlocks, hgv⟩ := id C0
  have hown : s.vm.findClass RL = some m.cls := hown
  have hb : c.code = cL_law := hb
  have hts : ∀ w ∈ wyL_law, w.before #[Value.ref b] s = true := fun w h => hts0 w (wl_law w h)
  have hA : ∀ q : Nat, s.heap.size ≤ q → (fun q : Nat => s.heap.size ≤ q) q := fun _ h => h
  have hbA : ¬ (fun q : Nat => s.heap.size ≤ q) b := Nat.not_le.mpr hbl
  have hK3 : va_K D vwCl [(cB, .byte), (cI, .int), (cZ, .boolean)] s := hK.sub [0, 1, 2] rfl
  have hc0 : c0 ≤ room_1.cells := Nat.le_of_succ_le hc1
  have hs0 : s0 ≤ room_1.slots := Nat.le_trans (Nat.le_add_right _ 6) hs1
  unfold fL_case37 at hf
  refine lv_aload_n hx hb dL_law_1941 rfl (lv_at hl 1 rfl) ?_
  refine lv_aload_n hx hb dL_law_1942 rfl (lv_at hl 0 rfl) ?_
  refine lv_iload hx hb dL_law_1943 (lv_at hl 4 rfl) ?_
  refine lv_iconst (v := (1 : Int32)) hx hb dL_law_1945 (by decide) ?_
  refine lv_iadd hx hb dL_law_1946 ?_
  obtain ⟨hin, hf⟩ := wb_n hf
  refine va_sld hx hb hXs hbl hbA hS hin dL_law_1947 ?_
  refine lv_aload_n hx hb dL_law_1948 rfl (lv_at hl 0 rfl) ?_
  refine lv_iload hx hb dL_law_1949 (lv_at hl 4 rfl) ?_
  refine lv_iconst (v := (2 : Int32)) hx hb dL_law_1951 (by decide) ?_
  refine lv_iadd hx hb dL_law_1952 ?_
  obtain ⟨hin, hf⟩ := wb_n hf
  refine va_sld hx hb hXs hbl hbA hS hin dL_law_1953 ?_
  refine lv_aload_n hx hb dL_law_1954 rfl (lv_at hl 3 rfl) ?_
  obtain ⟨r1, hr1, hf⟩ := wb_b hf
  have hPc := wj_P3 hP
  have hDc := wj_D3 hD
  have hFc := wj_F hDc hS hA
  refine va_calli (vx_runSW (As := [.ref (a0 0), .int (xs ((y4 + (1 : Int32))).toNatClampNeg), .int (xs ((y4 + (2 : Int32))).toNatClampNeg), .ref b2]) (rest := []) ⟨hx, hb, hml, hown, hts⟩ (cn_L_fate l hlt D cB cI cZ cJ N a0 I0 M0 (xs ((y4 + (1 : Int32))).toNatClampNeg) (xs ((y4 + (2 : Int32))).toNatClampNeg) b2 o2 H.size r1 hr1) (vx_cwSW 4 hts gyL_law_L_fate rfl rfl rfl csL_fate ⟨Nat.le_of_ble_eq_true rfl, Nat.le_of_ble_eq_true rfl⟩) (wb_preLS hPc hK hDc (hX0.kept hS) hNc) rfl rfl hl.1 rfl (lv_room (Nat.le_of_ble_eq_true rfl)) dL_law_1955 ⟨hc1, hs1⟩) hS (fun q _ h => hFc q h) hFc (fun r9 u t H locs ht hvm hw hB hz1 hk1 hS => ?_)
  obtain ⟨hP, hD⟩ := wj_3 hP hD hk1 hFc ht hB
  rw [hw]
  obtain ⟨v2, ev2, hf⟩ := wb_v hf
  refine wb_topi ev2 ?_
  refine lv_istore (lv' := [(5, .int v2), (0, .ref b), (1, .ref (a0 0)), (2, .ref (a1 0)), (3, .ref b2), (4, .int y4)]) hx hb dL_law_1958 hl (by decide) rfl (fun ls hl => ?_)
  refine lv_aload_n hx hb dL_law_1960 rfl (lv_at hl 3 rfl) ?_
  refine lv_aload_n hx hb dL_law_1961 rfl (lv_at hl 1 rfl) ?_
  refine lv_iload hx hb dL_law_1962 (lv_at hl 5 rfl) ?_
  refine lv_iconst (v := (1 : Int32)) hx hb dL_law_1964 (by decide) ?_
  refine lv_iadd hx hb dL_law_1965 ?_
  obtain ⟨hin, hf⟩ := wb_n hf
  refine va_sld hx hb hXs hbl hbA hS hin dL_law_1966 ?_
  refine lv_aload_n hx hb dL_law_1967 rfl (lv_at hl 1 rfl) ?_
  refine lv_iload hx hb dL_law_1968 (lv_at hl 5 rfl) ?_
  refine lv_iconst (v := (2 : Int32)) hx hb dL_law_1970 (by decide) ?_
  refine lv_iadd hx hb dL_law_1971 ?_
  obtain ⟨hin, hf⟩ := wb_n hf
  refine va_sld hx hb hXs hbl hbA hS hin dL_law_1972 ?_
  obtain ⟨r3, hr3, hf⟩ := wb_b hf
  have hPc := wj_P2 hP
  have hDc := wj_D2 hD
  have hFc := wj_F hDc hS hA
  refine va_calli (va_runV (As := [.int (xs ((y4 + (1 : Int32))).toNatClampNeg), .int (xs ((y4 + (2 : Int32))).toNatClampNeg)]) (rest := []) ⟨hx, hb, hml, hown, hts⟩ (cn_X12_fate l D cB cI cZ N a1 I1 L1 M1 (xs ((y4 + (1 : Int32))).toNatClampNeg) (xs ((y4 + (2 : Int32))).toNatClampNeg) H.size r3 hr3) (cwV 2 hts gyL_law_X12_fate rfl rfl rfl cdX12_fate ⟨Nat.le_of_ble_eq_true rfl, Nat.le_of_ble_eq_true rfl⟩) (wb_preDV hPc hK3 hDc (va_recv hK hP (ci := 12) (q0 := 52) rfl rfl)) rfl rfl hl.1 rfl (lv_room (Nat.le_of_ble_eq_true rfl)) dL_law_1973 ⟨hc1, hs1⟩) hS (fun q _ h => hFc q h) hFc (fun r9 u t H locs ht hvm hw hB hz1 hk1 hS => ?_)
  obtain ⟨hP, hD⟩ := wj_2 hP hD hk1 hFc ht hB
  rw [hw]
  obtain ⟨v4, ev4, hf⟩ := wb_v hf
  refine wb_topi ev4 ?_
  refine lv_istore (lv' := [(6, .int v4), (5, .int v2), (0, .ref b), (1, .ref (a0 0)), (2, .ref (a1 0)), (3, .ref b2), (4, .int y4)]) hx hb dL_law_1976 hl (by decide) rfl (fun ls hl => ?_)
  refine lv_goto (tgt := 2049) hx hb dL_law_1978 (by decide) ?_
  refine W.widen (k := c0 + 1) (n := s0 + 6) (Nat.le_refl _) (Nat.le_refl _) ?_
  have h9 := Option.some.inj hf
  exact kk H locs ls (by rw [← h9]; exact hP) (by rw [← h9]; exact hD) hS (lv_sub hl [2, 3, 4, 5, 6] rfl)

set_option maxHeartbeats 4000000 in
set_option maxRecDepth 100000 in
theorem law_case38 {p : Program} {e : Env} {s : State} {m : MethodId} {below : List Frame} {meth : Method} {c : Code} (l : Launch) (hlt : l.stackTraces = false) (D : va_G) (cB cI cZ cJ : ClassId) (N : Nat) {b L : Nat} {xs : Nat → Int32} (C0 : lw_At p s m meth c b L xs) (hX0 : wb_XH s.heap s) (hNc : va_Nc wb_E2 wb_E1 s) (a0 a1 : Nat → Nat) (b2 : Nat) (I0 : Nat → Int32) (M0 : Nat → Nat → Int32) (I1 : Nat → Int32) (L1 : Int64) (M1 : Nat → Nat → Int32) (o2 : Nat → Int64) (y4 : Int32) (c0 s0 : Nat) (hc1 : c0 + 1 ≤ room_1.cells) (hs1 : s0 + 6 ≤ room_1.slots) (H : Heap) (locs : List Loc) (hK : va_K D vwCl [(cB, .byte), (cI, .int), (cZ, .boolean), (cJ, .long)] s) (hP : va_P D vwCl ((wWX11 cB cI cZ a0 I0 M0) ++ ((wWX12 cB cI cZ a1 I1 L1 M1) ++ [(b2, .inl (cJ, 1, .inr (.inl o2)))])) H) (hD : va_D (fun q : Nat => s.heap.size ≤ q) ((wWX11 cB cI cZ a0 I0 M0) ++ ((wWX12 cB cI cZ a1 I1 L1 M1) ++ [(b2, .inl (cJ, 1, .inr (.inl o2)))]))) (hS : va_S (fun q : Nat => s.heap.size ≤ q) s.heap H locs) (ls : Array Slot) (hl : lv_has ls 7 [(0, .ref b), (1, .ref (a0 0)), (2, .ref (a1 0)), (3, .ref b2), (4, .int y4)]) (R : (Nat → Int32) × (Nat → Nat → Int32) × (Nat → Int32) × Int64 × (Nat → Nat → Int32) × (Nat → Int64)) (hf : fL_case38 N L xs I0 M0 I1 L1 M1 o2 y4 = some R)
    (kk : ∀ (H : Heap) (locs : List Loc) (ls : Array Slot), va_P D vwCl ((wWX11 cB cI cZ a0 R.1 R.2.1) ++ ((wWX12 cB cI cZ a1 R.2.2.1 R.2.2.2.1 R.2.2.2.2.1) ++ [(b2, .inl (cJ, 1, .inr (.inl R.2.2.2.2.2)))])) H → va_D (fun q : Nat => s.heap.size ≤ q) ((wWX11 cB cI cZ a0 R.1 R.2.1) ++ ((wWX12 cB cI cZ a1 R.2.2.1 R.2.2.2.1 R.2.2.2.2.1) ++ [(b2, .inl (cJ, 1, .inr (.inl R.2.2.2.2.2)))])) → va_S (fun q : Nat => s.heap.size ≤ q) s.heap H locs → lv_has ls 7 [(0, .ref b), (1, .ref (a0 0)), (2, .ref (a1 0)), (3, .ref b2), (4, .int y4)] → W p l e room_1 s m #[Value.ref b] below meth c H locs (c0 + 1) (s0 + 6) (lw_Z below #[Value.ref b] s) (F0 m 2049 ls [])) : W p l e room_1 s m #[Value.ref b] below meth c H locs c0 s0 (lw_Z below #[Value.ref b] s) (F0 m 1981 ls []) := by
  obtain ⟨hx, hb, hr, hml, hown, hts0, hXs, hbl, hlocks, hgv⟩ := id C0
  have hown : s.vm.findClass RL = some m.cls := hown
  have hb : c.code = cL_law := hb
  have hts : ∀ w ∈ wyL_law, w.before #[Value.ref b] s = true := fun w h => hts0 w (wl_law w h)
  have hA : ∀ q : Nat, s.heap.size ≤ q → (fun q : Nat => s.heap.size ≤ q) q := fun _ h => h
  have hbA : ¬ (fun q : Nat => s.heap.size ≤ q) b := Nat.not_le.mpr hbl
  have hK3 : va_K D vwCl [(cB, .byte), (cI, .int), (cZ, .boolean)] s := hK.sub [0, 1, 2] rfl
  have hc0 : c0 ≤ room_1.cells := Nat.le_of_succ_le hc1
  have hs0 : s0 ≤ room_1.slots := Nat.le_trans (Nat.le_add_right _ 6) hs1
  unfold fL_case38 at hf
  refine lv_aload_n hx hb dL_law_1981 rfl (lv_at hl 1 rfl) ?_
  refine lv_aload_n hx hb dL_law_1982 rfl (lv_at hl 0 rfl) ?_
  refine lv_iload hx hb dL_law_1983 (lv_at hl 4 rfl) ?_
  refine lv_iconst (v := (1 : Int32)) hx hb dL_law_1985 (by decide) ?_
  refine lv_iadd hx hb dL_law_1986 ?_
  obtain ⟨hin, hf⟩ := wb_n hf
  refine va_sld hx hb hXs hbl hbA hS hin dL_law_1987 ?_
  refine lv_aload_n hx hb dL_law_1988 rfl (lv_at hl 3 rfl) ?_
  obtain ⟨r1, hr1, hf⟩ := wb_b hf
  have hPc := wj_P3 hP
  have hDc := wj_D3 hD
  have hFc := wj_F hDc hS hA
  refine va_calli (vx_runSW (As := [.ref (a0 0), .int (xs ((y4 + (1 : Int32))).toNatClampNeg), .ref b2]) (rest := []) ⟨hx, hb, hml, hown, hts⟩ (cn_L_fates l hlt D cB cI cZ cJ N a0 I0 M0 (xs ((y4 + (1 : Int32))).toNatClampNeg) b2 o2 H.size r1 hr1) (vx_cwSW 3 hts gyL_law_L_fates rfl rfl rfl csL_fates ⟨Nat.le_of_ble_eq_true rfl, Nat.le_of_ble_eq_true rfl⟩) (wb_preLS hPc hK hDc (hX0.kept hS) hNc) rfl rfl hl.1 rfl (lv_room (Nat.le_of_ble_eq_true rfl)) dL_law_1989 ⟨hc1, hs1⟩) hS (fun q _ h => hFc q h) hFc (fun r9 u t H locs ht hvm hw hB hz1 hk1 hS => ?_)
  obtain ⟨hP, hD⟩ := wj_3 hP hD hk1 hFc ht hB
  rw [hw]
  obtain ⟨v2, ev2, hf⟩ := wb_v hf
  refine wb_topi ev2 ?_
  refine lv_istore (lv' := [(5, .int v2), (0, .ref b), (1, .ref (a0 0)), (2, .ref (a1 0)), (3, .ref b2), (4, .int y4)]) hx hb dL_law_1992 hl (by decide) rfl (fun ls hl => ?_)
  refine lv_aload_n hx hb dL_law_1994 rfl (lv_at hl 3 rfl) ?_
  refine lv_aload_n hx hb dL_law_1995 rfl (lv_at hl 1 rfl) ?_
  refine lv_iload hx hb dL_law_1996 (lv_at hl 5 rfl) ?_
  refine lv_iconst (v := (1 : Int32)) hx hb dL_law_1998 (by decide) ?_
  refine lv_iadd hx hb dL_law_1999 ?_
  obtain ⟨hin, hf⟩ := wb_n hf
  refine va_sld hx hb hXs hbl hbA hS hin dL_law_2000 ?_
  obtain ⟨r3, hr3, hf⟩ := wb_b hf
  have hPc := wj_P2 hP
  have hDc := wj_D2 hD
  have hFc := wj_F hDc hS hA
  refine va_calli (va_runV (As := [.int (xs ((y4 + (1 : Int32))).toNatClampNeg)]) (rest := []) ⟨hx, hb, hml, hown, hts⟩ (cn_X12_fates l D cB cI cZ N a1 I1 L1 M1 (xs ((y4 + (1 : Int32))).toNatClampNeg) H.size r3 hr3) (cwV 1 hts gyL_law_X12_fates rfl rfl rfl cdX12_fates ⟨Nat.le_of_ble_eq_true rfl, Nat.le_of_ble_eq_true rfl⟩) (wb_preDV hPc hK3 hDc (va_recv hK hP (ci := 12) (q0 := 52) rfl rfl)) rfl rfl hl.1 rfl (lv_room (Nat.le_of_ble_eq_true rfl)) dL_law_2001 ⟨hc1, hs1⟩) hS (fun q _ h => hFc q h) hFc (fun r9 u t H locs ht hvm hw hB hz1 hk1 hS => ?_)
  obtain ⟨hP, hD⟩ := wj_2 hP hD hk1 hFc ht hB
  rw [hw]
  obtain ⟨v4, ev4, hf⟩ := wb_v hf
  refine wb_topi ev4 ?_
  refine lv_istore (lv' := [(6, .int v4), (5, .int v2), (0, .ref b), (1, .ref (a0 0)), (2, .ref (a1 0)), (3, .ref b2), (4, .int y4)]) hx hb dL_law_2004 hl (by decide) rfl (fun ls hl => ?_)
  refine lv_goto (tgt := 2049) hx hb dL_law_2006 (by decide) ?_
  refine W.widen (k := c0 + 1) (n := s0 + 6) (Nat.le_refl _) (Nat.le_refl _) ?_
  have h9 := Option.some.inj hf
  exact kk H locs ls (by rw [← h9]; exact hP) (by rw [← h9]; exact hD) hS (lv_sub hl [2, 3, 4, 5, 6] rfl)

set_option maxHeartbeats 4000000 in
set_option maxRecDepth 100000 in
theorem law_case39 {p : Program} {e : Env} {s : State} {m : MethodId} {below : List Frame} {meth : Method} {c : Code} (l : Launch) (hlt : l.stackTraces = false) (D : va_G) (cB cI cZ cJ : ClassId) (N : Nat) {b L : Nat} {xs : Nat → Int32} (C0 : lw_At p s m meth c b L xs) (hX0 : wb_XH s.heap s) (hNc : va_Nc wb_E2 wb_E1 s) (a0 a1 : Nat → Nat) (b2 : Nat) (I0 : Nat → Int32) (M0 : Nat → Nat → Int32) (I1 : Nat → Int32) (L1 : Int64) (M1 : Nat → Nat → Int32) (o2 : Nat → Int64) (y4 : Int32) (c0 s0 : Nat) (hc1 : c0 + 1 ≤ room_1.cells) (hs1 : s0 + 6 ≤ room_1.slots) (H : Heap) (locs : List Loc) (hK : va_K D vwCl [(cB, .byte), (cI, .int), (cZ, .boolean), (cJ, .long)] s) (hP : va_P D vwCl ((wWX11 cB cI cZ a0 I0 M0) ++ ((wWX12 cB cI cZ a1 I1 L1 M1) ++ [(b2, .inl (cJ, 1, .inr (.inl o2)))])) H) (hD : va_D (fun q : Nat => s.heap.size ≤ q) ((wWX11 cB cI cZ a0 I0 M0) ++ ((wWX12 cB cI cZ a1 I1 L1 M1) ++ [(b2, .inl (cJ, 1, .inr (.inl o2)))]))) (hS : va_S (fun q : Nat => s.heap.size ≤ q) s.heap H locs) (ls : Array Slot) (hl : lv_has ls 7 [(0, .ref b), (1, .ref (a0 0)), (2, .ref (a1 0)), (3, .ref b2), (4, .int y4)]) (R : (Nat → Int32) × (Nat → Nat → Int32) × (Nat → Int32) × Int64 × (Nat → Nat → Int32) × (Nat → Int64)) (hf : fL_case39 N L xs I0 M0 I1 L1 M1 o2 y4 = some R)
    (kk : ∀ (H : Heap) (locs : List Loc) (ls : Array Slot), va_P D vwCl ((wWX11 cB cI cZ a0 R.1 R.2.1) ++ ((wWX12 cB cI cZ a1 R.2.2.1 R.2.2.2.1 R.2.2.2.2.1) ++ [(b2, .inl (cJ, 1, .inr (.inl R.2.2.2.2.2)))])) H → va_D (fun q : Nat => s.heap.size ≤ q) ((wWX11 cB cI cZ a0 R.1 R.2.1) ++ ((wWX12 cB cI cZ a1 R.2.2.1 R.2.2.2.1 R.2.2.2.2.1) ++ [(b2, .inl (cJ, 1, .inr (.inl R.2.2.2.2.2)))])) → va_S (fun q : Nat => s.heap.size ≤ q) s.heap H locs → lv_has ls 7 [(0, .ref b), (1, .ref (a0 0)), (2, .ref (a1 0)), (3, .ref b2), (4, .int y4)] → W p l e room_1 s m #[Value.ref b] below meth c H locs (c0 + 1) (s0 + 6) (lw_Z below #[Value.ref b] s) (F0 m 2049 ls [])) : W p l e room_1 s m #[Value.ref b] below meth c H locs c0 s0 (lw_Z below #[Value.ref b] s) (F0 m 2009 ls []) := by
  obtain ⟨hx, hb, hr, hml, hown, hts0, hXs, hbl, hlocks, hgv⟩ := id C0
  have hown : s.vm.findClass RL = some m.cls := hown
  have hb : c.code = cL_law := hb
  have hts : ∀ w ∈ wyL_law, w.before #[Value.ref b] s = true := fun w h => hts0 w (wl_law w h)
  have hA : ∀ q : Nat, s.heap.size ≤ q → (fun q : Nat => s.heap.size ≤ q) q := fun _ h => h
  have hbA : ¬ (fun q : Nat => s.heap.size ≤ q) b := Nat.not_le.mpr hbl
  have hK3 : va_K D vwCl [(cB, .byte), (cI, .int), (cZ, .boolean)] s := hK.sub [0, 1, 2] rfl
  have hc0 : c0 ≤ room_1.cells := Nat.le_of_succ_le hc1
  have hs0 : s0 ≤ room_1.slots := Nat.le_trans (Nat.le_add_right _ 6) hs1
  unfold fL_case39 at hf
  refine lv_aload_n hx hb dL_law_2009 rfl (lv_at hl 1 rfl) ?_
  refine lv_aload_n hx hb dL_law_2010 rfl (lv_at hl 0 rfl) ?_
  refine lv_iload hx hb dL_law_2011 (lv_at hl 4 rfl) ?_
  refine lv_iconst (v := (1 : Int32)) hx hb dL_law_2013 (by decide) ?_
  refine lv_iadd hx hb dL_law_2014 ?_
  obtain ⟨hin, hf⟩ := wb_n hf
  refine va_sld hx hb hXs hbl hbA hS hin dL_law_2015 ?_
  refine lv_aload_n hx hb dL_law_2016 rfl (lv_at hl 0 rfl) ?_
  refine lv_iload hx hb dL_law_2017 (lv_at hl 4 rfl) ?_
  refine lv_iconst (v := (2 : Int32)) hx hb dL_law_2019 (by decide) ?_
  refine lv_iadd hx hb dL_law_2020 ?_
  obtain ⟨hin, hf⟩ := wb_n hf
  refine va_sld hx hb hXs hbl hbA hS hin dL_law_2021 ?_
  refine lv_aload_n hx hb dL_law_2022 rfl (lv_at hl 3 rfl) ?_
  obtain ⟨r1, hr1, hf⟩ := wb_b hf
  have hPc := wj_P3 hP
  have hDc := wj_D3 hD
  have hFc := wj_F hDc hS hA
  refine va_calli (vx_runSW (As := [.ref (a0 0), .int (xs ((y4 + (1 : Int32))).toNatClampNeg), .int (xs ((y4 + (2 : Int32))).toNatClampNeg), .ref b2]) (rest := []) ⟨hx, hb, hml, hown, hts⟩ (cn_L_hits l hlt D cB cI cZ cJ N a0 I0 M0 (xs ((y4 + (1 : Int32))).toNatClampNeg) (xs ((y4 + (2 : Int32))).toNatClampNeg) b2 o2 H.size r1 hr1) (vx_cwSW 4 hts gyL_law_L_hits rfl rfl rfl csL_hits ⟨Nat.le_of_ble_eq_true rfl, Nat.le_of_ble_eq_true rfl⟩) (wb_preLS hPc hK hDc (hX0.kept hS) hNc) rfl rfl hl.1 rfl (lv_room (Nat.le_of_ble_eq_true rfl)) dL_law_2023 ⟨hc1, hs1⟩) hS (fun q _ h => hFc q h) hFc (fun r9 u t H locs ht hvm hw hB hz1 hk1 hS => ?_)
  obtain ⟨hP, hD⟩ := wj_3 hP hD hk1 hFc ht hB
  rw [hw]
  obtain ⟨v2, ev2, hf⟩ := wb_v hf
  refine wb_topi ev2 ?_
  refine lv_istore (lv' := [(5, .int v2), (0, .ref b), (1, .ref (a0 0)), (2, .ref (a1 0)), (3, .ref b2), (4, .int y4)]) hx hb dL_law_2026 hl (by decide) rfl (fun ls hl => ?_)
  refine lv_aload_n hx hb dL_law_2028 rfl (lv_at hl 3 rfl) ?_
  refine lv_aload_n hx hb dL_law_2029 rfl (lv_at hl 1 rfl) ?_
  refine lv_iload hx hb dL_law_2030 (lv_at hl 5 rfl) ?_
  refine lv_iconst (v := (1 : Int32)) hx hb dL_law_2032 (by decide) ?_
  refine lv_iadd hx hb dL_law_2033 ?_
  obtain ⟨hin, hf⟩ := wb_n hf
  refine va_sld hx hb hXs hbl hbA hS hin dL_law_2034 ?_
  refine lv_aload_n hx hb dL_law_2035 rfl (lv_at hl 1 rfl) ?_
  refine lv_iload hx hb dL_law_2036 (lv_at hl 5 rfl) ?_
  refine lv_iconst (v := (2 : Int32)) hx hb dL_law_2038 (by decide) ?_
  refine lv_iadd hx hb dL_law_2039 ?_
  obtain ⟨hin, hf⟩ := wb_n hf
  refine va_sld hx hb hXs hbl hbA hS hin dL_law_2040 ?_
  obtain ⟨r3, hr3, hf⟩ := wb_b hf
  have hPc := wj_P2 hP
  have hDc := wj_D2 hD
  have hFc := wj_F hDc hS hA
  refine va_calli (va_runV (As := [.int (xs ((y4 + (1 : Int32))).toNatClampNeg), .int (xs ((y4 + (2 : Int32))).toNatClampNeg)]) (rest := []) ⟨hx, hb, hml, hown, hts⟩ (cn_X12_hits l D cB cI cZ N a1 I1 L1 M1 (xs ((y4 + (1 : Int32))).toNatClampNeg) (xs ((y4 + (2 : Int32))).toNatClampNeg) H.size r3 hr3) (cwV 2 hts gyL_law_X12_hits rfl rfl rfl cdX12_hits ⟨Nat.le_of_ble_eq_true rfl, Nat.le_of_ble_eq_true rfl⟩) (wb_preDV hPc hK3 hDc (va_recv hK hP (ci := 12) (q0 := 52) rfl rfl)) rfl rfl hl.1 rfl (lv_room (Nat.le_of_ble_eq_true rfl)) dL_law_2041 ⟨hc1, hs1⟩) hS (fun q _ h => hFc q h) hFc (fun r9 u t H locs ht hvm hw hB hz1 hk1 hS => ?_)
  obtain ⟨hP, hD⟩ := wj_2 hP hD hk1 hFc ht hB
  rw [hw]
  obtain ⟨v4, ev4, hf⟩ := wb_v hf
  refine wb_topi ev4 ?_
  refine lv_istore (lv' := [(6, .int v4), (5, .int v2), (0, .ref b), (1, .ref (a0 0)), (2, .ref (a1 0)), (3, .ref b2), (4, .int y4)]) hx hb dL_law_2044 hl (by decide) rfl (fun ls hl => ?_)
  refine lv_goto (tgt := 2049) hx hb dL_law_2046 (by decide) ?_
  refine W.widen (k := c0 + 1) (n := s0 + 6) (Nat.le_refl _) (Nat.le_refl _) ?_
  have h9 := Option.some.inj hf
  exact kk H locs ls (by rw [← h9]; exact hP) (by rw [← h9]; exact hD) hS (lv_sub hl [2, 3, 4, 5, 6] rfl)
