set_option maxHeartbeats 4000000 in
set_option maxRecDepth 100000 in
theorem law_case20 {p : Program} {e : Env} {s : State} {m : MethodId} {below : List Frame} {meth : Method} {c : Code} (l : Launch) (hlt : l.stackTraces = false) (D : va_G) (cB cI cZ cJ : ClassId) (N : Nat) {b L : Nat} {xs : Nat → Int32} (C0 : lw_At p s m meth c b L xs) (hX0 : wb_XH s.heap s) (hNc : va_Nc wb_E2 wb_E1 s) (a0 a1 : Nat → Nat) (b2 : Nat) (I0 : Nat → Int32) (M0 : Nat → Nat → Int32) (I1 : Nat → Int32) (L1 : Int64) (M1 : Nat → Nat → Int32) (o2 : Nat → Int64) (y4 : Int32) (c0 s0 : Nat) (hc1 : c0 + 1 ≤ room_1.cells) (hs1 : s0 + 6 ≤ room_1.slots) (H : Heap) (locs : List Loc) (hK : va_K D vwCl [(cB, .byte), (cI, .int), (cZ, .boolean), (cJ, .long)] s) (hP : va_P D vwCl ((wWX11 cB cI cZ a0 I0 M0) ++ ((wWX12 cB cI cZ a1 I1 L1 M1) ++ [(b2, .inl (cJ, 1, .inr (.inl o2)))])) H) (hD : va_D (fun q : Nat => s.heap.size ≤ q) ((wWX11 cB cI cZ a0 I0 M0) ++ ((wWX12 cB cI cZ a1 I1 L1 M1) ++ [(b2, .inl (cJ, 1, .inr (.inl o2)))]))) (hS : va_S (fun q : Nat => s.heap.size ≤ q) s.heap H locs) (ls : Array Slot) (hl : lv_has ls 7 [(0, .ref b), (1, .ref (a0 0)), (2, .ref (a1 0)), (3, .ref b2), (4, .int y4)]) (R : (Nat → Int32) × (Nat → Nat → Int32) × (Nat → Int32) × Int64 × (Nat → Nat → Int32) × (Nat → Int64)) (hf : fL_case20 N L xs I0 M0 I1 L1 M1 o2 y4 = some R)
    (kk : ∀ (H : Heap) (locs : List Loc) (ls : Array Slot), va_P D vwCl ((wWX11 cB cI cZ a0 R.1 R.2.1) ++ ((wWX12 cB cI cZ a1 R.2.2.1 R.2.2.2.1 R.2.2.2.2.1) ++ [(b2, .inl (cJ, 1, .inr (.inl R.2.2.2.2.2)))])) H → va_D (fun q : Nat => s.heap.size ≤ q) ((wWX11 cB cI cZ a0 R.1 R.2.1) ++ ((wWX12 cB cI cZ a1 R.2.2.1 R.2.2.2.1 R.2.2.2.2.1) ++ [(b2, .inl (cJ, 1, .inr (.inl R.2.2.2.2.2)))])) → va_S (fun q : Nat => s.heap.size ≤ q) s.heap H locs → lv_has ls 7 [(0, .ref b), (1, .ref (a0 0)), (2, .ref (a1 0)), (3, .ref b2), (4, .int y4)] → W p l e room_1 s m #[Value.ref b] below meth c H locs (c0 + 1) (s0 + 6) (lw_Z below #[Value.ref b] s) (F0 m 3022 ls [])) : W p l e room_1 s m #[Value.ref b] below meth c H locs c0 s0 (lw_Z below #[Value.ref b] s) (F0 m 1730 ls []) := by
  obtain ⟨hx, hb, hr, hml, hown, hts0, hXs, hbl, hlocks, hgv⟩ := id C0
  have hown : s.vm.findClass RL = some m.cls := hown
  have hb : c.code = cL_law := hb
  have hts : ∀ w ∈ wyL_law, w.before #[Value.ref b] s = true := fun w h => hts0 w (wl_law w h)
  have hA : ∀ q : Nat, s.heap.size ≤ q → (fun q : Nat => s.heap.size ≤ q) q := fun _ h => h
  have hbA : ¬ (fun q : Nat => s.heap.size ≤ q) b := Nat.not_le.mpr hbl
  have hK3 : va_K D vwCl [(cB, .byte), (cI, .int), (cZ, .boolean)] s := hK.sub [0, 1, 2] rfl
  have hc0 : c0 ≤ room_1.cells := Nat.le_of_succ_le hc1
  have hs0 : s0 ≤ room_1.slots := Nat.le_trans (Nat.le_add_right _ 6) hs1
  unfold fL_case20 at hf
  refine lv_aload_n hx hb dL_law_1730 rfl (lv_at hl 1 rfl) ?_
  refine lv_aload_n hx hb dL_law_1731 rfl (lv_at hl 0 rfl) ?_
  refine lv_iload hx hb dL_law_1732 (lv_at hl 4 rfl) ?_
  refine lv_iconst (v := (1 : Int32)) hx hb dL_law_1734 (by decide) ?_
  refine lv_iadd hx hb dL_law_1735 ?_
  obtain ⟨hin, hf⟩ := wb_n hf
  refine va_sld hx hb hXs hbl hbA hS hin dL_law_1736 ?_
  refine lv_aload_n hx hb dL_law_1737 rfl (lv_at hl 0 rfl) ?_
  refine lv_iload hx hb dL_law_1738 (lv_at hl 4 rfl) ?_
  refine lv_iconst (v := (2 : Int32)) hx hb dL_law_1740 (by decide) ?_
  refine lv_iadd hx hb dL_law_1741 ?_
  obtain ⟨hin, hf⟩ := wb_n hf
  refine va_sld hx hb hXs hbl hbA hS hin dL_law_1742 ?_
  refine lv_aload_n hx hb dL_law_1743 rfl (lv_at hl 0 rfl) ?_
  refine lv_iload hx hb dL_law_1744 (lv_at hl 4 rfl) ?_
  refine lv_iconst (v := (3 : Int32)) hx hb dL_law_1746 (by decide) ?_
  refine lv_iadd hx hb dL_law_1747 ?_
  obtain ⟨hin, hf⟩ := wb_n hf
  refine va_sld hx hb hXs hbl hbA hS hin dL_law_1748 ?_
  refine lv_aload_n hx hb dL_law_1749 rfl (lv_at hl 0 rfl) ?_
  refine lv_iload hx hb dL_law_1750 (lv_at hl 4 rfl) ?_
  refine lv_iconst (v := (4 : Int32)) hx hb dL_law_1752 (by decide) ?_
  refine lv_iadd hx hb dL_law_1753 ?_
  obtain ⟨hin, hf⟩ := wb_n hf
  refine va_sld hx hb hXs hbl hbA hS hin dL_law_1754 ?_
  obtain ⟨r1, hr1, hf⟩ := wb_b hf
  have hPc := wj_P1 hP
  have hDc := wj_D1 hD
  have hFc := wj_F hDc hS hA
  refine va_calli (vx_runSW (As := [.ref (a0 0), .int (xs ((y4 + (1 : Int32))).toNatClampNeg), .int (xs ((y4 + (2 : Int32))).toNatClampNeg), .int (xs ((y4 + (3 : Int32))).toNatClampNeg), .int (xs ((y4 + (4 : Int32))).toNatClampNeg)]) (rest := []) ⟨hx, hb, hml, hown, hts⟩ (cn_L_seek l hlt D cB cI cZ cJ N a0 I0 M0 (xs ((y4 + (1 : Int32))).toNatClampNeg) (xs ((y4 + (2 : Int32))).toNatClampNeg) (xs ((y4 + (3 : Int32))).toNatClampNeg) (xs ((y4 + (4 : Int32))).toNatClampNeg) H.size r1 hr1) (vx_cwSW 5 hts gyL_law_L_seek rfl rfl rfl csL_seek ⟨Nat.le_of_ble_eq_true rfl, Nat.le_of_ble_eq_true rfl⟩) (wb_preLS hPc hK hDc (hX0.kept hS) hNc) rfl rfl hl.1 rfl (lv_room (Nat.le_of_ble_eq_true rfl)) dL_law_1755 ⟨hc1, hs1⟩) hS (fun q _ h => hFc q h) hFc (fun r9 u t H locs ht hvm hw hB hz1 hk1 hS => ?_)
  obtain ⟨hP, hD⟩ := wj_1 hP hD hk1 hFc ht hB
  rw [hw]
  obtain ⟨v2, ev2, hf⟩ := wb_v hf
  refine wb_topi ev2 ?_
  refine lv_istore (lv' := [(5, .int v2), (0, .ref b), (1, .ref (a0 0)), (2, .ref (a1 0)), (3, .ref b2), (4, .int y4)]) hx hb dL_law_1758 hl (by decide) rfl (fun ls hl => ?_)
  refine lv_aload_n hx hb dL_law_1760 rfl (lv_at hl 3 rfl) ?_
  refine lv_aload_n hx hb dL_law_1761 rfl (lv_at hl 1 rfl) ?_
  refine lv_iload hx hb dL_law_1762 (lv_at hl 5 rfl) ?_
  refine lv_iconst (v := (1 : Int32)) hx hb dL_law_1764 (by decide) ?_
  refine lv_iadd hx hb dL_law_1765 ?_
  obtain ⟨hin, hf⟩ := wb_n hf
  refine va_sld hx hb hXs hbl hbA hS hin dL_law_1766 ?_
  refine lv_aload_n hx hb dL_law_1767 rfl (lv_at hl 1 rfl) ?_
  refine lv_iload hx hb dL_law_1768 (lv_at hl 5 rfl) ?_
  refine lv_iconst (v := (2 : Int32)) hx hb dL_law_1770 (by decide) ?_
  refine lv_iadd hx hb dL_law_1771 ?_
  obtain ⟨hin, hf⟩ := wb_n hf
  refine va_sld hx hb hXs hbl hbA hS hin dL_law_1772 ?_
  refine lv_aload_n hx hb dL_law_1773 rfl (lv_at hl 1 rfl) ?_
  refine lv_iload hx hb dL_law_1774 (lv_at hl 5 rfl) ?_
  refine lv_iconst (v := (3 : Int32)) hx hb dL_law_1776 (by decide) ?_
  refine lv_iadd hx hb dL_law_1777 ?_
  obtain ⟨hin, hf⟩ := wb_n hf
  refine va_sld hx hb hXs hbl hbA hS hin dL_law_1778 ?_
  refine lv_aload_n hx hb dL_law_1779 rfl (lv_at hl 1 rfl) ?_
  refine lv_iload hx hb dL_law_1780 (lv_at hl 5 rfl) ?_
  refine lv_iconst (v := (4 : Int32)) hx hb dL_law_1782 (by decide) ?_
  refine lv_iadd hx hb dL_law_1783 ?_
  obtain ⟨hin, hf⟩ := wb_n hf
  refine va_sld hx hb hXs hbl hbA hS hin dL_law_1784 ?_
  obtain ⟨r3, hr3, hf⟩ := wb_b hf
  have hPc := wj_P2 hP
  have hDc := wj_D2 hD
  have hFc := wj_F hDc hS hA
  refine va_callv (va_runV (As := [.int (xs ((y4 + (1 : Int32))).toNatClampNeg), .int (xs ((y4 + (2 : Int32))).toNatClampNeg), .int (xs ((y4 + (3 : Int32))).toNatClampNeg), .int (xs ((y4 + (4 : Int32))).toNatClampNeg)]) (rest := []) ⟨hx, hb, hml, hown, hts⟩ (cn_X12_seek l D cB cI cZ N a1 I1 L1 M1 (xs ((y4 + (1 : Int32))).toNatClampNeg) (xs ((y4 + (2 : Int32))).toNatClampNeg) (xs ((y4 + (3 : Int32))).toNatClampNeg) (xs ((y4 + (4 : Int32))).toNatClampNeg) H.size r3 hr3) (cwV 4 hts gyL_law_X12_seek rfl rfl rfl cdX12_seek ⟨Nat.le_of_ble_eq_true rfl, Nat.le_of_ble_eq_true rfl⟩) (wb_preDV hPc hK3 hDc (va_recv hK hP (ci := 12) (q0 := 52) rfl rfl)) rfl rfl hl.1 rfl (lv_room (Nat.le_of_ble_eq_true rfl)) dL_law_1785 ⟨hc1, hs1⟩) hS (fun q _ h => hFc q h) hFc (fun u t H locs ht hvm hw hB hz1 hk1 hS => ?_)
  obtain ⟨hP, hD⟩ := wj_2 hP hD hk1 hFc ht hB
  refine lv_aload_n hx hb dL_law_1788 rfl (lv_at hl 3 rfl) ?_
  obtain ⟨r4, hr4, hf⟩ := wb_b hf
  refine vp_callSi (W.runV (As := []) (rest := []) ⟨hx, hb, hml, hown, hts⟩ (cn_X12_thrown l D cB cI cZ N a1 r3.1 r3.2.1 r3.2.2 r4 hr4) (cwV 0 hts gyL_law_X12_thrown rfl rfl rfl cdX12_thrown ⟨Nat.le_of_ble_eq_true rfl, Nat.le_of_ble_eq_true rfl⟩) (wb_preV (hP.sub (ws' := (wWX12 cB cI cZ a1 r3.1 r3.2.1 r3.2.2)) [52, 53, 54, 55, 56, 57, 58, 59, 60, 61, 62, 63, 64, 65, 66, 67, 68, 69, 70, 71, 72, 73, 74, 75, 76, 77, 78, 79, 80, 81, 82, 83, 84, 85, 86, 87, 88, 89] rfl) hK3 (va_recv hK hP (ci := 12) (q0 := 52) rfl rfl)) rfl rfl hl.1 rfl (lv_room (Nat.le_of_ble_eq_true rfl)) dL_law_1789 ⟨hc1, hs1⟩) (fun r9 e9 => ?_)
  rw [e9]
  refine lv_iload hx hb dL_law_1792 (lv_at hl 0 rfl) ?_
  refine lv_icmp_eq (tgt := 1799) hx hb dL_law_1794 (by decide) (fun hc => ?_) (fun hc => ?_)
  · replace hf := wb_t hc hf
    refine lv_goto (tgt := 3022) hx hb dL_law_1799 (by decide) ?_
    refine W.widen (k := c0 + 1) (n := s0 + 6) (Nat.le_refl _) (Nat.le_refl _) ?_
    have h9 := Option.some.inj hf
    exact kk H locs ls (by rw [← h9]; exact hP) (by rw [← h9]; exact hD) hS (lv_sub hl [1, 2, 3, 4, 5] rfl)
  · replace hf := wb_f hc hf
    refine lv_iconst (v := (0 : Int32)) hx hb dL_law_1797 (by decide) ?_
    exact absurd hf (fun h => nomatch h)

set_option maxHeartbeats 4000000 in
set_option maxRecDepth 100000 in
theorem law_case21 {p : Program} {e : Env} {s : State} {m : MethodId} {below : List Frame} {meth : Method} {c : Code} (l : Launch) (hlt : l.stackTraces = false) (D : va_G) (cB cI cZ cJ : ClassId) (N : Nat) {b L : Nat} {xs : Nat → Int32} (C0 : lw_At p s m meth c b L xs) (hX0 : wb_XH s.heap s) (hNc : va_Nc wb_E2 wb_E1 s) (a0 a1 : Nat → Nat) (b2 : Nat) (I0 : Nat → Int32) (M0 : Nat → Nat → Int32) (I1 : Nat → Int32) (L1 : Int64) (M1 : Nat → Nat → Int32) (o2 : Nat → Int64) (y4 : Int32) (c0 s0 : Nat) (hc1 : c0 + 1 ≤ room_1.cells) (hs1 : s0 + 6 ≤ room_1.slots) (H : Heap) (locs : List Loc) (hK : va_K D vwCl [(cB, .byte), (cI, .int), (cZ, .boolean), (cJ, .long)] s) (hP : va_P D vwCl ((wWX11 cB cI cZ a0 I0 M0) ++ ((wWX12 cB cI cZ a1 I1 L1 M1) ++ [(b2, .inl (cJ, 1, .inr (.inl o2)))])) H) (hD : va_D (fun q : Nat => s.heap.size ≤ q) ((wWX11 cB cI cZ a0 I0 M0) ++ ((wWX12 cB cI cZ a1 I1 L1 M1) ++ [(b2, .inl (cJ, 1, .inr (.inl o2)))]))) (hS : va_S (fun q : Nat => s.heap.size ≤ q) s.heap H locs) (ls : Array Slot) (hl : lv_has ls 7 [(0, .ref b), (1, .ref (a0 0)), (2, .ref (a1 0)), (3, .ref b2), (4, .int y4)]) (R : (Nat → Int32) × (Nat → Nat → Int32) × (Nat → Int32) × Int64 × (Nat → Nat → Int32) × (Nat → Int64)) (hf : fL_case21 N L xs I0 M0 I1 L1 M1 o2 y4 = some R)
    (kk : ∀ (H : Heap) (locs : List Loc) (ls : Array Slot), va_P D vwCl ((wWX11 cB cI cZ a0 R.1 R.2.1) ++ ((wWX12 cB cI cZ a1 R.2.2.1 R.2.2.2.1 R.2.2.2.2.1) ++ [(b2, .inl (cJ, 1, .inr (.inl R.2.2.2.2.2)))])) H → va_D (fun q : Nat => s.heap.size ≤ q) ((wWX11 cB cI cZ a0 R.1 R.2.1) ++ ((wWX12 cB cI cZ a1 R.2.2.1 R.2.2.2.1 R.2.2.2.2.1) ++ [(b2, .inl (cJ, 1, .inr (.inl R.2.2.2.2.2)))])) → va_S (fun q : Nat => s.heap.size ≤ q) s.heap H locs → lv_has ls 7 [(0, .ref b), (1, .ref (a0 0)), (2, .ref (a1 0)), (3, .ref b2), (4, .int y4)] → W p l e room_1 s m #[Value.ref b] below meth c H locs (c0 + 1) (s0 + 6) (lw_Z below #[Value.ref b] s) (F0 m 3022 ls [])) : W p l e room_1 s m #[Value.ref b] below meth c H locs c0 s0 (lw_Z below #[Value.ref b] s) (F0 m 1802 ls []) := by
  obtain ⟨hx, hb, hr, hml, hown, hts0, hXs, hbl, hlocks, hgv⟩ := id C0
  have hown : s.vm.findClass RL = some m.cls := hown
  have hb : c.code = cL_law := hb
  have hts : ∀ w ∈ wyL_law, w.before #[Value.ref b] s = true := fun w h => hts0 w (wl_law w h)
  have hA : ∀ q : Nat, s.heap.size ≤ q → (fun q : Nat => s.heap.size ≤ q) q := fun _ h => h
  have hbA : ¬ (fun q : Nat => s.heap.size ≤ q) b := Nat.not_le.mpr hbl
  have hK3 : va_K D vwCl [(cB, .byte), (cI, .int), (cZ, .boolean)] s := hK.sub [0, 1, 2] rfl
  have hc0 : c0 ≤ room_1.cells := Nat.le_of_succ_le hc1
  have hs0 : s0 ≤ room_1.slots := Nat.le_trans (Nat.le_add_right _ 6) hs1
  unfold fL_case21 at hf
  refine lv_aload_n hx hb dL_law_1802 rfl (lv_at hl 1 rfl) ?_
  refine lv_aload_n hx hb dL_law_1803 rfl (lv_at hl 0 rfl) ?_
  refine lv_iload hx hb dL_law_1804 (lv_at hl 4 rfl) ?_
  refine lv_iconst (v := (1 : Int32)) hx hb dL_law_1806 (by decide) ?_
  refine lv_iadd hx hb dL_law_1807 ?_
  obtain ⟨hin, hf⟩ := wb_n hf
  refine va_sld hx hb hXs hbl hbA hS hin dL_law_1808 ?_
  refine lv_aload_n hx hb dL_law_1809 rfl (lv_at hl 3 rfl) ?_
  obtain ⟨r1, hr1, hf⟩ := wb_b hf
  have hPc := wj_P3 hP
  have hDc := wj_D3 hD
  have hFc := wj_F hDc hS hA
  refine va_calli (vx_runSW (As := [.ref (a0 0), .int (xs ((y4 + (1 : Int32))).toNatClampNeg), .ref b2]) (rest := []) ⟨hx, hb, hml, hown, hts⟩ (cn_L_on l hlt D cB cI cZ cJ N a0 I0 M0 (xs ((y4 + (1 : Int32))).toNatClampNeg) b2 o2 H.size r1 hr1) (vx_cwSW 3 hts gyL_law_L_on rfl rfl rfl csL_on ⟨Nat.le_of_ble_eq_true rfl, Nat.le_of_ble_eq_true rfl⟩) (wb_preLS hPc hK hDc (hX0.kept hS) hNc) rfl rfl hl.1 rfl (lv_room (Nat.le_of_ble_eq_true rfl)) dL_law_1810 ⟨hc1, hs1⟩) hS (fun q _ h => hFc q h) hFc (fun r9 u t H locs ht hvm hw hB hz1 hk1 hS => ?_)
  obtain ⟨hP, hD⟩ := wj_3 hP hD hk1 hFc ht hB
  rw [hw]
  obtain ⟨v2, ev2, hf⟩ := wb_v hf
  refine wb_topi ev2 ?_
  refine lv_istore (lv' := [(5, .int v2), (0, .ref b), (1, .ref (a0 0)), (2, .ref (a1 0)), (3, .ref b2), (4, .int y4)]) hx hb dL_law_1813 hl (by decide) rfl (fun ls hl => ?_)
  refine lv_aload_n hx hb dL_law_1815 rfl (lv_at hl 3 rfl) ?_
  refine lv_aload_n hx hb dL_law_1816 rfl (lv_at hl 1 rfl) ?_
  refine lv_iload hx hb dL_law_1817 (lv_at hl 5 rfl) ?_
  refine lv_iconst (v := (1 : Int32)) hx hb dL_law_1819 (by decide) ?_
  refine lv_iadd hx hb dL_law_1820 ?_
  obtain ⟨hin, hf⟩ := wb_n hf
  refine va_sld hx hb hXs hbl hbA hS hin dL_law_1821 ?_
  obtain ⟨r3, hr3, hf⟩ := wb_b hf
  have hPc := wj_P2 hP
  have hDc := wj_D2 hD
  have hFc := wj_F hDc hS hA
  refine va_calli (va_runV (As := [.int (xs ((y4 + (1 : Int32))).toNatClampNeg)]) (rest := []) ⟨hx, hb, hml, hown, hts⟩ (cn_X12_on l D cB cI cZ N a1 I1 L1 M1 (xs ((y4 + (1 : Int32))).toNatClampNeg) H.size r3 hr3) (cwV 1 hts gyL_law_X12_on rfl rfl rfl cdX12_on ⟨Nat.le_of_ble_eq_true rfl, Nat.le_of_ble_eq_true rfl⟩) (wb_preDV hPc hK3 hDc (va_recv hK hP (ci := 12) (q0 := 52) rfl rfl)) rfl rfl hl.1 rfl (lv_room (Nat.le_of_ble_eq_true rfl)) dL_law_1822 ⟨hc1, hs1⟩) hS (fun q _ h => hFc q h) hFc (fun r9 u t H locs ht hvm hw hB hz1 hk1 hS => ?_)
  obtain ⟨hP, hD⟩ := wj_2 hP hD hk1 hFc ht hB
  rw [hw]
  obtain ⟨v4, ev4, hf⟩ := wb_v hf
  refine wb_topi ev4 ?_
  refine lv_istore (lv' := [(6, .int v4), (5, .int v2), (0, .ref b), (1, .ref (a0 0)), (2, .ref (a1 0)), (3, .ref b2), (4, .int y4)]) hx hb dL_law_1825 hl (by decide) rfl (fun ls hl => ?_)
  refine lv_aload_n hx hb dL_law_1827 rfl (lv_at hl 4 rfl) ?_
  obtain ⟨r5, hr5, hf⟩ := wb_b hf
  refine vp_callSi (W.runV (As := []) (rest := []) ⟨hx, hb, hml, hown, hts⟩ (cn_X12_thrown l D cB cI cZ N a1 r3.2.1 r3.2.2.1 r3.2.2.2 r5 hr5) (cwV 0 hts gyL_law_X12_thrown rfl rfl rfl cdX12_thrown ⟨Nat.le_of_ble_eq_true rfl, Nat.le_of_ble_eq_true rfl⟩) (wb_preV (hP.sub (ws' := (wWX12 cB cI cZ a1 r3.2.1 r3.2.2.1 r3.2.2.2)) [52, 53, 54, 55, 56, 57, 58, 59, 60, 61, 62, 63, 64, 65, 66, 67, 68, 69, 70, 71, 72, 73, 74, 75, 76, 77, 78, 79, 80, 81, 82, 83, 84, 85, 86, 87, 88, 89] rfl) hK3 (va_recv hK hP (ci := 12) (q0 := 52) rfl rfl)) rfl rfl hl.1 rfl (lv_room (Nat.le_of_ble_eq_true rfl)) dL_law_1828 ⟨hc1, hs1⟩) (fun r9 e9 => ?_)
  rw [e9]
  refine lv_iload hx hb dL_law_1831 (lv_at hl 1 rfl) ?_
  refine lv_icmp_eq (tgt := 1838) hx hb dL_law_1833 (by decide) (fun hc => ?_) (fun hc => ?_)
  · replace hf := wb_t hc hf
    refine lv_iload hx hb dL_law_1838 (lv_at hl 1 rfl) ?_
    refine lv_if_ne (tgt := 1855) hx hb dL_law_1840 (by decide) (fun hc => ?_) (fun hc => ?_)
    · replace hf := wb_f hc hf
      refine lv_goto (tgt := 3022) hx hb dL_law_1855 (by decide) ?_
      refine W.widen (k := c0 + 1) (n := s0 + 6) (Nat.le_refl _) (Nat.le_refl _) ?_
      have h9 := Option.some.inj hf
      exact kk H locs ls (by rw [← h9]; exact hP) (by rw [← h9]; exact hD) hS (lv_sub hl [2, 3, 4, 5, 6] rfl)
    · replace hf := wb_t hc hf
      refine lv_aload_n hx hb dL_law_1843 rfl (lv_at hl 5 rfl) ?_
      refine lv_iconst (v := (0 : Int32)) hx hb dL_law_1844 (by decide) ?_
      refine va_lald hx hb hK hP 90 3 rfl rfl (show ¬ ((0 : Int32) < 0 ∨ 1 ≤ (0 : Int32).toNatClampNeg) from by decide) dL_law_1845 ?_
      refine lv_iload hx hb dL_law_1846 (lv_at hl 0 rfl) ?_
      refine lv_i2l hx hb dL_law_1848 rfl ?_
      refine W.lcmp hx hb dL_law_1849 ?_
      refine lv_if_eq (tgt := 1855) hx hb dL_law_1850 (by decide) (fun hc => ?_) (fun hc => ?_)
      · replace hf := wb_t hc hf
        refine lv_goto (tgt := 3022) hx hb dL_law_1855 (by decide) ?_
        refine W.widen (k := c0 + 1) (n := s0 + 6) (Nat.le_refl _) (Nat.le_refl _) ?_
        have h9 := Option.some.inj hf
        exact kk H locs ls (by rw [← h9]; exact hP) (by rw [← h9]; exact hD) hS (lv_sub hl [2, 3, 4, 5, 6] rfl)
      · replace hf := wb_f hc hf
        refine lv_iconst (v := (0 : Int32)) hx hb dL_law_1853 (by decide) ?_
        exact absurd hf (fun h => nomatch h)
  · replace hf := wb_f hc hf
    refine lv_iconst (v := (0 : Int32)) hx hb dL_law_1836 (by decide) ?_
    exact absurd hf (fun h => nomatch h)

set_option maxHeartbeats 4000000 in
set_option maxRecDepth 100000 in
theorem law_case22 {p : Program} {e : Env} {s : State} {m : MethodId} {below : List Frame} {meth : Method} {c : Code} (l : Launch) (hlt : l.stackTraces = false) (D : va_G) (cB cI cZ cJ : ClassId) (N : Nat) {b L : Nat} {xs : Nat → Int32} (C0 : lw_At p s m meth c b L xs) (hX0 : wb_XH s.heap s) (hNc : va_Nc wb_E2 wb_E1 s) (a0 a1 : Nat → Nat) (b2 : Nat) (I0 : Nat → Int32) (M0 : Nat → Nat → Int32) (I1 : Nat → Int32) (L1 : Int64) (M1 : Nat → Nat → Int32) (o2 : Nat → Int64) (y4 : Int32) (c0 s0 : Nat) (hc1 : c0 + 1 ≤ room_1.cells) (hs1 : s0 + 6 ≤ room_1.slots) (H : Heap) (locs : List Loc) (hK : va_K D vwCl [(cB, .byte), (cI, .int), (cZ, .boolean), (cJ, .long)] s) (hP : va_P D vwCl ((wWX11 cB cI cZ a0 I0 M0) ++ ((wWX12 cB cI cZ a1 I1 L1 M1) ++ [(b2, .inl (cJ, 1, .inr (.inl o2)))])) H) (hD : va_D (fun q : Nat => s.heap.size ≤ q) ((wWX11 cB cI cZ a0 I0 M0) ++ ((wWX12 cB cI cZ a1 I1 L1 M1) ++ [(b2, .inl (cJ, 1, .inr (.inl o2)))]))) (hS : va_S (fun q : Nat => s.heap.size ≤ q) s.heap H locs) (ls : Array Slot) (hl : lv_has ls 7 [(0, .ref b), (1, .ref (a0 0)), (2, .ref (a1 0)), (3, .ref b2), (4, .int y4)]) (R : (Nat → Int32) × (Nat → Nat → Int32) × (Nat → Int32) × Int64 × (Nat → Nat → Int32) × (Nat → Int64)) (hf : fL_case22 N L xs I0 M0 I1 L1 M1 o2 y4 = some R)
    (kk : ∀ (H : Heap) (locs : List Loc) (ls : Array Slot), va_P D vwCl ((wWX11 cB cI cZ a0 R.1 R.2.1) ++ ((wWX12 cB cI cZ a1 R.2.2.1 R.2.2.2.1 R.2.2.2.2.1) ++ [(b2, .inl (cJ, 1, .inr (.inl R.2.2.2.2.2)))])) H → va_D (fun q : Nat => s.heap.size ≤ q) ((wWX11 cB cI cZ a0 R.1 R.2.1) ++ ((wWX12 cB cI cZ a1 R.2.2.1 R.2.2.2.1 R.2.2.2.2.1) ++ [(b2, .inl (cJ, 1, .inr (.inl R.2.2.2.2.2)))])) → va_S (fun q : Nat => s.heap.size ≤ q) s.heap H locs → lv_has ls 7 [(0, .ref b), (1, .ref (a0 0)), (2, .ref (a1 0)), (3, .ref b2), (4, .int y4)] → W p l e room_1 s m #[Value.ref b] below meth c H locs (c0 + 1) (s0 + 6) (lw_Z below #[Value.ref b] s) (F0 m 3022 ls [])) : W p l e room_1 s m #[Value.ref b] below meth c H locs c0 s0 (lw_Z below #[Value.ref b] s) (F0 m 1858 ls []) := by
  obtain ⟨hx, hb, hr, hml, hown, hts0, hXs, hbl, hlocks, hgv⟩ := id C0
  have hown : s.vm.findClass RL = some m.cls := hown
  have hb : c.code = cL_law := hb
  have hts : ∀ w ∈ wyL_law, w.before #[Value.ref b] s = true := fun w h => hts0 w (wl_law w h)
  have hA : ∀ q : Nat, s.heap.size ≤ q → (fun q : Nat => s.heap.size ≤ q) q := fun _ h => h
  have hbA : ¬ (fun q : Nat => s.heap.size ≤ q) b := Nat.not_le.mpr hbl
  have hK3 : va_K D vwCl [(cB, .byte), (cI, .int), (cZ, .boolean)] s := hK.sub [0, 1, 2] rfl
  have hc0 : c0 ≤ room_1.cells := Nat.le_of_succ_le hc1
  have hs0 : s0 ≤ room_1.slots := Nat.le_trans (Nat.le_add_right _ 6) hs1
  unfold fL_case22 at hf
  refine lv_aload_n hx hb dL_law_1858 rfl (lv_at hl 1 rfl) ?_
  refine lv_aload_n hx hb dL_law_1859 rfl (lv_at hl 0 rfl) ?_
  refine lv_iload hx hb dL_law_1860 (lv_at hl 4 rfl) ?_
  refine lv_iconst (v := (1 : Int32)) hx hb dL_law_1862 (by decide) ?_
  refine lv_iadd hx hb dL_law_1863 ?_
  obtain ⟨hin, hf⟩ := wb_n hf
  refine va_sld hx hb hXs hbl hbA hS hin dL_law_1864 ?_
  refine lv_aload_n hx hb dL_law_1865 rfl (lv_at hl 3 rfl) ?_
  obtain ⟨r1, hr1, hf⟩ := wb_b hf
  have hPc := wj_P3 hP
  have hDc := wj_D3 hD
  have hFc := wj_F hDc hS hA
  refine va_calli (vx_runSW (As := [.ref (a0 0), .int (xs ((y4 + (1 : Int32))).toNatClampNeg), .ref b2]) (rest := []) ⟨hx, hb, hml, hown, hts⟩ (cn_L_held l hlt D cB cI cZ cJ N a0 I0 M0 (xs ((y4 + (1 : Int32))).toNatClampNeg) b2 o2 H.size r1 hr1) (vx_cwSW 3 hts gyL_law_L_held rfl rfl rfl csL_held ⟨Nat.le_of_ble_eq_true rfl, Nat.le_of_ble_eq_true rfl⟩) (wb_preLS hPc hK hDc (hX0.kept hS) hNc) rfl rfl hl.1 rfl (lv_room (Nat.le_of_ble_eq_true rfl)) dL_law_1866 ⟨hc1, hs1⟩) hS (fun q _ h => hFc q h) hFc (fun r9 u t H locs ht hvm hw hB hz1 hk1 hS => ?_)
  obtain ⟨hP, hD⟩ := wj_3 hP hD hk1 hFc ht hB
  rw [hw]
  obtain ⟨v2, ev2, hf⟩ := wb_v hf
  refine wb_topi ev2 ?_
  refine lv_istore (lv' := [(5, .int v2), (0, .ref b), (1, .ref (a0 0)), (2, .ref (a1 0)), (3, .ref b2), (4, .int y4)]) hx hb dL_law_1869 hl (by decide) rfl (fun ls hl => ?_)
  refine lv_aload_n hx hb dL_law_1871 rfl (lv_at hl 3 rfl) ?_
  refine lv_aload_n hx hb dL_law_1872 rfl (lv_at hl 1 rfl) ?_
  refine lv_iload hx hb dL_law_1873 (lv_at hl 5 rfl) ?_
  refine lv_iconst (v := (1 : Int32)) hx hb dL_law_1875 (by decide) ?_
  refine lv_iadd hx hb dL_law_1876 ?_
  obtain ⟨hin, hf⟩ := wb_n hf
  refine va_sld hx hb hXs hbl hbA hS hin dL_law_1877 ?_
  obtain ⟨r3, hr3, hf⟩ := wb_b hf
  have hPc := wj_P2 hP
  have hDc := wj_D2 hD
  have hFc := wj_F hDc hS hA
  refine va_calli (va_runV (As := [.int (xs ((y4 + (1 : Int32))).toNatClampNeg)]) (rest := []) ⟨hx, hb, hml, hown, hts⟩ (cn_X12_held l D cB cI cZ N a1 I1 L1 M1 (xs ((y4 + (1 : Int32))).toNatClampNeg) H.size r3 hr3) (cwV 1 hts gyL_law_X12_held rfl rfl rfl cdX12_held ⟨Nat.le_of_ble_eq_true rfl, Nat.le_of_ble_eq_true rfl⟩) (wb_preDV hPc hK3 hDc (va_recv hK hP (ci := 12) (q0 := 52) rfl rfl)) rfl rfl hl.1 rfl (lv_room (Nat.le_of_ble_eq_true rfl)) dL_law_1878 ⟨hc1, hs1⟩) hS (fun q _ h => hFc q h) hFc (fun r9 u t H locs ht hvm hw hB hz1 hk1 hS => ?_)
  obtain ⟨hP, hD⟩ := wj_2 hP hD hk1 hFc ht hB
  rw [hw]
  obtain ⟨v4, ev4, hf⟩ := wb_v hf
  refine wb_topi ev4 ?_
  refine lv_istore (lv' := [(6, .int v4), (5, .int v2), (0, .ref b), (1, .ref (a0 0)), (2, .ref (a1 0)), (3, .ref b2), (4, .int y4)]) hx hb dL_law_1881 hl (by decide) rfl (fun ls hl => ?_)
  refine lv_aload_n hx hb dL_law_1883 rfl (lv_at hl 4 rfl) ?_
  obtain ⟨r5, hr5, hf⟩ := wb_b hf
  refine vp_callSi (W.runV (As := []) (rest := []) ⟨hx, hb, hml, hown, hts⟩ (cn_X12_thrown l D cB cI cZ N a1 r3.2.1 r3.2.2.1 r3.2.2.2 r5 hr5) (cwV 0 hts gyL_law_X12_thrown rfl rfl rfl cdX12_thrown ⟨Nat.le_of_ble_eq_true rfl, Nat.le_of_ble_eq_true rfl⟩) (wb_preV (hP.sub (ws' := (wWX12 cB cI cZ a1 r3.2.1 r3.2.2.1 r3.2.2.2)) [52, 53, 54, 55, 56, 57, 58, 59, 60, 61, 62, 63, 64, 65, 66, 67, 68, 69, 70, 71, 72, 73, 74, 75, 76, 77, 78, 79, 80, 81, 82, 83, 84, 85, 86, 87, 88, 89] rfl) hK3 (va_recv hK hP (ci := 12) (q0 := 52) rfl rfl)) rfl rfl hl.1 rfl (lv_room (Nat.le_of_ble_eq_true rfl)) dL_law_1884 ⟨hc1, hs1⟩) (fun r9 e9 => ?_)
  rw [e9]
  refine lv_iload hx hb dL_law_1887 (lv_at hl 1 rfl) ?_
  refine lv_icmp_eq (tgt := 1894) hx hb dL_law_1889 (by decide) (fun hc => ?_) (fun hc => ?_)
  · replace hf := wb_t hc hf
    refine lv_iload hx hb dL_law_1894 (lv_at hl 1 rfl) ?_
    refine lv_if_ne (tgt := 1911) hx hb dL_law_1896 (by decide) (fun hc => ?_) (fun hc => ?_)
    · replace hf := wb_f hc hf
      refine lv_goto (tgt := 3022) hx hb dL_law_1911 (by decide) ?_
      refine W.widen (k := c0 + 1) (n := s0 + 6) (Nat.le_refl _) (Nat.le_refl _) ?_
      have h9 := Option.some.inj hf
      exact kk H locs ls (by rw [← h9]; exact hP) (by rw [← h9]; exact hD) hS (lv_sub hl [2, 3, 4, 5, 6] rfl)
    · replace hf := wb_t hc hf
      refine lv_aload_n hx hb dL_law_1899 rfl (lv_at hl 5 rfl) ?_
      refine lv_iconst (v := (0 : Int32)) hx hb dL_law_1900 (by decide) ?_
      refine va_lald hx hb hK hP 90 3 rfl rfl (show ¬ ((0 : Int32) < 0 ∨ 1 ≤ (0 : Int32).toNatClampNeg) from by decide) dL_law_1901 ?_
      refine lv_iload hx hb dL_law_1902 (lv_at hl 0 rfl) ?_
      refine lv_i2l hx hb dL_law_1904 rfl ?_
      refine W.lcmp hx hb dL_law_1905 ?_
      refine lv_if_eq (tgt := 1911) hx hb dL_law_1906 (by decide) (fun hc => ?_) (fun hc => ?_)
      · replace hf := wb_t hc hf
        refine lv_goto (tgt := 3022) hx hb dL_law_1911 (by decide) ?_
        refine W.widen (k := c0 + 1) (n := s0 + 6) (Nat.le_refl _) (Nat.le_refl _) ?_
        have h9 := Option.some.inj hf
        exact kk H locs ls (by rw [← h9]; exact hP) (by rw [← h9]; exact hD) hS (lv_sub hl [2, 3, 4, 5, 6] rfl)
      · replace hf := wb_f hc hf
        refine lv_iconst (v := (0 : Int32)) hx hb dL_law_1909 (by decide) ?_
        exact absurd hf (fun h => nomatch h)
  · replace hf := wb_f hc hf
    refine lv_iconst (v := (0 : Int32)) hx hb dL_law_1892 (by decide) ?_
    exact absurd hf (fun h => nomatch h)

set_option maxHeartbeats 4000000 in
set_option maxRecDepth 100000 in
theorem law_case23 {p : Program} {e : Env} {s : State} {m : MethodId} {below : List Frame} {meth : Method} {c : Code} (l : Launch) (hlt : l.stackTraces = false) (D : va_G) (cB cI cZ cJ : ClassId) (N : Nat) {b L : Nat} {xs : Nat → Int32} (C0 : lw_At p s m meth c b L xs) (hX0 : wb_XH s.heap s) (hNc : va_Nc wb_E2 wb_E1 s) (a0 a1 : Nat → Nat) (b2 : Nat) (I0 : Nat → Int32) (M0 : Nat → Nat → Int32) (I1 : Nat → Int32) (L1 : Int64) (M1 : Nat → Nat → Int32) (o2 : Nat → Int64) (y4 : Int32) (c0 s0 : Nat) (hc1 : c0 + 1 ≤ room_1.cells) (hs1 : s0 + 6 ≤ room_1.slots) (H : Heap) (locs : List Loc) (hK : va_K D vwCl [(cB, .byte), (cI, .int), (cZ, .boolean), (cJ, .long)] s) (hP : va_P D vwCl ((wWX11 cB cI cZ a0 I0 M0) ++ ((wWX12 cB cI cZ a1 I1 L1 M1) ++ [(b2, .inl (cJ, 1, .inr (.inl o2)))])) H) (hD : va_D (fun q : Nat => s.heap.size ≤ q) ((wWX11 cB cI cZ a0 I0 M0) ++ ((wWX12 cB cI cZ a1 I1 L1 M1) ++ [(b2, .inl (cJ, 1, .inr (.inl o2)))]))) (hS : va_S (fun q : Nat => s.heap.size ≤ q) s.heap H locs) (ls : Array Slot) (hl : lv_has ls 7 [(0, .ref b), (1, .ref (a0 0)), (2, .ref (a1 0)), (3, .ref b2), (4, .int y4)]) (R : (Nat → Int32) × (Nat → Nat → Int32) × (Nat → Int32) × Int64 × (Nat → Nat → Int32) × (Nat → Int64)) (hf : fL_case23 N L xs I0 M0 I1 L1 M1 o2 y4 = some R)
    (kk : ∀ (H : Heap) (locs : List Loc) (ls : Array Slot), va_P D vwCl ((wWX11 cB cI cZ a0 R.1 R.2.1) ++ ((wWX12 cB cI cZ a1 R.2.2.1 R.2.2.2.1 R.2.2.2.2.1) ++ [(b2, .inl (cJ, 1, .inr (.inl R.2.2.2.2.2)))])) H → va_D (fun q : Nat => s.heap.size ≤ q) ((wWX11 cB cI cZ a0 R.1 R.2.1) ++ ((wWX12 cB cI cZ a1 R.2.2.1 R.2.2.2.1 R.2.2.2.2.1) ++ [(b2, .inl (cJ, 1, .inr (.inl R.2.2.2.2.2)))])) → va_S (fun q : Nat => s.heap.size ≤ q) s.heap H locs → lv_has ls 7 [(0, .ref b), (1, .ref (a0 0)), (2, .ref (a1 0)), (3, .ref b2), (4, .int y4)] → W p l e room_1 s m #[Value.ref b] below meth c H locs (c0 + 1) (s0 + 6) (lw_Z below #[Value.ref b] s) (F0 m 3022 ls [])) : W p l e room_1 s m #[Value.ref b] below meth c H locs c0 s0 (lw_Z below #[Value.ref b] s) (F0 m 1914 ls []) := by
  obtain ⟨hx, hb, hr, hml, hown, hts0, hXs, hbl, hlocks, hgv⟩ := id C0
  have hown : s.vm.findClass RL = some m.cls := hown
  have hb : c.code = cL_law := hb
  have hts : ∀ w ∈ wyL_law, w.before #[Value.ref b] s = true := fun w h => hts0 w (wl_law w h)
  have hA : ∀ q : Nat, s.heap.size ≤ q → (fun q : Nat => s.heap.size ≤ q) q := fun _ h => h
  have hbA : ¬ (fun q : Nat => s.heap.size ≤ q) b := Nat.not_le.mpr hbl
  have hK3 : va_K D vwCl [(cB, .byte), (cI, .int), (cZ, .boolean)] s := hK.sub [0, 1, 2] rfl
  have hc0 : c0 ≤ room_1.cells := Nat.le_of_succ_le hc1
  have hs0 : s0 ≤ room_1.slots := Nat.le_trans (Nat.le_add_right _ 6) hs1
  unfold fL_case23 at hf
  refine lv_aload_n hx hb dL_law_1914 rfl (lv_at hl 1 rfl) ?_
  obtain ⟨r1, hr1, hf⟩ := wb_b hf
  have hPc := wj_P1 hP
  have hDc := wj_D1 hD
  have hFc := wj_F hDc hS hA
  refine va_calli (va_runV (As := []) (rest := []) ⟨hx, hb, hml, hown, hts⟩ (cn_X11_image l D cB cI cZ N a0 I0 M0 H.size r1 hr1) (cwV 0 hts gyL_law_X11_image rfl rfl rfl cdX11_image ⟨Nat.le_of_ble_eq_true rfl, Nat.le_of_ble_eq_true rfl⟩) (wb_preDV hPc hK3 hDc (va_recv hK hP (ci := 11) (q0 := 0) rfl rfl)) rfl rfl hl.1 rfl (lv_room (Nat.le_of_ble_eq_true rfl)) dL_law_1915 ⟨hc0, hs0⟩) hS (fun q _ h => hFc q h) hFc (fun r9 u t H locs ht hvm hw hB hz1 hk1 hS => ?_)
  obtain ⟨hP, hD⟩ := wj_1 hP hD hk1 hFc ht hB
  rw [hw]
  refine lv_aload_n hx hb dL_law_1918 rfl (lv_at hl 2 rfl) ?_
  obtain ⟨r2, hr2, hf⟩ := wb_b hf
  have hPc := wj_P2 hP
  have hDc := wj_D2 hD
  have hFc := wj_F hDc hS hA
  refine va_calli (va_runV (As := []) (rest := [.int r1.1]) ⟨hx, hb, hml, hown, hts⟩ (cn_X12_image l D cB cI cZ N a1 I1 L1 M1 H.size r2 hr2) (cwV 0 hts gyL_law_X12_image rfl rfl rfl cdX12_image ⟨Nat.le_of_ble_eq_true rfl, Nat.le_of_ble_eq_true rfl⟩) (wb_preDV hPc hK3 hDc (va_recv hK hP (ci := 12) (q0 := 52) rfl rfl)) rfl rfl hl.1 rfl (lv_room (Nat.le_of_ble_eq_true rfl)) dL_law_1919 ⟨hc0, hs0⟩) hS (fun q _ h => hFc q h) hFc (fun r9 u t H locs ht hvm hw hB hz1 hk1 hS => ?_)
  obtain ⟨hP, hD⟩ := wj_2 hP hD hk1 hFc ht hB
  rw [hw]
  refine lv_icmp_eq (tgt := 3022) hx hb dL_law_1922 (by decide) (fun hc => ?_) (fun hc => ?_)
  · replace hf := wb_t hc hf
    refine W.widen (k := c0 + 1) (n := s0 + 6) (Nat.le_succ _) (Nat.le_add_right _ _) ?_
    have h9 := Option.some.inj hf
    exact kk H locs ls (by rw [← h9]; exact hP) (by rw [← h9]; exact hD) hS (lv_sub hl [0, 1, 2, 3, 4] rfl)
  · replace hf := wb_f hc hf
    refine lv_iconst (v := (0 : Int32)) hx hb dL_law_1925 (by decide) ?_
    exact absurd hf (fun h => nomatch h)

set_option maxHeartbeats 4000000 in
set_option maxRecDepth 100000 in
theorem law_case24 {p : Program} {e : Env} {s : State} {m : MethodId} {below : List Frame} {meth : Method} {c : Code} (l : Launch) (hlt : l.stackTraces = false) (D : va_G) (cB cI cZ cJ : ClassId) (N : Nat) {b L : Nat} {xs : Nat → Int32} (C0 : lw_At p s m meth c b L xs) (hX0 : wb_XH s.heap s) (hNc : va_Nc wb_E2 wb_E1 s) (a0 a1 : Nat → Nat) (b2 : Nat) (I0 : Nat → Int32) (M0 : Nat → Nat → Int32) (I1 : Nat → Int32) (L1 : Int64) (M1 : Nat → Nat → Int32) (o2 : Nat → Int64) (y4 : Int32) (c0 s0 : Nat) (hc1 : c0 + 1 ≤ room_1.cells) (hs1 : s0 + 6 ≤ room_1.slots) (H : Heap) (locs : List Loc) (hK : va_K D vwCl [(cB, .byte), (cI, .int), (cZ, .boolean), (cJ, .long)] s) (hP : va_P D vwCl ((wWX11 cB cI cZ a0 I0 M0) ++ ((wWX12 cB cI cZ a1 I1 L1 M1) ++ [(b2, .inl (cJ, 1, .inr (.inl o2)))])) H) (hD : va_D (fun q : Nat => s.heap.size ≤ q) ((wWX11 cB cI cZ a0 I0 M0) ++ ((wWX12 cB cI cZ a1 I1 L1 M1) ++ [(b2, .inl (cJ, 1, .inr (.inl o2)))]))) (hS : va_S (fun q : Nat => s.heap.size ≤ q) s.heap H locs) (ls : Array Slot) (hl : lv_has ls 7 [(0, .ref b), (1, .ref (a0 0)), (2, .ref (a1 0)), (3, .ref b2), (4, .int y4)]) (R : (Nat → Int32) × (Nat → Nat → Int32) × (Nat → Int32) × Int64 × (Nat → Nat → Int32) × (Nat → Int64)) (hf : fL_case24 N L xs I0 M0 I1 L1 M1 o2 y4 = some R)
    (kk : ∀ (H : Heap) (locs : List Loc) (ls : Array Slot), va_P D vwCl ((wWX11 cB cI cZ a0 R.1 R.2.1) ++ ((wWX12 cB cI cZ a1 R.2.2.1 R.2.2.2.1 R.2.2.2.2.1) ++ [(b2, .inl (cJ, 1, .inr (.inl R.2.2.2.2.2)))])) H → va_D (fun q : Nat => s.heap.size ≤ q) ((wWX11 cB cI cZ a0 R.1 R.2.1) ++ ((wWX12 cB cI cZ a1 R.2.2.1 R.2.2.2.1 R.2.2.2.2.1) ++ [(b2, .inl (cJ, 1, .inr (.inl R.2.2.2.2.2)))])) → va_S (fun q : Nat => s.heap.size ≤ q) s.heap H locs → lv_has ls 7 [(0, .ref b), (1, .ref (a0 0)), (2, .ref (a1 0)), (3, .ref b2), (4, .int y4)] → W p l e room_1 s m #[Value.ref b] below meth c H locs (c0 + 1) (s0 + 6) (lw_Z below #[Value.ref b] s) (F0 m 3022 ls [])) : W p l e room_1 s m #[Value.ref b] below meth c H locs c0 s0 (lw_Z below #[Value.ref b] s) (F0 m 1927 ls []) := by
  obtain ⟨hx, hb, hr, hml, hown, hts0, hXs, hbl, hlocks, hgv⟩ := id C0
  have hown : s.vm.findClass RL = some m.cls := hown
  have hb : c.code = cL_law := hb
  have hts : ∀ w ∈ wyL_law, w.before #[Value.ref b] s = true := fun w h => hts0 w (wl_law w h)
  have hA : ∀ q : Nat, s.heap.size ≤ q → (fun q : Nat => s.heap.size ≤ q) q := fun _ h => h
  have hbA : ¬ (fun q : Nat => s.heap.size ≤ q) b := Nat.not_le.mpr hbl
  have hK3 : va_K D vwCl [(cB, .byte), (cI, .int), (cZ, .boolean)] s := hK.sub [0, 1, 2] rfl
  have hc0 : c0 ≤ room_1.cells := Nat.le_of_succ_le hc1
  have hs0 : s0 ≤ room_1.slots := Nat.le_trans (Nat.le_add_right _ 6) hs1
  unfold fL_case24 at hf
  refine lv_aload_n hx hb dL_law_1927 rfl (lv_at hl 1 rfl) ?_
  obtain ⟨r1, hr1, hf⟩ := wb_b hf
  have hPc := wj_P1 hP
  have hDc := wj_D1 hD
  have hFc := wj_F hDc hS hA
  refine va_calli (va_runV (As := []) (rest := []) ⟨hx, hb, hml, hown, hts⟩ (cn_X11_restore l D cB cI cZ N a0 I0 M0 H.size r1 hr1) (cwV 0 hts gyL_law_X11_restore rfl rfl rfl cdX11_restore ⟨Nat.le_of_ble_eq_true rfl, Nat.le_of_ble_eq_true rfl⟩) (wb_preDV hPc hK3 hDc (va_recv hK hP (ci := 11) (q0 := 0) rfl rfl)) rfl rfl hl.1 rfl (lv_room (Nat.le_of_ble_eq_true rfl)) dL_law_1928 ⟨hc0, hs0⟩) hS (fun q _ h => hFc q h) hFc (fun r9 u t H locs ht hvm hw hB hz1 hk1 hS => ?_)
  obtain ⟨hP, hD⟩ := wj_1 hP hD hk1 hFc ht hB
  rw [hw]
  refine lv_aload_n hx hb dL_law_1931 rfl (lv_at hl 2 rfl) ?_
  obtain ⟨r2, hr2, hf⟩ := wb_b hf
  have hPc := wj_P2 hP
  have hDc := wj_D2 hD
  have hFc := wj_F hDc hS hA
  refine va_calli (va_runV (As := []) (rest := [.int r1.1]) ⟨hx, hb, hml, hown, hts⟩ (cn_X12_restore l D cB cI cZ N a1 I1 L1 M1 H.size r2 hr2) (cwV 0 hts gyL_law_X12_restore rfl rfl rfl cdX12_restore ⟨Nat.le_of_ble_eq_true rfl, Nat.le_of_ble_eq_true rfl⟩) (wb_preDV hPc hK3 hDc (va_recv hK hP (ci := 12) (q0 := 52) rfl rfl)) rfl rfl hl.1 rfl (lv_room (Nat.le_of_ble_eq_true rfl)) dL_law_1932 ⟨hc0, hs0⟩) hS (fun q _ h => hFc q h) hFc (fun r9 u t H locs ht hvm hw hB hz1 hk1 hS => ?_)
  obtain ⟨hP, hD⟩ := wj_2 hP hD hk1 hFc ht hB
  rw [hw]
  refine lv_icmp_eq (tgt := 3022) hx hb dL_law_1935 (by decide) (fun hc => ?_) (fun hc => ?_)
  · replace hf := wb_t hc hf
    refine W.widen (k := c0 + 1) (n := s0 + 6) (Nat.le_succ _) (Nat.le_add_right _ _) ?_
    have h9 := Option.some.inj hf
    exact kk H locs ls (by rw [← h9]; exact hP) (by rw [← h9]; exact hD) hS (lv_sub hl [0, 1, 2, 3, 4] rfl)
  · replace hf := wb_f hc hf
    refine lv_iconst (v := (0 : Int32)) hx hb dL_law_1938 (by decide) ?_
    exact absurd hf (fun h => nomatch h)

set_option maxHeartbeats 4000000 in
set_option maxRecDepth 100000 in
theorem law_case25 {p : Program} {e : Env} {s : State} {m : MethodId} {below : List Frame} {meth : Method} {c : Code} (l : Launch) (hlt : l.stackTraces = false) (D : va_G) (cB cI cZ cJ : ClassId) (N : Nat) {b L : Nat} {xs : Nat → Int32} (C0 : lw_At p s m meth c b L xs) (hX0 : wb_XH s.heap s) (hNc : va_Nc wb_E2 wb_E1 s) (a0 a1 : Nat → Nat) (b2 : Nat) (I0 : Nat → Int32) (M0 : Nat → Nat → Int32) (I1 : Nat → Int32) (L1 : Int64) (M1 : Nat → Nat → Int32) (o2 : Nat → Int64) (y4 : Int32) (c0 s0 : Nat) (hc1 : c0 + 1 ≤ room_1.cells) (hs1 : s0 + 6 ≤ room_1.slots) (H : Heap) (locs : List Loc) (hK : va_K D vwCl [(cB, .byte), (cI, .int), (cZ, .boolean), (cJ, .long)] s) (hP : va_P D vwCl ((wWX11 cB cI cZ a0 I0 M0) ++ ((wWX12 cB cI cZ a1 I1 L1 M1) ++ [(b2, .inl (cJ, 1, .inr (.inl o2)))])) H) (hD : va_D (fun q : Nat => s.heap.size ≤ q) ((wWX11 cB cI cZ a0 I0 M0) ++ ((wWX12 cB cI cZ a1 I1 L1 M1) ++ [(b2, .inl (cJ, 1, .inr (.inl o2)))]))) (hS : va_S (fun q : Nat => s.heap.size ≤ q) s.heap H locs) (ls : Array Slot) (hl : lv_has ls 7 [(0, .ref b), (1, .ref (a0 0)), (2, .ref (a1 0)), (3, .ref b2), (4, .int y4)]) (R : (Nat → Int32) × (Nat → Nat → Int32) × (Nat → Int32) × Int64 × (Nat → Nat → Int32) × (Nat → Int64)) (hf : fL_case25 N L xs I0 M0 I1 L1 M1 o2 y4 = some R)
    (kk : ∀ (H : Heap) (locs : List Loc) (ls : Array Slot), va_P D vwCl ((wWX11 cB cI cZ a0 R.1 R.2.1) ++ ((wWX12 cB cI cZ a1 R.2.2.1 R.2.2.2.1 R.2.2.2.2.1) ++ [(b2, .inl (cJ, 1, .inr (.inl R.2.2.2.2.2)))])) H → va_D (fun q : Nat => s.heap.size ≤ q) ((wWX11 cB cI cZ a0 R.1 R.2.1) ++ ((wWX12 cB cI cZ a1 R.2.2.1 R.2.2.2.1 R.2.2.2.2.1) ++ [(b2, .inl (cJ, 1, .inr (.inl R.2.2.2.2.2)))])) → va_S (fun q : Nat => s.heap.size ≤ q) s.heap H locs → lv_has ls 7 [(0, .ref b), (1, .ref (a0 0)), (2, .ref (a1 0)), (3, .ref b2), (4, .int y4)] → W p l e room_1 s m #[Value.ref b] below meth c H locs (c0 + 1) (s0 + 6) (lw_Z below #[Value.ref b] s) (F0 m 3022 ls [])) : W p l e room_1 s m #[Value.ref b] below meth c H locs c0 s0 (lw_Z below #[Value.ref b] s) (F0 m 1940 ls []) := by
  obtain ⟨hx, hb, hr, hml, hown, hts0, hXs, hbl, hlocks, hgv⟩ := id C0
  have hown : s.vm.findClass RL = some m.cls := hown
  have hb : c.code = cL_law := hb
  have hts : ∀ w ∈ wyL_law, w.before #[Value.ref b] s = true := fun w h => hts0 w (wl_law w h)
  have hA : ∀ q : Nat, s.heap.size ≤ q → (fun q : Nat => s.heap.size ≤ q) q := fun _ h => h
  have hbA : ¬ (fun q : Nat => s.heap.size ≤ q) b := Nat.not_le.mpr hbl
  have hK3 : va_K D vwCl [(cB, .byte), (cI, .int), (cZ, .boolean)] s := hK.sub [0, 1, 2] rfl
  have hc0 : c0 ≤ room_1.cells := Nat.le_of_succ_le hc1
  have hs0 : s0 ≤ room_1.slots := Nat.le_trans (Nat.le_add_right _ 6) hs1
  unfold fL_case25 at hf
  refine lv_aload_n hx hb dL_law_1940 rfl (lv_at hl 1 rfl) ?_
  refine lv_aload_n hx hb dL_law_1941 rfl (lv_at hl 0 rfl) ?_
  refine lv_iload hx hb dL_law_1942 (lv_at hl 4 rfl) ?_
  refine lv_iconst (v := (1 : Int32)) hx hb dL_law_1944 (by decide) ?_
  refine lv_iadd hx hb dL_law_1945 ?_
  obtain ⟨hin, hf⟩ := wb_n hf
  refine va_sld hx hb hXs hbl hbA hS hin dL_law_1946 ?_
  refine lv_aload_n hx hb dL_law_1947 rfl (lv_at hl 0 rfl) ?_
  refine lv_iload hx hb dL_law_1948 (lv_at hl 4 rfl) ?_
  refine lv_iconst (v := (2 : Int32)) hx hb dL_law_1950 (by decide) ?_
  refine lv_iadd hx hb dL_law_1951 ?_
  obtain ⟨hin, hf⟩ := wb_n hf
  refine va_sld hx hb hXs hbl hbA hS hin dL_law_1952 ?_
  refine lv_aload_n hx hb dL_law_1953 rfl (lv_at hl 0 rfl) ?_
  refine lv_iload hx hb dL_law_1954 (lv_at hl 4 rfl) ?_
  refine lv_iconst (v := (3 : Int32)) hx hb dL_law_1956 (by decide) ?_
  refine lv_iadd hx hb dL_law_1957 ?_
  obtain ⟨hin, hf⟩ := wb_n hf
  refine va_sld hx hb hXs hbl hbA hS hin dL_law_1958 ?_
  refine lv_aload_n hx hb dL_law_1959 rfl (lv_at hl 0 rfl) ?_
  refine lv_iload hx hb dL_law_1960 (lv_at hl 4 rfl) ?_
  refine lv_iconst (v := (4 : Int32)) hx hb dL_law_1962 (by decide) ?_
  refine lv_iadd hx hb dL_law_1963 ?_
  obtain ⟨hin, hf⟩ := wb_n hf
  refine va_sld hx hb hXs hbl hbA hS hin dL_law_1964 ?_
  refine lv_aload_n hx hb dL_law_1965 rfl (lv_at hl 0 rfl) ?_
  refine lv_iload hx hb dL_law_1966 (lv_at hl 4 rfl) ?_
  refine lv_iconst (v := (5 : Int32)) hx hb dL_law_1968 (by decide) ?_
  refine lv_iadd hx hb dL_law_1969 ?_
  obtain ⟨hin, hf⟩ := wb_n hf
  refine va_sld hx hb hXs hbl hbA hS hin dL_law_1970 ?_
  refine lv_aload_n hx hb dL_law_1971 rfl (lv_at hl 3 rfl) ?_
  obtain ⟨r1, hr1, hf⟩ := wb_b hf
  have hPc := wj_P3 hP
  have hDc := wj_D3 hD
  have hFc := wj_F hDc hS hA
  refine va_calli (vx_runSW (As := [.ref (a0 0), .int (xs ((y4 + (1 : Int32))).toNatClampNeg), .int (xs ((y4 + (2 : Int32))).toNatClampNeg), .int (xs ((y4 + (3 : Int32))).toNatClampNeg), .int (xs ((y4 + (4 : Int32))).toNatClampNeg), .int (xs ((y4 + (5 : Int32))).toNatClampNeg), .ref b2]) (rest := []) ⟨hx, hb, hml, hown, hts⟩ (cn_L_misread l hlt D cB cI cZ cJ N a0 I0 M0 (xs ((y4 + (1 : Int32))).toNatClampNeg) (xs ((y4 + (2 : Int32))).toNatClampNeg) (xs ((y4 + (3 : Int32))).toNatClampNeg) (xs ((y4 + (4 : Int32))).toNatClampNeg) (xs ((y4 + (5 : Int32))).toNatClampNeg) b2 o2 H.size r1 hr1) (vx_cwSW 7 hts gyL_law_L_misread rfl rfl rfl csL_misread ⟨Nat.le_of_ble_eq_true rfl, Nat.le_of_ble_eq_true rfl⟩) (wb_preLS hPc hK hDc (hX0.kept hS) hNc) rfl rfl hl.1 rfl (lv_room (Nat.le_of_ble_eq_true rfl)) dL_law_1972 ⟨hc1, hs1⟩) hS (fun q _ h => hFc q h) hFc (fun r9 u t H locs ht hvm hw hB hz1 hk1 hS => ?_)
  obtain ⟨hP, hD⟩ := wj_3 hP hD hk1 hFc ht hB
  rw [hw]
  obtain ⟨v2, ev2, hf⟩ := wb_v hf
  refine wb_topi ev2 ?_
  refine lv_istore (lv' := [(5, .int v2), (0, .ref b), (1, .ref (a0 0)), (2, .ref (a1 0)), (3, .ref b2), (4, .int y4)]) hx hb dL_law_1975 hl (by decide) rfl (fun ls hl => ?_)
  refine lv_aload_n hx hb dL_law_1977 rfl (lv_at hl 3 rfl) ?_
  refine lv_aload_n hx hb dL_law_1978 rfl (lv_at hl 1 rfl) ?_
  refine lv_iload hx hb dL_law_1979 (lv_at hl 5 rfl) ?_
  refine lv_iconst (v := (1 : Int32)) hx hb dL_law_1981 (by decide) ?_
  refine lv_iadd hx hb dL_law_1982 ?_
  obtain ⟨hin, hf⟩ := wb_n hf
  refine va_sld hx hb hXs hbl hbA hS hin dL_law_1983 ?_
  refine lv_aload_n hx hb dL_law_1984 rfl (lv_at hl 1 rfl) ?_
  refine lv_iload hx hb dL_law_1985 (lv_at hl 5 rfl) ?_
  refine lv_iconst (v := (2 : Int32)) hx hb dL_law_1987 (by decide) ?_
  refine lv_iadd hx hb dL_law_1988 ?_
  obtain ⟨hin, hf⟩ := wb_n hf
  refine va_sld hx hb hXs hbl hbA hS hin dL_law_1989 ?_
  refine lv_aload_n hx hb dL_law_1990 rfl (lv_at hl 1 rfl) ?_
  refine lv_iload hx hb dL_law_1991 (lv_at hl 5 rfl) ?_
  refine lv_iconst (v := (3 : Int32)) hx hb dL_law_1993 (by decide) ?_
  refine lv_iadd hx hb dL_law_1994 ?_
  obtain ⟨hin, hf⟩ := wb_n hf
  refine va_sld hx hb hXs hbl hbA hS hin dL_law_1995 ?_
  refine lv_aload_n hx hb dL_law_1996 rfl (lv_at hl 1 rfl) ?_
  refine lv_iload hx hb dL_law_1997 (lv_at hl 5 rfl) ?_
  refine lv_iconst (v := (4 : Int32)) hx hb dL_law_1999 (by decide) ?_
  refine lv_iadd hx hb dL_law_2000 ?_
  obtain ⟨hin, hf⟩ := wb_n hf
  refine va_sld hx hb hXs hbl hbA hS hin dL_law_2001 ?_
  refine lv_aload_n hx hb dL_law_2002 rfl (lv_at hl 1 rfl) ?_
  refine lv_iload hx hb dL_law_2003 (lv_at hl 5 rfl) ?_
  refine lv_iconst (v := (5 : Int32)) hx hb dL_law_2005 (by decide) ?_
  refine lv_iadd hx hb dL_law_2006 ?_
  obtain ⟨hin, hf⟩ := wb_n hf
  refine va_sld hx hb hXs hbl hbA hS hin dL_law_2007 ?_
  obtain ⟨r3, hr3, hf⟩ := wb_b hf
  have hPc := wj_P2 hP
  have hDc := wj_D2 hD
  have hFc := wj_F hDc hS hA
  refine va_calli (va_runV (As := [.int (xs ((y4 + (1 : Int32))).toNatClampNeg), .int (xs ((y4 + (2 : Int32))).toNatClampNeg), .int (xs ((y4 + (3 : Int32))).toNatClampNeg), .int (xs ((y4 + (4 : Int32))).toNatClampNeg), .int (xs ((y4 + (5 : Int32))).toNatClampNeg)]) (rest := []) ⟨hx, hb, hml, hown, hts⟩ (cn_X12_misread l D cB cI cZ N a1 I1 L1 M1 (xs ((y4 + (1 : Int32))).toNatClampNeg) (xs ((y4 + (2 : Int32))).toNatClampNeg) (xs ((y4 + (3 : Int32))).toNatClampNeg) (xs ((y4 + (4 : Int32))).toNatClampNeg) (xs ((y4 + (5 : Int32))).toNatClampNeg) H.size r3 hr3) (cwV 5 hts gyL_law_X12_misread rfl rfl rfl cdX12_misread ⟨Nat.le_of_ble_eq_true rfl, Nat.le_of_ble_eq_true rfl⟩) (wb_preDV hPc hK3 hDc (va_recv hK hP (ci := 12) (q0 := 52) rfl rfl)) rfl rfl hl.1 rfl (lv_room (Nat.le_of_ble_eq_true rfl)) dL_law_2008 ⟨hc1, hs1⟩) hS (fun q _ h => hFc q h) hFc (fun r9 u t H locs ht hvm hw hB hz1 hk1 hS => ?_)
  obtain ⟨hP, hD⟩ := wj_2 hP hD hk1 hFc ht hB
  rw [hw]
  obtain ⟨v4, ev4, hf⟩ := wb_v hf
  refine wb_topi ev4 ?_
  refine lv_istore (lv' := [(6, .int v4), (5, .int v2), (0, .ref b), (1, .ref (a0 0)), (2, .ref (a1 0)), (3, .ref b2), (4, .int y4)]) hx hb dL_law_2011 hl (by decide) rfl (fun ls hl => ?_)
  refine lv_aload_n hx hb dL_law_2013 rfl (lv_at hl 4 rfl) ?_
  obtain ⟨r5, hr5, hf⟩ := wb_b hf
  refine vp_callSi (W.runV (As := []) (rest := []) ⟨hx, hb, hml, hown, hts⟩ (cn_X12_thrown l D cB cI cZ N a1 r3.2.1 r3.2.2.1 r3.2.2.2 r5 hr5) (cwV 0 hts gyL_law_X12_thrown rfl rfl rfl cdX12_thrown ⟨Nat.le_of_ble_eq_true rfl, Nat.le_of_ble_eq_true rfl⟩) (wb_preV (hP.sub (ws' := (wWX12 cB cI cZ a1 r3.2.1 r3.2.2.1 r3.2.2.2)) [52, 53, 54, 55, 56, 57, 58, 59, 60, 61, 62, 63, 64, 65, 66, 67, 68, 69, 70, 71, 72, 73, 74, 75, 76, 77, 78, 79, 80, 81, 82, 83, 84, 85, 86, 87, 88, 89] rfl) hK3 (va_recv hK hP (ci := 12) (q0 := 52) rfl rfl)) rfl rfl hl.1 rfl (lv_room (Nat.le_of_ble_eq_true rfl)) dL_law_2014 ⟨hc1, hs1⟩) (fun r9 e9 => ?_)
  rw [e9]
  refine lv_iload hx hb dL_law_2017 (lv_at hl 1 rfl) ?_
  refine lv_icmp_eq (tgt := 2024) hx hb dL_law_2019 (by decide) (fun hc => ?_) (fun hc => ?_)
  · replace hf := wb_t hc hf
    refine lv_iload hx hb dL_law_2024 (lv_at hl 1 rfl) ?_
    refine lv_if_ne (tgt := 2041) hx hb dL_law_2026 (by decide) (fun hc => ?_) (fun hc => ?_)
    · replace hf := wb_f hc hf
      refine lv_goto (tgt := 3022) hx hb dL_law_2041 (by decide) ?_
      refine W.widen (k := c0 + 1) (n := s0 + 6) (Nat.le_refl _) (Nat.le_refl _) ?_
      have h9 := Option.some.inj hf
      exact kk H locs ls (by rw [← h9]; exact hP) (by rw [← h9]; exact hD) hS (lv_sub hl [2, 3, 4, 5, 6] rfl)
    · replace hf := wb_t hc hf
      refine lv_aload_n hx hb dL_law_2029 rfl (lv_at hl 5 rfl) ?_
      refine lv_iconst (v := (0 : Int32)) hx hb dL_law_2030 (by decide) ?_
      refine va_lald hx hb hK hP 90 3 rfl rfl (show ¬ ((0 : Int32) < 0 ∨ 1 ≤ (0 : Int32).toNatClampNeg) from by decide) dL_law_2031 ?_
      refine lv_iload hx hb dL_law_2032 (lv_at hl 0 rfl) ?_
      refine lv_i2l hx hb dL_law_2034 rfl ?_
      refine W.lcmp hx hb dL_law_2035 ?_
      refine lv_if_eq (tgt := 2041) hx hb dL_law_2036 (by decide) (fun hc => ?_) (fun hc => ?_)
      · replace hf := wb_t hc hf
        refine lv_goto (tgt := 3022) hx hb dL_law_2041 (by decide) ?_
        refine W.widen (k := c0 + 1) (n := s0 + 6) (Nat.le_refl _) (Nat.le_refl _) ?_
        have h9 := Option.some.inj hf
        exact kk H locs ls (by rw [← h9]; exact hP) (by rw [← h9]; exact hD) hS (lv_sub hl [2, 3, 4, 5, 6] rfl)
      · replace hf := wb_f hc hf
        refine lv_iconst (v := (0 : Int32)) hx hb dL_law_2039 (by decide) ?_
        exact absurd hf (fun h => nomatch h)
  · replace hf := wb_f hc hf
    refine lv_iconst (v := (0 : Int32)) hx hb dL_law_2022 (by decide) ?_
    exact absurd hf (fun h => nomatch h)

set_option maxHeartbeats 4000000 in
set_option maxRecDepth 100000 in
theorem law_case26 {p : Program} {e : Env} {s : State} {m : MethodId} {below : List Frame} {meth : Method} {c : Code} (l : Launch) (hlt : l.stackTraces = false) (D : va_G) (cB cI cZ cJ : ClassId) (N : Nat) {b L : Nat} {xs : Nat → Int32} (C0 : lw_At p s m meth c b L xs) (hX0 : wb_XH s.heap s) (hNc : va_Nc wb_E2 wb_E1 s) (a0 a1 : Nat → Nat) (b2 : Nat) (I0 : Nat → Int32) (M0 : Nat → Nat → Int32) (I1 : Nat → Int32) (L1 : Int64) (M1 : Nat → Nat → Int32) (o2 : Nat → Int64) (y4 : Int32) (c0 s0 : Nat) (hc1 : c0 + 1 ≤ room_1.cells) (hs1 : s0 + 6 ≤ room_1.slots) (H : Heap) (locs : List Loc) (hK : va_K D vwCl [(cB, .byte), (cI, .int), (cZ, .boolean), (cJ, .long)] s) (hP : va_P D vwCl ((wWX11 cB cI cZ a0 I0 M0) ++ ((wWX12 cB cI cZ a1 I1 L1 M1) ++ [(b2, .inl (cJ, 1, .inr (.inl o2)))])) H) (hD : va_D (fun q : Nat => s.heap.size ≤ q) ((wWX11 cB cI cZ a0 I0 M0) ++ ((wWX12 cB cI cZ a1 I1 L1 M1) ++ [(b2, .inl (cJ, 1, .inr (.inl o2)))]))) (hS : va_S (fun q : Nat => s.heap.size ≤ q) s.heap H locs) (ls : Array Slot) (hl : lv_has ls 7 [(0, .ref b), (1, .ref (a0 0)), (2, .ref (a1 0)), (3, .ref b2), (4, .int y4)]) (R : (Nat → Int32) × (Nat → Nat → Int32) × (Nat → Int32) × Int64 × (Nat → Nat → Int32) × (Nat → Int64)) (hf : fL_case26 N L xs I0 M0 I1 L1 M1 o2 y4 = some R)
    (kk : ∀ (H : Heap) (locs : List Loc) (ls : Array Slot), va_P D vwCl ((wWX11 cB cI cZ a0 R.1 R.2.1) ++ ((wWX12 cB cI cZ a1 R.2.2.1 R.2.2.2.1 R.2.2.2.2.1) ++ [(b2, .inl (cJ, 1, .inr (.inl R.2.2.2.2.2)))])) H → va_D (fun q : Nat => s.heap.size ≤ q) ((wWX11 cB cI cZ a0 R.1 R.2.1) ++ ((wWX12 cB cI cZ a1 R.2.2.1 R.2.2.2.1 R.2.2.2.2.1) ++ [(b2, .inl (cJ, 1, .inr (.inl R.2.2.2.2.2)))])) → va_S (fun q : Nat => s.heap.size ≤ q) s.heap H locs → lv_has ls 7 [(0, .ref b), (1, .ref (a0 0)), (2, .ref (a1 0)), (3, .ref b2), (4, .int y4)] → W p l e room_1 s m #[Value.ref b] below meth c H locs (c0 + 1) (s0 + 6) (lw_Z below #[Value.ref b] s) (F0 m 3022 ls [])) : W p l e room_1 s m #[Value.ref b] below meth c H locs c0 s0 (lw_Z below #[Value.ref b] s) (F0 m 2044 ls []) := by
  obtain ⟨hx, hb, hr, hml, hown, hts0, hXs, hbl, hlocks, hgv⟩ := id C0
  have hown : s.vm.findClass RL = some m.cls := hown
  have hb : c.code = cL_law := hb
  have hts : ∀ w ∈ wyL_law, w.before #[Value.ref b] s = true := fun w h => hts0 w (wl_law w h)
  have hA : ∀ q : Nat, s.heap.size ≤ q → (fun q : Nat => s.heap.size ≤ q) q := fun _ h => h
  have hbA : ¬ (fun q : Nat => s.heap.size ≤ q) b := Nat.not_le.mpr hbl
  have hK3 : va_K D vwCl [(cB, .byte), (cI, .int), (cZ, .boolean)] s := hK.sub [0, 1, 2] rfl
  have hc0 : c0 ≤ room_1.cells := Nat.le_of_succ_le hc1
  have hs0 : s0 ≤ room_1.slots := Nat.le_trans (Nat.le_add_right _ 6) hs1
  unfold fL_case26 at hf
  refine lv_aload_n hx hb dL_law_2044 rfl (lv_at hl 1 rfl) ?_
  refine lv_aload_n hx hb dL_law_2045 rfl (lv_at hl 0 rfl) ?_
  refine lv_iload hx hb dL_law_2046 (lv_at hl 4 rfl) ?_
  refine lv_iconst (v := (1 : Int32)) hx hb dL_law_2048 (by decide) ?_
  refine lv_iadd hx hb dL_law_2049 ?_
  obtain ⟨hin, hf⟩ := wb_n hf
  refine va_sld hx hb hXs hbl hbA hS hin dL_law_2050 ?_
  refine lv_aload_n hx hb dL_law_2051 rfl (lv_at hl 0 rfl) ?_
  refine lv_iload hx hb dL_law_2052 (lv_at hl 4 rfl) ?_
  refine lv_iconst (v := (2 : Int32)) hx hb dL_law_2054 (by decide) ?_
  refine lv_iadd hx hb dL_law_2055 ?_
  obtain ⟨hin, hf⟩ := wb_n hf
  refine va_sld hx hb hXs hbl hbA hS hin dL_law_2056 ?_
  refine lv_aload_n hx hb dL_law_2057 rfl (lv_at hl 0 rfl) ?_
  refine lv_iload hx hb dL_law_2058 (lv_at hl 4 rfl) ?_
  refine lv_iconst (v := (3 : Int32)) hx hb dL_law_2060 (by decide) ?_
  refine lv_iadd hx hb dL_law_2061 ?_
  obtain ⟨hin, hf⟩ := wb_n hf
  refine va_sld hx hb hXs hbl hbA hS hin dL_law_2062 ?_
  refine lv_aload_n hx hb dL_law_2063 rfl (lv_at hl 0 rfl) ?_
  refine lv_iload hx hb dL_law_2064 (lv_at hl 4 rfl) ?_
  refine lv_iconst (v := (4 : Int32)) hx hb dL_law_2066 (by decide) ?_
  refine lv_iadd hx hb dL_law_2067 ?_
  obtain ⟨hin, hf⟩ := wb_n hf
  refine va_sld hx hb hXs hbl hbA hS hin dL_law_2068 ?_
  refine lv_aload_n hx hb dL_law_2069 rfl (lv_at hl 3 rfl) ?_
  obtain ⟨r1, hr1, hf⟩ := wb_b hf
  have hPc := wj_P3 hP
  have hDc := wj_D3 hD
  have hFc := wj_F hDc hS hA
  refine va_calli (vx_runSW (As := [.ref (a0 0), .int (xs ((y4 + (1 : Int32))).toNatClampNeg), .int (xs ((y4 + (2 : Int32))).toNatClampNeg), .int (xs ((y4 + (3 : Int32))).toNatClampNeg), .int (xs ((y4 + (4 : Int32))).toNatClampNeg), .ref b2]) (rest := []) ⟨hx, hb, hml, hown, hts⟩ (cn_L_errors l hlt D cB cI cZ cJ N a0 I0 M0 (xs ((y4 + (1 : Int32))).toNatClampNeg) (xs ((y4 + (2 : Int32))).toNatClampNeg) (xs ((y4 + (3 : Int32))).toNatClampNeg) (xs ((y4 + (4 : Int32))).toNatClampNeg) b2 o2 H.size r1 hr1) (vx_cwSW 6 hts gyL_law_L_errors rfl rfl rfl csL_errors ⟨Nat.le_of_ble_eq_true rfl, Nat.le_of_ble_eq_true rfl⟩) (wb_preLS hPc hK hDc (hX0.kept hS) hNc) rfl rfl hl.1 rfl (lv_room (Nat.le_of_ble_eq_true rfl)) dL_law_2070 ⟨hc1, hs1⟩) hS (fun q _ h => hFc q h) hFc (fun r9 u t H locs ht hvm hw hB hz1 hk1 hS => ?_)
  obtain ⟨hP, hD⟩ := wj_3 hP hD hk1 hFc ht hB
  rw [hw]
  obtain ⟨v2, ev2, hf⟩ := wb_v hf
  refine wb_topi ev2 ?_
  refine lv_istore (lv' := [(5, .int v2), (0, .ref b), (1, .ref (a0 0)), (2, .ref (a1 0)), (3, .ref b2), (4, .int y4)]) hx hb dL_law_2073 hl (by decide) rfl (fun ls hl => ?_)
  refine lv_aload_n hx hb dL_law_2075 rfl (lv_at hl 3 rfl) ?_
  refine lv_aload_n hx hb dL_law_2076 rfl (lv_at hl 1 rfl) ?_
  refine lv_iload hx hb dL_law_2077 (lv_at hl 5 rfl) ?_
  refine lv_iconst (v := (1 : Int32)) hx hb dL_law_2079 (by decide) ?_
  refine lv_iadd hx hb dL_law_2080 ?_
  obtain ⟨hin, hf⟩ := wb_n hf
  refine va_sld hx hb hXs hbl hbA hS hin dL_law_2081 ?_
  refine lv_aload_n hx hb dL_law_2082 rfl (lv_at hl 1 rfl) ?_
  refine lv_iload hx hb dL_law_2083 (lv_at hl 5 rfl) ?_
  refine lv_iconst (v := (2 : Int32)) hx hb dL_law_2085 (by decide) ?_
  refine lv_iadd hx hb dL_law_2086 ?_
  obtain ⟨hin, hf⟩ := wb_n hf
  refine va_sld hx hb hXs hbl hbA hS hin dL_law_2087 ?_
  refine lv_aload_n hx hb dL_law_2088 rfl (lv_at hl 1 rfl) ?_
  refine lv_iload hx hb dL_law_2089 (lv_at hl 5 rfl) ?_
  refine lv_iconst (v := (3 : Int32)) hx hb dL_law_2091 (by decide) ?_
  refine lv_iadd hx hb dL_law_2092 ?_
  obtain ⟨hin, hf⟩ := wb_n hf
  refine va_sld hx hb hXs hbl hbA hS hin dL_law_2093 ?_
  refine lv_aload_n hx hb dL_law_2094 rfl (lv_at hl 1 rfl) ?_
  refine lv_iload hx hb dL_law_2095 (lv_at hl 5 rfl) ?_
  refine lv_iconst (v := (4 : Int32)) hx hb dL_law_2097 (by decide) ?_
  refine lv_iadd hx hb dL_law_2098 ?_
  obtain ⟨hin, hf⟩ := wb_n hf
  refine va_sld hx hb hXs hbl hbA hS hin dL_law_2099 ?_
  obtain ⟨r3, hr3, hf⟩ := wb_b hf
  have hPc := wj_P2 hP
  have hDc := wj_D2 hD
  have hFc := wj_F hDc hS hA
  refine va_calli (va_runV (As := [.int (xs ((y4 + (1 : Int32))).toNatClampNeg), .int (xs ((y4 + (2 : Int32))).toNatClampNeg), .int (xs ((y4 + (3 : Int32))).toNatClampNeg), .int (xs ((y4 + (4 : Int32))).toNatClampNeg)]) (rest := []) ⟨hx, hb, hml, hown, hts⟩ (cn_X12_errors l D cB cI cZ N a1 I1 L1 M1 (xs ((y4 + (1 : Int32))).toNatClampNeg) (xs ((y4 + (2 : Int32))).toNatClampNeg) (xs ((y4 + (3 : Int32))).toNatClampNeg) (xs ((y4 + (4 : Int32))).toNatClampNeg) H.size r3 hr3) (cwV 4 hts gyL_law_X12_errors rfl rfl rfl cdX12_errors ⟨Nat.le_of_ble_eq_true rfl, Nat.le_of_ble_eq_true rfl⟩) (wb_preDV hPc hK3 hDc (va_recv hK hP (ci := 12) (q0 := 52) rfl rfl)) rfl rfl hl.1 rfl (lv_room (Nat.le_of_ble_eq_true rfl)) dL_law_2100 ⟨hc1, hs1⟩) hS (fun q _ h => hFc q h) hFc (fun r9 u t H locs ht hvm hw hB hz1 hk1 hS => ?_)
  obtain ⟨hP, hD⟩ := wj_2 hP hD hk1 hFc ht hB
  rw [hw]
  obtain ⟨v4, ev4, hf⟩ := wb_v hf
  refine wb_topi ev4 ?_
  refine lv_istore (lv' := [(6, .int v4), (5, .int v2), (0, .ref b), (1, .ref (a0 0)), (2, .ref (a1 0)), (3, .ref b2), (4, .int y4)]) hx hb dL_law_2103 hl (by decide) rfl (fun ls hl => ?_)
  refine lv_aload_n hx hb dL_law_2105 rfl (lv_at hl 4 rfl) ?_
  obtain ⟨r5, hr5, hf⟩ := wb_b hf
  refine vp_callSi (W.runV (As := []) (rest := []) ⟨hx, hb, hml, hown, hts⟩ (cn_X12_thrown l D cB cI cZ N a1 r3.2.1 r3.2.2.1 r3.2.2.2 r5 hr5) (cwV 0 hts gyL_law_X12_thrown rfl rfl rfl cdX12_thrown ⟨Nat.le_of_ble_eq_true rfl, Nat.le_of_ble_eq_true rfl⟩) (wb_preV (hP.sub (ws' := (wWX12 cB cI cZ a1 r3.2.1 r3.2.2.1 r3.2.2.2)) [52, 53, 54, 55, 56, 57, 58, 59, 60, 61, 62, 63, 64, 65, 66, 67, 68, 69, 70, 71, 72, 73, 74, 75, 76, 77, 78, 79, 80, 81, 82, 83, 84, 85, 86, 87, 88, 89] rfl) hK3 (va_recv hK hP (ci := 12) (q0 := 52) rfl rfl)) rfl rfl hl.1 rfl (lv_room (Nat.le_of_ble_eq_true rfl)) dL_law_2106 ⟨hc1, hs1⟩) (fun r9 e9 => ?_)
  rw [e9]
  refine lv_iload hx hb dL_law_2109 (lv_at hl 1 rfl) ?_
  refine lv_icmp_eq (tgt := 2116) hx hb dL_law_2111 (by decide) (fun hc => ?_) (fun hc => ?_)
  · replace hf := wb_t hc hf
    refine lv_iload hx hb dL_law_2116 (lv_at hl 1 rfl) ?_
    refine lv_if_ne (tgt := 2133) hx hb dL_law_2118 (by decide) (fun hc => ?_) (fun hc => ?_)
    · replace hf := wb_f hc hf
      refine lv_goto (tgt := 3022) hx hb dL_law_2133 (by decide) ?_
      refine W.widen (k := c0 + 1) (n := s0 + 6) (Nat.le_refl _) (Nat.le_refl _) ?_
      have h9 := Option.some.inj hf
      exact kk H locs ls (by rw [← h9]; exact hP) (by rw [← h9]; exact hD) hS (lv_sub hl [2, 3, 4, 5, 6] rfl)
    · replace hf := wb_t hc hf
      refine lv_aload_n hx hb dL_law_2121 rfl (lv_at hl 5 rfl) ?_
      refine lv_iconst (v := (0 : Int32)) hx hb dL_law_2122 (by decide) ?_
      refine va_lald hx hb hK hP 90 3 rfl rfl (show ¬ ((0 : Int32) < 0 ∨ 1 ≤ (0 : Int32).toNatClampNeg) from by decide) dL_law_2123 ?_
      refine lv_iload hx hb dL_law_2124 (lv_at hl 0 rfl) ?_
      refine lv_i2l hx hb dL_law_2126 rfl ?_
      refine W.lcmp hx hb dL_law_2127 ?_
      refine lv_if_eq (tgt := 2133) hx hb dL_law_2128 (by decide) (fun hc => ?_) (fun hc => ?_)
      · replace hf := wb_t hc hf
        refine lv_goto (tgt := 3022) hx hb dL_law_2133 (by decide) ?_
        refine W.widen (k := c0 + 1) (n := s0 + 6) (Nat.le_refl _) (Nat.le_refl _) ?_
        have h9 := Option.some.inj hf
        exact kk H locs ls (by rw [← h9]; exact hP) (by rw [← h9]; exact hD) hS (lv_sub hl [2, 3, 4, 5, 6] rfl)
      · replace hf := wb_f hc hf
        refine lv_iconst (v := (0 : Int32)) hx hb dL_law_2131 (by decide) ?_
        exact absurd hf (fun h => nomatch h)
  · replace hf := wb_f hc hf
    refine lv_iconst (v := (0 : Int32)) hx hb dL_law_2114 (by decide) ?_
    exact absurd hf (fun h => nomatch h)

set_option maxHeartbeats 4000000 in
set_option maxRecDepth 100000 in
theorem law_case27 {p : Program} {e : Env} {s : State} {m : MethodId} {below : List Frame} {meth : Method} {c : Code} (l : Launch) (hlt : l.stackTraces = false) (D : va_G) (cB cI cZ cJ : ClassId) (N : Nat) {b L : Nat} {xs : Nat → Int32} (C0 : lw_At p s m meth c b L xs) (hX0 : wb_XH s.heap s) (hNc : va_Nc wb_E2 wb_E1 s) (a0 a1 : Nat → Nat) (b2 : Nat) (I0 : Nat → Int32) (M0 : Nat → Nat → Int32) (I1 : Nat → Int32) (L1 : Int64) (M1 : Nat → Nat → Int32) (o2 : Nat → Int64) (y4 : Int32) (c0 s0 : Nat) (hc1 : c0 + 1 ≤ room_1.cells) (hs1 : s0 + 6 ≤ room_1.slots) (H : Heap) (locs : List Loc) (hK : va_K D vwCl [(cB, .byte), (cI, .int), (cZ, .boolean), (cJ, .long)] s) (hP : va_P D vwCl ((wWX11 cB cI cZ a0 I0 M0) ++ ((wWX12 cB cI cZ a1 I1 L1 M1) ++ [(b2, .inl (cJ, 1, .inr (.inl o2)))])) H) (hD : va_D (fun q : Nat => s.heap.size ≤ q) ((wWX11 cB cI cZ a0 I0 M0) ++ ((wWX12 cB cI cZ a1 I1 L1 M1) ++ [(b2, .inl (cJ, 1, .inr (.inl o2)))]))) (hS : va_S (fun q : Nat => s.heap.size ≤ q) s.heap H locs) (ls : Array Slot) (hl : lv_has ls 7 [(0, .ref b), (1, .ref (a0 0)), (2, .ref (a1 0)), (3, .ref b2), (4, .int y4)]) (R : (Nat → Int32) × (Nat → Nat → Int32) × (Nat → Int32) × Int64 × (Nat → Nat → Int32) × (Nat → Int64)) (hf : fL_case27 N L xs I0 M0 I1 L1 M1 o2 y4 = some R)
    (kk : ∀ (H : Heap) (locs : List Loc) (ls : Array Slot), va_P D vwCl ((wWX11 cB cI cZ a0 R.1 R.2.1) ++ ((wWX12 cB cI cZ a1 R.2.2.1 R.2.2.2.1 R.2.2.2.2.1) ++ [(b2, .inl (cJ, 1, .inr (.inl R.2.2.2.2.2)))])) H → va_D (fun q : Nat => s.heap.size ≤ q) ((wWX11 cB cI cZ a0 R.1 R.2.1) ++ ((wWX12 cB cI cZ a1 R.2.2.1 R.2.2.2.1 R.2.2.2.2.1) ++ [(b2, .inl (cJ, 1, .inr (.inl R.2.2.2.2.2)))])) → va_S (fun q : Nat => s.heap.size ≤ q) s.heap H locs → lv_has ls 7 [(0, .ref b), (1, .ref (a0 0)), (2, .ref (a1 0)), (3, .ref b2), (4, .int y4)] → W p l e room_1 s m #[Value.ref b] below meth c H locs (c0 + 1) (s0 + 6) (lw_Z below #[Value.ref b] s) (F0 m 3022 ls [])) : W p l e room_1 s m #[Value.ref b] below meth c H locs c0 s0 (lw_Z below #[Value.ref b] s) (F0 m 2136 ls []) := by
  obtain ⟨hx, hb, hr, hml, hown, hts0, hXs, hbl, hlocks, hgv⟩ := id C0
  have hown : s.vm.findClass RL = some m.cls := hown
  have hb : c.code = cL_law := hb
  have hts : ∀ w ∈ wyL_law, w.before #[Value.ref b] s = true := fun w h => hts0 w (wl_law w h)
  have hA : ∀ q : Nat, s.heap.size ≤ q → (fun q : Nat => s.heap.size ≤ q) q := fun _ h => h
  have hbA : ¬ (fun q : Nat => s.heap.size ≤ q) b := Nat.not_le.mpr hbl
  have hK3 : va_K D vwCl [(cB, .byte), (cI, .int), (cZ, .boolean)] s := hK.sub [0, 1, 2] rfl
  have hc0 : c0 ≤ room_1.cells := Nat.le_of_succ_le hc1
  have hs0 : s0 ≤ room_1.slots := Nat.le_trans (Nat.le_add_right _ 6) hs1
  unfold fL_case27 at hf
  refine lv_aload_n hx hb dL_law_2136 rfl (lv_at hl 1 rfl) ?_
  refine lv_aload_n hx hb dL_law_2137 rfl (lv_at hl 0 rfl) ?_
  refine lv_iload hx hb dL_law_2138 (lv_at hl 4 rfl) ?_
  refine lv_iconst (v := (1 : Int32)) hx hb dL_law_2140 (by decide) ?_
  refine lv_iadd hx hb dL_law_2141 ?_
  obtain ⟨hin, hf⟩ := wb_n hf
  refine va_sld hx hb hXs hbl hbA hS hin dL_law_2142 ?_
  refine lv_aload_n hx hb dL_law_2143 rfl (lv_at hl 0 rfl) ?_
  refine lv_iload hx hb dL_law_2144 (lv_at hl 4 rfl) ?_
  refine lv_iconst (v := (2 : Int32)) hx hb dL_law_2146 (by decide) ?_
  refine lv_iadd hx hb dL_law_2147 ?_
  obtain ⟨hin, hf⟩ := wb_n hf
  refine va_sld hx hb hXs hbl hbA hS hin dL_law_2148 ?_
  refine lv_aload_n hx hb dL_law_2149 rfl (lv_at hl 0 rfl) ?_
  refine lv_iload hx hb dL_law_2150 (lv_at hl 4 rfl) ?_
  refine lv_iconst (v := (3 : Int32)) hx hb dL_law_2152 (by decide) ?_
  refine lv_iadd hx hb dL_law_2153 ?_
  obtain ⟨hin, hf⟩ := wb_n hf
  refine va_sld hx hb hXs hbl hbA hS hin dL_law_2154 ?_
  refine lv_aload_n hx hb dL_law_2155 rfl (lv_at hl 3 rfl) ?_
  obtain ⟨r1, hr1, hf⟩ := wb_b hf
  have hPc := wj_P3 hP
  have hDc := wj_D3 hD
  have hFc := wj_F hDc hS hA
  refine va_calli (vx_runSW (As := [.ref (a0 0), .int (xs ((y4 + (1 : Int32))).toNatClampNeg), .int (xs ((y4 + (2 : Int32))).toNatClampNeg), .int (xs ((y4 + (3 : Int32))).toNatClampNeg), .ref b2]) (rest := []) ⟨hx, hb, hml, hown, hts⟩ (cn_L_possible l hlt D cB cI cZ cJ N a0 I0 M0 (xs ((y4 + (1 : Int32))).toNatClampNeg) (xs ((y4 + (2 : Int32))).toNatClampNeg) (xs ((y4 + (3 : Int32))).toNatClampNeg) b2 o2 H.size r1 hr1) (vx_cwSW 5 hts gyL_law_L_possible rfl rfl rfl csL_possible ⟨Nat.le_of_ble_eq_true rfl, Nat.le_of_ble_eq_true rfl⟩) (wb_preLS hPc hK hDc (hX0.kept hS) hNc) rfl rfl hl.1 rfl (lv_room (Nat.le_of_ble_eq_true rfl)) dL_law_2156 ⟨hc1, hs1⟩) hS (fun q _ h => hFc q h) hFc (fun r9 u t H locs ht hvm hw hB hz1 hk1 hS => ?_)
  obtain ⟨hP, hD⟩ := wj_3 hP hD hk1 hFc ht hB
  rw [hw]
  obtain ⟨v2, ev2, hf⟩ := wb_v hf
  refine wb_topi ev2 ?_
  refine lv_istore (lv' := [(5, .int v2), (0, .ref b), (1, .ref (a0 0)), (2, .ref (a1 0)), (3, .ref b2), (4, .int y4)]) hx hb dL_law_2159 hl (by decide) rfl (fun ls hl => ?_)
  refine lv_aload_n hx hb dL_law_2161 rfl (lv_at hl 3 rfl) ?_
  refine lv_aload_n hx hb dL_law_2162 rfl (lv_at hl 1 rfl) ?_
  refine lv_iload hx hb dL_law_2163 (lv_at hl 5 rfl) ?_
  refine lv_iconst (v := (1 : Int32)) hx hb dL_law_2165 (by decide) ?_
  refine lv_iadd hx hb dL_law_2166 ?_
  obtain ⟨hin, hf⟩ := wb_n hf
  refine va_sld hx hb hXs hbl hbA hS hin dL_law_2167 ?_
  refine lv_aload_n hx hb dL_law_2168 rfl (lv_at hl 1 rfl) ?_
  refine lv_iload hx hb dL_law_2169 (lv_at hl 5 rfl) ?_
  refine lv_iconst (v := (2 : Int32)) hx hb dL_law_2171 (by decide) ?_
  refine lv_iadd hx hb dL_law_2172 ?_
  obtain ⟨hin, hf⟩ := wb_n hf
  refine va_sld hx hb hXs hbl hbA hS hin dL_law_2173 ?_
  refine lv_aload_n hx hb dL_law_2174 rfl (lv_at hl 1 rfl) ?_
  refine lv_iload hx hb dL_law_2175 (lv_at hl 5 rfl) ?_
  refine lv_iconst (v := (3 : Int32)) hx hb dL_law_2177 (by decide) ?_
  refine lv_iadd hx hb dL_law_2178 ?_
  obtain ⟨hin, hf⟩ := wb_n hf
  refine va_sld hx hb hXs hbl hbA hS hin dL_law_2179 ?_
  obtain ⟨r3, hr3, hf⟩ := wb_b hf
  have hPc := wj_P2 hP
  have hDc := wj_D2 hD
  have hFc := wj_F hDc hS hA
  refine va_calli (va_runV (As := [.int (xs ((y4 + (1 : Int32))).toNatClampNeg), .int (xs ((y4 + (2 : Int32))).toNatClampNeg), .int (xs ((y4 + (3 : Int32))).toNatClampNeg)]) (rest := []) ⟨hx, hb, hml, hown, hts⟩ (cn_X12_possible l D cB cI cZ N a1 I1 L1 M1 (xs ((y4 + (1 : Int32))).toNatClampNeg) (xs ((y4 + (2 : Int32))).toNatClampNeg) (xs ((y4 + (3 : Int32))).toNatClampNeg) H.size r3 hr3) (cwV 3 hts gyL_law_X12_possible rfl rfl rfl cdX12_possible ⟨Nat.le_of_ble_eq_true rfl, Nat.le_of_ble_eq_true rfl⟩) (wb_preDV hPc hK3 hDc (va_recv hK hP (ci := 12) (q0 := 52) rfl rfl)) rfl rfl hl.1 rfl (lv_room (Nat.le_of_ble_eq_true rfl)) dL_law_2180 ⟨hc1, hs1⟩) hS (fun q _ h => hFc q h) hFc (fun r9 u t H locs ht hvm hw hB hz1 hk1 hS => ?_)
  obtain ⟨hP, hD⟩ := wj_2 hP hD hk1 hFc ht hB
  rw [hw]
  obtain ⟨v4, ev4, hf⟩ := wb_v hf
  refine wb_topi ev4 ?_
  refine lv_istore (lv' := [(6, .int v4), (5, .int v2), (0, .ref b), (1, .ref (a0 0)), (2, .ref (a1 0)), (3, .ref b2), (4, .int y4)]) hx hb dL_law_2183 hl (by decide) rfl (fun ls hl => ?_)
  refine lv_aload_n hx hb dL_law_2185 rfl (lv_at hl 4 rfl) ?_
  obtain ⟨r5, hr5, hf⟩ := wb_b hf
  refine vp_callSi (W.runV (As := []) (rest := []) ⟨hx, hb, hml, hown, hts⟩ (cn_X12_thrown l D cB cI cZ N a1 r3.2.1 r3.2.2.1 r3.2.2.2 r5 hr5) (cwV 0 hts gyL_law_X12_thrown rfl rfl rfl cdX12_thrown ⟨Nat.le_of_ble_eq_true rfl, Nat.le_of_ble_eq_true rfl⟩) (wb_preV (hP.sub (ws' := (wWX12 cB cI cZ a1 r3.2.1 r3.2.2.1 r3.2.2.2)) [52, 53, 54, 55, 56, 57, 58, 59, 60, 61, 62, 63, 64, 65, 66, 67, 68, 69, 70, 71, 72, 73, 74, 75, 76, 77, 78, 79, 80, 81, 82, 83, 84, 85, 86, 87, 88, 89] rfl) hK3 (va_recv hK hP (ci := 12) (q0 := 52) rfl rfl)) rfl rfl hl.1 rfl (lv_room (Nat.le_of_ble_eq_true rfl)) dL_law_2186 ⟨hc1, hs1⟩) (fun r9 e9 => ?_)
  rw [e9]
  refine lv_iload hx hb dL_law_2189 (lv_at hl 1 rfl) ?_
  refine lv_icmp_eq (tgt := 2196) hx hb dL_law_2191 (by decide) (fun hc => ?_) (fun hc => ?_)
  · replace hf := wb_t hc hf
    refine lv_iload hx hb dL_law_2196 (lv_at hl 1 rfl) ?_
    refine lv_if_ne (tgt := 2213) hx hb dL_law_2198 (by decide) (fun hc => ?_) (fun hc => ?_)
    · replace hf := wb_f hc hf
      refine lv_goto (tgt := 3022) hx hb dL_law_2213 (by decide) ?_
      refine W.widen (k := c0 + 1) (n := s0 + 6) (Nat.le_refl _) (Nat.le_refl _) ?_
      have h9 := Option.some.inj hf
      exact kk H locs ls (by rw [← h9]; exact hP) (by rw [← h9]; exact hD) hS (lv_sub hl [2, 3, 4, 5, 6] rfl)
    · replace hf := wb_t hc hf
      refine lv_aload_n hx hb dL_law_2201 rfl (lv_at hl 5 rfl) ?_
      refine lv_iconst (v := (0 : Int32)) hx hb dL_law_2202 (by decide) ?_
      refine va_lald hx hb hK hP 90 3 rfl rfl (show ¬ ((0 : Int32) < 0 ∨ 1 ≤ (0 : Int32).toNatClampNeg) from by decide) dL_law_2203 ?_
      refine lv_iload hx hb dL_law_2204 (lv_at hl 0 rfl) ?_
      refine lv_i2l hx hb dL_law_2206 rfl ?_
      refine W.lcmp hx hb dL_law_2207 ?_
      refine lv_if_eq (tgt := 2213) hx hb dL_law_2208 (by decide) (fun hc => ?_) (fun hc => ?_)
      · replace hf := wb_t hc hf
        refine lv_goto (tgt := 3022) hx hb dL_law_2213 (by decide) ?_
        refine W.widen (k := c0 + 1) (n := s0 + 6) (Nat.le_refl _) (Nat.le_refl _) ?_
        have h9 := Option.some.inj hf
        exact kk H locs ls (by rw [← h9]; exact hP) (by rw [← h9]; exact hD) hS (lv_sub hl [2, 3, 4, 5, 6] rfl)
      · replace hf := wb_f hc hf
        refine lv_iconst (v := (0 : Int32)) hx hb dL_law_2211 (by decide) ?_
        exact absurd hf (fun h => nomatch h)
  · replace hf := wb_f hc hf
    refine lv_iconst (v := (0 : Int32)) hx hb dL_law_2194 (by decide) ?_
    exact absurd hf (fun h => nomatch h)

set_option maxHeartbeats 4000000 in
set_option maxRecDepth 100000 in
theorem law_case28 {p : Program} {e : Env} {s : State} {m : MethodId} {below : List Frame} {meth : Method} {c : Code} (l : Launch) (hlt : l.stackTraces = false) (D : va_G) (cB cI cZ cJ : ClassId) (N : Nat) {b L : Nat} {xs : Nat → Int32} (C0 : lw_At p s m meth c b L xs) (hX0 : wb_XH s.heap s) (hNc : va_Nc wb_E2 wb_E1 s) (a0 a1 : Nat → Nat) (b2 : Nat) (I0 : Nat → Int32) (M0 : Nat → Nat → Int32) (I1 : Nat → Int32) (L1 : Int64) (M1 : Nat → Nat → Int32) (o2 : Nat → Int64) (y4 : Int32) (c0 s0 : Nat) (hc1 : c0 + 1 ≤ room_1.cells) (hs1 : s0 + 6 ≤ room_1.slots) (H : Heap) (locs : List Loc) (hK : va_K D vwCl [(cB, .byte), (cI, .int), (cZ, .boolean), (cJ, .long)] s) (hP : va_P D vwCl ((wWX11 cB cI cZ a0 I0 M0) ++ ((wWX12 cB cI cZ a1 I1 L1 M1) ++ [(b2, .inl (cJ, 1, .inr (.inl o2)))])) H) (hD : va_D (fun q : Nat => s.heap.size ≤ q) ((wWX11 cB cI cZ a0 I0 M0) ++ ((wWX12 cB cI cZ a1 I1 L1 M1) ++ [(b2, .inl (cJ, 1, .inr (.inl o2)))]))) (hS : va_S (fun q : Nat => s.heap.size ≤ q) s.heap H locs) (ls : Array Slot) (hl : lv_has ls 7 [(0, .ref b), (1, .ref (a0 0)), (2, .ref (a1 0)), (3, .ref b2), (4, .int y4)]) (R : (Nat → Int32) × (Nat → Nat → Int32) × (Nat → Int32) × Int64 × (Nat → Nat → Int32) × (Nat → Int64)) (hf : fL_case28 N L xs I0 M0 I1 L1 M1 o2 y4 = some R)
    (kk : ∀ (H : Heap) (locs : List Loc) (ls : Array Slot), va_P D vwCl ((wWX11 cB cI cZ a0 R.1 R.2.1) ++ ((wWX12 cB cI cZ a1 R.2.2.1 R.2.2.2.1 R.2.2.2.2.1) ++ [(b2, .inl (cJ, 1, .inr (.inl R.2.2.2.2.2)))])) H → va_D (fun q : Nat => s.heap.size ≤ q) ((wWX11 cB cI cZ a0 R.1 R.2.1) ++ ((wWX12 cB cI cZ a1 R.2.2.1 R.2.2.2.1 R.2.2.2.2.1) ++ [(b2, .inl (cJ, 1, .inr (.inl R.2.2.2.2.2)))])) → va_S (fun q : Nat => s.heap.size ≤ q) s.heap H locs → lv_has ls 7 [(0, .ref b), (1, .ref (a0 0)), (2, .ref (a1 0)), (3, .ref b2), (4, .int y4)] → W p l e room_1 s m #[Value.ref b] below meth c H locs (c0 + 1) (s0 + 6) (lw_Z below #[Value.ref b] s) (F0 m 3022 ls [])) : W p l e room_1 s m #[Value.ref b] below meth c H locs c0 s0 (lw_Z below #[Value.ref b] s) (F0 m 2216 ls []) := by
  obtain ⟨hx, hb, hr, hml, hown, hts0, hXs, hbl, hlocks, hgv⟩ := id C0
  have hown : s.vm.findClass RL = some m.cls := hown
  have hb : c.code = cL_law := hb
  have hts : ∀ w ∈ wyL_law, w.before #[Value.ref b] s = true := fun w h => hts0 w (wl_law w h)
  have hA : ∀ q : Nat, s.heap.size ≤ q → (fun q : Nat => s.heap.size ≤ q) q := fun _ h => h
  have hbA : ¬ (fun q : Nat => s.heap.size ≤ q) b := Nat.not_le.mpr hbl
  have hK3 : va_K D vwCl [(cB, .byte), (cI, .int), (cZ, .boolean)] s := hK.sub [0, 1, 2] rfl
  have hc0 : c0 ≤ room_1.cells := Nat.le_of_succ_le hc1
  have hs0 : s0 ≤ room_1.slots := Nat.le_trans (Nat.le_add_right _ 6) hs1
  unfold fL_case28 at hf
  refine lv_aload_n hx hb dL_law_2216 rfl (lv_at hl 1 rfl) ?_
  refine lv_aload_n hx hb dL_law_2217 rfl (lv_at hl 0 rfl) ?_
  refine lv_iload hx hb dL_law_2218 (lv_at hl 4 rfl) ?_
  refine lv_iconst (v := (1 : Int32)) hx hb dL_law_2220 (by decide) ?_
  refine lv_iadd hx hb dL_law_2221 ?_
  obtain ⟨hin, hf⟩ := wb_n hf
  refine va_sld hx hb hXs hbl hbA hS hin dL_law_2222 ?_
  refine lv_aload_n hx hb dL_law_2223 rfl (lv_at hl 0 rfl) ?_
  refine lv_iload hx hb dL_law_2224 (lv_at hl 4 rfl) ?_
  refine lv_iconst (v := (2 : Int32)) hx hb dL_law_2226 (by decide) ?_
  refine lv_iadd hx hb dL_law_2227 ?_
  obtain ⟨hin, hf⟩ := wb_n hf
  refine va_sld hx hb hXs hbl hbA hS hin dL_law_2228 ?_
  refine lv_aload_n hx hb dL_law_2229 rfl (lv_at hl 3 rfl) ?_
  obtain ⟨r1, hr1, hf⟩ := wb_b hf
  have hPc := wj_P3 hP
  have hDc := wj_D3 hD
  have hFc := wj_F hDc hS hA
  refine va_calli (vx_runSW (As := [.ref (a0 0), .int (xs ((y4 + (1 : Int32))).toNatClampNeg), .int (xs ((y4 + (2 : Int32))).toNatClampNeg), .ref b2]) (rest := []) ⟨hx, hb, hml, hown, hts⟩ (cn_L_slips l hlt D cB cI cZ cJ N a0 I0 M0 (xs ((y4 + (1 : Int32))).toNatClampNeg) (xs ((y4 + (2 : Int32))).toNatClampNeg) b2 o2 H.size r1 hr1) (vx_cwSW 4 hts gyL_law_L_slips rfl rfl rfl csL_slips ⟨Nat.le_of_ble_eq_true rfl, Nat.le_of_ble_eq_true rfl⟩) (wb_preLS hPc hK hDc (hX0.kept hS) hNc) rfl rfl hl.1 rfl (lv_room (Nat.le_of_ble_eq_true rfl)) dL_law_2230 ⟨hc1, hs1⟩) hS (fun q _ h => hFc q h) hFc (fun r9 u t H locs ht hvm hw hB hz1 hk1 hS => ?_)
  obtain ⟨hP, hD⟩ := wj_3 hP hD hk1 hFc ht hB
  rw [hw]
  obtain ⟨v2, ev2, hf⟩ := wb_v hf
  refine wb_topi ev2 ?_
  refine lv_istore (lv' := [(5, .int v2), (0, .ref b), (1, .ref (a0 0)), (2, .ref (a1 0)), (3, .ref b2), (4, .int y4)]) hx hb dL_law_2233 hl (by decide) rfl (fun ls hl => ?_)
  refine lv_aload_n hx hb dL_law_2235 rfl (lv_at hl 3 rfl) ?_
  refine lv_aload_n hx hb dL_law_2236 rfl (lv_at hl 1 rfl) ?_
  refine lv_iload hx hb dL_law_2237 (lv_at hl 5 rfl) ?_
  refine lv_iconst (v := (1 : Int32)) hx hb dL_law_2239 (by decide) ?_
  refine lv_iadd hx hb dL_law_2240 ?_
  obtain ⟨hin, hf⟩ := wb_n hf
  refine va_sld hx hb hXs hbl hbA hS hin dL_law_2241 ?_
  refine lv_aload_n hx hb dL_law_2242 rfl (lv_at hl 1 rfl) ?_
  refine lv_iload hx hb dL_law_2243 (lv_at hl 5 rfl) ?_
  refine lv_iconst (v := (2 : Int32)) hx hb dL_law_2245 (by decide) ?_
  refine lv_iadd hx hb dL_law_2246 ?_
  obtain ⟨hin, hf⟩ := wb_n hf
  refine va_sld hx hb hXs hbl hbA hS hin dL_law_2247 ?_
  obtain ⟨r3, hr3, hf⟩ := wb_b hf
  have hPc := wj_P2 hP
  have hDc := wj_D2 hD
  have hFc := wj_F hDc hS hA
  refine va_calli (va_runV (As := [.int (xs ((y4 + (1 : Int32))).toNatClampNeg), .int (xs ((y4 + (2 : Int32))).toNatClampNeg)]) (rest := []) ⟨hx, hb, hml, hown, hts⟩ (cn_X12_slips l D cB cI cZ N a1 I1 L1 M1 (xs ((y4 + (1 : Int32))).toNatClampNeg) (xs ((y4 + (2 : Int32))).toNatClampNeg) H.size r3 hr3) (cwV 2 hts gyL_law_X12_slips rfl rfl rfl cdX12_slips ⟨Nat.le_of_ble_eq_true rfl, Nat.le_of_ble_eq_true rfl⟩) (wb_preDV hPc hK3 hDc (va_recv hK hP (ci := 12) (q0 := 52) rfl rfl)) rfl rfl hl.1 rfl (lv_room (Nat.le_of_ble_eq_true rfl)) dL_law_2248 ⟨hc1, hs1⟩) hS (fun q _ h => hFc q h) hFc (fun r9 u t H locs ht hvm hw hB hz1 hk1 hS => ?_)
  obtain ⟨hP, hD⟩ := wj_2 hP hD hk1 hFc ht hB
  rw [hw]
  obtain ⟨v4, ev4, hf⟩ := wb_v hf
  refine wb_topi ev4 ?_
  refine lv_istore (lv' := [(6, .int v4), (5, .int v2), (0, .ref b), (1, .ref (a0 0)), (2, .ref (a1 0)), (3, .ref b2), (4, .int y4)]) hx hb dL_law_2251 hl (by decide) rfl (fun ls hl => ?_)
  refine lv_aload_n hx hb dL_law_2253 rfl (lv_at hl 4 rfl) ?_
  obtain ⟨r5, hr5, hf⟩ := wb_b hf
  refine vp_callSi (W.runV (As := []) (rest := []) ⟨hx, hb, hml, hown, hts⟩ (cn_X12_thrown l D cB cI cZ N a1 r3.2.1 r3.2.2.1 r3.2.2.2 r5 hr5) (cwV 0 hts gyL_law_X12_thrown rfl rfl rfl cdX12_thrown ⟨Nat.le_of_ble_eq_true rfl, Nat.le_of_ble_eq_true rfl⟩) (wb_preV (hP.sub (ws' := (wWX12 cB cI cZ a1 r3.2.1 r3.2.2.1 r3.2.2.2)) [52, 53, 54, 55, 56, 57, 58, 59, 60, 61, 62, 63, 64, 65, 66, 67, 68, 69, 70, 71, 72, 73, 74, 75, 76, 77, 78, 79, 80, 81, 82, 83, 84, 85, 86, 87, 88, 89] rfl) hK3 (va_recv hK hP (ci := 12) (q0 := 52) rfl rfl)) rfl rfl hl.1 rfl (lv_room (Nat.le_of_ble_eq_true rfl)) dL_law_2254 ⟨hc1, hs1⟩) (fun r9 e9 => ?_)
  rw [e9]
  refine lv_iload hx hb dL_law_2257 (lv_at hl 1 rfl) ?_
  refine lv_icmp_eq (tgt := 2264) hx hb dL_law_2259 (by decide) (fun hc => ?_) (fun hc => ?_)
  · replace hf := wb_t hc hf
    refine lv_iload hx hb dL_law_2264 (lv_at hl 1 rfl) ?_
    refine lv_if_ne (tgt := 2281) hx hb dL_law_2266 (by decide) (fun hc => ?_) (fun hc => ?_)
    · replace hf := wb_f hc hf
      refine lv_goto (tgt := 3022) hx hb dL_law_2281 (by decide) ?_
      refine W.widen (k := c0 + 1) (n := s0 + 6) (Nat.le_refl _) (Nat.le_refl _) ?_
      have h9 := Option.some.inj hf
      exact kk H locs ls (by rw [← h9]; exact hP) (by rw [← h9]; exact hD) hS (lv_sub hl [2, 3, 4, 5, 6] rfl)
    · replace hf := wb_t hc hf
      refine lv_aload_n hx hb dL_law_2269 rfl (lv_at hl 5 rfl) ?_
      refine lv_iconst (v := (0 : Int32)) hx hb dL_law_2270 (by decide) ?_
      refine va_lald hx hb hK hP 90 3 rfl rfl (show ¬ ((0 : Int32) < 0 ∨ 1 ≤ (0 : Int32).toNatClampNeg) from by decide) dL_law_2271 ?_
      refine lv_iload hx hb dL_law_2272 (lv_at hl 0 rfl) ?_
      refine lv_i2l hx hb dL_law_2274 rfl ?_
      refine W.lcmp hx hb dL_law_2275 ?_
      refine lv_if_eq (tgt := 2281) hx hb dL_law_2276 (by decide) (fun hc => ?_) (fun hc => ?_)
      · replace hf := wb_t hc hf
        refine lv_goto (tgt := 3022) hx hb dL_law_2281 (by decide) ?_
        refine W.widen (k := c0 + 1) (n := s0 + 6) (Nat.le_refl _) (Nat.le_refl _) ?_
        have h9 := Option.some.inj hf
        exact kk H locs ls (by rw [← h9]; exact hP) (by rw [← h9]; exact hD) hS (lv_sub hl [2, 3, 4, 5, 6] rfl)
      · replace hf := wb_f hc hf
        refine lv_iconst (v := (0 : Int32)) hx hb dL_law_2279 (by decide) ?_
        exact absurd hf (fun h => nomatch h)
  · replace hf := wb_f hc hf
    refine lv_iconst (v := (0 : Int32)) hx hb dL_law_2262 (by decide) ?_
    exact absurd hf (fun h => nomatch h)

set_option maxHeartbeats 4000000 in
set_option maxRecDepth 100000 in
theorem law_case29 {p : Program} {e : Env} {s : State} {m : MethodId} {below : List Frame} {meth : Method} {c : Code} (l : Launch) (hlt : l.stackTraces = false) (D : va_G) (cB cI cZ cJ : ClassId) (N : Nat) {b L : Nat} {xs : Nat → Int32} (C0 : lw_At p s m meth c b L xs) (hX0 : wb_XH s.heap s) (hNc : va_Nc wb_E2 wb_E1 s) (a0 a1 : Nat → Nat) (b2 : Nat) (I0 : Nat → Int32) (M0 : Nat → Nat → Int32) (I1 : Nat → Int32) (L1 : Int64) (M1 : Nat → Nat → Int32) (o2 : Nat → Int64) (y4 : Int32) (c0 s0 : Nat) (hc1 : c0 + 1 ≤ room_1.cells) (hs1 : s0 + 6 ≤ room_1.slots) (H : Heap) (locs : List Loc) (hK : va_K D vwCl [(cB, .byte), (cI, .int), (cZ, .boolean), (cJ, .long)] s) (hP : va_P D vwCl ((wWX11 cB cI cZ a0 I0 M0) ++ ((wWX12 cB cI cZ a1 I1 L1 M1) ++ [(b2, .inl (cJ, 1, .inr (.inl o2)))])) H) (hD : va_D (fun q : Nat => s.heap.size ≤ q) ((wWX11 cB cI cZ a0 I0 M0) ++ ((wWX12 cB cI cZ a1 I1 L1 M1) ++ [(b2, .inl (cJ, 1, .inr (.inl o2)))]))) (hS : va_S (fun q : Nat => s.heap.size ≤ q) s.heap H locs) (ls : Array Slot) (hl : lv_has ls 7 [(0, .ref b), (1, .ref (a0 0)), (2, .ref (a1 0)), (3, .ref b2), (4, .int y4)]) (R : (Nat → Int32) × (Nat → Nat → Int32) × (Nat → Int32) × Int64 × (Nat → Nat → Int32) × (Nat → Int64)) (hf : fL_case29 N L xs I0 M0 I1 L1 M1 o2 y4 = some R)
    (kk : ∀ (H : Heap) (locs : List Loc) (ls : Array Slot), va_P D vwCl ((wWX11 cB cI cZ a0 R.1 R.2.1) ++ ((wWX12 cB cI cZ a1 R.2.2.1 R.2.2.2.1 R.2.2.2.2.1) ++ [(b2, .inl (cJ, 1, .inr (.inl R.2.2.2.2.2)))])) H → va_D (fun q : Nat => s.heap.size ≤ q) ((wWX11 cB cI cZ a0 R.1 R.2.1) ++ ((wWX12 cB cI cZ a1 R.2.2.1 R.2.2.2.1 R.2.2.2.2.1) ++ [(b2, .inl (cJ, 1, .inr (.inl R.2.2.2.2.2)))])) → va_S (fun q : Nat => s.heap.size ≤ q) s.heap H locs → lv_has ls 7 [(0, .ref b), (1, .ref (a0 0)), (2, .ref (a1 0)), (3, .ref b2), (4, .int y4)] → W p l e room_1 s m #[Value.ref b] below meth c H locs (c0 + 1) (s0 + 6) (lw_Z below #[Value.ref b] s) (F0 m 3022 ls [])) : W p l e room_1 s m #[Value.ref b] below meth c H locs c0 s0 (lw_Z below #[Value.ref b] s) (F0 m 2284 ls []) := by
  obtain ⟨hx, hb, hr, hml, hown, hts0, hXs, hbl, hlocks, hgv⟩ := id C0
  have hown : s.vm.findClass RL = some m.cls := hown
  have hb : c.code = cL_law := hb
  have hts : ∀ w ∈ wyL_law, w.before #[Value.ref b] s = true := fun w h => hts0 w (wl_law w h)
  have hA : ∀ q : Nat, s.heap.size ≤ q → (fun q : Nat => s.heap.size ≤ q) q := fun _ h => h
  have hbA : ¬ (fun q : Nat => s.heap.size ≤ q) b := Nat.not_le.mpr hbl
  have hK3 : va_K D vwCl [(cB, .byte), (cI, .int), (cZ, .boolean)] s := hK.sub [0, 1, 2] rfl
  have hc0 : c0 ≤ room_1.cells := Nat.le_of_succ_le hc1
  have hs0 : s0 ≤ room_1.slots := Nat.le_trans (Nat.le_add_right _ 6) hs1
  unfold fL_case29 at hf
  refine lv_aload_n hx hb dL_law_2284 rfl (lv_at hl 1 rfl) ?_
  refine lv_aload_n hx hb dL_law_2285 rfl (lv_at hl 0 rfl) ?_
  refine lv_iload hx hb dL_law_2286 (lv_at hl 4 rfl) ?_
  refine lv_iconst (v := (1 : Int32)) hx hb dL_law_2288 (by decide) ?_
  refine lv_iadd hx hb dL_law_2289 ?_
  obtain ⟨hin, hf⟩ := wb_n hf
  refine va_sld hx hb hXs hbl hbA hS hin dL_law_2290 ?_
  refine lv_aload_n hx hb dL_law_2291 rfl (lv_at hl 0 rfl) ?_
  refine lv_iload hx hb dL_law_2292 (lv_at hl 4 rfl) ?_
  refine lv_iconst (v := (2 : Int32)) hx hb dL_law_2294 (by decide) ?_
  refine lv_iadd hx hb dL_law_2295 ?_
  obtain ⟨hin, hf⟩ := wb_n hf
  refine va_sld hx hb hXs hbl hbA hS hin dL_law_2296 ?_
  refine lv_aload_n hx hb dL_law_2297 rfl (lv_at hl 0 rfl) ?_
  refine lv_iload hx hb dL_law_2298 (lv_at hl 4 rfl) ?_
  refine lv_iconst (v := (3 : Int32)) hx hb dL_law_2300 (by decide) ?_
  refine lv_iadd hx hb dL_law_2301 ?_
  obtain ⟨hin, hf⟩ := wb_n hf
  refine va_sld hx hb hXs hbl hbA hS hin dL_law_2302 ?_
  refine lv_aload_n hx hb dL_law_2303 rfl (lv_at hl 3 rfl) ?_
  obtain ⟨r1, hr1, hf⟩ := wb_b hf
  have hPc := wj_P3 hP
  have hDc := wj_D3 hD
  have hFc := wj_F hDc hS hA
  refine va_calli (vx_runSW (As := [.ref (a0 0), .int (xs ((y4 + (1 : Int32))).toNatClampNeg), .int (xs ((y4 + (2 : Int32))).toNatClampNeg), .int (xs ((y4 + (3 : Int32))).toNatClampNeg), .ref b2]) (rest := []) ⟨hx, hb, hml, hown, hts⟩ (cn_L_handed l hlt D cB cI cZ cJ N a0 I0 M0 (xs ((y4 + (1 : Int32))).toNatClampNeg) (xs ((y4 + (2 : Int32))).toNatClampNeg) (xs ((y4 + (3 : Int32))).toNatClampNeg) b2 o2 H.size r1 hr1) (vx_cwSW 5 hts gyL_law_L_handed rfl rfl rfl csL_handed ⟨Nat.le_of_ble_eq_true rfl, Nat.le_of_ble_eq_true rfl⟩) (wb_preLS hPc hK hDc (hX0.kept hS) hNc) rfl rfl hl.1 rfl (lv_room (Nat.le_of_ble_eq_true rfl)) dL_law_2304 ⟨hc1, hs1⟩) hS (fun q _ h => hFc q h) hFc (fun r9 u t H locs ht hvm hw hB hz1 hk1 hS => ?_)
  obtain ⟨hP, hD⟩ := wj_3 hP hD hk1 hFc ht hB
  rw [hw]
  obtain ⟨v2, ev2, hf⟩ := wb_v hf
  refine wb_topi ev2 ?_
  refine lv_istore (lv' := [(5, .int v2), (0, .ref b), (1, .ref (a0 0)), (2, .ref (a1 0)), (3, .ref b2), (4, .int y4)]) hx hb dL_law_2307 hl (by decide) rfl (fun ls hl => ?_)
  refine lv_aload_n hx hb dL_law_2309 rfl (lv_at hl 3 rfl) ?_
  refine lv_aload_n hx hb dL_law_2310 rfl (lv_at hl 1 rfl) ?_
  refine lv_iload hx hb dL_law_2311 (lv_at hl 5 rfl) ?_
  refine lv_iconst (v := (1 : Int32)) hx hb dL_law_2313 (by decide) ?_
  refine lv_iadd hx hb dL_law_2314 ?_
  obtain ⟨hin, hf⟩ := wb_n hf
  refine va_sld hx hb hXs hbl hbA hS hin dL_law_2315 ?_
  refine lv_aload_n hx hb dL_law_2316 rfl (lv_at hl 1 rfl) ?_
  refine lv_iload hx hb dL_law_2317 (lv_at hl 5 rfl) ?_
  refine lv_iconst (v := (2 : Int32)) hx hb dL_law_2319 (by decide) ?_
  refine lv_iadd hx hb dL_law_2320 ?_
  obtain ⟨hin, hf⟩ := wb_n hf
  refine va_sld hx hb hXs hbl hbA hS hin dL_law_2321 ?_
  refine lv_aload_n hx hb dL_law_2322 rfl (lv_at hl 1 rfl) ?_
  refine lv_iload hx hb dL_law_2323 (lv_at hl 5 rfl) ?_
  refine lv_iconst (v := (3 : Int32)) hx hb dL_law_2325 (by decide) ?_
  refine lv_iadd hx hb dL_law_2326 ?_
  obtain ⟨hin, hf⟩ := wb_n hf
  refine va_sld hx hb hXs hbl hbA hS hin dL_law_2327 ?_
  obtain ⟨r3, hr3, hf⟩ := wb_b hf
  have hPc := wj_P2 hP
  have hDc := wj_D2 hD
  have hFc := wj_F hDc hS hA
  refine va_calli (va_runV (As := [.int (xs ((y4 + (1 : Int32))).toNatClampNeg), .int (xs ((y4 + (2 : Int32))).toNatClampNeg), .int (xs ((y4 + (3 : Int32))).toNatClampNeg)]) (rest := []) ⟨hx, hb, hml, hown, hts⟩ (cn_X12_handed l D cB cI cZ N a1 I1 L1 M1 (xs ((y4 + (1 : Int32))).toNatClampNeg) (xs ((y4 + (2 : Int32))).toNatClampNeg) (xs ((y4 + (3 : Int32))).toNatClampNeg) H.size r3 hr3) (cwV 3 hts gyL_law_X12_handed rfl rfl rfl cdX12_handed ⟨Nat.le_of_ble_eq_true rfl, Nat.le_of_ble_eq_true rfl⟩) (wb_preDV hPc hK3 hDc (va_recv hK hP (ci := 12) (q0 := 52) rfl rfl)) rfl rfl hl.1 rfl (lv_room (Nat.le_of_ble_eq_true rfl)) dL_law_2328 ⟨hc1, hs1⟩) hS (fun q _ h => hFc q h) hFc (fun r9 u t H locs ht hvm hw hB hz1 hk1 hS => ?_)
  obtain ⟨hP, hD⟩ := wj_2 hP hD hk1 hFc ht hB
  rw [hw]
  obtain ⟨v4, ev4, hf⟩ := wb_v hf
  refine wb_topi ev4 ?_
  refine lv_istore (lv' := [(6, .int v4), (5, .int v2), (0, .ref b), (1, .ref (a0 0)), (2, .ref (a1 0)), (3, .ref b2), (4, .int y4)]) hx hb dL_law_2331 hl (by decide) rfl (fun ls hl => ?_)
  refine lv_aload_n hx hb dL_law_2333 rfl (lv_at hl 4 rfl) ?_
  obtain ⟨r5, hr5, hf⟩ := wb_b hf
  refine vp_callSi (W.runV (As := []) (rest := []) ⟨hx, hb, hml, hown, hts⟩ (cn_X12_thrown l D cB cI cZ N a1 r3.2.1 r3.2.2.1 r3.2.2.2 r5 hr5) (cwV 0 hts gyL_law_X12_thrown rfl rfl rfl cdX12_thrown ⟨Nat.le_of_ble_eq_true rfl, Nat.le_of_ble_eq_true rfl⟩) (wb_preV (hP.sub (ws' := (wWX12 cB cI cZ a1 r3.2.1 r3.2.2.1 r3.2.2.2)) [52, 53, 54, 55, 56, 57, 58, 59, 60, 61, 62, 63, 64, 65, 66, 67, 68, 69, 70, 71, 72, 73, 74, 75, 76, 77, 78, 79, 80, 81, 82, 83, 84, 85, 86, 87, 88, 89] rfl) hK3 (va_recv hK hP (ci := 12) (q0 := 52) rfl rfl)) rfl rfl hl.1 rfl (lv_room (Nat.le_of_ble_eq_true rfl)) dL_law_2334 ⟨hc1, hs1⟩) (fun r9 e9 => ?_)
  rw [e9]
  refine lv_iload hx hb dL_law_2337 (lv_at hl 1 rfl) ?_
  refine lv_icmp_eq (tgt := 2344) hx hb dL_law_2339 (by decide) (fun hc => ?_) (fun hc => ?_)
  · replace hf := wb_t hc hf
    refine lv_iload hx hb dL_law_2344 (lv_at hl 1 rfl) ?_
    refine lv_if_ne (tgt := 2361) hx hb dL_law_2346 (by decide) (fun hc => ?_) (fun hc => ?_)
    · replace hf := wb_f hc hf
      refine lv_goto (tgt := 3022) hx hb dL_law_2361 (by decide) ?_
      refine W.widen (k := c0 + 1) (n := s0 + 6) (Nat.le_refl _) (Nat.le_refl _) ?_
      have h9 := Option.some.inj hf
      exact kk H locs ls (by rw [← h9]; exact hP) (by rw [← h9]; exact hD) hS (lv_sub hl [2, 3, 4, 5, 6] rfl)
    · replace hf := wb_t hc hf
      refine lv_aload_n hx hb dL_law_2349 rfl (lv_at hl 5 rfl) ?_
      refine lv_iconst (v := (0 : Int32)) hx hb dL_law_2350 (by decide) ?_
      refine va_lald hx hb hK hP 90 3 rfl rfl (show ¬ ((0 : Int32) < 0 ∨ 1 ≤ (0 : Int32).toNatClampNeg) from by decide) dL_law_2351 ?_
      refine lv_iload hx hb dL_law_2352 (lv_at hl 0 rfl) ?_
      refine lv_i2l hx hb dL_law_2354 rfl ?_
      refine W.lcmp hx hb dL_law_2355 ?_
      refine lv_if_eq (tgt := 2361) hx hb dL_law_2356 (by decide) (fun hc => ?_) (fun hc => ?_)
      · replace hf := wb_t hc hf
        refine lv_goto (tgt := 3022) hx hb dL_law_2361 (by decide) ?_
        refine W.widen (k := c0 + 1) (n := s0 + 6) (Nat.le_refl _) (Nat.le_refl _) ?_
        have h9 := Option.some.inj hf
        exact kk H locs ls (by rw [← h9]; exact hP) (by rw [← h9]; exact hD) hS (lv_sub hl [2, 3, 4, 5, 6] rfl)
      · replace hf := wb_f hc hf
        refine lv_iconst (v := (0 : Int32)) hx hb dL_law_2359 (by decide) ?_
        exact absurd hf (fun h => nomatch h)
  · replace hf := wb_f hc hf
    refine lv_iconst (v := (0 : Int32)) hx hb dL_law_2342 (by decide) ?_
    exact absurd hf (fun h => nomatch h)
