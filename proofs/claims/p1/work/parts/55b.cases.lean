set_option maxHeartbeats 4000000 in
set_option maxRecDepth 100000 in
theorem law_case10 {p : Program} {e : Env} {s : State} {m : MethodId} {below : List Frame} {meth : Method} {c : Code} (l : Launch) (hlt : l.stackTraces = false) (D : va_G) (cB cI cZ cJ : ClassId) (N : Nat) {b L : Nat} {xs : Nat → Int32} (C0 : lw_At p s m meth c b L xs) (hX0 : wb_XH s.heap s) (hNc : va_Nc wb_E2 wb_E1 s) (a0 a1 : Nat → Nat) (b2 : Nat) (I0 : Nat → Int32) (M0 : Nat → Nat → Int32) (I1 : Nat → Int32) (L1 : Int64) (M1 : Nat → Nat → Int32) (o2 : Nat → Int64) (y4 : Int32) (c0 s0 : Nat) (hc1 : c0 + 1 ≤ room_1.cells) (hs1 : s0 + 6 ≤ room_1.slots) (H : Heap) (locs : List Loc) (hK : va_K D vwCl [(cB, .byte), (cI, .int), (cZ, .boolean), (cJ, .long)] s) (hP : va_P D vwCl ((wWX11 cB cI cZ a0 I0 M0) ++ ((wWX12 cB cI cZ a1 I1 L1 M1) ++ [(b2, .inl (cJ, 1, .inr (.inl o2)))])) H) (hD : va_D (fun q : Nat => s.heap.size ≤ q) ((wWX11 cB cI cZ a0 I0 M0) ++ ((wWX12 cB cI cZ a1 I1 L1 M1) ++ [(b2, .inl (cJ, 1, .inr (.inl o2)))]))) (hS : va_S (fun q : Nat => s.heap.size ≤ q) s.heap H locs) (ls : Array Slot) (hl : lv_has ls 7 [(0, .ref b), (1, .ref (a0 0)), (2, .ref (a1 0)), (3, .ref b2), (4, .int y4)]) (R : (Nat → Int32) × (Nat → Nat → Int32) × (Nat → Int32) × Int64 × (Nat → Nat → Int32) × (Nat → Int64)) (hf : fL_case10 N L xs I0 M0 I1 L1 M1 o2 y4 = some R)
    (kk : ∀ (H : Heap) (locs : List Loc) (ls : Array Slot), va_P D vwCl ((wWX11 cB cI cZ a0 R.1 R.2.1) ++ ((wWX12 cB cI cZ a1 R.2.2.1 R.2.2.2.1 R.2.2.2.2.1) ++ [(b2, .inl (cJ, 1, .inr (.inl R.2.2.2.2.2)))])) H → va_D (fun q : Nat => s.heap.size ≤ q) ((wWX11 cB cI cZ a0 R.1 R.2.1) ++ ((wWX12 cB cI cZ a1 R.2.2.1 R.2.2.2.1 R.2.2.2.2.1) ++ [(b2, .inl (cJ, 1, .inr (.inl R.2.2.2.2.2)))])) → va_S (fun q : Nat => s.heap.size ≤ q) s.heap H locs → lv_has ls 7 [(0, .ref b), (1, .ref (a0 0)), (2, .ref (a1 0)), (3, .ref b2), (4, .int y4)] → W p l e room_1 s m #[Value.ref b] below meth c H locs (c0 + 1) (s0 + 6) (lw_Z below #[Value.ref b] s) (F0 m 3022 ls [])) : W p l e room_1 s m #[Value.ref b] below meth c H locs c0 s0 (lw_Z below #[Value.ref b] s) (F0 m 906 ls []) := by
  obtain ⟨hx, hb, hr, hml, hown, hts0, hXs, hbl, hlocks, hgv⟩ := id C0
  have hown : s.vm.findClass RL = some m.cls := hown
  have hb : c.code = cL_law := hb
  have hts : ∀ w ∈ wyL_law, w.before #[Value.ref b] s = true := fun w h => hts0 w (wl_law w h)
  have hA : ∀ q : Nat, s.heap.size ≤ q → (fun q : Nat => s.heap.size ≤ q) q := fun _ h => h
  have hbA : ¬ (fun q : Nat => s.heap.size ≤ q) b := Nat.not_le.mpr hbl
  have hK3 : va_K D vwCl [(cB, .byte), (cI, .int), (cZ, .boolean)] s := hK.sub [0, 1, 2] rfl
  have hc0 : c0 ≤ room_1.cells := Nat.le_of_succ_le hc1
  have hs0 : s0 ≤ room_1.slots := Nat.le_trans (Nat.le_add_right _ 6) hs1
  unfold fL_case10 at hf
  refine lv_aload_n hx hb dL_law_906 rfl (lv_at hl 1 rfl) ?_
  refine lv_aload_n hx hb dL_law_907 rfl (lv_at hl 0 rfl) ?_
  refine lv_iload hx hb dL_law_908 (lv_at hl 4 rfl) ?_
  refine lv_iconst (v := (1 : Int32)) hx hb dL_law_910 (by decide) ?_
  refine lv_iadd hx hb dL_law_911 ?_
  obtain ⟨hin, hf⟩ := wb_n hf
  refine va_sld hx hb hXs hbl hbA hS hin dL_law_912 ?_
  refine lv_aload_n hx hb dL_law_913 rfl (lv_at hl 0 rfl) ?_
  refine lv_iload hx hb dL_law_914 (lv_at hl 4 rfl) ?_
  refine lv_iconst (v := (2 : Int32)) hx hb dL_law_916 (by decide) ?_
  refine lv_iadd hx hb dL_law_917 ?_
  obtain ⟨hin, hf⟩ := wb_n hf
  refine va_sld hx hb hXs hbl hbA hS hin dL_law_918 ?_
  refine lv_aload_n hx hb dL_law_919 rfl (lv_at hl 0 rfl) ?_
  refine lv_iload hx hb dL_law_920 (lv_at hl 4 rfl) ?_
  refine lv_iconst (v := (3 : Int32)) hx hb dL_law_922 (by decide) ?_
  refine lv_iadd hx hb dL_law_923 ?_
  obtain ⟨hin, hf⟩ := wb_n hf
  refine va_sld hx hb hXs hbl hbA hS hin dL_law_924 ?_
  refine lv_aload_n hx hb dL_law_925 rfl (lv_at hl 0 rfl) ?_
  refine lv_iload hx hb dL_law_926 (lv_at hl 4 rfl) ?_
  refine lv_iconst (v := (4 : Int32)) hx hb dL_law_928 (by decide) ?_
  refine lv_iadd hx hb dL_law_929 ?_
  obtain ⟨hin, hf⟩ := wb_n hf
  refine va_sld hx hb hXs hbl hbA hS hin dL_law_930 ?_
  refine lv_aload_n hx hb dL_law_931 rfl (lv_at hl 0 rfl) ?_
  refine lv_iload hx hb dL_law_932 (lv_at hl 4 rfl) ?_
  refine lv_iconst (v := (5 : Int32)) hx hb dL_law_934 (by decide) ?_
  refine lv_iadd hx hb dL_law_935 ?_
  obtain ⟨hin, hf⟩ := wb_n hf
  refine va_sld hx hb hXs hbl hbA hS hin dL_law_936 ?_
  refine lv_aload_n hx hb dL_law_937 rfl (lv_at hl 3 rfl) ?_
  obtain ⟨r1, hr1, hf⟩ := wb_b hf
  have hPc := wj_P3 hP
  have hDc := wj_D3 hD
  have hFc := wj_F hDc hS hA
  refine va_calli (vx_runSW (As := [.ref (a0 0), .int (xs ((y4 + (1 : Int32))).toNatClampNeg), .int (xs ((y4 + (2 : Int32))).toNatClampNeg), .int (xs ((y4 + (3 : Int32))).toNatClampNeg), .int (xs ((y4 + (4 : Int32))).toNatClampNeg), .int (xs ((y4 + (5 : Int32))).toNatClampNeg), .ref b2]) (rest := []) ⟨hx, hb, hml, hown, hts⟩ (cn_L_whose l hlt D cB cI cZ cJ N a0 I0 M0 (xs ((y4 + (1 : Int32))).toNatClampNeg) (xs ((y4 + (2 : Int32))).toNatClampNeg) (xs ((y4 + (3 : Int32))).toNatClampNeg) (xs ((y4 + (4 : Int32))).toNatClampNeg) (xs ((y4 + (5 : Int32))).toNatClampNeg) b2 o2 H.size r1 hr1) (vx_cwSW 7 hts gyL_law_L_whose rfl rfl rfl csL_whose ⟨Nat.le_of_ble_eq_true rfl, Nat.le_of_ble_eq_true rfl⟩) (wb_preLS hPc hK hDc (hX0.kept hS) hNc) rfl rfl hl.1 rfl (lv_room (Nat.le_of_ble_eq_true rfl)) dL_law_938 ⟨hc1, hs1⟩) hS (fun q _ h => hFc q h) hFc (fun r9 u t H locs ht hvm hw hB hz1 hk1 hS => ?_)
  obtain ⟨hP, hD⟩ := wj_3 hP hD hk1 hFc ht hB
  rw [hw]
  obtain ⟨v2, ev2, hf⟩ := wb_v hf
  refine wb_topi ev2 ?_
  refine lv_istore (lv' := [(5, .int v2), (0, .ref b), (1, .ref (a0 0)), (2, .ref (a1 0)), (3, .ref b2), (4, .int y4)]) hx hb dL_law_941 hl (by decide) rfl (fun ls hl => ?_)
  refine lv_aload_n hx hb dL_law_943 rfl (lv_at hl 3 rfl) ?_
  refine lv_aload_n hx hb dL_law_944 rfl (lv_at hl 1 rfl) ?_
  refine lv_iload hx hb dL_law_945 (lv_at hl 5 rfl) ?_
  refine lv_iconst (v := (1 : Int32)) hx hb dL_law_947 (by decide) ?_
  refine lv_iadd hx hb dL_law_948 ?_
  obtain ⟨hin, hf⟩ := wb_n hf
  refine va_sld hx hb hXs hbl hbA hS hin dL_law_949 ?_
  refine lv_aload_n hx hb dL_law_950 rfl (lv_at hl 1 rfl) ?_
  refine lv_iload hx hb dL_law_951 (lv_at hl 5 rfl) ?_
  refine lv_iconst (v := (2 : Int32)) hx hb dL_law_953 (by decide) ?_
  refine lv_iadd hx hb dL_law_954 ?_
  obtain ⟨hin, hf⟩ := wb_n hf
  refine va_sld hx hb hXs hbl hbA hS hin dL_law_955 ?_
  refine lv_aload_n hx hb dL_law_956 rfl (lv_at hl 1 rfl) ?_
  refine lv_iload hx hb dL_law_957 (lv_at hl 5 rfl) ?_
  refine lv_iconst (v := (3 : Int32)) hx hb dL_law_959 (by decide) ?_
  refine lv_iadd hx hb dL_law_960 ?_
  obtain ⟨hin, hf⟩ := wb_n hf
  refine va_sld hx hb hXs hbl hbA hS hin dL_law_961 ?_
  refine lv_aload_n hx hb dL_law_962 rfl (lv_at hl 1 rfl) ?_
  refine lv_iload hx hb dL_law_963 (lv_at hl 5 rfl) ?_
  refine lv_iconst (v := (4 : Int32)) hx hb dL_law_965 (by decide) ?_
  refine lv_iadd hx hb dL_law_966 ?_
  obtain ⟨hin, hf⟩ := wb_n hf
  refine va_sld hx hb hXs hbl hbA hS hin dL_law_967 ?_
  refine lv_aload_n hx hb dL_law_968 rfl (lv_at hl 1 rfl) ?_
  refine lv_iload hx hb dL_law_969 (lv_at hl 5 rfl) ?_
  refine lv_iconst (v := (5 : Int32)) hx hb dL_law_971 (by decide) ?_
  refine lv_iadd hx hb dL_law_972 ?_
  obtain ⟨hin, hf⟩ := wb_n hf
  refine va_sld hx hb hXs hbl hbA hS hin dL_law_973 ?_
  obtain ⟨r3, hr3, hf⟩ := wb_b hf
  have hPc := wj_P2 hP
  have hDc := wj_D2 hD
  have hFc := wj_F hDc hS hA
  refine va_calli (va_runV (As := [.int (xs ((y4 + (1 : Int32))).toNatClampNeg), .int (xs ((y4 + (2 : Int32))).toNatClampNeg), .int (xs ((y4 + (3 : Int32))).toNatClampNeg), .int (xs ((y4 + (4 : Int32))).toNatClampNeg), .int (xs ((y4 + (5 : Int32))).toNatClampNeg)]) (rest := []) ⟨hx, hb, hml, hown, hts⟩ (cn_X12_whose l D cB cI cZ N a1 I1 L1 M1 (xs ((y4 + (1 : Int32))).toNatClampNeg) (xs ((y4 + (2 : Int32))).toNatClampNeg) (xs ((y4 + (3 : Int32))).toNatClampNeg) (xs ((y4 + (4 : Int32))).toNatClampNeg) (xs ((y4 + (5 : Int32))).toNatClampNeg) H.size r3 hr3) (cwV 5 hts gyL_law_X12_whose rfl rfl rfl cdX12_whose ⟨Nat.le_of_ble_eq_true rfl, Nat.le_of_ble_eq_true rfl⟩) (wb_preDV hPc hK3 hDc (va_recv hK hP (ci := 12) (q0 := 52) rfl rfl)) rfl rfl hl.1 rfl (lv_room (Nat.le_of_ble_eq_true rfl)) dL_law_974 ⟨hc1, hs1⟩) hS (fun q _ h => hFc q h) hFc (fun r9 u t H locs ht hvm hw hB hz1 hk1 hS => ?_)
  obtain ⟨hP, hD⟩ := wj_2 hP hD hk1 hFc ht hB
  rw [hw]
  obtain ⟨v4, ev4, hf⟩ := wb_v hf
  refine wb_topi ev4 ?_
  refine lv_istore (lv' := [(6, .int v4), (5, .int v2), (0, .ref b), (1, .ref (a0 0)), (2, .ref (a1 0)), (3, .ref b2), (4, .int y4)]) hx hb dL_law_977 hl (by decide) rfl (fun ls hl => ?_)
  refine lv_aload_n hx hb dL_law_979 rfl (lv_at hl 4 rfl) ?_
  obtain ⟨r5, hr5, hf⟩ := wb_b hf
  refine vp_callSi (W.runV (As := []) (rest := []) ⟨hx, hb, hml, hown, hts⟩ (cn_X12_thrown l D cB cI cZ N a1 r3.2.1 r3.2.2.1 r3.2.2.2 r5 hr5) (cwV 0 hts gyL_law_X12_thrown rfl rfl rfl cdX12_thrown ⟨Nat.le_of_ble_eq_true rfl, Nat.le_of_ble_eq_true rfl⟩) (wb_preV (hP.sub (ws' := (wWX12 cB cI cZ a1 r3.2.1 r3.2.2.1 r3.2.2.2)) [52, 53, 54, 55, 56, 57, 58, 59, 60, 61, 62, 63, 64, 65, 66, 67, 68, 69, 70, 71, 72, 73, 74, 75, 76, 77, 78, 79, 80, 81, 82, 83, 84, 85, 86, 87, 88, 89] rfl) hK3 (va_recv hK hP (ci := 12) (q0 := 52) rfl rfl)) rfl rfl hl.1 rfl (lv_room (Nat.le_of_ble_eq_true rfl)) dL_law_980 ⟨hc1, hs1⟩) (fun r9 e9 => ?_)
  rw [e9]
  refine lv_iload hx hb dL_law_983 (lv_at hl 1 rfl) ?_
  refine lv_icmp_eq (tgt := 990) hx hb dL_law_985 (by decide) (fun hc => ?_) (fun hc => ?_)
  · replace hf := wb_t hc hf
    refine lv_iload hx hb dL_law_990 (lv_at hl 1 rfl) ?_
    refine lv_if_ne (tgt := 1007) hx hb dL_law_992 (by decide) (fun hc => ?_) (fun hc => ?_)
    · replace hf := wb_f hc hf
      refine lv_goto (tgt := 3022) hx hb dL_law_1007 (by decide) ?_
      refine W.widen (k := c0 + 1) (n := s0 + 6) (Nat.le_refl _) (Nat.le_refl _) ?_
      have h9 := Option.some.inj hf
      exact kk H locs ls (by rw [← h9]; exact hP) (by rw [← h9]; exact hD) hS (lv_sub hl [2, 3, 4, 5, 6] rfl)
    · replace hf := wb_t hc hf
      refine lv_aload_n hx hb dL_law_995 rfl (lv_at hl 5 rfl) ?_
      refine lv_iconst (v := (0 : Int32)) hx hb dL_law_996 (by decide) ?_
      refine va_lald hx hb hK hP 90 3 rfl rfl (show ¬ ((0 : Int32) < 0 ∨ 1 ≤ (0 : Int32).toNatClampNeg) from by decide) dL_law_997 ?_
      refine lv_iload hx hb dL_law_998 (lv_at hl 0 rfl) ?_
      refine lv_i2l hx hb dL_law_1000 rfl ?_
      refine W.lcmp hx hb dL_law_1001 ?_
      refine lv_if_eq (tgt := 1007) hx hb dL_law_1002 (by decide) (fun hc => ?_) (fun hc => ?_)
      · replace hf := wb_t hc hf
        refine lv_goto (tgt := 3022) hx hb dL_law_1007 (by decide) ?_
        refine W.widen (k := c0 + 1) (n := s0 + 6) (Nat.le_refl _) (Nat.le_refl _) ?_
        have h9 := Option.some.inj hf
        exact kk H locs ls (by rw [← h9]; exact hP) (by rw [← h9]; exact hD) hS (lv_sub hl [2, 3, 4, 5, 6] rfl)
      · replace hf := wb_f hc hf
        refine lv_iconst (v := (0 : Int32)) hx hb dL_law_1005 (by decide) ?_
        exact absurd hf (fun h => nomatch h)
  · replace hf := wb_f hc hf
    refine lv_iconst (v := (0 : Int32)) hx hb dL_law_988 (by decide) ?_
    exact absurd hf (fun h => nomatch h)

set_option maxHeartbeats 4000000 in
set_option maxRecDepth 100000 in
theorem law_case11 {p : Program} {e : Env} {s : State} {m : MethodId} {below : List Frame} {meth : Method} {c : Code} (l : Launch) (hlt : l.stackTraces = false) (D : va_G) (cB cI cZ cJ : ClassId) (N : Nat) {b L : Nat} {xs : Nat → Int32} (C0 : lw_At p s m meth c b L xs) (hX0 : wb_XH s.heap s) (hNc : va_Nc wb_E2 wb_E1 s) (a0 a1 : Nat → Nat) (b2 : Nat) (I0 : Nat → Int32) (M0 : Nat → Nat → Int32) (I1 : Nat → Int32) (L1 : Int64) (M1 : Nat → Nat → Int32) (o2 : Nat → Int64) (y4 : Int32) (c0 s0 : Nat) (hc1 : c0 + 1 ≤ room_1.cells) (hs1 : s0 + 6 ≤ room_1.slots) (H : Heap) (locs : List Loc) (hK : va_K D vwCl [(cB, .byte), (cI, .int), (cZ, .boolean), (cJ, .long)] s) (hP : va_P D vwCl ((wWX11 cB cI cZ a0 I0 M0) ++ ((wWX12 cB cI cZ a1 I1 L1 M1) ++ [(b2, .inl (cJ, 1, .inr (.inl o2)))])) H) (hD : va_D (fun q : Nat => s.heap.size ≤ q) ((wWX11 cB cI cZ a0 I0 M0) ++ ((wWX12 cB cI cZ a1 I1 L1 M1) ++ [(b2, .inl (cJ, 1, .inr (.inl o2)))]))) (hS : va_S (fun q : Nat => s.heap.size ≤ q) s.heap H locs) (ls : Array Slot) (hl : lv_has ls 7 [(0, .ref b), (1, .ref (a0 0)), (2, .ref (a1 0)), (3, .ref b2), (4, .int y4)]) (R : (Nat → Int32) × (Nat → Nat → Int32) × (Nat → Int32) × Int64 × (Nat → Nat → Int32) × (Nat → Int64)) (hf : fL_case11 N L xs I0 M0 I1 L1 M1 o2 y4 = some R)
    (kk : ∀ (H : Heap) (locs : List Loc) (ls : Array Slot), va_P D vwCl ((wWX11 cB cI cZ a0 R.1 R.2.1) ++ ((wWX12 cB cI cZ a1 R.2.2.1 R.2.2.2.1 R.2.2.2.2.1) ++ [(b2, .inl (cJ, 1, .inr (.inl R.2.2.2.2.2)))])) H → va_D (fun q : Nat => s.heap.size ≤ q) ((wWX11 cB cI cZ a0 R.1 R.2.1) ++ ((wWX12 cB cI cZ a1 R.2.2.1 R.2.2.2.1 R.2.2.2.2.1) ++ [(b2, .inl (cJ, 1, .inr (.inl R.2.2.2.2.2)))])) → va_S (fun q : Nat => s.heap.size ≤ q) s.heap H locs → lv_has ls 7 [(0, .ref b), (1, .ref (a0 0)), (2, .ref (a1 0)), (3, .ref b2), (4, .int y4)] → W p l e room_1 s m #[Value.ref b] below meth c H locs (c0 + 1) (s0 + 6) (lw_Z below #[Value.ref b] s) (F0 m 3022 ls [])) : W p l e room_1 s m #[Value.ref b] below meth c H locs c0 s0 (lw_Z below #[Value.ref b] s) (F0 m 1010 ls []) := by
  obtain ⟨hx, hb, hr, hml, hown, hts0, hXs, hbl, hlocks, hgv⟩ := id C0
  have hown : s.vm.findClass RL = some m.cls := hown
  have hb : c.code = cL_law := hb
  have hts : ∀ w ∈ wyL_law, w.before #[Value.ref b] s = true := fun w h => hts0 w (wl_law w h)
  have hA : ∀ q : Nat, s.heap.size ≤ q → (fun q : Nat => s.heap.size ≤ q) q := fun _ h => h
  have hbA : ¬ (fun q : Nat => s.heap.size ≤ q) b := Nat.not_le.mpr hbl
  have hK3 : va_K D vwCl [(cB, .byte), (cI, .int), (cZ, .boolean)] s := hK.sub [0, 1, 2] rfl
  have hc0 : c0 ≤ room_1.cells := Nat.le_of_succ_le hc1
  have hs0 : s0 ≤ room_1.slots := Nat.le_trans (Nat.le_add_right _ 6) hs1
  unfold fL_case11 at hf
  refine lv_aload_n hx hb dL_law_1010 rfl (lv_at hl 1 rfl) ?_
  refine lv_aload_n hx hb dL_law_1011 rfl (lv_at hl 0 rfl) ?_
  refine lv_iload hx hb dL_law_1012 (lv_at hl 4 rfl) ?_
  refine lv_iconst (v := (1 : Int32)) hx hb dL_law_1014 (by decide) ?_
  refine lv_iadd hx hb dL_law_1015 ?_
  obtain ⟨hin, hf⟩ := wb_n hf
  refine va_sld hx hb hXs hbl hbA hS hin dL_law_1016 ?_
  refine lv_aload_n hx hb dL_law_1017 rfl (lv_at hl 0 rfl) ?_
  refine lv_iload hx hb dL_law_1018 (lv_at hl 4 rfl) ?_
  refine lv_iconst (v := (2 : Int32)) hx hb dL_law_1020 (by decide) ?_
  refine lv_iadd hx hb dL_law_1021 ?_
  obtain ⟨hin, hf⟩ := wb_n hf
  refine va_sld hx hb hXs hbl hbA hS hin dL_law_1022 ?_
  refine lv_aload_n hx hb dL_law_1023 rfl (lv_at hl 0 rfl) ?_
  refine lv_iload hx hb dL_law_1024 (lv_at hl 4 rfl) ?_
  refine lv_iconst (v := (3 : Int32)) hx hb dL_law_1026 (by decide) ?_
  refine lv_iadd hx hb dL_law_1027 ?_
  obtain ⟨hin, hf⟩ := wb_n hf
  refine va_sld hx hb hXs hbl hbA hS hin dL_law_1028 ?_
  refine lv_aload_n hx hb dL_law_1029 rfl (lv_at hl 0 rfl) ?_
  refine lv_iload hx hb dL_law_1030 (lv_at hl 4 rfl) ?_
  refine lv_iconst (v := (4 : Int32)) hx hb dL_law_1032 (by decide) ?_
  refine lv_iadd hx hb dL_law_1033 ?_
  obtain ⟨hin, hf⟩ := wb_n hf
  refine va_sld hx hb hXs hbl hbA hS hin dL_law_1034 ?_
  refine lv_aload_n hx hb dL_law_1035 rfl (lv_at hl 3 rfl) ?_
  obtain ⟨r1, hr1, hf⟩ := wb_b hf
  have hPc := wj_P3 hP
  have hDc := wj_D3 hD
  have hFc := wj_F hDc hS hA
  refine va_calli (vx_runSW (As := [.ref (a0 0), .int (xs ((y4 + (1 : Int32))).toNatClampNeg), .int (xs ((y4 + (2 : Int32))).toNatClampNeg), .int (xs ((y4 + (3 : Int32))).toNatClampNeg), .int (xs ((y4 + (4 : Int32))).toNatClampNeg), .ref b2]) (rest := []) ⟨hx, hb, hml, hown, hts⟩ (cn_L_mixed l hlt D cB cI cZ cJ N a0 I0 M0 (xs ((y4 + (1 : Int32))).toNatClampNeg) (xs ((y4 + (2 : Int32))).toNatClampNeg) (xs ((y4 + (3 : Int32))).toNatClampNeg) (xs ((y4 + (4 : Int32))).toNatClampNeg) b2 o2 H.size r1 hr1) (vx_cwSW 6 hts gyL_law_L_mixed rfl rfl rfl csL_mixed ⟨Nat.le_of_ble_eq_true rfl, Nat.le_of_ble_eq_true rfl⟩) (wb_preLS hPc hK hDc (hX0.kept hS) hNc) rfl rfl hl.1 rfl (lv_room (Nat.le_of_ble_eq_true rfl)) dL_law_1036 ⟨hc1, hs1⟩) hS (fun q _ h => hFc q h) hFc (fun r9 u t H locs ht hvm hw hB hz1 hk1 hS => ?_)
  obtain ⟨hP, hD⟩ := wj_3 hP hD hk1 hFc ht hB
  rw [hw]
  obtain ⟨v2, ev2, hf⟩ := wb_v hf
  refine wb_topi ev2 ?_
  refine lv_istore (lv' := [(5, .int v2), (0, .ref b), (1, .ref (a0 0)), (2, .ref (a1 0)), (3, .ref b2), (4, .int y4)]) hx hb dL_law_1039 hl (by decide) rfl (fun ls hl => ?_)
  refine lv_aload_n hx hb dL_law_1041 rfl (lv_at hl 3 rfl) ?_
  refine lv_aload_n hx hb dL_law_1042 rfl (lv_at hl 1 rfl) ?_
  refine lv_iload hx hb dL_law_1043 (lv_at hl 5 rfl) ?_
  refine lv_iconst (v := (1 : Int32)) hx hb dL_law_1045 (by decide) ?_
  refine lv_iadd hx hb dL_law_1046 ?_
  obtain ⟨hin, hf⟩ := wb_n hf
  refine va_sld hx hb hXs hbl hbA hS hin dL_law_1047 ?_
  refine lv_aload_n hx hb dL_law_1048 rfl (lv_at hl 1 rfl) ?_
  refine lv_iload hx hb dL_law_1049 (lv_at hl 5 rfl) ?_
  refine lv_iconst (v := (2 : Int32)) hx hb dL_law_1051 (by decide) ?_
  refine lv_iadd hx hb dL_law_1052 ?_
  obtain ⟨hin, hf⟩ := wb_n hf
  refine va_sld hx hb hXs hbl hbA hS hin dL_law_1053 ?_
  refine lv_aload_n hx hb dL_law_1054 rfl (lv_at hl 1 rfl) ?_
  refine lv_iload hx hb dL_law_1055 (lv_at hl 5 rfl) ?_
  refine lv_iconst (v := (3 : Int32)) hx hb dL_law_1057 (by decide) ?_
  refine lv_iadd hx hb dL_law_1058 ?_
  obtain ⟨hin, hf⟩ := wb_n hf
  refine va_sld hx hb hXs hbl hbA hS hin dL_law_1059 ?_
  refine lv_aload_n hx hb dL_law_1060 rfl (lv_at hl 1 rfl) ?_
  refine lv_iload hx hb dL_law_1061 (lv_at hl 5 rfl) ?_
  refine lv_iconst (v := (4 : Int32)) hx hb dL_law_1063 (by decide) ?_
  refine lv_iadd hx hb dL_law_1064 ?_
  obtain ⟨hin, hf⟩ := wb_n hf
  refine va_sld hx hb hXs hbl hbA hS hin dL_law_1065 ?_
  obtain ⟨r3, hr3, hf⟩ := wb_b hf
  have hPc := wj_P2 hP
  have hDc := wj_D2 hD
  have hFc := wj_F hDc hS hA
  refine va_calli (va_runV (As := [.int (xs ((y4 + (1 : Int32))).toNatClampNeg), .int (xs ((y4 + (2 : Int32))).toNatClampNeg), .int (xs ((y4 + (3 : Int32))).toNatClampNeg), .int (xs ((y4 + (4 : Int32))).toNatClampNeg)]) (rest := []) ⟨hx, hb, hml, hown, hts⟩ (cn_X12_mixed l D cB cI cZ N a1 I1 L1 M1 (xs ((y4 + (1 : Int32))).toNatClampNeg) (xs ((y4 + (2 : Int32))).toNatClampNeg) (xs ((y4 + (3 : Int32))).toNatClampNeg) (xs ((y4 + (4 : Int32))).toNatClampNeg) H.size r3 hr3) (cwV 4 hts gyL_law_X12_mixed rfl rfl rfl cdX12_mixed ⟨Nat.le_of_ble_eq_true rfl, Nat.le_of_ble_eq_true rfl⟩) (wb_preDV hPc hK3 hDc (va_recv hK hP (ci := 12) (q0 := 52) rfl rfl)) rfl rfl hl.1 rfl (lv_room (Nat.le_of_ble_eq_true rfl)) dL_law_1066 ⟨hc1, hs1⟩) hS (fun q _ h => hFc q h) hFc (fun r9 u t H locs ht hvm hw hB hz1 hk1 hS => ?_)
  obtain ⟨hP, hD⟩ := wj_2 hP hD hk1 hFc ht hB
  rw [hw]
  obtain ⟨v4, ev4, hf⟩ := wb_v hf
  refine wb_topi ev4 ?_
  refine lv_istore (lv' := [(6, .int v4), (5, .int v2), (0, .ref b), (1, .ref (a0 0)), (2, .ref (a1 0)), (3, .ref b2), (4, .int y4)]) hx hb dL_law_1069 hl (by decide) rfl (fun ls hl => ?_)
  refine lv_aload_n hx hb dL_law_1071 rfl (lv_at hl 4 rfl) ?_
  obtain ⟨r5, hr5, hf⟩ := wb_b hf
  refine vp_callSi (W.runV (As := []) (rest := []) ⟨hx, hb, hml, hown, hts⟩ (cn_X12_thrown l D cB cI cZ N a1 r3.2.1 r3.2.2.1 r3.2.2.2 r5 hr5) (cwV 0 hts gyL_law_X12_thrown rfl rfl rfl cdX12_thrown ⟨Nat.le_of_ble_eq_true rfl, Nat.le_of_ble_eq_true rfl⟩) (wb_preV (hP.sub (ws' := (wWX12 cB cI cZ a1 r3.2.1 r3.2.2.1 r3.2.2.2)) [52, 53, 54, 55, 56, 57, 58, 59, 60, 61, 62, 63, 64, 65, 66, 67, 68, 69, 70, 71, 72, 73, 74, 75, 76, 77, 78, 79, 80, 81, 82, 83, 84, 85, 86, 87, 88, 89] rfl) hK3 (va_recv hK hP (ci := 12) (q0 := 52) rfl rfl)) rfl rfl hl.1 rfl (lv_room (Nat.le_of_ble_eq_true rfl)) dL_law_1072 ⟨hc1, hs1⟩) (fun r9 e9 => ?_)
  rw [e9]
  refine lv_iload hx hb dL_law_1075 (lv_at hl 1 rfl) ?_
  refine lv_icmp_eq (tgt := 1082) hx hb dL_law_1077 (by decide) (fun hc => ?_) (fun hc => ?_)
  · replace hf := wb_t hc hf
    refine lv_iload hx hb dL_law_1082 (lv_at hl 1 rfl) ?_
    refine lv_if_ne (tgt := 1099) hx hb dL_law_1084 (by decide) (fun hc => ?_) (fun hc => ?_)
    · replace hf := wb_f hc hf
      refine lv_goto (tgt := 3022) hx hb dL_law_1099 (by decide) ?_
      refine W.widen (k := c0 + 1) (n := s0 + 6) (Nat.le_refl _) (Nat.le_refl _) ?_
      have h9 := Option.some.inj hf
      exact kk H locs ls (by rw [← h9]; exact hP) (by rw [← h9]; exact hD) hS (lv_sub hl [2, 3, 4, 5, 6] rfl)
    · replace hf := wb_t hc hf
      refine lv_aload_n hx hb dL_law_1087 rfl (lv_at hl 5 rfl) ?_
      refine lv_iconst (v := (0 : Int32)) hx hb dL_law_1088 (by decide) ?_
      refine va_lald hx hb hK hP 90 3 rfl rfl (show ¬ ((0 : Int32) < 0 ∨ 1 ≤ (0 : Int32).toNatClampNeg) from by decide) dL_law_1089 ?_
      refine lv_iload hx hb dL_law_1090 (lv_at hl 0 rfl) ?_
      refine lv_i2l hx hb dL_law_1092 rfl ?_
      refine W.lcmp hx hb dL_law_1093 ?_
      refine lv_if_eq (tgt := 1099) hx hb dL_law_1094 (by decide) (fun hc => ?_) (fun hc => ?_)
      · replace hf := wb_t hc hf
        refine lv_goto (tgt := 3022) hx hb dL_law_1099 (by decide) ?_
        refine W.widen (k := c0 + 1) (n := s0 + 6) (Nat.le_refl _) (Nat.le_refl _) ?_
        have h9 := Option.some.inj hf
        exact kk H locs ls (by rw [← h9]; exact hP) (by rw [← h9]; exact hD) hS (lv_sub hl [2, 3, 4, 5, 6] rfl)
      · replace hf := wb_f hc hf
        refine lv_iconst (v := (0 : Int32)) hx hb dL_law_1097 (by decide) ?_
        exact absurd hf (fun h => nomatch h)
  · replace hf := wb_f hc hf
    refine lv_iconst (v := (0 : Int32)) hx hb dL_law_1080 (by decide) ?_
    exact absurd hf (fun h => nomatch h)

set_option maxHeartbeats 4000000 in
set_option maxRecDepth 100000 in
theorem law_case12 {p : Program} {e : Env} {s : State} {m : MethodId} {below : List Frame} {meth : Method} {c : Code} (l : Launch) (hlt : l.stackTraces = false) (D : va_G) (cB cI cZ cJ : ClassId) (N : Nat) {b L : Nat} {xs : Nat → Int32} (C0 : lw_At p s m meth c b L xs) (hX0 : wb_XH s.heap s) (hNc : va_Nc wb_E2 wb_E1 s) (a0 a1 : Nat → Nat) (b2 : Nat) (I0 : Nat → Int32) (M0 : Nat → Nat → Int32) (I1 : Nat → Int32) (L1 : Int64) (M1 : Nat → Nat → Int32) (o2 : Nat → Int64) (y4 : Int32) (c0 s0 : Nat) (hc1 : c0 + 1 ≤ room_1.cells) (hs1 : s0 + 6 ≤ room_1.slots) (H : Heap) (locs : List Loc) (hK : va_K D vwCl [(cB, .byte), (cI, .int), (cZ, .boolean), (cJ, .long)] s) (hP : va_P D vwCl ((wWX11 cB cI cZ a0 I0 M0) ++ ((wWX12 cB cI cZ a1 I1 L1 M1) ++ [(b2, .inl (cJ, 1, .inr (.inl o2)))])) H) (hD : va_D (fun q : Nat => s.heap.size ≤ q) ((wWX11 cB cI cZ a0 I0 M0) ++ ((wWX12 cB cI cZ a1 I1 L1 M1) ++ [(b2, .inl (cJ, 1, .inr (.inl o2)))]))) (hS : va_S (fun q : Nat => s.heap.size ≤ q) s.heap H locs) (ls : Array Slot) (hl : lv_has ls 7 [(0, .ref b), (1, .ref (a0 0)), (2, .ref (a1 0)), (3, .ref b2), (4, .int y4)]) (R : (Nat → Int32) × (Nat → Nat → Int32) × (Nat → Int32) × Int64 × (Nat → Nat → Int32) × (Nat → Int64)) (hf : fL_case12 N L xs I0 M0 I1 L1 M1 o2 y4 = some R)
    (kk : ∀ (H : Heap) (locs : List Loc) (ls : Array Slot), va_P D vwCl ((wWX11 cB cI cZ a0 R.1 R.2.1) ++ ((wWX12 cB cI cZ a1 R.2.2.1 R.2.2.2.1 R.2.2.2.2.1) ++ [(b2, .inl (cJ, 1, .inr (.inl R.2.2.2.2.2)))])) H → va_D (fun q : Nat => s.heap.size ≤ q) ((wWX11 cB cI cZ a0 R.1 R.2.1) ++ ((wWX12 cB cI cZ a1 R.2.2.1 R.2.2.2.1 R.2.2.2.2.1) ++ [(b2, .inl (cJ, 1, .inr (.inl R.2.2.2.2.2)))])) → va_S (fun q : Nat => s.heap.size ≤ q) s.heap H locs → lv_has ls 7 [(0, .ref b), (1, .ref (a0 0)), (2, .ref (a1 0)), (3, .ref b2), (4, .int y4)] → W p l e room_1 s m #[Value.ref b] below meth c H locs (c0 + 1) (s0 + 6) (lw_Z below #[Value.ref b] s) (F0 m 3022 ls [])) : W p l e room_1 s m #[Value.ref b] below meth c H locs c0 s0 (lw_Z below #[Value.ref b] s) (F0 m 1102 ls []) := by
  obtain ⟨hx, hb, hr, hml, hown, hts0, hXs, hbl, hlocks, hgv⟩ := id C0
  have hown : s.vm.findClass RL = some m.cls := hown
  have hb : c.code = cL_law := hb
  have hts : ∀ w ∈ wyL_law, w.before #[Value.ref b] s = true := fun w h => hts0 w (wl_law w h)
  have hA : ∀ q : Nat, s.heap.size ≤ q → (fun q : Nat => s.heap.size ≤ q) q := fun _ h => h
  have hbA : ¬ (fun q : Nat => s.heap.size ≤ q) b := Nat.not_le.mpr hbl
  have hK3 : va_K D vwCl [(cB, .byte), (cI, .int), (cZ, .boolean)] s := hK.sub [0, 1, 2] rfl
  have hc0 : c0 ≤ room_1.cells := Nat.le_of_succ_le hc1
  have hs0 : s0 ≤ room_1.slots := Nat.le_trans (Nat.le_add_right _ 6) hs1
  unfold fL_case12 at hf
  refine lv_aload_n hx hb dL_law_1102 rfl (lv_at hl 1 rfl) ?_
  refine lv_aload_n hx hb dL_law_1103 rfl (lv_at hl 0 rfl) ?_
  refine lv_iload hx hb dL_law_1104 (lv_at hl 4 rfl) ?_
  refine lv_iconst (v := (1 : Int32)) hx hb dL_law_1106 (by decide) ?_
  refine lv_iadd hx hb dL_law_1107 ?_
  obtain ⟨hin, hf⟩ := wb_n hf
  refine va_sld hx hb hXs hbl hbA hS hin dL_law_1108 ?_
  refine lv_aload_n hx hb dL_law_1109 rfl (lv_at hl 0 rfl) ?_
  refine lv_iload hx hb dL_law_1110 (lv_at hl 4 rfl) ?_
  refine lv_iconst (v := (2 : Int32)) hx hb dL_law_1112 (by decide) ?_
  refine lv_iadd hx hb dL_law_1113 ?_
  obtain ⟨hin, hf⟩ := wb_n hf
  refine va_sld hx hb hXs hbl hbA hS hin dL_law_1114 ?_
  refine lv_aload_n hx hb dL_law_1115 rfl (lv_at hl 3 rfl) ?_
  obtain ⟨r1, hr1, hf⟩ := wb_b hf
  have hPc := wj_P3 hP
  have hDc := wj_D3 hD
  have hFc := wj_F hDc hS hA
  refine va_calli (vx_runSW (As := [.ref (a0 0), .int (xs ((y4 + (1 : Int32))).toNatClampNeg), .int (xs ((y4 + (2 : Int32))).toNatClampNeg), .ref b2]) (rest := []) ⟨hx, hb, hml, hown, hts⟩ (cn_L_climb l hlt D cB cI cZ cJ N a0 I0 M0 (xs ((y4 + (1 : Int32))).toNatClampNeg) (xs ((y4 + (2 : Int32))).toNatClampNeg) b2 o2 H.size r1 hr1) (vx_cwSW 4 hts gyL_law_L_climb rfl rfl rfl csL_climb ⟨Nat.le_of_ble_eq_true rfl, Nat.le_of_ble_eq_true rfl⟩) (wb_preLS hPc hK hDc (hX0.kept hS) hNc) rfl rfl hl.1 rfl (lv_room (Nat.le_of_ble_eq_true rfl)) dL_law_1116 ⟨hc1, hs1⟩) hS (fun q _ h => hFc q h) hFc (fun r9 u t H locs ht hvm hw hB hz1 hk1 hS => ?_)
  obtain ⟨hP, hD⟩ := wj_3 hP hD hk1 hFc ht hB
  rw [hw]
  obtain ⟨v2, ev2, hf⟩ := wb_v hf
  refine wb_topi ev2 ?_
  refine lv_istore (lv' := [(5, .int v2), (0, .ref b), (1, .ref (a0 0)), (2, .ref (a1 0)), (3, .ref b2), (4, .int y4)]) hx hb dL_law_1119 hl (by decide) rfl (fun ls hl => ?_)
  refine lv_aload_n hx hb dL_law_1121 rfl (lv_at hl 3 rfl) ?_
  refine lv_aload_n hx hb dL_law_1122 rfl (lv_at hl 1 rfl) ?_
  refine lv_iload hx hb dL_law_1123 (lv_at hl 5 rfl) ?_
  refine lv_iconst (v := (1 : Int32)) hx hb dL_law_1125 (by decide) ?_
  refine lv_iadd hx hb dL_law_1126 ?_
  obtain ⟨hin, hf⟩ := wb_n hf
  refine va_sld hx hb hXs hbl hbA hS hin dL_law_1127 ?_
  refine lv_aload_n hx hb dL_law_1128 rfl (lv_at hl 1 rfl) ?_
  refine lv_iload hx hb dL_law_1129 (lv_at hl 5 rfl) ?_
  refine lv_iconst (v := (2 : Int32)) hx hb dL_law_1131 (by decide) ?_
  refine lv_iadd hx hb dL_law_1132 ?_
  obtain ⟨hin, hf⟩ := wb_n hf
  refine va_sld hx hb hXs hbl hbA hS hin dL_law_1133 ?_
  obtain ⟨r3, hr3, hf⟩ := wb_b hf
  have hPc := wj_P2 hP
  have hDc := wj_D2 hD
  have hFc := wj_F hDc hS hA
  refine va_calli (va_runV (As := [.int (xs ((y4 + (1 : Int32))).toNatClampNeg), .int (xs ((y4 + (2 : Int32))).toNatClampNeg)]) (rest := []) ⟨hx, hb, hml, hown, hts⟩ (cn_X12_climb l D cB cI cZ N a1 I1 L1 M1 (xs ((y4 + (1 : Int32))).toNatClampNeg) (xs ((y4 + (2 : Int32))).toNatClampNeg) H.size r3 hr3) (cwV 2 hts gyL_law_X12_climb rfl rfl rfl cdX12_climb ⟨Nat.le_of_ble_eq_true rfl, Nat.le_of_ble_eq_true rfl⟩) (wb_preDV hPc hK3 hDc (va_recv hK hP (ci := 12) (q0 := 52) rfl rfl)) rfl rfl hl.1 rfl (lv_room (Nat.le_of_ble_eq_true rfl)) dL_law_1134 ⟨hc1, hs1⟩) hS (fun q _ h => hFc q h) hFc (fun r9 u t H locs ht hvm hw hB hz1 hk1 hS => ?_)
  obtain ⟨hP, hD⟩ := wj_2 hP hD hk1 hFc ht hB
  rw [hw]
  obtain ⟨v4, ev4, hf⟩ := wb_v hf
  refine wb_topi ev4 ?_
  refine lv_istore (lv' := [(6, .int v4), (5, .int v2), (0, .ref b), (1, .ref (a0 0)), (2, .ref (a1 0)), (3, .ref b2), (4, .int y4)]) hx hb dL_law_1137 hl (by decide) rfl (fun ls hl => ?_)
  refine lv_aload_n hx hb dL_law_1139 rfl (lv_at hl 4 rfl) ?_
  obtain ⟨r5, hr5, hf⟩ := wb_b hf
  refine vp_callSi (W.runV (As := []) (rest := []) ⟨hx, hb, hml, hown, hts⟩ (cn_X12_thrown l D cB cI cZ N a1 r3.2.1 r3.2.2.1 r3.2.2.2 r5 hr5) (cwV 0 hts gyL_law_X12_thrown rfl rfl rfl cdX12_thrown ⟨Nat.le_of_ble_eq_true rfl, Nat.le_of_ble_eq_true rfl⟩) (wb_preV (hP.sub (ws' := (wWX12 cB cI cZ a1 r3.2.1 r3.2.2.1 r3.2.2.2)) [52, 53, 54, 55, 56, 57, 58, 59, 60, 61, 62, 63, 64, 65, 66, 67, 68, 69, 70, 71, 72, 73, 74, 75, 76, 77, 78, 79, 80, 81, 82, 83, 84, 85, 86, 87, 88, 89] rfl) hK3 (va_recv hK hP (ci := 12) (q0 := 52) rfl rfl)) rfl rfl hl.1 rfl (lv_room (Nat.le_of_ble_eq_true rfl)) dL_law_1140 ⟨hc1, hs1⟩) (fun r9 e9 => ?_)
  rw [e9]
  refine lv_iload hx hb dL_law_1143 (lv_at hl 1 rfl) ?_
  refine lv_icmp_eq (tgt := 1150) hx hb dL_law_1145 (by decide) (fun hc => ?_) (fun hc => ?_)
  · replace hf := wb_t hc hf
    refine lv_iload hx hb dL_law_1150 (lv_at hl 1 rfl) ?_
    refine lv_if_ne (tgt := 1167) hx hb dL_law_1152 (by decide) (fun hc => ?_) (fun hc => ?_)
    · replace hf := wb_f hc hf
      refine lv_goto (tgt := 3022) hx hb dL_law_1167 (by decide) ?_
      refine W.widen (k := c0 + 1) (n := s0 + 6) (Nat.le_refl _) (Nat.le_refl _) ?_
      have h9 := Option.some.inj hf
      exact kk H locs ls (by rw [← h9]; exact hP) (by rw [← h9]; exact hD) hS (lv_sub hl [2, 3, 4, 5, 6] rfl)
    · replace hf := wb_t hc hf
      refine lv_aload_n hx hb dL_law_1155 rfl (lv_at hl 5 rfl) ?_
      refine lv_iconst (v := (0 : Int32)) hx hb dL_law_1156 (by decide) ?_
      refine va_lald hx hb hK hP 90 3 rfl rfl (show ¬ ((0 : Int32) < 0 ∨ 1 ≤ (0 : Int32).toNatClampNeg) from by decide) dL_law_1157 ?_
      refine lv_iload hx hb dL_law_1158 (lv_at hl 0 rfl) ?_
      refine lv_i2l hx hb dL_law_1160 rfl ?_
      refine W.lcmp hx hb dL_law_1161 ?_
      refine lv_if_eq (tgt := 1167) hx hb dL_law_1162 (by decide) (fun hc => ?_) (fun hc => ?_)
      · replace hf := wb_t hc hf
        refine lv_goto (tgt := 3022) hx hb dL_law_1167 (by decide) ?_
        refine W.widen (k := c0 + 1) (n := s0 + 6) (Nat.le_refl _) (Nat.le_refl _) ?_
        have h9 := Option.some.inj hf
        exact kk H locs ls (by rw [← h9]; exact hP) (by rw [← h9]; exact hD) hS (lv_sub hl [2, 3, 4, 5, 6] rfl)
      · replace hf := wb_f hc hf
        refine lv_iconst (v := (0 : Int32)) hx hb dL_law_1165 (by decide) ?_
        exact absurd hf (fun h => nomatch h)
  · replace hf := wb_f hc hf
    refine lv_iconst (v := (0 : Int32)) hx hb dL_law_1148 (by decide) ?_
    exact absurd hf (fun h => nomatch h)

set_option maxHeartbeats 4000000 in
set_option maxRecDepth 100000 in
theorem law_case13 {p : Program} {e : Env} {s : State} {m : MethodId} {below : List Frame} {meth : Method} {c : Code} (l : Launch) (hlt : l.stackTraces = false) (D : va_G) (cB cI cZ cJ : ClassId) (N : Nat) {b L : Nat} {xs : Nat → Int32} (C0 : lw_At p s m meth c b L xs) (hX0 : wb_XH s.heap s) (hNc : va_Nc wb_E2 wb_E1 s) (a0 a1 : Nat → Nat) (b2 : Nat) (I0 : Nat → Int32) (M0 : Nat → Nat → Int32) (I1 : Nat → Int32) (L1 : Int64) (M1 : Nat → Nat → Int32) (o2 : Nat → Int64) (y4 : Int32) (c0 s0 : Nat) (hc1 : c0 + 1 ≤ room_1.cells) (hs1 : s0 + 6 ≤ room_1.slots) (H : Heap) (locs : List Loc) (hK : va_K D vwCl [(cB, .byte), (cI, .int), (cZ, .boolean), (cJ, .long)] s) (hP : va_P D vwCl ((wWX11 cB cI cZ a0 I0 M0) ++ ((wWX12 cB cI cZ a1 I1 L1 M1) ++ [(b2, .inl (cJ, 1, .inr (.inl o2)))])) H) (hD : va_D (fun q : Nat => s.heap.size ≤ q) ((wWX11 cB cI cZ a0 I0 M0) ++ ((wWX12 cB cI cZ a1 I1 L1 M1) ++ [(b2, .inl (cJ, 1, .inr (.inl o2)))]))) (hS : va_S (fun q : Nat => s.heap.size ≤ q) s.heap H locs) (ls : Array Slot) (hl : lv_has ls 7 [(0, .ref b), (1, .ref (a0 0)), (2, .ref (a1 0)), (3, .ref b2), (4, .int y4)]) (R : (Nat → Int32) × (Nat → Nat → Int32) × (Nat → Int32) × Int64 × (Nat → Nat → Int32) × (Nat → Int64)) (hf : fL_case13 N L xs I0 M0 I1 L1 M1 o2 y4 = some R)
    (kk : ∀ (H : Heap) (locs : List Loc) (ls : Array Slot), va_P D vwCl ((wWX11 cB cI cZ a0 R.1 R.2.1) ++ ((wWX12 cB cI cZ a1 R.2.2.1 R.2.2.2.1 R.2.2.2.2.1) ++ [(b2, .inl (cJ, 1, .inr (.inl R.2.2.2.2.2)))])) H → va_D (fun q : Nat => s.heap.size ≤ q) ((wWX11 cB cI cZ a0 R.1 R.2.1) ++ ((wWX12 cB cI cZ a1 R.2.2.1 R.2.2.2.1 R.2.2.2.2.1) ++ [(b2, .inl (cJ, 1, .inr (.inl R.2.2.2.2.2)))])) → va_S (fun q : Nat => s.heap.size ≤ q) s.heap H locs → lv_has ls 7 [(0, .ref b), (1, .ref (a0 0)), (2, .ref (a1 0)), (3, .ref b2), (4, .int y4)] → W p l e room_1 s m #[Value.ref b] below meth c H locs (c0 + 1) (s0 + 6) (lw_Z below #[Value.ref b] s) (F0 m 3022 ls [])) : W p l e room_1 s m #[Value.ref b] below meth c H locs c0 s0 (lw_Z below #[Value.ref b] s) (F0 m 1170 ls []) := by
  obtain ⟨hx, hb, hr, hml, hown, hts0, hXs, hbl, hlocks, hgv⟩ := id C0
  have hown : s.vm.findClass RL = some m.cls := hown
  have hb : c.code = cL_law := hb
  have hts : ∀ w ∈ wyL_law, w.before #[Value.ref b] s = true := fun w h => hts0 w (wl_law w h)
  have hA : ∀ q : Nat, s.heap.size ≤ q → (fun q : Nat => s.heap.size ≤ q) q := fun _ h => h
  have hbA : ¬ (fun q : Nat => s.heap.size ≤ q) b := Nat.not_le.mpr hbl
  have hK3 : va_K D vwCl [(cB, .byte), (cI, .int), (cZ, .boolean)] s := hK.sub [0, 1, 2] rfl
  have hc0 : c0 ≤ room_1.cells := Nat.le_of_succ_le hc1
  have hs0 : s0 ≤ room_1.slots := Nat.le_trans (Nat.le_add_right _ 6) hs1
  unfold fL_case13 at hf
  refine lv_aload_n hx hb dL_law_1170 rfl (lv_at hl 1 rfl) ?_
  refine lv_aload_n hx hb dL_law_1171 rfl (lv_at hl 0 rfl) ?_
  refine lv_iload hx hb dL_law_1172 (lv_at hl 4 rfl) ?_
  refine lv_iconst (v := (1 : Int32)) hx hb dL_law_1174 (by decide) ?_
  refine lv_iadd hx hb dL_law_1175 ?_
  obtain ⟨hin, hf⟩ := wb_n hf
  refine va_sld hx hb hXs hbl hbA hS hin dL_law_1176 ?_
  refine lv_aload_n hx hb dL_law_1177 rfl (lv_at hl 0 rfl) ?_
  refine lv_iload hx hb dL_law_1178 (lv_at hl 4 rfl) ?_
  refine lv_iconst (v := (2 : Int32)) hx hb dL_law_1180 (by decide) ?_
  refine lv_iadd hx hb dL_law_1181 ?_
  obtain ⟨hin, hf⟩ := wb_n hf
  refine va_sld hx hb hXs hbl hbA hS hin dL_law_1182 ?_
  refine lv_aload_n hx hb dL_law_1183 rfl (lv_at hl 0 rfl) ?_
  refine lv_iload hx hb dL_law_1184 (lv_at hl 4 rfl) ?_
  refine lv_iconst (v := (3 : Int32)) hx hb dL_law_1186 (by decide) ?_
  refine lv_iadd hx hb dL_law_1187 ?_
  obtain ⟨hin, hf⟩ := wb_n hf
  refine va_sld hx hb hXs hbl hbA hS hin dL_law_1188 ?_
  refine lv_aload_n hx hb dL_law_1189 rfl (lv_at hl 3 rfl) ?_
  obtain ⟨r1, hr1, hf⟩ := wb_b hf
  have hPc := wj_P3 hP
  have hDc := wj_D3 hD
  have hFc := wj_F hDc hS hA
  refine va_calli (vx_runSW (As := [.ref (a0 0), .int (xs ((y4 + (1 : Int32))).toNatClampNeg), .int (xs ((y4 + (2 : Int32))).toNatClampNeg), .int (xs ((y4 + (3 : Int32))).toNatClampNeg), .ref b2]) (rest := []) ⟨hx, hb, hml, hown, hts⟩ (cn_L_rise l hlt D cB cI cZ cJ N a0 I0 M0 (xs ((y4 + (1 : Int32))).toNatClampNeg) (xs ((y4 + (2 : Int32))).toNatClampNeg) (xs ((y4 + (3 : Int32))).toNatClampNeg) b2 o2 H.size r1 hr1) (vx_cwSW 5 hts gyL_law_L_rise rfl rfl rfl csL_rise ⟨Nat.le_of_ble_eq_true rfl, Nat.le_of_ble_eq_true rfl⟩) (wb_preLS hPc hK hDc (hX0.kept hS) hNc) rfl rfl hl.1 rfl (lv_room (Nat.le_of_ble_eq_true rfl)) dL_law_1190 ⟨hc1, hs1⟩) hS (fun q _ h => hFc q h) hFc (fun r9 u t H locs ht hvm hw hB hz1 hk1 hS => ?_)
  obtain ⟨hP, hD⟩ := wj_3 hP hD hk1 hFc ht hB
  rw [hw]
  obtain ⟨v2, ev2, hf⟩ := wb_v hf
  refine wb_topi ev2 ?_
  refine lv_istore (lv' := [(5, .int v2), (0, .ref b), (1, .ref (a0 0)), (2, .ref (a1 0)), (3, .ref b2), (4, .int y4)]) hx hb dL_law_1193 hl (by decide) rfl (fun ls hl => ?_)
  refine lv_aload_n hx hb dL_law_1195 rfl (lv_at hl 3 rfl) ?_
  refine lv_aload_n hx hb dL_law_1196 rfl (lv_at hl 1 rfl) ?_
  refine lv_iload hx hb dL_law_1197 (lv_at hl 5 rfl) ?_
  refine lv_iconst (v := (1 : Int32)) hx hb dL_law_1199 (by decide) ?_
  refine lv_iadd hx hb dL_law_1200 ?_
  obtain ⟨hin, hf⟩ := wb_n hf
  refine va_sld hx hb hXs hbl hbA hS hin dL_law_1201 ?_
  refine lv_aload_n hx hb dL_law_1202 rfl (lv_at hl 1 rfl) ?_
  refine lv_iload hx hb dL_law_1203 (lv_at hl 5 rfl) ?_
  refine lv_iconst (v := (2 : Int32)) hx hb dL_law_1205 (by decide) ?_
  refine lv_iadd hx hb dL_law_1206 ?_
  obtain ⟨hin, hf⟩ := wb_n hf
  refine va_sld hx hb hXs hbl hbA hS hin dL_law_1207 ?_
  refine lv_aload_n hx hb dL_law_1208 rfl (lv_at hl 1 rfl) ?_
  refine lv_iload hx hb dL_law_1209 (lv_at hl 5 rfl) ?_
  refine lv_iconst (v := (3 : Int32)) hx hb dL_law_1211 (by decide) ?_
  refine lv_iadd hx hb dL_law_1212 ?_
  obtain ⟨hin, hf⟩ := wb_n hf
  refine va_sld hx hb hXs hbl hbA hS hin dL_law_1213 ?_
  obtain ⟨r3, hr3, hf⟩ := wb_b hf
  have hPc := wj_P2 hP
  have hDc := wj_D2 hD
  have hFc := wj_F hDc hS hA
  refine va_calli (va_runV (As := [.int (xs ((y4 + (1 : Int32))).toNatClampNeg), .int (xs ((y4 + (2 : Int32))).toNatClampNeg), .int (xs ((y4 + (3 : Int32))).toNatClampNeg)]) (rest := []) ⟨hx, hb, hml, hown, hts⟩ (cn_X12_rise l D cB cI cZ N a1 I1 L1 M1 (xs ((y4 + (1 : Int32))).toNatClampNeg) (xs ((y4 + (2 : Int32))).toNatClampNeg) (xs ((y4 + (3 : Int32))).toNatClampNeg) H.size r3 hr3) (cwV 3 hts gyL_law_X12_rise rfl rfl rfl cdX12_rise ⟨Nat.le_of_ble_eq_true rfl, Nat.le_of_ble_eq_true rfl⟩) (wb_preDV hPc hK3 hDc (va_recv hK hP (ci := 12) (q0 := 52) rfl rfl)) rfl rfl hl.1 rfl (lv_room (Nat.le_of_ble_eq_true rfl)) dL_law_1214 ⟨hc1, hs1⟩) hS (fun q _ h => hFc q h) hFc (fun r9 u t H locs ht hvm hw hB hz1 hk1 hS => ?_)
  obtain ⟨hP, hD⟩ := wj_2 hP hD hk1 hFc ht hB
  rw [hw]
  obtain ⟨v4, ev4, hf⟩ := wb_v hf
  refine wb_topi ev4 ?_
  refine lv_istore (lv' := [(6, .int v4), (5, .int v2), (0, .ref b), (1, .ref (a0 0)), (2, .ref (a1 0)), (3, .ref b2), (4, .int y4)]) hx hb dL_law_1217 hl (by decide) rfl (fun ls hl => ?_)
  refine lv_aload_n hx hb dL_law_1219 rfl (lv_at hl 4 rfl) ?_
  obtain ⟨r5, hr5, hf⟩ := wb_b hf
  refine vp_callSi (W.runV (As := []) (rest := []) ⟨hx, hb, hml, hown, hts⟩ (cn_X12_thrown l D cB cI cZ N a1 r3.2.1 r3.2.2.1 r3.2.2.2 r5 hr5) (cwV 0 hts gyL_law_X12_thrown rfl rfl rfl cdX12_thrown ⟨Nat.le_of_ble_eq_true rfl, Nat.le_of_ble_eq_true rfl⟩) (wb_preV (hP.sub (ws' := (wWX12 cB cI cZ a1 r3.2.1 r3.2.2.1 r3.2.2.2)) [52, 53, 54, 55, 56, 57, 58, 59, 60, 61, 62, 63, 64, 65, 66, 67, 68, 69, 70, 71, 72, 73, 74, 75, 76, 77, 78, 79, 80, 81, 82, 83, 84, 85, 86, 87, 88, 89] rfl) hK3 (va_recv hK hP (ci := 12) (q0 := 52) rfl rfl)) rfl rfl hl.1 rfl (lv_room (Nat.le_of_ble_eq_true rfl)) dL_law_1220 ⟨hc1, hs1⟩) (fun r9 e9 => ?_)
  rw [e9]
  refine lv_iload hx hb dL_law_1223 (lv_at hl 1 rfl) ?_
  refine lv_icmp_eq (tgt := 1230) hx hb dL_law_1225 (by decide) (fun hc => ?_) (fun hc => ?_)
  · replace hf := wb_t hc hf
    refine lv_iload hx hb dL_law_1230 (lv_at hl 1 rfl) ?_
    refine lv_if_ne (tgt := 1247) hx hb dL_law_1232 (by decide) (fun hc => ?_) (fun hc => ?_)
    · replace hf := wb_f hc hf
      refine lv_goto (tgt := 3022) hx hb dL_law_1247 (by decide) ?_
      refine W.widen (k := c0 + 1) (n := s0 + 6) (Nat.le_refl _) (Nat.le_refl _) ?_
      have h9 := Option.some.inj hf
      exact kk H locs ls (by rw [← h9]; exact hP) (by rw [← h9]; exact hD) hS (lv_sub hl [2, 3, 4, 5, 6] rfl)
    · replace hf := wb_t hc hf
      refine lv_aload_n hx hb dL_law_1235 rfl (lv_at hl 5 rfl) ?_
      refine lv_iconst (v := (0 : Int32)) hx hb dL_law_1236 (by decide) ?_
      refine va_lald hx hb hK hP 90 3 rfl rfl (show ¬ ((0 : Int32) < 0 ∨ 1 ≤ (0 : Int32).toNatClampNeg) from by decide) dL_law_1237 ?_
      refine lv_iload hx hb dL_law_1238 (lv_at hl 0 rfl) ?_
      refine lv_i2l hx hb dL_law_1240 rfl ?_
      refine W.lcmp hx hb dL_law_1241 ?_
      refine lv_if_eq (tgt := 1247) hx hb dL_law_1242 (by decide) (fun hc => ?_) (fun hc => ?_)
      · replace hf := wb_t hc hf
        refine lv_goto (tgt := 3022) hx hb dL_law_1247 (by decide) ?_
        refine W.widen (k := c0 + 1) (n := s0 + 6) (Nat.le_refl _) (Nat.le_refl _) ?_
        have h9 := Option.some.inj hf
        exact kk H locs ls (by rw [← h9]; exact hP) (by rw [← h9]; exact hD) hS (lv_sub hl [2, 3, 4, 5, 6] rfl)
      · replace hf := wb_f hc hf
        refine lv_iconst (v := (0 : Int32)) hx hb dL_law_1245 (by decide) ?_
        exact absurd hf (fun h => nomatch h)
  · replace hf := wb_f hc hf
    refine lv_iconst (v := (0 : Int32)) hx hb dL_law_1228 (by decide) ?_
    exact absurd hf (fun h => nomatch h)

set_option maxHeartbeats 4000000 in
set_option maxRecDepth 100000 in
theorem law_case14 {p : Program} {e : Env} {s : State} {m : MethodId} {below : List Frame} {meth : Method} {c : Code} (l : Launch) (hlt : l.stackTraces = false) (D : va_G) (cB cI cZ cJ : ClassId) (N : Nat) {b L : Nat} {xs : Nat → Int32} (C0 : lw_At p s m meth c b L xs) (hX0 : wb_XH s.heap s) (hNc : va_Nc wb_E2 wb_E1 s) (a0 a1 : Nat → Nat) (b2 : Nat) (I0 : Nat → Int32) (M0 : Nat → Nat → Int32) (I1 : Nat → Int32) (L1 : Int64) (M1 : Nat → Nat → Int32) (o2 : Nat → Int64) (y4 : Int32) (c0 s0 : Nat) (hc1 : c0 + 1 ≤ room_1.cells) (hs1 : s0 + 6 ≤ room_1.slots) (H : Heap) (locs : List Loc) (hK : va_K D vwCl [(cB, .byte), (cI, .int), (cZ, .boolean), (cJ, .long)] s) (hP : va_P D vwCl ((wWX11 cB cI cZ a0 I0 M0) ++ ((wWX12 cB cI cZ a1 I1 L1 M1) ++ [(b2, .inl (cJ, 1, .inr (.inl o2)))])) H) (hD : va_D (fun q : Nat => s.heap.size ≤ q) ((wWX11 cB cI cZ a0 I0 M0) ++ ((wWX12 cB cI cZ a1 I1 L1 M1) ++ [(b2, .inl (cJ, 1, .inr (.inl o2)))]))) (hS : va_S (fun q : Nat => s.heap.size ≤ q) s.heap H locs) (ls : Array Slot) (hl : lv_has ls 7 [(0, .ref b), (1, .ref (a0 0)), (2, .ref (a1 0)), (3, .ref b2), (4, .int y4)]) (R : (Nat → Int32) × (Nat → Nat → Int32) × (Nat → Int32) × Int64 × (Nat → Nat → Int32) × (Nat → Int64)) (hf : fL_case14 N L xs I0 M0 I1 L1 M1 o2 y4 = some R)
    (kk : ∀ (H : Heap) (locs : List Loc) (ls : Array Slot), va_P D vwCl ((wWX11 cB cI cZ a0 R.1 R.2.1) ++ ((wWX12 cB cI cZ a1 R.2.2.1 R.2.2.2.1 R.2.2.2.2.1) ++ [(b2, .inl (cJ, 1, .inr (.inl R.2.2.2.2.2)))])) H → va_D (fun q : Nat => s.heap.size ≤ q) ((wWX11 cB cI cZ a0 R.1 R.2.1) ++ ((wWX12 cB cI cZ a1 R.2.2.1 R.2.2.2.1 R.2.2.2.2.1) ++ [(b2, .inl (cJ, 1, .inr (.inl R.2.2.2.2.2)))])) → va_S (fun q : Nat => s.heap.size ≤ q) s.heap H locs → lv_has ls 7 [(0, .ref b), (1, .ref (a0 0)), (2, .ref (a1 0)), (3, .ref b2), (4, .int y4)] → W p l e room_1 s m #[Value.ref b] below meth c H locs (c0 + 1) (s0 + 6) (lw_Z below #[Value.ref b] s) (F0 m 3022 ls [])) : W p l e room_1 s m #[Value.ref b] below meth c H locs c0 s0 (lw_Z below #[Value.ref b] s) (F0 m 1250 ls []) := by
  obtain ⟨hx, hb, hr, hml, hown, hts0, hXs, hbl, hlocks, hgv⟩ := id C0
  have hown : s.vm.findClass RL = some m.cls := hown
  have hb : c.code = cL_law := hb
  have hts : ∀ w ∈ wyL_law, w.before #[Value.ref b] s = true := fun w h => hts0 w (wl_law w h)
  have hA : ∀ q : Nat, s.heap.size ≤ q → (fun q : Nat => s.heap.size ≤ q) q := fun _ h => h
  have hbA : ¬ (fun q : Nat => s.heap.size ≤ q) b := Nat.not_le.mpr hbl
  have hK3 : va_K D vwCl [(cB, .byte), (cI, .int), (cZ, .boolean)] s := hK.sub [0, 1, 2] rfl
  have hc0 : c0 ≤ room_1.cells := Nat.le_of_succ_le hc1
  have hs0 : s0 ≤ room_1.slots := Nat.le_trans (Nat.le_add_right _ 6) hs1
  unfold fL_case14 at hf
  refine lv_aload_n hx hb dL_law_1250 rfl (lv_at hl 1 rfl) ?_
  refine lv_aload_n hx hb dL_law_1251 rfl (lv_at hl 0 rfl) ?_
  refine lv_iload hx hb dL_law_1252 (lv_at hl 4 rfl) ?_
  refine lv_iconst (v := (1 : Int32)) hx hb dL_law_1254 (by decide) ?_
  refine lv_iadd hx hb dL_law_1255 ?_
  obtain ⟨hin, hf⟩ := wb_n hf
  refine va_sld hx hb hXs hbl hbA hS hin dL_law_1256 ?_
  refine lv_aload_n hx hb dL_law_1257 rfl (lv_at hl 0 rfl) ?_
  refine lv_iload hx hb dL_law_1258 (lv_at hl 4 rfl) ?_
  refine lv_iconst (v := (2 : Int32)) hx hb dL_law_1260 (by decide) ?_
  refine lv_iadd hx hb dL_law_1261 ?_
  obtain ⟨hin, hf⟩ := wb_n hf
  refine va_sld hx hb hXs hbl hbA hS hin dL_law_1262 ?_
  refine lv_aload_n hx hb dL_law_1263 rfl (lv_at hl 3 rfl) ?_
  obtain ⟨r1, hr1, hf⟩ := wb_b hf
  have hPc := wj_P3 hP
  have hDc := wj_D3 hD
  have hFc := wj_F hDc hS hA
  refine va_calli (vx_runSW (As := [.ref (a0 0), .int (xs ((y4 + (1 : Int32))).toNatClampNeg), .int (xs ((y4 + (2 : Int32))).toNatClampNeg), .ref b2]) (rest := []) ⟨hx, hb, hml, hown, hts⟩ (cn_L_middle l hlt D cB cI cZ cJ N a0 I0 M0 (xs ((y4 + (1 : Int32))).toNatClampNeg) (xs ((y4 + (2 : Int32))).toNatClampNeg) b2 o2 H.size r1 hr1) (vx_cwSW 4 hts gyL_law_L_middle rfl rfl rfl csL_middle ⟨Nat.le_of_ble_eq_true rfl, Nat.le_of_ble_eq_true rfl⟩) (wb_preLS hPc hK hDc (hX0.kept hS) hNc) rfl rfl hl.1 rfl (lv_room (Nat.le_of_ble_eq_true rfl)) dL_law_1264 ⟨hc1, hs1⟩) hS (fun q _ h => hFc q h) hFc (fun r9 u t H locs ht hvm hw hB hz1 hk1 hS => ?_)
  obtain ⟨hP, hD⟩ := wj_3 hP hD hk1 hFc ht hB
  rw [hw]
  obtain ⟨v2, ev2, hf⟩ := wb_v hf
  refine wb_topi ev2 ?_
  refine lv_istore (lv' := [(5, .int v2), (0, .ref b), (1, .ref (a0 0)), (2, .ref (a1 0)), (3, .ref b2), (4, .int y4)]) hx hb dL_law_1267 hl (by decide) rfl (fun ls hl => ?_)
  refine lv_aload_n hx hb dL_law_1269 rfl (lv_at hl 3 rfl) ?_
  refine lv_aload_n hx hb dL_law_1270 rfl (lv_at hl 1 rfl) ?_
  refine lv_iload hx hb dL_law_1271 (lv_at hl 5 rfl) ?_
  refine lv_iconst (v := (1 : Int32)) hx hb dL_law_1273 (by decide) ?_
  refine lv_iadd hx hb dL_law_1274 ?_
  obtain ⟨hin, hf⟩ := wb_n hf
  refine va_sld hx hb hXs hbl hbA hS hin dL_law_1275 ?_
  refine lv_aload_n hx hb dL_law_1276 rfl (lv_at hl 1 rfl) ?_
  refine lv_iload hx hb dL_law_1277 (lv_at hl 5 rfl) ?_
  refine lv_iconst (v := (2 : Int32)) hx hb dL_law_1279 (by decide) ?_
  refine lv_iadd hx hb dL_law_1280 ?_
  obtain ⟨hin, hf⟩ := wb_n hf
  refine va_sld hx hb hXs hbl hbA hS hin dL_law_1281 ?_
  obtain ⟨r3, hr3, hf⟩ := wb_b hf
  have hPc := wj_P2 hP
  have hDc := wj_D2 hD
  have hFc := wj_F hDc hS hA
  refine va_calli (va_runV (As := [.int (xs ((y4 + (1 : Int32))).toNatClampNeg), .int (xs ((y4 + (2 : Int32))).toNatClampNeg)]) (rest := []) ⟨hx, hb, hml, hown, hts⟩ (cn_X12_middle l D cB cI cZ N a1 I1 L1 M1 (xs ((y4 + (1 : Int32))).toNatClampNeg) (xs ((y4 + (2 : Int32))).toNatClampNeg) H.size r3 hr3) (cwV 2 hts gyL_law_X12_middle rfl rfl rfl cdX12_middle ⟨Nat.le_of_ble_eq_true rfl, Nat.le_of_ble_eq_true rfl⟩) (wb_preDV hPc hK3 hDc (va_recv hK hP (ci := 12) (q0 := 52) rfl rfl)) rfl rfl hl.1 rfl (lv_room (Nat.le_of_ble_eq_true rfl)) dL_law_1282 ⟨hc1, hs1⟩) hS (fun q _ h => hFc q h) hFc (fun r9 u t H locs ht hvm hw hB hz1 hk1 hS => ?_)
  obtain ⟨hP, hD⟩ := wj_2 hP hD hk1 hFc ht hB
  rw [hw]
  obtain ⟨v4, ev4, hf⟩ := wb_v hf
  refine wb_topi ev4 ?_
  refine lv_istore (lv' := [(6, .int v4), (5, .int v2), (0, .ref b), (1, .ref (a0 0)), (2, .ref (a1 0)), (3, .ref b2), (4, .int y4)]) hx hb dL_law_1285 hl (by decide) rfl (fun ls hl => ?_)
  refine lv_aload_n hx hb dL_law_1287 rfl (lv_at hl 4 rfl) ?_
  obtain ⟨r5, hr5, hf⟩ := wb_b hf
  refine vp_callSi (W.runV (As := []) (rest := []) ⟨hx, hb, hml, hown, hts⟩ (cn_X12_thrown l D cB cI cZ N a1 r3.2.1 r3.2.2.1 r3.2.2.2 r5 hr5) (cwV 0 hts gyL_law_X12_thrown rfl rfl rfl cdX12_thrown ⟨Nat.le_of_ble_eq_true rfl, Nat.le_of_ble_eq_true rfl⟩) (wb_preV (hP.sub (ws' := (wWX12 cB cI cZ a1 r3.2.1 r3.2.2.1 r3.2.2.2)) [52, 53, 54, 55, 56, 57, 58, 59, 60, 61, 62, 63, 64, 65, 66, 67, 68, 69, 70, 71, 72, 73, 74, 75, 76, 77, 78, 79, 80, 81, 82, 83, 84, 85, 86, 87, 88, 89] rfl) hK3 (va_recv hK hP (ci := 12) (q0 := 52) rfl rfl)) rfl rfl hl.1 rfl (lv_room (Nat.le_of_ble_eq_true rfl)) dL_law_1288 ⟨hc1, hs1⟩) (fun r9 e9 => ?_)
  rw [e9]
  refine lv_iload hx hb dL_law_1291 (lv_at hl 1 rfl) ?_
  refine lv_icmp_eq (tgt := 1298) hx hb dL_law_1293 (by decide) (fun hc => ?_) (fun hc => ?_)
  · replace hf := wb_t hc hf
    refine lv_iload hx hb dL_law_1298 (lv_at hl 1 rfl) ?_
    refine lv_if_ne (tgt := 1315) hx hb dL_law_1300 (by decide) (fun hc => ?_) (fun hc => ?_)
    · replace hf := wb_f hc hf
      refine lv_goto (tgt := 3022) hx hb dL_law_1315 (by decide) ?_
      refine W.widen (k := c0 + 1) (n := s0 + 6) (Nat.le_refl _) (Nat.le_refl _) ?_
      have h9 := Option.some.inj hf
      exact kk H locs ls (by rw [← h9]; exact hP) (by rw [← h9]; exact hD) hS (lv_sub hl [2, 3, 4, 5, 6] rfl)
    · replace hf := wb_t hc hf
      refine lv_aload_n hx hb dL_law_1303 rfl (lv_at hl 5 rfl) ?_
      refine lv_iconst (v := (0 : Int32)) hx hb dL_law_1304 (by decide) ?_
      refine va_lald hx hb hK hP 90 3 rfl rfl (show ¬ ((0 : Int32) < 0 ∨ 1 ≤ (0 : Int32).toNatClampNeg) from by decide) dL_law_1305 ?_
      refine lv_iload hx hb dL_law_1306 (lv_at hl 0 rfl) ?_
      refine lv_i2l hx hb dL_law_1308 rfl ?_
      refine W.lcmp hx hb dL_law_1309 ?_
      refine lv_if_eq (tgt := 1315) hx hb dL_law_1310 (by decide) (fun hc => ?_) (fun hc => ?_)
      · replace hf := wb_t hc hf
        refine lv_goto (tgt := 3022) hx hb dL_law_1315 (by decide) ?_
        refine W.widen (k := c0 + 1) (n := s0 + 6) (Nat.le_refl _) (Nat.le_refl _) ?_
        have h9 := Option.some.inj hf
        exact kk H locs ls (by rw [← h9]; exact hP) (by rw [← h9]; exact hD) hS (lv_sub hl [2, 3, 4, 5, 6] rfl)
      · replace hf := wb_f hc hf
        refine lv_iconst (v := (0 : Int32)) hx hb dL_law_1313 (by decide) ?_
        exact absurd hf (fun h => nomatch h)
  · replace hf := wb_f hc hf
    refine lv_iconst (v := (0 : Int32)) hx hb dL_law_1296 (by decide) ?_
    exact absurd hf (fun h => nomatch h)

set_option maxHeartbeats 4000000 in
set_option maxRecDepth 100000 in
theorem law_case15 {p : Program} {e : Env} {s : State} {m : MethodId} {below : List Frame} {meth : Method} {c : Code} (l : Launch) (hlt : l.stackTraces = false) (D : va_G) (cB cI cZ cJ : ClassId) (N : Nat) {b L : Nat} {xs : Nat → Int32} (C0 : lw_At p s m meth c b L xs) (hX0 : wb_XH s.heap s) (hNc : va_Nc wb_E2 wb_E1 s) (a0 a1 : Nat → Nat) (b2 : Nat) (I0 : Nat → Int32) (M0 : Nat → Nat → Int32) (I1 : Nat → Int32) (L1 : Int64) (M1 : Nat → Nat → Int32) (o2 : Nat → Int64) (y4 : Int32) (c0 s0 : Nat) (hc1 : c0 + 1 ≤ room_1.cells) (hs1 : s0 + 6 ≤ room_1.slots) (H : Heap) (locs : List Loc) (hK : va_K D vwCl [(cB, .byte), (cI, .int), (cZ, .boolean), (cJ, .long)] s) (hP : va_P D vwCl ((wWX11 cB cI cZ a0 I0 M0) ++ ((wWX12 cB cI cZ a1 I1 L1 M1) ++ [(b2, .inl (cJ, 1, .inr (.inl o2)))])) H) (hD : va_D (fun q : Nat => s.heap.size ≤ q) ((wWX11 cB cI cZ a0 I0 M0) ++ ((wWX12 cB cI cZ a1 I1 L1 M1) ++ [(b2, .inl (cJ, 1, .inr (.inl o2)))]))) (hS : va_S (fun q : Nat => s.heap.size ≤ q) s.heap H locs) (ls : Array Slot) (hl : lv_has ls 7 [(0, .ref b), (1, .ref (a0 0)), (2, .ref (a1 0)), (3, .ref b2), (4, .int y4)]) (R : (Nat → Int32) × (Nat → Nat → Int32) × (Nat → Int32) × Int64 × (Nat → Nat → Int32) × (Nat → Int64)) (hf : fL_case15 N L xs I0 M0 I1 L1 M1 o2 y4 = some R)
    (kk : ∀ (H : Heap) (locs : List Loc) (ls : Array Slot), va_P D vwCl ((wWX11 cB cI cZ a0 R.1 R.2.1) ++ ((wWX12 cB cI cZ a1 R.2.2.1 R.2.2.2.1 R.2.2.2.2.1) ++ [(b2, .inl (cJ, 1, .inr (.inl R.2.2.2.2.2)))])) H → va_D (fun q : Nat => s.heap.size ≤ q) ((wWX11 cB cI cZ a0 R.1 R.2.1) ++ ((wWX12 cB cI cZ a1 R.2.2.1 R.2.2.2.1 R.2.2.2.2.1) ++ [(b2, .inl (cJ, 1, .inr (.inl R.2.2.2.2.2)))])) → va_S (fun q : Nat => s.heap.size ≤ q) s.heap H locs → lv_has ls 7 [(0, .ref b), (1, .ref (a0 0)), (2, .ref (a1 0)), (3, .ref b2), (4, .int y4)] → W p l e room_1 s m #[Value.ref b] below meth c H locs (c0 + 1) (s0 + 6) (lw_Z below #[Value.ref b] s) (F0 m 3022 ls [])) : W p l e room_1 s m #[Value.ref b] below meth c H locs c0 s0 (lw_Z below #[Value.ref b] s) (F0 m 1318 ls []) := by
  obtain ⟨hx, hb, hr, hml, hown, hts0, hXs, hbl, hlocks, hgv⟩ := id C0
  have hown : s.vm.findClass RL = some m.cls := hown
  have hb : c.code = cL_law := hb
  have hts : ∀ w ∈ wyL_law, w.before #[Value.ref b] s = true := fun w h => hts0 w (wl_law w h)
  have hA : ∀ q : Nat, s.heap.size ≤ q → (fun q : Nat => s.heap.size ≤ q) q := fun _ h => h
  have hbA : ¬ (fun q : Nat => s.heap.size ≤ q) b := Nat.not_le.mpr hbl
  have hK3 : va_K D vwCl [(cB, .byte), (cI, .int), (cZ, .boolean)] s := hK.sub [0, 1, 2] rfl
  have hc0 : c0 ≤ room_1.cells := Nat.le_of_succ_le hc1
  have hs0 : s0 ≤ room_1.slots := Nat.le_trans (Nat.le_add_right _ 6) hs1
  unfold fL_case15 at hf
  refine lv_aload_n hx hb dL_law_1318 rfl (lv_at hl 1 rfl) ?_
  refine lv_aload_n hx hb dL_law_1319 rfl (lv_at hl 0 rfl) ?_
  refine lv_iload hx hb dL_law_1320 (lv_at hl 4 rfl) ?_
  refine lv_iconst (v := (1 : Int32)) hx hb dL_law_1322 (by decide) ?_
  refine lv_iadd hx hb dL_law_1323 ?_
  obtain ⟨hin, hf⟩ := wb_n hf
  refine va_sld hx hb hXs hbl hbA hS hin dL_law_1324 ?_
  refine lv_aload_n hx hb dL_law_1325 rfl (lv_at hl 0 rfl) ?_
  refine lv_iload hx hb dL_law_1326 (lv_at hl 4 rfl) ?_
  refine lv_iconst (v := (2 : Int32)) hx hb dL_law_1328 (by decide) ?_
  refine lv_iadd hx hb dL_law_1329 ?_
  obtain ⟨hin, hf⟩ := wb_n hf
  refine va_sld hx hb hXs hbl hbA hS hin dL_law_1330 ?_
  refine lv_aload_n hx hb dL_law_1331 rfl (lv_at hl 0 rfl) ?_
  refine lv_iload hx hb dL_law_1332 (lv_at hl 4 rfl) ?_
  refine lv_iconst (v := (3 : Int32)) hx hb dL_law_1334 (by decide) ?_
  refine lv_iadd hx hb dL_law_1335 ?_
  obtain ⟨hin, hf⟩ := wb_n hf
  refine va_sld hx hb hXs hbl hbA hS hin dL_law_1336 ?_
  refine lv_aload_n hx hb dL_law_1337 rfl (lv_at hl 3 rfl) ?_
  obtain ⟨r1, hr1, hf⟩ := wb_b hf
  have hPc := wj_P3 hP
  have hDc := wj_D3 hD
  have hFc := wj_F hDc hS hA
  refine va_calli (vx_runSW (As := [.ref (a0 0), .int (xs ((y4 + (1 : Int32))).toNatClampNeg), .int (xs ((y4 + (2 : Int32))).toNatClampNeg), .int (xs ((y4 + (3 : Int32))).toNatClampNeg), .ref b2]) (rest := []) ⟨hx, hb, hml, hown, hts⟩ (cn_L_hour l hlt D cB cI cZ cJ N a0 I0 M0 (xs ((y4 + (1 : Int32))).toNatClampNeg) (xs ((y4 + (2 : Int32))).toNatClampNeg) (xs ((y4 + (3 : Int32))).toNatClampNeg) b2 o2 H.size r1 hr1) (vx_cwSW 5 hts gyL_law_L_hour rfl rfl rfl csL_hour ⟨Nat.le_of_ble_eq_true rfl, Nat.le_of_ble_eq_true rfl⟩) (wb_preLS hPc hK hDc (hX0.kept hS) hNc) rfl rfl hl.1 rfl (lv_room (Nat.le_of_ble_eq_true rfl)) dL_law_1338 ⟨hc1, hs1⟩) hS (fun q _ h => hFc q h) hFc (fun r9 u t H locs ht hvm hw hB hz1 hk1 hS => ?_)
  obtain ⟨hP, hD⟩ := wj_3 hP hD hk1 hFc ht hB
  rw [hw]
  obtain ⟨v2, ev2, hf⟩ := wb_v hf
  refine wb_topi ev2 ?_
  refine lv_istore (lv' := [(5, .int v2), (0, .ref b), (1, .ref (a0 0)), (2, .ref (a1 0)), (3, .ref b2), (4, .int y4)]) hx hb dL_law_1341 hl (by decide) rfl (fun ls hl => ?_)
  refine lv_aload_n hx hb dL_law_1343 rfl (lv_at hl 3 rfl) ?_
  refine lv_aload_n hx hb dL_law_1344 rfl (lv_at hl 1 rfl) ?_
  refine lv_iload hx hb dL_law_1345 (lv_at hl 5 rfl) ?_
  refine lv_iconst (v := (1 : Int32)) hx hb dL_law_1347 (by decide) ?_
  refine lv_iadd hx hb dL_law_1348 ?_
  obtain ⟨hin, hf⟩ := wb_n hf
  refine va_sld hx hb hXs hbl hbA hS hin dL_law_1349 ?_
  refine lv_aload_n hx hb dL_law_1350 rfl (lv_at hl 1 rfl) ?_
  refine lv_iload hx hb dL_law_1351 (lv_at hl 5 rfl) ?_
  refine lv_iconst (v := (2 : Int32)) hx hb dL_law_1353 (by decide) ?_
  refine lv_iadd hx hb dL_law_1354 ?_
  obtain ⟨hin, hf⟩ := wb_n hf
  refine va_sld hx hb hXs hbl hbA hS hin dL_law_1355 ?_
  refine lv_aload_n hx hb dL_law_1356 rfl (lv_at hl 1 rfl) ?_
  refine lv_iload hx hb dL_law_1357 (lv_at hl 5 rfl) ?_
  refine lv_iconst (v := (3 : Int32)) hx hb dL_law_1359 (by decide) ?_
  refine lv_iadd hx hb dL_law_1360 ?_
  obtain ⟨hin, hf⟩ := wb_n hf
  refine va_sld hx hb hXs hbl hbA hS hin dL_law_1361 ?_
  obtain ⟨r3, hr3, hf⟩ := wb_b hf
  have hPc := wj_P2 hP
  have hDc := wj_D2 hD
  have hFc := wj_F hDc hS hA
  refine va_calli (va_runV (As := [.int (xs ((y4 + (1 : Int32))).toNatClampNeg), .int (xs ((y4 + (2 : Int32))).toNatClampNeg), .int (xs ((y4 + (3 : Int32))).toNatClampNeg)]) (rest := []) ⟨hx, hb, hml, hown, hts⟩ (cn_X12_hour l D cB cI cZ N a1 I1 L1 M1 (xs ((y4 + (1 : Int32))).toNatClampNeg) (xs ((y4 + (2 : Int32))).toNatClampNeg) (xs ((y4 + (3 : Int32))).toNatClampNeg) H.size r3 hr3) (cwV 3 hts gyL_law_X12_hour rfl rfl rfl cdX12_hour ⟨Nat.le_of_ble_eq_true rfl, Nat.le_of_ble_eq_true rfl⟩) (wb_preDV hPc hK3 hDc (va_recv hK hP (ci := 12) (q0 := 52) rfl rfl)) rfl rfl hl.1 rfl (lv_room (Nat.le_of_ble_eq_true rfl)) dL_law_1362 ⟨hc1, hs1⟩) hS (fun q _ h => hFc q h) hFc (fun r9 u t H locs ht hvm hw hB hz1 hk1 hS => ?_)
  obtain ⟨hP, hD⟩ := wj_2 hP hD hk1 hFc ht hB
  rw [hw]
  obtain ⟨v4, ev4, hf⟩ := wb_v hf
  refine wb_topi ev4 ?_
  refine lv_istore (lv' := [(6, .int v4), (5, .int v2), (0, .ref b), (1, .ref (a0 0)), (2, .ref (a1 0)), (3, .ref b2), (4, .int y4)]) hx hb dL_law_1365 hl (by decide) rfl (fun ls hl => ?_)
  refine lv_aload_n hx hb dL_law_1367 rfl (lv_at hl 4 rfl) ?_
  obtain ⟨r5, hr5, hf⟩ := wb_b hf
  refine vp_callSi (W.runV (As := []) (rest := []) ⟨hx, hb, hml, hown, hts⟩ (cn_X12_thrown l D cB cI cZ N a1 r3.2.1 r3.2.2.1 r3.2.2.2 r5 hr5) (cwV 0 hts gyL_law_X12_thrown rfl rfl rfl cdX12_thrown ⟨Nat.le_of_ble_eq_true rfl, Nat.le_of_ble_eq_true rfl⟩) (wb_preV (hP.sub (ws' := (wWX12 cB cI cZ a1 r3.2.1 r3.2.2.1 r3.2.2.2)) [52, 53, 54, 55, 56, 57, 58, 59, 60, 61, 62, 63, 64, 65, 66, 67, 68, 69, 70, 71, 72, 73, 74, 75, 76, 77, 78, 79, 80, 81, 82, 83, 84, 85, 86, 87, 88, 89] rfl) hK3 (va_recv hK hP (ci := 12) (q0 := 52) rfl rfl)) rfl rfl hl.1 rfl (lv_room (Nat.le_of_ble_eq_true rfl)) dL_law_1368 ⟨hc1, hs1⟩) (fun r9 e9 => ?_)
  rw [e9]
  refine lv_iload hx hb dL_law_1371 (lv_at hl 1 rfl) ?_
  refine lv_icmp_eq (tgt := 1378) hx hb dL_law_1373 (by decide) (fun hc => ?_) (fun hc => ?_)
  · replace hf := wb_t hc hf
    refine lv_iload hx hb dL_law_1378 (lv_at hl 1 rfl) ?_
    refine lv_if_ne (tgt := 1395) hx hb dL_law_1380 (by decide) (fun hc => ?_) (fun hc => ?_)
    · replace hf := wb_f hc hf
      refine lv_goto (tgt := 3022) hx hb dL_law_1395 (by decide) ?_
      refine W.widen (k := c0 + 1) (n := s0 + 6) (Nat.le_refl _) (Nat.le_refl _) ?_
      have h9 := Option.some.inj hf
      exact kk H locs ls (by rw [← h9]; exact hP) (by rw [← h9]; exact hD) hS (lv_sub hl [2, 3, 4, 5, 6] rfl)
    · replace hf := wb_t hc hf
      refine lv_aload_n hx hb dL_law_1383 rfl (lv_at hl 5 rfl) ?_
      refine lv_iconst (v := (0 : Int32)) hx hb dL_law_1384 (by decide) ?_
      refine va_lald hx hb hK hP 90 3 rfl rfl (show ¬ ((0 : Int32) < 0 ∨ 1 ≤ (0 : Int32).toNatClampNeg) from by decide) dL_law_1385 ?_
      refine lv_iload hx hb dL_law_1386 (lv_at hl 0 rfl) ?_
      refine lv_i2l hx hb dL_law_1388 rfl ?_
      refine W.lcmp hx hb dL_law_1389 ?_
      refine lv_if_eq (tgt := 1395) hx hb dL_law_1390 (by decide) (fun hc => ?_) (fun hc => ?_)
      · replace hf := wb_t hc hf
        refine lv_goto (tgt := 3022) hx hb dL_law_1395 (by decide) ?_
        refine W.widen (k := c0 + 1) (n := s0 + 6) (Nat.le_refl _) (Nat.le_refl _) ?_
        have h9 := Option.some.inj hf
        exact kk H locs ls (by rw [← h9]; exact hP) (by rw [← h9]; exact hD) hS (lv_sub hl [2, 3, 4, 5, 6] rfl)
      · replace hf := wb_f hc hf
        refine lv_iconst (v := (0 : Int32)) hx hb dL_law_1393 (by decide) ?_
        exact absurd hf (fun h => nomatch h)
  · replace hf := wb_f hc hf
    refine lv_iconst (v := (0 : Int32)) hx hb dL_law_1376 (by decide) ?_
    exact absurd hf (fun h => nomatch h)

set_option maxHeartbeats 4000000 in
set_option maxRecDepth 100000 in
theorem law_case16 {p : Program} {e : Env} {s : State} {m : MethodId} {below : List Frame} {meth : Method} {c : Code} (l : Launch) (hlt : l.stackTraces = false) (D : va_G) (cB cI cZ cJ : ClassId) (N : Nat) {b L : Nat} {xs : Nat → Int32} (C0 : lw_At p s m meth c b L xs) (hX0 : wb_XH s.heap s) (hNc : va_Nc wb_E2 wb_E1 s) (a0 a1 : Nat → Nat) (b2 : Nat) (I0 : Nat → Int32) (M0 : Nat → Nat → Int32) (I1 : Nat → Int32) (L1 : Int64) (M1 : Nat → Nat → Int32) (o2 : Nat → Int64) (y4 : Int32) (c0 s0 : Nat) (hc1 : c0 + 1 ≤ room_1.cells) (hs1 : s0 + 6 ≤ room_1.slots) (H : Heap) (locs : List Loc) (hK : va_K D vwCl [(cB, .byte), (cI, .int), (cZ, .boolean), (cJ, .long)] s) (hP : va_P D vwCl ((wWX11 cB cI cZ a0 I0 M0) ++ ((wWX12 cB cI cZ a1 I1 L1 M1) ++ [(b2, .inl (cJ, 1, .inr (.inl o2)))])) H) (hD : va_D (fun q : Nat => s.heap.size ≤ q) ((wWX11 cB cI cZ a0 I0 M0) ++ ((wWX12 cB cI cZ a1 I1 L1 M1) ++ [(b2, .inl (cJ, 1, .inr (.inl o2)))]))) (hS : va_S (fun q : Nat => s.heap.size ≤ q) s.heap H locs) (ls : Array Slot) (hl : lv_has ls 7 [(0, .ref b), (1, .ref (a0 0)), (2, .ref (a1 0)), (3, .ref b2), (4, .int y4)]) (R : (Nat → Int32) × (Nat → Nat → Int32) × (Nat → Int32) × Int64 × (Nat → Nat → Int32) × (Nat → Int64)) (hf : fL_case16 N L xs I0 M0 I1 L1 M1 o2 y4 = some R)
    (kk : ∀ (H : Heap) (locs : List Loc) (ls : Array Slot), va_P D vwCl ((wWX11 cB cI cZ a0 R.1 R.2.1) ++ ((wWX12 cB cI cZ a1 R.2.2.1 R.2.2.2.1 R.2.2.2.2.1) ++ [(b2, .inl (cJ, 1, .inr (.inl R.2.2.2.2.2)))])) H → va_D (fun q : Nat => s.heap.size ≤ q) ((wWX11 cB cI cZ a0 R.1 R.2.1) ++ ((wWX12 cB cI cZ a1 R.2.2.1 R.2.2.2.1 R.2.2.2.2.1) ++ [(b2, .inl (cJ, 1, .inr (.inl R.2.2.2.2.2)))])) → va_S (fun q : Nat => s.heap.size ≤ q) s.heap H locs → lv_has ls 7 [(0, .ref b), (1, .ref (a0 0)), (2, .ref (a1 0)), (3, .ref b2), (4, .int y4)] → W p l e room_1 s m #[Value.ref b] below meth c H locs (c0 + 1) (s0 + 6) (lw_Z below #[Value.ref b] s) (F0 m 3022 ls [])) : W p l e room_1 s m #[Value.ref b] below meth c H locs c0 s0 (lw_Z below #[Value.ref b] s) (F0 m 1398 ls []) := by
  obtain ⟨hx, hb, hr, hml, hown, hts0, hXs, hbl, hlocks, hgv⟩ := id C0
  have hown : s.vm.findClass RL = some m.cls := hown
  have hb : c.code = cL_law := hb
  have hts : ∀ w ∈ wyL_law, w.before #[Value.ref b] s = true := fun w h => hts0 w (wl_law w h)
  have hA : ∀ q : Nat, s.heap.size ≤ q → (fun q : Nat => s.heap.size ≤ q) q := fun _ h => h
  have hbA : ¬ (fun q : Nat => s.heap.size ≤ q) b := Nat.not_le.mpr hbl
  have hK3 : va_K D vwCl [(cB, .byte), (cI, .int), (cZ, .boolean)] s := hK.sub [0, 1, 2] rfl
  have hc0 : c0 ≤ room_1.cells := Nat.le_of_succ_le hc1
  have hs0 : s0 ≤ room_1.slots := Nat.le_trans (Nat.le_add_right _ 6) hs1
  unfold fL_case16 at hf
  refine lv_aload_n hx hb dL_law_1398 rfl (lv_at hl 1 rfl) ?_
  refine lv_aload_n hx hb dL_law_1399 rfl (lv_at hl 0 rfl) ?_
  refine lv_iload hx hb dL_law_1400 (lv_at hl 4 rfl) ?_
  refine lv_iconst (v := (1 : Int32)) hx hb dL_law_1402 (by decide) ?_
  refine lv_iadd hx hb dL_law_1403 ?_
  obtain ⟨hin, hf⟩ := wb_n hf
  refine va_sld hx hb hXs hbl hbA hS hin dL_law_1404 ?_
  refine lv_aload_n hx hb dL_law_1405 rfl (lv_at hl 0 rfl) ?_
  refine lv_iload hx hb dL_law_1406 (lv_at hl 4 rfl) ?_
  refine lv_iconst (v := (2 : Int32)) hx hb dL_law_1408 (by decide) ?_
  refine lv_iadd hx hb dL_law_1409 ?_
  obtain ⟨hin, hf⟩ := wb_n hf
  refine va_sld hx hb hXs hbl hbA hS hin dL_law_1410 ?_
  refine lv_aload_n hx hb dL_law_1411 rfl (lv_at hl 0 rfl) ?_
  refine lv_iload hx hb dL_law_1412 (lv_at hl 4 rfl) ?_
  refine lv_iconst (v := (3 : Int32)) hx hb dL_law_1414 (by decide) ?_
  refine lv_iadd hx hb dL_law_1415 ?_
  obtain ⟨hin, hf⟩ := wb_n hf
  refine va_sld hx hb hXs hbl hbA hS hin dL_law_1416 ?_
  refine lv_aload_n hx hb dL_law_1417 rfl (lv_at hl 0 rfl) ?_
  refine lv_iload hx hb dL_law_1418 (lv_at hl 4 rfl) ?_
  refine lv_iconst (v := (4 : Int32)) hx hb dL_law_1420 (by decide) ?_
  refine lv_iadd hx hb dL_law_1421 ?_
  obtain ⟨hin, hf⟩ := wb_n hf
  refine va_sld hx hb hXs hbl hbA hS hin dL_law_1422 ?_
  refine lv_aload_n hx hb dL_law_1423 rfl (lv_at hl 3 rfl) ?_
  obtain ⟨r1, hr1, hf⟩ := wb_b hf
  have hPc := wj_P3 hP
  have hDc := wj_D3 hD
  have hFc := wj_F hDc hS hA
  refine va_calli (vx_runSW (As := [.ref (a0 0), .int (xs ((y4 + (1 : Int32))).toNatClampNeg), .int (xs ((y4 + (2 : Int32))).toNatClampNeg), .int (xs ((y4 + (3 : Int32))).toNatClampNeg), .int (xs ((y4 + (4 : Int32))).toNatClampNeg), .ref b2]) (rest := []) ⟨hx, hb, hml, hown, hts⟩ (cn_L_houseOf l hlt D cB cI cZ cJ N a0 I0 M0 (xs ((y4 + (1 : Int32))).toNatClampNeg) (xs ((y4 + (2 : Int32))).toNatClampNeg) (xs ((y4 + (3 : Int32))).toNatClampNeg) (xs ((y4 + (4 : Int32))).toNatClampNeg) b2 o2 H.size r1 hr1) (vx_cwSW 6 hts gyL_law_L_houseOf rfl rfl rfl csL_houseOf ⟨Nat.le_of_ble_eq_true rfl, Nat.le_of_ble_eq_true rfl⟩) (wb_preLS hPc hK hDc (hX0.kept hS) hNc) rfl rfl hl.1 rfl (lv_room (Nat.le_of_ble_eq_true rfl)) dL_law_1424 ⟨hc1, hs1⟩) hS (fun q _ h => hFc q h) hFc (fun r9 u t H locs ht hvm hw hB hz1 hk1 hS => ?_)
  obtain ⟨hP, hD⟩ := wj_3 hP hD hk1 hFc ht hB
  rw [hw]
  obtain ⟨v2, ev2, hf⟩ := wb_v hf
  refine wb_topi ev2 ?_
  refine lv_istore (lv' := [(5, .int v2), (0, .ref b), (1, .ref (a0 0)), (2, .ref (a1 0)), (3, .ref b2), (4, .int y4)]) hx hb dL_law_1427 hl (by decide) rfl (fun ls hl => ?_)
  refine lv_aload_n hx hb dL_law_1429 rfl (lv_at hl 3 rfl) ?_
  refine lv_aload_n hx hb dL_law_1430 rfl (lv_at hl 1 rfl) ?_
  refine lv_iload hx hb dL_law_1431 (lv_at hl 5 rfl) ?_
  refine lv_iconst (v := (1 : Int32)) hx hb dL_law_1433 (by decide) ?_
  refine lv_iadd hx hb dL_law_1434 ?_
  obtain ⟨hin, hf⟩ := wb_n hf
  refine va_sld hx hb hXs hbl hbA hS hin dL_law_1435 ?_
  refine lv_aload_n hx hb dL_law_1436 rfl (lv_at hl 1 rfl) ?_
  refine lv_iload hx hb dL_law_1437 (lv_at hl 5 rfl) ?_
  refine lv_iconst (v := (2 : Int32)) hx hb dL_law_1439 (by decide) ?_
  refine lv_iadd hx hb dL_law_1440 ?_
  obtain ⟨hin, hf⟩ := wb_n hf
  refine va_sld hx hb hXs hbl hbA hS hin dL_law_1441 ?_
  refine lv_aload_n hx hb dL_law_1442 rfl (lv_at hl 1 rfl) ?_
  refine lv_iload hx hb dL_law_1443 (lv_at hl 5 rfl) ?_
  refine lv_iconst (v := (3 : Int32)) hx hb dL_law_1445 (by decide) ?_
  refine lv_iadd hx hb dL_law_1446 ?_
  obtain ⟨hin, hf⟩ := wb_n hf
  refine va_sld hx hb hXs hbl hbA hS hin dL_law_1447 ?_
  refine lv_aload_n hx hb dL_law_1448 rfl (lv_at hl 1 rfl) ?_
  refine lv_iload hx hb dL_law_1449 (lv_at hl 5 rfl) ?_
  refine lv_iconst (v := (4 : Int32)) hx hb dL_law_1451 (by decide) ?_
  refine lv_iadd hx hb dL_law_1452 ?_
  obtain ⟨hin, hf⟩ := wb_n hf
  refine va_sld hx hb hXs hbl hbA hS hin dL_law_1453 ?_
  obtain ⟨r3, hr3, hf⟩ := wb_b hf
  have hPc := wj_P2 hP
  have hDc := wj_D2 hD
  have hFc := wj_F hDc hS hA
  refine va_calli (va_runV (As := [.int (xs ((y4 + (1 : Int32))).toNatClampNeg), .int (xs ((y4 + (2 : Int32))).toNatClampNeg), .int (xs ((y4 + (3 : Int32))).toNatClampNeg), .int (xs ((y4 + (4 : Int32))).toNatClampNeg)]) (rest := []) ⟨hx, hb, hml, hown, hts⟩ (cn_X12_houseOf l D cB cI cZ N a1 I1 L1 M1 (xs ((y4 + (1 : Int32))).toNatClampNeg) (xs ((y4 + (2 : Int32))).toNatClampNeg) (xs ((y4 + (3 : Int32))).toNatClampNeg) (xs ((y4 + (4 : Int32))).toNatClampNeg) H.size r3 hr3) (cwV 4 hts gyL_law_X12_houseOf rfl rfl rfl cdX12_houseOf ⟨Nat.le_of_ble_eq_true rfl, Nat.le_of_ble_eq_true rfl⟩) (wb_preDV hPc hK3 hDc (va_recv hK hP (ci := 12) (q0 := 52) rfl rfl)) rfl rfl hl.1 rfl (lv_room (Nat.le_of_ble_eq_true rfl)) dL_law_1454 ⟨hc1, hs1⟩) hS (fun q _ h => hFc q h) hFc (fun r9 u t H locs ht hvm hw hB hz1 hk1 hS => ?_)
  obtain ⟨hP, hD⟩ := wj_2 hP hD hk1 hFc ht hB
  rw [hw]
  obtain ⟨v4, ev4, hf⟩ := wb_v hf
  refine wb_topi ev4 ?_
  refine lv_istore (lv' := [(6, .int v4), (5, .int v2), (0, .ref b), (1, .ref (a0 0)), (2, .ref (a1 0)), (3, .ref b2), (4, .int y4)]) hx hb dL_law_1457 hl (by decide) rfl (fun ls hl => ?_)
  refine lv_aload_n hx hb dL_law_1459 rfl (lv_at hl 4 rfl) ?_
  obtain ⟨r5, hr5, hf⟩ := wb_b hf
  refine vp_callSi (W.runV (As := []) (rest := []) ⟨hx, hb, hml, hown, hts⟩ (cn_X12_thrown l D cB cI cZ N a1 r3.2.1 r3.2.2.1 r3.2.2.2 r5 hr5) (cwV 0 hts gyL_law_X12_thrown rfl rfl rfl cdX12_thrown ⟨Nat.le_of_ble_eq_true rfl, Nat.le_of_ble_eq_true rfl⟩) (wb_preV (hP.sub (ws' := (wWX12 cB cI cZ a1 r3.2.1 r3.2.2.1 r3.2.2.2)) [52, 53, 54, 55, 56, 57, 58, 59, 60, 61, 62, 63, 64, 65, 66, 67, 68, 69, 70, 71, 72, 73, 74, 75, 76, 77, 78, 79, 80, 81, 82, 83, 84, 85, 86, 87, 88, 89] rfl) hK3 (va_recv hK hP (ci := 12) (q0 := 52) rfl rfl)) rfl rfl hl.1 rfl (lv_room (Nat.le_of_ble_eq_true rfl)) dL_law_1460 ⟨hc1, hs1⟩) (fun r9 e9 => ?_)
  rw [e9]
  refine lv_iload hx hb dL_law_1463 (lv_at hl 1 rfl) ?_
  refine lv_icmp_eq (tgt := 1470) hx hb dL_law_1465 (by decide) (fun hc => ?_) (fun hc => ?_)
  · replace hf := wb_t hc hf
    refine lv_iload hx hb dL_law_1470 (lv_at hl 1 rfl) ?_
    refine lv_if_ne (tgt := 1487) hx hb dL_law_1472 (by decide) (fun hc => ?_) (fun hc => ?_)
    · replace hf := wb_f hc hf
      refine lv_goto (tgt := 3022) hx hb dL_law_1487 (by decide) ?_
      refine W.widen (k := c0 + 1) (n := s0 + 6) (Nat.le_refl _) (Nat.le_refl _) ?_
      have h9 := Option.some.inj hf
      exact kk H locs ls (by rw [← h9]; exact hP) (by rw [← h9]; exact hD) hS (lv_sub hl [2, 3, 4, 5, 6] rfl)
    · replace hf := wb_t hc hf
      refine lv_aload_n hx hb dL_law_1475 rfl (lv_at hl 5 rfl) ?_
      refine lv_iconst (v := (0 : Int32)) hx hb dL_law_1476 (by decide) ?_
      refine va_lald hx hb hK hP 90 3 rfl rfl (show ¬ ((0 : Int32) < 0 ∨ 1 ≤ (0 : Int32).toNatClampNeg) from by decide) dL_law_1477 ?_
      refine lv_iload hx hb dL_law_1478 (lv_at hl 0 rfl) ?_
      refine lv_i2l hx hb dL_law_1480 rfl ?_
      refine W.lcmp hx hb dL_law_1481 ?_
      refine lv_if_eq (tgt := 1487) hx hb dL_law_1482 (by decide) (fun hc => ?_) (fun hc => ?_)
      · replace hf := wb_t hc hf
        refine lv_goto (tgt := 3022) hx hb dL_law_1487 (by decide) ?_
        refine W.widen (k := c0 + 1) (n := s0 + 6) (Nat.le_refl _) (Nat.le_refl _) ?_
        have h9 := Option.some.inj hf
        exact kk H locs ls (by rw [← h9]; exact hP) (by rw [← h9]; exact hD) hS (lv_sub hl [2, 3, 4, 5, 6] rfl)
      · replace hf := wb_f hc hf
        refine lv_iconst (v := (0 : Int32)) hx hb dL_law_1485 (by decide) ?_
        exact absurd hf (fun h => nomatch h)
  · replace hf := wb_f hc hf
    refine lv_iconst (v := (0 : Int32)) hx hb dL_law_1468 (by decide) ?_
    exact absurd hf (fun h => nomatch h)

set_option maxHeartbeats 4000000 in
set_option maxRecDepth 100000 in
theorem law_case17 {p : Program} {e : Env} {s : State} {m : MethodId} {below : List Frame} {meth : Method} {c : Code} (l : Launch) (hlt : l.stackTraces = false) (D : va_G) (cB cI cZ cJ : ClassId) (N : Nat) {b L : Nat} {xs : Nat → Int32} (C0 : lw_At p s m meth c b L xs) (hX0 : wb_XH s.heap s) (hNc : va_Nc wb_E2 wb_E1 s) (a0 a1 : Nat → Nat) (b2 : Nat) (I0 : Nat → Int32) (M0 : Nat → Nat → Int32) (I1 : Nat → Int32) (L1 : Int64) (M1 : Nat → Nat → Int32) (o2 : Nat → Int64) (y4 : Int32) (c0 s0 : Nat) (hc1 : c0 + 1 ≤ room_1.cells) (hs1 : s0 + 6 ≤ room_1.slots) (H : Heap) (locs : List Loc) (hK : va_K D vwCl [(cB, .byte), (cI, .int), (cZ, .boolean), (cJ, .long)] s) (hP : va_P D vwCl ((wWX11 cB cI cZ a0 I0 M0) ++ ((wWX12 cB cI cZ a1 I1 L1 M1) ++ [(b2, .inl (cJ, 1, .inr (.inl o2)))])) H) (hD : va_D (fun q : Nat => s.heap.size ≤ q) ((wWX11 cB cI cZ a0 I0 M0) ++ ((wWX12 cB cI cZ a1 I1 L1 M1) ++ [(b2, .inl (cJ, 1, .inr (.inl o2)))]))) (hS : va_S (fun q : Nat => s.heap.size ≤ q) s.heap H locs) (ls : Array Slot) (hl : lv_has ls 7 [(0, .ref b), (1, .ref (a0 0)), (2, .ref (a1 0)), (3, .ref b2), (4, .int y4)]) (R : (Nat → Int32) × (Nat → Nat → Int32) × (Nat → Int32) × Int64 × (Nat → Nat → Int32) × (Nat → Int64)) (hf : fL_case17 N L xs I0 M0 I1 L1 M1 o2 y4 = some R)
    (kk : ∀ (H : Heap) (locs : List Loc) (ls : Array Slot), va_P D vwCl ((wWX11 cB cI cZ a0 R.1 R.2.1) ++ ((wWX12 cB cI cZ a1 R.2.2.1 R.2.2.2.1 R.2.2.2.2.1) ++ [(b2, .inl (cJ, 1, .inr (.inl R.2.2.2.2.2)))])) H → va_D (fun q : Nat => s.heap.size ≤ q) ((wWX11 cB cI cZ a0 R.1 R.2.1) ++ ((wWX12 cB cI cZ a1 R.2.2.1 R.2.2.2.1 R.2.2.2.2.1) ++ [(b2, .inl (cJ, 1, .inr (.inl R.2.2.2.2.2)))])) → va_S (fun q : Nat => s.heap.size ≤ q) s.heap H locs → lv_has ls 7 [(0, .ref b), (1, .ref (a0 0)), (2, .ref (a1 0)), (3, .ref b2), (4, .int y4)] → W p l e room_1 s m #[Value.ref b] below meth c H locs (c0 + 1) (s0 + 6) (lw_Z below #[Value.ref b] s) (F0 m 3022 ls [])) : W p l e room_1 s m #[Value.ref b] below meth c H locs c0 s0 (lw_Z below #[Value.ref b] s) (F0 m 1490 ls []) := by
  obtain ⟨hx, hb, hr, hml, hown, hts0, hXs, hbl, hlocks, hgv⟩ := id C0
  have hown : s.vm.findClass RL = some m.cls := hown
  have hb : c.code = cL_law := hb
  have hts : ∀ w ∈ wyL_law, w.before #[Value.ref b] s = true := fun w h => hts0 w (wl_law w h)
  have hA : ∀ q : Nat, s.heap.size ≤ q → (fun q : Nat => s.heap.size ≤ q) q := fun _ h => h
  have hbA : ¬ (fun q : Nat => s.heap.size ≤ q) b := Nat.not_le.mpr hbl
  have hK3 : va_K D vwCl [(cB, .byte), (cI, .int), (cZ, .boolean)] s := hK.sub [0, 1, 2] rfl
  have hc0 : c0 ≤ room_1.cells := Nat.le_of_succ_le hc1
  have hs0 : s0 ≤ room_1.slots := Nat.le_trans (Nat.le_add_right _ 6) hs1
  unfold fL_case17 at hf
  refine lv_aload_n hx hb dL_law_1490 rfl (lv_at hl 1 rfl) ?_
  refine lv_aload_n hx hb dL_law_1491 rfl (lv_at hl 0 rfl) ?_
  refine lv_iload hx hb dL_law_1492 (lv_at hl 4 rfl) ?_
  refine lv_iconst (v := (1 : Int32)) hx hb dL_law_1494 (by decide) ?_
  refine lv_iadd hx hb dL_law_1495 ?_
  obtain ⟨hin, hf⟩ := wb_n hf
  refine va_sld hx hb hXs hbl hbA hS hin dL_law_1496 ?_
  refine lv_aload_n hx hb dL_law_1497 rfl (lv_at hl 0 rfl) ?_
  refine lv_iload hx hb dL_law_1498 (lv_at hl 4 rfl) ?_
  refine lv_iconst (v := (2 : Int32)) hx hb dL_law_1500 (by decide) ?_
  refine lv_iadd hx hb dL_law_1501 ?_
  obtain ⟨hin, hf⟩ := wb_n hf
  refine va_sld hx hb hXs hbl hbA hS hin dL_law_1502 ?_
  refine lv_aload_n hx hb dL_law_1503 rfl (lv_at hl 0 rfl) ?_
  refine lv_iload hx hb dL_law_1504 (lv_at hl 4 rfl) ?_
  refine lv_iconst (v := (3 : Int32)) hx hb dL_law_1506 (by decide) ?_
  refine lv_iadd hx hb dL_law_1507 ?_
  obtain ⟨hin, hf⟩ := wb_n hf
  refine va_sld hx hb hXs hbl hbA hS hin dL_law_1508 ?_
  refine lv_aload_n hx hb dL_law_1509 rfl (lv_at hl 0 rfl) ?_
  refine lv_iload hx hb dL_law_1510 (lv_at hl 4 rfl) ?_
  refine lv_iconst (v := (4 : Int32)) hx hb dL_law_1512 (by decide) ?_
  refine lv_iadd hx hb dL_law_1513 ?_
  obtain ⟨hin, hf⟩ := wb_n hf
  refine va_sld hx hb hXs hbl hbA hS hin dL_law_1514 ?_
  refine lv_aload_n hx hb dL_law_1515 rfl (lv_at hl 3 rfl) ?_
  obtain ⟨r1, hr1, hf⟩ := wb_b hf
  have hPc := wj_P3 hP
  have hDc := wj_D3 hD
  have hFc := wj_F hDc hS hA
  refine va_calli (vx_runSW (As := [.ref (a0 0), .int (xs ((y4 + (1 : Int32))).toNatClampNeg), .int (xs ((y4 + (2 : Int32))).toNatClampNeg), .int (xs ((y4 + (3 : Int32))).toNatClampNeg), .int (xs ((y4 + (4 : Int32))).toNatClampNeg), .ref b2]) (rest := []) ⟨hx, hb, hml, hown, hts⟩ (cn_L_agree l hlt D cB cI cZ cJ N a0 I0 M0 (xs ((y4 + (1 : Int32))).toNatClampNeg) (xs ((y4 + (2 : Int32))).toNatClampNeg) (xs ((y4 + (3 : Int32))).toNatClampNeg) (xs ((y4 + (4 : Int32))).toNatClampNeg) b2 o2 H.size r1 hr1) (vx_cwSW 6 hts gyL_law_L_agree rfl rfl rfl csL_agree ⟨Nat.le_of_ble_eq_true rfl, Nat.le_of_ble_eq_true rfl⟩) (wb_preLS hPc hK hDc (hX0.kept hS) hNc) rfl rfl hl.1 rfl (lv_room (Nat.le_of_ble_eq_true rfl)) dL_law_1516 ⟨hc1, hs1⟩) hS (fun q _ h => hFc q h) hFc (fun r9 u t H locs ht hvm hw hB hz1 hk1 hS => ?_)
  obtain ⟨hP, hD⟩ := wj_3 hP hD hk1 hFc ht hB
  rw [hw]
  obtain ⟨v2, ev2, hf⟩ := wb_v hf
  refine wb_topi ev2 ?_
  refine lv_istore (lv' := [(5, .int v2), (0, .ref b), (1, .ref (a0 0)), (2, .ref (a1 0)), (3, .ref b2), (4, .int y4)]) hx hb dL_law_1519 hl (by decide) rfl (fun ls hl => ?_)
  refine lv_aload_n hx hb dL_law_1521 rfl (lv_at hl 3 rfl) ?_
  refine lv_aload_n hx hb dL_law_1522 rfl (lv_at hl 1 rfl) ?_
  refine lv_iload hx hb dL_law_1523 (lv_at hl 5 rfl) ?_
  refine lv_iconst (v := (1 : Int32)) hx hb dL_law_1525 (by decide) ?_
  refine lv_iadd hx hb dL_law_1526 ?_
  obtain ⟨hin, hf⟩ := wb_n hf
  refine va_sld hx hb hXs hbl hbA hS hin dL_law_1527 ?_
  refine lv_aload_n hx hb dL_law_1528 rfl (lv_at hl 1 rfl) ?_
  refine lv_iload hx hb dL_law_1529 (lv_at hl 5 rfl) ?_
  refine lv_iconst (v := (2 : Int32)) hx hb dL_law_1531 (by decide) ?_
  refine lv_iadd hx hb dL_law_1532 ?_
  obtain ⟨hin, hf⟩ := wb_n hf
  refine va_sld hx hb hXs hbl hbA hS hin dL_law_1533 ?_
  refine lv_aload_n hx hb dL_law_1534 rfl (lv_at hl 1 rfl) ?_
  refine lv_iload hx hb dL_law_1535 (lv_at hl 5 rfl) ?_
  refine lv_iconst (v := (3 : Int32)) hx hb dL_law_1537 (by decide) ?_
  refine lv_iadd hx hb dL_law_1538 ?_
  obtain ⟨hin, hf⟩ := wb_n hf
  refine va_sld hx hb hXs hbl hbA hS hin dL_law_1539 ?_
  refine lv_aload_n hx hb dL_law_1540 rfl (lv_at hl 1 rfl) ?_
  refine lv_iload hx hb dL_law_1541 (lv_at hl 5 rfl) ?_
  refine lv_iconst (v := (4 : Int32)) hx hb dL_law_1543 (by decide) ?_
  refine lv_iadd hx hb dL_law_1544 ?_
  obtain ⟨hin, hf⟩ := wb_n hf
  refine va_sld hx hb hXs hbl hbA hS hin dL_law_1545 ?_
  obtain ⟨r3, hr3, hf⟩ := wb_b hf
  have hPc := wj_P2 hP
  have hDc := wj_D2 hD
  have hFc := wj_F hDc hS hA
  refine va_calli (va_runV (As := [.int (xs ((y4 + (1 : Int32))).toNatClampNeg), .int (xs ((y4 + (2 : Int32))).toNatClampNeg), .int (xs ((y4 + (3 : Int32))).toNatClampNeg), .int (xs ((y4 + (4 : Int32))).toNatClampNeg)]) (rest := []) ⟨hx, hb, hml, hown, hts⟩ (cn_X12_agree l D cB cI cZ N a1 I1 L1 M1 (xs ((y4 + (1 : Int32))).toNatClampNeg) (xs ((y4 + (2 : Int32))).toNatClampNeg) (xs ((y4 + (3 : Int32))).toNatClampNeg) (xs ((y4 + (4 : Int32))).toNatClampNeg) H.size r3 hr3) (cwV 4 hts gyL_law_X12_agree rfl rfl rfl cdX12_agree ⟨Nat.le_of_ble_eq_true rfl, Nat.le_of_ble_eq_true rfl⟩) (wb_preDV hPc hK3 hDc (va_recv hK hP (ci := 12) (q0 := 52) rfl rfl)) rfl rfl hl.1 rfl (lv_room (Nat.le_of_ble_eq_true rfl)) dL_law_1546 ⟨hc1, hs1⟩) hS (fun q _ h => hFc q h) hFc (fun r9 u t H locs ht hvm hw hB hz1 hk1 hS => ?_)
  obtain ⟨hP, hD⟩ := wj_2 hP hD hk1 hFc ht hB
  rw [hw]
  obtain ⟨v4, ev4, hf⟩ := wb_v hf
  refine wb_topi ev4 ?_
  refine lv_istore (lv' := [(6, .int v4), (5, .int v2), (0, .ref b), (1, .ref (a0 0)), (2, .ref (a1 0)), (3, .ref b2), (4, .int y4)]) hx hb dL_law_1549 hl (by decide) rfl (fun ls hl => ?_)
  refine lv_aload_n hx hb dL_law_1551 rfl (lv_at hl 4 rfl) ?_
  obtain ⟨r5, hr5, hf⟩ := wb_b hf
  refine vp_callSi (W.runV (As := []) (rest := []) ⟨hx, hb, hml, hown, hts⟩ (cn_X12_thrown l D cB cI cZ N a1 r3.2.1 r3.2.2.1 r3.2.2.2 r5 hr5) (cwV 0 hts gyL_law_X12_thrown rfl rfl rfl cdX12_thrown ⟨Nat.le_of_ble_eq_true rfl, Nat.le_of_ble_eq_true rfl⟩) (wb_preV (hP.sub (ws' := (wWX12 cB cI cZ a1 r3.2.1 r3.2.2.1 r3.2.2.2)) [52, 53, 54, 55, 56, 57, 58, 59, 60, 61, 62, 63, 64, 65, 66, 67, 68, 69, 70, 71, 72, 73, 74, 75, 76, 77, 78, 79, 80, 81, 82, 83, 84, 85, 86, 87, 88, 89] rfl) hK3 (va_recv hK hP (ci := 12) (q0 := 52) rfl rfl)) rfl rfl hl.1 rfl (lv_room (Nat.le_of_ble_eq_true rfl)) dL_law_1552 ⟨hc1, hs1⟩) (fun r9 e9 => ?_)
  rw [e9]
  refine lv_iload hx hb dL_law_1555 (lv_at hl 1 rfl) ?_
  refine lv_icmp_eq (tgt := 1562) hx hb dL_law_1557 (by decide) (fun hc => ?_) (fun hc => ?_)
  · replace hf := wb_t hc hf
    refine lv_iload hx hb dL_law_1562 (lv_at hl 1 rfl) ?_
    refine lv_if_ne (tgt := 1579) hx hb dL_law_1564 (by decide) (fun hc => ?_) (fun hc => ?_)
    · replace hf := wb_f hc hf
      refine lv_goto (tgt := 3022) hx hb dL_law_1579 (by decide) ?_
      refine W.widen (k := c0 + 1) (n := s0 + 6) (Nat.le_refl _) (Nat.le_refl _) ?_
      have h9 := Option.some.inj hf
      exact kk H locs ls (by rw [← h9]; exact hP) (by rw [← h9]; exact hD) hS (lv_sub hl [2, 3, 4, 5, 6] rfl)
    · replace hf := wb_t hc hf
      refine lv_aload_n hx hb dL_law_1567 rfl (lv_at hl 5 rfl) ?_
      refine lv_iconst (v := (0 : Int32)) hx hb dL_law_1568 (by decide) ?_
      refine va_lald hx hb hK hP 90 3 rfl rfl (show ¬ ((0 : Int32) < 0 ∨ 1 ≤ (0 : Int32).toNatClampNeg) from by decide) dL_law_1569 ?_
      refine lv_iload hx hb dL_law_1570 (lv_at hl 0 rfl) ?_
      refine lv_i2l hx hb dL_law_1572 rfl ?_
      refine W.lcmp hx hb dL_law_1573 ?_
      refine lv_if_eq (tgt := 1579) hx hb dL_law_1574 (by decide) (fun hc => ?_) (fun hc => ?_)
      · replace hf := wb_t hc hf
        refine lv_goto (tgt := 3022) hx hb dL_law_1579 (by decide) ?_
        refine W.widen (k := c0 + 1) (n := s0 + 6) (Nat.le_refl _) (Nat.le_refl _) ?_
        have h9 := Option.some.inj hf
        exact kk H locs ls (by rw [← h9]; exact hP) (by rw [← h9]; exact hD) hS (lv_sub hl [2, 3, 4, 5, 6] rfl)
      · replace hf := wb_f hc hf
        refine lv_iconst (v := (0 : Int32)) hx hb dL_law_1577 (by decide) ?_
        exact absurd hf (fun h => nomatch h)
  · replace hf := wb_f hc hf
    refine lv_iconst (v := (0 : Int32)) hx hb dL_law_1560 (by decide) ?_
    exact absurd hf (fun h => nomatch h)

set_option maxHeartbeats 4000000 in
set_option maxRecDepth 100000 in
theorem law_case18 {p : Program} {e : Env} {s : State} {m : MethodId} {below : List Frame} {meth : Method} {c : Code} (l : Launch) (hlt : l.stackTraces = false) (D : va_G) (cB cI cZ cJ : ClassId) (N : Nat) {b L : Nat} {xs : Nat → Int32} (C0 : lw_At p s m meth c b L xs) (hX0 : wb_XH s.heap s) (hNc : va_Nc wb_E2 wb_E1 s) (a0 a1 : Nat → Nat) (b2 : Nat) (I0 : Nat → Int32) (M0 : Nat → Nat → Int32) (I1 : Nat → Int32) (L1 : Int64) (M1 : Nat → Nat → Int32) (o2 : Nat → Int64) (y4 : Int32) (c0 s0 : Nat) (hc1 : c0 + 1 ≤ room_1.cells) (hs1 : s0 + 6 ≤ room_1.slots) (H : Heap) (locs : List Loc) (hK : va_K D vwCl [(cB, .byte), (cI, .int), (cZ, .boolean), (cJ, .long)] s) (hP : va_P D vwCl ((wWX11 cB cI cZ a0 I0 M0) ++ ((wWX12 cB cI cZ a1 I1 L1 M1) ++ [(b2, .inl (cJ, 1, .inr (.inl o2)))])) H) (hD : va_D (fun q : Nat => s.heap.size ≤ q) ((wWX11 cB cI cZ a0 I0 M0) ++ ((wWX12 cB cI cZ a1 I1 L1 M1) ++ [(b2, .inl (cJ, 1, .inr (.inl o2)))]))) (hS : va_S (fun q : Nat => s.heap.size ≤ q) s.heap H locs) (ls : Array Slot) (hl : lv_has ls 7 [(0, .ref b), (1, .ref (a0 0)), (2, .ref (a1 0)), (3, .ref b2), (4, .int y4)]) (R : (Nat → Int32) × (Nat → Nat → Int32) × (Nat → Int32) × Int64 × (Nat → Nat → Int32) × (Nat → Int64)) (hf : fL_case18 N L xs I0 M0 I1 L1 M1 o2 y4 = some R)
    (kk : ∀ (H : Heap) (locs : List Loc) (ls : Array Slot), va_P D vwCl ((wWX11 cB cI cZ a0 R.1 R.2.1) ++ ((wWX12 cB cI cZ a1 R.2.2.1 R.2.2.2.1 R.2.2.2.2.1) ++ [(b2, .inl (cJ, 1, .inr (.inl R.2.2.2.2.2)))])) H → va_D (fun q : Nat => s.heap.size ≤ q) ((wWX11 cB cI cZ a0 R.1 R.2.1) ++ ((wWX12 cB cI cZ a1 R.2.2.1 R.2.2.2.1 R.2.2.2.2.1) ++ [(b2, .inl (cJ, 1, .inr (.inl R.2.2.2.2.2)))])) → va_S (fun q : Nat => s.heap.size ≤ q) s.heap H locs → lv_has ls 7 [(0, .ref b), (1, .ref (a0 0)), (2, .ref (a1 0)), (3, .ref b2), (4, .int y4)] → W p l e room_1 s m #[Value.ref b] below meth c H locs (c0 + 1) (s0 + 6) (lw_Z below #[Value.ref b] s) (F0 m 3022 ls [])) : W p l e room_1 s m #[Value.ref b] below meth c H locs c0 s0 (lw_Z below #[Value.ref b] s) (F0 m 1582 ls []) := by
  obtain ⟨hx, hb, hr, hml, hown, hts0, hXs, hbl, hlocks, hgv⟩ := id C0
  have hown : s.vm.findClass RL = some m.cls := hown
  have hb : c.code = cL_law := hb
  have hts : ∀ w ∈ wyL_law, w.before #[Value.ref b] s = true := fun w h => hts0 w (wl_law w h)
  have hA : ∀ q : Nat, s.heap.size ≤ q → (fun q : Nat => s.heap.size ≤ q) q := fun _ h => h
  have hbA : ¬ (fun q : Nat => s.heap.size ≤ q) b := Nat.not_le.mpr hbl
  have hK3 : va_K D vwCl [(cB, .byte), (cI, .int), (cZ, .boolean)] s := hK.sub [0, 1, 2] rfl
  have hc0 : c0 ≤ room_1.cells := Nat.le_of_succ_le hc1
  have hs0 : s0 ≤ room_1.slots := Nat.le_trans (Nat.le_add_right _ 6) hs1
  unfold fL_case18 at hf
  refine lv_aload_n hx hb dL_law_1582 rfl (lv_at hl 1 rfl) ?_
  refine lv_aload_n hx hb dL_law_1583 rfl (lv_at hl 0 rfl) ?_
  refine lv_iload hx hb dL_law_1584 (lv_at hl 4 rfl) ?_
  refine lv_iconst (v := (1 : Int32)) hx hb dL_law_1586 (by decide) ?_
  refine lv_iadd hx hb dL_law_1587 ?_
  obtain ⟨hin, hf⟩ := wb_n hf
  refine va_sld hx hb hXs hbl hbA hS hin dL_law_1588 ?_
  refine lv_aload_n hx hb dL_law_1589 rfl (lv_at hl 0 rfl) ?_
  refine lv_iload hx hb dL_law_1590 (lv_at hl 4 rfl) ?_
  refine lv_iconst (v := (2 : Int32)) hx hb dL_law_1592 (by decide) ?_
  refine lv_iadd hx hb dL_law_1593 ?_
  obtain ⟨hin, hf⟩ := wb_n hf
  refine va_sld hx hb hXs hbl hbA hS hin dL_law_1594 ?_
  refine lv_aload_n hx hb dL_law_1595 rfl (lv_at hl 0 rfl) ?_
  refine lv_iload hx hb dL_law_1596 (lv_at hl 4 rfl) ?_
  refine lv_iconst (v := (3 : Int32)) hx hb dL_law_1598 (by decide) ?_
  refine lv_iadd hx hb dL_law_1599 ?_
  obtain ⟨hin, hf⟩ := wb_n hf
  refine va_sld hx hb hXs hbl hbA hS hin dL_law_1600 ?_
  refine lv_aload_n hx hb dL_law_1601 rfl (lv_at hl 3 rfl) ?_
  obtain ⟨r1, hr1, hf⟩ := wb_b hf
  have hPc := wj_P3 hP
  have hDc := wj_D3 hD
  have hFc := wj_F hDc hS hA
  refine va_calli (vx_runSW (As := [.ref (a0 0), .int (xs ((y4 + (1 : Int32))).toNatClampNeg), .int (xs ((y4 + (2 : Int32))).toNatClampNeg), .int (xs ((y4 + (3 : Int32))).toNatClampNeg), .ref b2]) (rest := []) ⟨hx, hb, hml, hown, hts⟩ (cn_L_lot l hlt D cB cI cZ cJ N a0 I0 M0 (xs ((y4 + (1 : Int32))).toNatClampNeg) (xs ((y4 + (2 : Int32))).toNatClampNeg) (xs ((y4 + (3 : Int32))).toNatClampNeg) b2 o2 H.size r1 hr1) (vx_cwSW 5 hts gyL_law_L_lot rfl rfl rfl csL_lot ⟨Nat.le_of_ble_eq_true rfl, Nat.le_of_ble_eq_true rfl⟩) (wb_preLS hPc hK hDc (hX0.kept hS) hNc) rfl rfl hl.1 rfl (lv_room (Nat.le_of_ble_eq_true rfl)) dL_law_1602 ⟨hc1, hs1⟩) hS (fun q _ h => hFc q h) hFc (fun r9 u t H locs ht hvm hw hB hz1 hk1 hS => ?_)
  obtain ⟨hP, hD⟩ := wj_3 hP hD hk1 hFc ht hB
  rw [hw]
  obtain ⟨v2, ev2, hf⟩ := wb_v hf
  refine wb_topi ev2 ?_
  refine lv_istore (lv' := [(5, .int v2), (0, .ref b), (1, .ref (a0 0)), (2, .ref (a1 0)), (3, .ref b2), (4, .int y4)]) hx hb dL_law_1605 hl (by decide) rfl (fun ls hl => ?_)
  refine lv_aload_n hx hb dL_law_1607 rfl (lv_at hl 3 rfl) ?_
  refine lv_aload_n hx hb dL_law_1608 rfl (lv_at hl 1 rfl) ?_
  refine lv_iload hx hb dL_law_1609 (lv_at hl 5 rfl) ?_
  refine lv_iconst (v := (1 : Int32)) hx hb dL_law_1611 (by decide) ?_
  refine lv_iadd hx hb dL_law_1612 ?_
  obtain ⟨hin, hf⟩ := wb_n hf
  refine va_sld hx hb hXs hbl hbA hS hin dL_law_1613 ?_
  refine lv_aload_n hx hb dL_law_1614 rfl (lv_at hl 1 rfl) ?_
  refine lv_iload hx hb dL_law_1615 (lv_at hl 5 rfl) ?_
  refine lv_iconst (v := (2 : Int32)) hx hb dL_law_1617 (by decide) ?_
  refine lv_iadd hx hb dL_law_1618 ?_
  obtain ⟨hin, hf⟩ := wb_n hf
  refine va_sld hx hb hXs hbl hbA hS hin dL_law_1619 ?_
  refine lv_aload_n hx hb dL_law_1620 rfl (lv_at hl 1 rfl) ?_
  refine lv_iload hx hb dL_law_1621 (lv_at hl 5 rfl) ?_
  refine lv_iconst (v := (3 : Int32)) hx hb dL_law_1623 (by decide) ?_
  refine lv_iadd hx hb dL_law_1624 ?_
  obtain ⟨hin, hf⟩ := wb_n hf
  refine va_sld hx hb hXs hbl hbA hS hin dL_law_1625 ?_
  obtain ⟨r3, hr3, hf⟩ := wb_b hf
  have hPc := wj_P2 hP
  have hDc := wj_D2 hD
  have hFc := wj_F hDc hS hA
  refine va_calli (va_runV (As := [.int (xs ((y4 + (1 : Int32))).toNatClampNeg), .int (xs ((y4 + (2 : Int32))).toNatClampNeg), .int (xs ((y4 + (3 : Int32))).toNatClampNeg)]) (rest := []) ⟨hx, hb, hml, hown, hts⟩ (cn_X12_lot l D cB cI cZ N a1 I1 L1 M1 (xs ((y4 + (1 : Int32))).toNatClampNeg) (xs ((y4 + (2 : Int32))).toNatClampNeg) (xs ((y4 + (3 : Int32))).toNatClampNeg) H.size r3 hr3) (cwV 3 hts gyL_law_X12_lot rfl rfl rfl cdX12_lot ⟨Nat.le_of_ble_eq_true rfl, Nat.le_of_ble_eq_true rfl⟩) (wb_preDV hPc hK3 hDc (va_recv hK hP (ci := 12) (q0 := 52) rfl rfl)) rfl rfl hl.1 rfl (lv_room (Nat.le_of_ble_eq_true rfl)) dL_law_1626 ⟨hc1, hs1⟩) hS (fun q _ h => hFc q h) hFc (fun r9 u t H locs ht hvm hw hB hz1 hk1 hS => ?_)
  obtain ⟨hP, hD⟩ := wj_2 hP hD hk1 hFc ht hB
  rw [hw]
  obtain ⟨v4, ev4, hf⟩ := wb_v hf
  refine wb_topi ev4 ?_
  refine lv_istore (lv' := [(6, .int v4), (5, .int v2), (0, .ref b), (1, .ref (a0 0)), (2, .ref (a1 0)), (3, .ref b2), (4, .int y4)]) hx hb dL_law_1629 hl (by decide) rfl (fun ls hl => ?_)
  refine lv_aload_n hx hb dL_law_1631 rfl (lv_at hl 4 rfl) ?_
  obtain ⟨r5, hr5, hf⟩ := wb_b hf
  refine vp_callSi (W.runV (As := []) (rest := []) ⟨hx, hb, hml, hown, hts⟩ (cn_X12_thrown l D cB cI cZ N a1 r3.2.1 r3.2.2.1 r3.2.2.2 r5 hr5) (cwV 0 hts gyL_law_X12_thrown rfl rfl rfl cdX12_thrown ⟨Nat.le_of_ble_eq_true rfl, Nat.le_of_ble_eq_true rfl⟩) (wb_preV (hP.sub (ws' := (wWX12 cB cI cZ a1 r3.2.1 r3.2.2.1 r3.2.2.2)) [52, 53, 54, 55, 56, 57, 58, 59, 60, 61, 62, 63, 64, 65, 66, 67, 68, 69, 70, 71, 72, 73, 74, 75, 76, 77, 78, 79, 80, 81, 82, 83, 84, 85, 86, 87, 88, 89] rfl) hK3 (va_recv hK hP (ci := 12) (q0 := 52) rfl rfl)) rfl rfl hl.1 rfl (lv_room (Nat.le_of_ble_eq_true rfl)) dL_law_1632 ⟨hc1, hs1⟩) (fun r9 e9 => ?_)
  rw [e9]
  refine lv_iload hx hb dL_law_1635 (lv_at hl 1 rfl) ?_
  refine lv_icmp_eq (tgt := 1642) hx hb dL_law_1637 (by decide) (fun hc => ?_) (fun hc => ?_)
  · replace hf := wb_t hc hf
    refine lv_iload hx hb dL_law_1642 (lv_at hl 1 rfl) ?_
    refine lv_if_ne (tgt := 1659) hx hb dL_law_1644 (by decide) (fun hc => ?_) (fun hc => ?_)
    · replace hf := wb_f hc hf
      refine lv_goto (tgt := 3022) hx hb dL_law_1659 (by decide) ?_
      refine W.widen (k := c0 + 1) (n := s0 + 6) (Nat.le_refl _) (Nat.le_refl _) ?_
      have h9 := Option.some.inj hf
      exact kk H locs ls (by rw [← h9]; exact hP) (by rw [← h9]; exact hD) hS (lv_sub hl [2, 3, 4, 5, 6] rfl)
    · replace hf := wb_t hc hf
      refine lv_aload_n hx hb dL_law_1647 rfl (lv_at hl 5 rfl) ?_
      refine lv_iconst (v := (0 : Int32)) hx hb dL_law_1648 (by decide) ?_
      refine va_lald hx hb hK hP 90 3 rfl rfl (show ¬ ((0 : Int32) < 0 ∨ 1 ≤ (0 : Int32).toNatClampNeg) from by decide) dL_law_1649 ?_
      refine lv_iload hx hb dL_law_1650 (lv_at hl 0 rfl) ?_
      refine lv_i2l hx hb dL_law_1652 rfl ?_
      refine W.lcmp hx hb dL_law_1653 ?_
      refine lv_if_eq (tgt := 1659) hx hb dL_law_1654 (by decide) (fun hc => ?_) (fun hc => ?_)
      · replace hf := wb_t hc hf
        refine lv_goto (tgt := 3022) hx hb dL_law_1659 (by decide) ?_
        refine W.widen (k := c0 + 1) (n := s0 + 6) (Nat.le_refl _) (Nat.le_refl _) ?_
        have h9 := Option.some.inj hf
        exact kk H locs ls (by rw [← h9]; exact hP) (by rw [← h9]; exact hD) hS (lv_sub hl [2, 3, 4, 5, 6] rfl)
      · replace hf := wb_f hc hf
        refine lv_iconst (v := (0 : Int32)) hx hb dL_law_1657 (by decide) ?_
        exact absurd hf (fun h => nomatch h)
  · replace hf := wb_f hc hf
    refine lv_iconst (v := (0 : Int32)) hx hb dL_law_1640 (by decide) ?_
    exact absurd hf (fun h => nomatch h)

set_option maxHeartbeats 4000000 in
set_option maxRecDepth 100000 in
theorem law_case19 {p : Program} {e : Env} {s : State} {m : MethodId} {below : List Frame} {meth : Method} {c : Code} (l : Launch) (hlt : l.stackTraces = false) (D : va_G) (cB cI cZ cJ : ClassId) (N : Nat) {b L : Nat} {xs : Nat → Int32} (C0 : lw_At p s m meth c b L xs) (hX0 : wb_XH s.heap s) (hNc : va_Nc wb_E2 wb_E1 s) (a0 a1 : Nat → Nat) (b2 : Nat) (I0 : Nat → Int32) (M0 : Nat → Nat → Int32) (I1 : Nat → Int32) (L1 : Int64) (M1 : Nat → Nat → Int32) (o2 : Nat → Int64) (y4 : Int32) (c0 s0 : Nat) (hc1 : c0 + 1 ≤ room_1.cells) (hs1 : s0 + 6 ≤ room_1.slots) (H : Heap) (locs : List Loc) (hK : va_K D vwCl [(cB, .byte), (cI, .int), (cZ, .boolean), (cJ, .long)] s) (hP : va_P D vwCl ((wWX11 cB cI cZ a0 I0 M0) ++ ((wWX12 cB cI cZ a1 I1 L1 M1) ++ [(b2, .inl (cJ, 1, .inr (.inl o2)))])) H) (hD : va_D (fun q : Nat => s.heap.size ≤ q) ((wWX11 cB cI cZ a0 I0 M0) ++ ((wWX12 cB cI cZ a1 I1 L1 M1) ++ [(b2, .inl (cJ, 1, .inr (.inl o2)))]))) (hS : va_S (fun q : Nat => s.heap.size ≤ q) s.heap H locs) (ls : Array Slot) (hl : lv_has ls 7 [(0, .ref b), (1, .ref (a0 0)), (2, .ref (a1 0)), (3, .ref b2), (4, .int y4)]) (R : (Nat → Int32) × (Nat → Nat → Int32) × (Nat → Int32) × Int64 × (Nat → Nat → Int32) × (Nat → Int64)) (hf : fL_case19 N L xs I0 M0 I1 L1 M1 o2 y4 = some R)
    (kk : ∀ (H : Heap) (locs : List Loc) (ls : Array Slot), va_P D vwCl ((wWX11 cB cI cZ a0 R.1 R.2.1) ++ ((wWX12 cB cI cZ a1 R.2.2.1 R.2.2.2.1 R.2.2.2.2.1) ++ [(b2, .inl (cJ, 1, .inr (.inl R.2.2.2.2.2)))])) H → va_D (fun q : Nat => s.heap.size ≤ q) ((wWX11 cB cI cZ a0 R.1 R.2.1) ++ ((wWX12 cB cI cZ a1 R.2.2.1 R.2.2.2.1 R.2.2.2.2.1) ++ [(b2, .inl (cJ, 1, .inr (.inl R.2.2.2.2.2)))])) → va_S (fun q : Nat => s.heap.size ≤ q) s.heap H locs → lv_has ls 7 [(0, .ref b), (1, .ref (a0 0)), (2, .ref (a1 0)), (3, .ref b2), (4, .int y4)] → W p l e room_1 s m #[Value.ref b] below meth c H locs (c0 + 1) (s0 + 6) (lw_Z below #[Value.ref b] s) (F0 m 3022 ls [])) : W p l e room_1 s m #[Value.ref b] below meth c H locs c0 s0 (lw_Z below #[Value.ref b] s) (F0 m 1662 ls []) := by
  obtain ⟨hx, hb, hr, hml, hown, hts0, hXs, hbl, hlocks, hgv⟩ := id C0
  have hown : s.vm.findClass RL = some m.cls := hown
  have hb : c.code = cL_law := hb
  have hts : ∀ w ∈ wyL_law, w.before #[Value.ref b] s = true := fun w h => hts0 w (wl_law w h)
  have hA : ∀ q : Nat, s.heap.size ≤ q → (fun q : Nat => s.heap.size ≤ q) q := fun _ h => h
  have hbA : ¬ (fun q : Nat => s.heap.size ≤ q) b := Nat.not_le.mpr hbl
  have hK3 : va_K D vwCl [(cB, .byte), (cI, .int), (cZ, .boolean)] s := hK.sub [0, 1, 2] rfl
  have hc0 : c0 ≤ room_1.cells := Nat.le_of_succ_le hc1
  have hs0 : s0 ≤ room_1.slots := Nat.le_trans (Nat.le_add_right _ 6) hs1
  unfold fL_case19 at hf
  refine lv_aload_n hx hb dL_law_1662 rfl (lv_at hl 1 rfl) ?_
  refine lv_aload_n hx hb dL_law_1663 rfl (lv_at hl 0 rfl) ?_
  refine lv_iload hx hb dL_law_1664 (lv_at hl 4 rfl) ?_
  refine lv_iconst (v := (1 : Int32)) hx hb dL_law_1666 (by decide) ?_
  refine lv_iadd hx hb dL_law_1667 ?_
  obtain ⟨hin, hf⟩ := wb_n hf
  refine va_sld hx hb hXs hbl hbA hS hin dL_law_1668 ?_
  refine lv_aload_n hx hb dL_law_1669 rfl (lv_at hl 0 rfl) ?_
  refine lv_iload hx hb dL_law_1670 (lv_at hl 4 rfl) ?_
  refine lv_iconst (v := (2 : Int32)) hx hb dL_law_1672 (by decide) ?_
  refine lv_iadd hx hb dL_law_1673 ?_
  obtain ⟨hin, hf⟩ := wb_n hf
  refine va_sld hx hb hXs hbl hbA hS hin dL_law_1674 ?_
  refine lv_aload_n hx hb dL_law_1675 rfl (lv_at hl 3 rfl) ?_
  obtain ⟨r1, hr1, hf⟩ := wb_b hf
  have hPc := wj_P3 hP
  have hDc := wj_D3 hD
  have hFc := wj_F hDc hS hA
  refine va_calli (vx_runSW (As := [.ref (a0 0), .int (xs ((y4 + (1 : Int32))).toNatClampNeg), .int (xs ((y4 + (2 : Int32))).toNatClampNeg), .ref b2]) (rest := []) ⟨hx, hb, hml, hown, hts⟩ (cn_L_price l hlt D cB cI cZ cJ N a0 I0 M0 (xs ((y4 + (1 : Int32))).toNatClampNeg) (xs ((y4 + (2 : Int32))).toNatClampNeg) b2 o2 H.size r1 hr1) (vx_cwSW 4 hts gyL_law_L_price rfl rfl rfl csL_price ⟨Nat.le_of_ble_eq_true rfl, Nat.le_of_ble_eq_true rfl⟩) (wb_preLS hPc hK hDc (hX0.kept hS) hNc) rfl rfl hl.1 rfl (lv_room (Nat.le_of_ble_eq_true rfl)) dL_law_1676 ⟨hc1, hs1⟩) hS (fun q _ h => hFc q h) hFc (fun r9 u t H locs ht hvm hw hB hz1 hk1 hS => ?_)
  obtain ⟨hP, hD⟩ := wj_3 hP hD hk1 hFc ht hB
  rw [hw]
  obtain ⟨v2, ev2, hf⟩ := wb_v hf
  refine wb_topi ev2 ?_
  refine lv_istore (lv' := [(5, .int v2), (0, .ref b), (1, .ref (a0 0)), (2, .ref (a1 0)), (3, .ref b2), (4, .int y4)]) hx hb dL_law_1679 hl (by decide) rfl (fun ls hl => ?_)
  refine lv_aload_n hx hb dL_law_1681 rfl (lv_at hl 3 rfl) ?_
  refine lv_aload_n hx hb dL_law_1682 rfl (lv_at hl 1 rfl) ?_
  refine lv_iload hx hb dL_law_1683 (lv_at hl 5 rfl) ?_
  refine lv_iconst (v := (1 : Int32)) hx hb dL_law_1685 (by decide) ?_
  refine lv_iadd hx hb dL_law_1686 ?_
  obtain ⟨hin, hf⟩ := wb_n hf
  refine va_sld hx hb hXs hbl hbA hS hin dL_law_1687 ?_
  refine lv_aload_n hx hb dL_law_1688 rfl (lv_at hl 1 rfl) ?_
  refine lv_iload hx hb dL_law_1689 (lv_at hl 5 rfl) ?_
  refine lv_iconst (v := (2 : Int32)) hx hb dL_law_1691 (by decide) ?_
  refine lv_iadd hx hb dL_law_1692 ?_
  obtain ⟨hin, hf⟩ := wb_n hf
  refine va_sld hx hb hXs hbl hbA hS hin dL_law_1693 ?_
  obtain ⟨r3, hr3, hf⟩ := wb_b hf
  have hPc := wj_P2 hP
  have hDc := wj_D2 hD
  have hFc := wj_F hDc hS hA
  refine va_calli (va_runV (As := [.int (xs ((y4 + (1 : Int32))).toNatClampNeg), .int (xs ((y4 + (2 : Int32))).toNatClampNeg)]) (rest := []) ⟨hx, hb, hml, hown, hts⟩ (cn_X12_price l D cB cI cZ N a1 I1 L1 M1 (xs ((y4 + (1 : Int32))).toNatClampNeg) (xs ((y4 + (2 : Int32))).toNatClampNeg) H.size r3 hr3) (cwV 2 hts gyL_law_X12_price rfl rfl rfl cdX12_price ⟨Nat.le_of_ble_eq_true rfl, Nat.le_of_ble_eq_true rfl⟩) (wb_preDV hPc hK3 hDc (va_recv hK hP (ci := 12) (q0 := 52) rfl rfl)) rfl rfl hl.1 rfl (lv_room (Nat.le_of_ble_eq_true rfl)) dL_law_1694 ⟨hc1, hs1⟩) hS (fun q _ h => hFc q h) hFc (fun r9 u t H locs ht hvm hw hB hz1 hk1 hS => ?_)
  obtain ⟨hP, hD⟩ := wj_2 hP hD hk1 hFc ht hB
  rw [hw]
  obtain ⟨v4, ev4, hf⟩ := wb_v hf
  refine wb_topi ev4 ?_
  refine lv_istore (lv' := [(6, .int v4), (5, .int v2), (0, .ref b), (1, .ref (a0 0)), (2, .ref (a1 0)), (3, .ref b2), (4, .int y4)]) hx hb dL_law_1697 hl (by decide) rfl (fun ls hl => ?_)
  refine lv_aload_n hx hb dL_law_1699 rfl (lv_at hl 4 rfl) ?_
  obtain ⟨r5, hr5, hf⟩ := wb_b hf
  refine vp_callSi (W.runV (As := []) (rest := []) ⟨hx, hb, hml, hown, hts⟩ (cn_X12_thrown l D cB cI cZ N a1 r3.2.1 r3.2.2.1 r3.2.2.2 r5 hr5) (cwV 0 hts gyL_law_X12_thrown rfl rfl rfl cdX12_thrown ⟨Nat.le_of_ble_eq_true rfl, Nat.le_of_ble_eq_true rfl⟩) (wb_preV (hP.sub (ws' := (wWX12 cB cI cZ a1 r3.2.1 r3.2.2.1 r3.2.2.2)) [52, 53, 54, 55, 56, 57, 58, 59, 60, 61, 62, 63, 64, 65, 66, 67, 68, 69, 70, 71, 72, 73, 74, 75, 76, 77, 78, 79, 80, 81, 82, 83, 84, 85, 86, 87, 88, 89] rfl) hK3 (va_recv hK hP (ci := 12) (q0 := 52) rfl rfl)) rfl rfl hl.1 rfl (lv_room (Nat.le_of_ble_eq_true rfl)) dL_law_1700 ⟨hc1, hs1⟩) (fun r9 e9 => ?_)
  rw [e9]
  refine lv_iload hx hb dL_law_1703 (lv_at hl 1 rfl) ?_
  refine lv_icmp_eq (tgt := 1710) hx hb dL_law_1705 (by decide) (fun hc => ?_) (fun hc => ?_)
  · replace hf := wb_t hc hf
    refine lv_iload hx hb dL_law_1710 (lv_at hl 1 rfl) ?_
    refine lv_if_ne (tgt := 1727) hx hb dL_law_1712 (by decide) (fun hc => ?_) (fun hc => ?_)
    · replace hf := wb_f hc hf
      refine lv_goto (tgt := 3022) hx hb dL_law_1727 (by decide) ?_
      refine W.widen (k := c0 + 1) (n := s0 + 6) (Nat.le_refl _) (Nat.le_refl _) ?_
      have h9 := Option.some.inj hf
      exact kk H locs ls (by rw [← h9]; exact hP) (by rw [← h9]; exact hD) hS (lv_sub hl [2, 3, 4, 5, 6] rfl)
    · replace hf := wb_t hc hf
      refine lv_aload_n hx hb dL_law_1715 rfl (lv_at hl 5 rfl) ?_
      refine lv_iconst (v := (0 : Int32)) hx hb dL_law_1716 (by decide) ?_
      refine va_lald hx hb hK hP 90 3 rfl rfl (show ¬ ((0 : Int32) < 0 ∨ 1 ≤ (0 : Int32).toNatClampNeg) from by decide) dL_law_1717 ?_
      refine lv_iload hx hb dL_law_1718 (lv_at hl 0 rfl) ?_
      refine lv_i2l hx hb dL_law_1720 rfl ?_
      refine W.lcmp hx hb dL_law_1721 ?_
      refine lv_if_eq (tgt := 1727) hx hb dL_law_1722 (by decide) (fun hc => ?_) (fun hc => ?_)
      · replace hf := wb_t hc hf
        refine lv_goto (tgt := 3022) hx hb dL_law_1727 (by decide) ?_
        refine W.widen (k := c0 + 1) (n := s0 + 6) (Nat.le_refl _) (Nat.le_refl _) ?_
        have h9 := Option.some.inj hf
        exact kk H locs ls (by rw [← h9]; exact hP) (by rw [← h9]; exact hD) hS (lv_sub hl [2, 3, 4, 5, 6] rfl)
      · replace hf := wb_f hc hf
        refine lv_iconst (v := (0 : Int32)) hx hb dL_law_1725 (by decide) ?_
        exact absurd hf (fun h => nomatch h)
  · replace hf := wb_f hc hf
    refine lv_iconst (v := (0 : Int32)) hx hb dL_law_1708 (by decide) ?_
    exact absurd hf (fun h => nomatch h)
