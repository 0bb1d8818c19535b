set_option maxHeartbeats 4000000 in
set_option maxRecDepth 100000 in
theorem law_case30 {p : Program} {e : Env} {s : State} {m : MethodId} {below : List Frame} {meth : Method} {c : Code} (l : Launch) (hlt : l.stackTraces = false) (D : va_G) (cB cI cZ cJ : ClassId) (N : Nat) {b L : Nat} {xs : Nat → Int32} (C0 : lw_At p s m meth c b L xs) (hX0 : wb_XH s.heap s) (hNc : va_Nc wb_E2 wb_E1 s) (a0 a1 : Nat → Nat) (b2 : Nat) (I0 : Nat → Int32) (M0 : Nat → Nat → Int32) (I1 : Nat → Int32) (L1 : Int64) (M1 : Nat → Nat → Int32) (o2 : Nat → Int64) (y4 : Int32) (c0 s0 : Nat) (hc1 : c0 + 1 ≤ room_1.cells) (hs1 : s0 + 6 ≤ room_1.slots) (H : Heap) (locs : List Loc) (hK : va_K D vwCl [(cB, .byte), (cI, .int), (cZ, .boolean), (cJ, .long)] s) (hP : va_P D vwCl ((wWX11 cB cI cZ a0 I0 M0) ++ ((wWX12 cB cI cZ a1 I1 L1 M1) ++ [(b2, .inl (cJ, 1, .inr (.inl o2)))])) H) (hD : va_D (fun q : Nat => s.heap.size ≤ q) ((wWX11 cB cI cZ a0 I0 M0) ++ ((wWX12 cB cI cZ a1 I1 L1 M1) ++ [(b2, .inl (cJ, 1, .inr (.inl o2)))]))) (hS : va_S (fun q : Nat => s.heap.size ≤ q) s.heap H locs) (ls : Array Slot) (hl : lv_has ls 7 [(0, .ref b), (1, .ref (a0 0)), (2, .ref (a1 0)), (3, .ref b2), (4, .int y4)]) (R : (Nat → Int32) × (Nat → Nat → Int32) × (Nat → Int32) × Int64 × (Nat → Nat → Int32) × (Nat → Int64)) (hf : fL_case30 N L xs I0 M0 I1 L1 M1 o2 y4 = some R)
    (kk : ∀ (H : Heap) (locs : List Loc) (ls : Array Slot), va_P D vwCl ((wWX11 cB cI cZ a0 R.1 R.2.1) ++ ((wWX12 cB cI cZ a1 R.2.2.1 R.2.2.2.1 R.2.2.2.2.1) ++ [(b2, .inl (cJ, 1, .inr (.inl R.2.2.2.2.2)))])) H → va_D (fun q : Nat => s.heap.size ≤ q) ((wWX11 cB cI cZ a0 R.1 R.2.1) ++ ((wWX12 cB cI cZ a1 R.2.2.1 R.2.2.2.1 R.2.2.2.2.1) ++ [(b2, .inl (cJ, 1, .inr (.inl R.2.2.2.2.2)))])) → va_S (fun q : Nat => s.heap.size ≤ q) s.heap H locs → lv_has ls 7 [(0, .ref b), (1, .ref (a0 0)), (2, .ref (a1 0)), (3, .ref b2), (4, .int y4)] → W p l e room_1 s m #[Value.ref b] below meth c H locs (c0 + 1) (s0 + 6) (lw_Z below #[Value.ref b] s) (F0 m 3022 ls [])) : W p l e room_1 s m #[Value.ref b] below meth c H locs c0 s0 (lw_Z below #[Value.ref b] s) (F0 m 2364 ls []) := by
  obtain ⟨hx, hb, hr, hml, hown, hts0, hXs, hbl, hlocks, hgv⟩ := id C0
  have hown : s.vm.findClass RL = some m.cls := hown
  have hb : c.code = cL_law := hb
  have hts : ∀ w ∈ wyL_law, w.before #[Value.ref b] s = true := fun w h => hts0 w (wl_law w h)
  have hA : ∀ q : Nat, s.heap.size ≤ q → (fun q : Nat => s.heap.size ≤ q) q := fun _ h => h
  have hbA : ¬ (fun q : Nat => s.heap.size ≤ q) b := Nat.not_le.mpr hbl
  have hK3 : va_K D vwCl [(cB, .byte), (cI, .int), (cZ, .boolean)] s := hK.sub [0, 1, 2] rfl
  have hc0 : c0 ≤ room_1.cells := Nat.le_of_succ_le hc1
  have hs0 : s0 ≤ room_1.slots := Nat.le_trans (Nat.le_add_right _ 6) hs1
  unfold fL_case30 at hf
  refine lv_aload_n hx hb dL_law_2364 rfl (lv_at hl 1 rfl) ?_
  refine lv_aload_n hx hb dL_law_2365 rfl (lv_at hl 0 rfl) ?_
  refine lv_iload hx hb dL_law_2366 (lv_at hl 4 rfl) ?_
  refine lv_iconst (v := (1 : Int32)) hx hb dL_law_2368 (by decide) ?_
  refine lv_iadd hx hb dL_law_2369 ?_
  obtain ⟨hin, hf⟩ := wb_n hf
  refine va_sld hx hb hXs hbl hbA hS hin dL_law_2370 ?_
  refine lv_aload_n hx hb dL_law_2371 rfl (lv_at hl 0 rfl) ?_
  refine lv_iload hx hb dL_law_2372 (lv_at hl 4 rfl) ?_
  refine lv_iconst (v := (2 : Int32)) hx hb dL_law_2374 (by decide) ?_
  refine lv_iadd hx hb dL_law_2375 ?_
  obtain ⟨hin, hf⟩ := wb_n hf
  refine va_sld hx hb hXs hbl hbA hS hin dL_law_2376 ?_
  refine lv_aload_n hx hb dL_law_2377 rfl (lv_at hl 3 rfl) ?_
  obtain ⟨r1, hr1, hf⟩ := wb_b hf
  have hPc := wj_P3 hP
  have hDc := wj_D3 hD
  have hFc := wj_F hDc hS hA
  refine va_calli (vx_runSW (As := [.ref (a0 0), .int (xs ((y4 + (1 : Int32))).toNatClampNeg), .int (xs ((y4 + (2 : Int32))).toNatClampNeg), .ref b2]) (rest := []) ⟨hx, hb, hml, hown, hts⟩ (cn_L_leaf l hlt D cB cI cZ cJ N a0 I0 M0 (xs ((y4 + (1 : Int32))).toNatClampNeg) (xs ((y4 + (2 : Int32))).toNatClampNeg) b2 o2 H.size r1 hr1) (vx_cwSW 4 hts gyL_law_L_leaf rfl rfl rfl csL_leaf ⟨Nat.le_of_ble_eq_true rfl, Nat.le_of_ble_eq_true rfl⟩) (wb_preLS hPc hK hDc (hX0.kept hS) hNc) rfl rfl hl.1 rfl (lv_room (Nat.le_of_ble_eq_true rfl)) dL_law_2378 ⟨hc1, hs1⟩) hS (fun q _ h => hFc q h) hFc (fun r9 u t H locs ht hvm hw hB hz1 hk1 hS => ?_)
  obtain ⟨hP, hD⟩ := wj_3 hP hD hk1 hFc ht hB
  rw [hw]
  obtain ⟨v2, ev2, hf⟩ := wb_v hf
  refine wb_topi ev2 ?_
  refine lv_istore (lv' := [(5, .int v2), (0, .ref b), (1, .ref (a0 0)), (2, .ref (a1 0)), (3, .ref b2), (4, .int y4)]) hx hb dL_law_2381 hl (by decide) rfl (fun ls hl => ?_)
  refine lv_aload_n hx hb dL_law_2383 rfl (lv_at hl 3 rfl) ?_
  refine lv_aload_n hx hb dL_law_2384 rfl (lv_at hl 1 rfl) ?_
  refine lv_iload hx hb dL_law_2385 (lv_at hl 5 rfl) ?_
  refine lv_iconst (v := (1 : Int32)) hx hb dL_law_2387 (by decide) ?_
  refine lv_iadd hx hb dL_law_2388 ?_
  obtain ⟨hin, hf⟩ := wb_n hf
  refine va_sld hx hb hXs hbl hbA hS hin dL_law_2389 ?_
  refine lv_aload_n hx hb dL_law_2390 rfl (lv_at hl 1 rfl) ?_
  refine lv_iload hx hb dL_law_2391 (lv_at hl 5 rfl) ?_
  refine lv_iconst (v := (2 : Int32)) hx hb dL_law_2393 (by decide) ?_
  refine lv_iadd hx hb dL_law_2394 ?_
  obtain ⟨hin, hf⟩ := wb_n hf
  refine va_sld hx hb hXs hbl hbA hS hin dL_law_2395 ?_
  obtain ⟨r3, hr3, hf⟩ := wb_b hf
  have hPc := wj_P2 hP
  have hDc := wj_D2 hD
  have hFc := wj_F hDc hS hA
  refine va_calli (va_runV (As := [.int (xs ((y4 + (1 : Int32))).toNatClampNeg), .int (xs ((y4 + (2 : Int32))).toNatClampNeg)]) (rest := []) ⟨hx, hb, hml, hown, hts⟩ (cn_X12_leaf l D cB cI cZ N a1 I1 L1 M1 (xs ((y4 + (1 : Int32))).toNatClampNeg) (xs ((y4 + (2 : Int32))).toNatClampNeg) H.size r3 hr3) (cwV 2 hts gyL_law_X12_leaf rfl rfl rfl cdX12_leaf ⟨Nat.le_of_ble_eq_true rfl, Nat.le_of_ble_eq_true rfl⟩) (wb_preDV hPc hK3 hDc (va_recv hK hP (ci := 12) (q0 := 52) rfl rfl)) rfl rfl hl.1 rfl (lv_room (Nat.le_of_ble_eq_true rfl)) dL_law_2396 ⟨hc1, hs1⟩) hS (fun q _ h => hFc q h) hFc (fun r9 u t H locs ht hvm hw hB hz1 hk1 hS => ?_)
  obtain ⟨hP, hD⟩ := wj_2 hP hD hk1 hFc ht hB
  rw [hw]
  obtain ⟨v4, ev4, hf⟩ := wb_v hf
  refine wb_topi ev4 ?_
  refine lv_istore (lv' := [(6, .int v4), (5, .int v2), (0, .ref b), (1, .ref (a0 0)), (2, .ref (a1 0)), (3, .ref b2), (4, .int y4)]) hx hb dL_law_2399 hl (by decide) rfl (fun ls hl => ?_)
  refine lv_aload_n hx hb dL_law_2401 rfl (lv_at hl 4 rfl) ?_
  obtain ⟨r5, hr5, hf⟩ := wb_b hf
  refine vp_callSi (W.runV (As := []) (rest := []) ⟨hx, hb, hml, hown, hts⟩ (cn_X12_thrown l D cB cI cZ N a1 r3.2.1 r3.2.2.1 r3.2.2.2 r5 hr5) (cwV 0 hts gyL_law_X12_thrown rfl rfl rfl cdX12_thrown ⟨Nat.le_of_ble_eq_true rfl, Nat.le_of_ble_eq_true rfl⟩) (wb_preV (hP.sub (ws' := (wWX12 cB cI cZ a1 r3.2.1 r3.2.2.1 r3.2.2.2)) [52, 53, 54, 55, 56, 57, 58, 59, 60, 61, 62, 63, 64, 65, 66, 67, 68, 69, 70, 71, 72, 73, 74, 75, 76, 77, 78, 79, 80, 81, 82, 83, 84, 85, 86, 87, 88, 89] rfl) hK3 (va_recv hK hP (ci := 12) (q0 := 52) rfl rfl)) rfl rfl hl.1 rfl (lv_room (Nat.le_of_ble_eq_true rfl)) dL_law_2402 ⟨hc1, hs1⟩) (fun r9 e9 => ?_)
  rw [e9]
  refine lv_iload hx hb dL_law_2405 (lv_at hl 1 rfl) ?_
  refine lv_icmp_eq (tgt := 2412) hx hb dL_law_2407 (by decide) (fun hc => ?_) (fun hc => ?_)
  · replace hf := wb_t hc hf
    refine lv_iload hx hb dL_law_2412 (lv_at hl 1 rfl) ?_
    refine lv_if_ne (tgt := 2429) hx hb dL_law_2414 (by decide) (fun hc => ?_) (fun hc => ?_)
    · replace hf := wb_f hc hf
      refine lv_goto (tgt := 3022) hx hb dL_law_2429 (by decide) ?_
      refine W.widen (k := c0 + 1) (n := s0 + 6) (Nat.le_refl _) (Nat.le_refl _) ?_
      have h9 := Option.some.inj hf
      exact kk H locs ls (by rw [← h9]; exact hP) (by rw [← h9]; exact hD) hS (lv_sub hl [2, 3, 4, 5, 6] rfl)
    · replace hf := wb_t hc hf
      refine lv_aload_n hx hb dL_law_2417 rfl (lv_at hl 5 rfl) ?_
      refine lv_iconst (v := (0 : Int32)) hx hb dL_law_2418 (by decide) ?_
      refine va_lald hx hb hK hP 90 3 rfl rfl (show ¬ ((0 : Int32) < 0 ∨ 1 ≤ (0 : Int32).toNatClampNeg) from by decide) dL_law_2419 ?_
      refine lv_iload hx hb dL_law_2420 (lv_at hl 0 rfl) ?_
      refine lv_i2l hx hb dL_law_2422 rfl ?_
      refine W.lcmp hx hb dL_law_2423 ?_
      refine lv_if_eq (tgt := 2429) hx hb dL_law_2424 (by decide) (fun hc => ?_) (fun hc => ?_)
      · replace hf := wb_t hc hf
        refine lv_goto (tgt := 3022) hx hb dL_law_2429 (by decide) ?_
        refine W.widen (k := c0 + 1) (n := s0 + 6) (Nat.le_refl _) (Nat.le_refl _) ?_
        have h9 := Option.some.inj hf
        exact kk H locs ls (by rw [← h9]; exact hP) (by rw [← h9]; exact hD) hS (lv_sub hl [2, 3, 4, 5, 6] rfl)
      · replace hf := wb_f hc hf
        refine lv_iconst (v := (0 : Int32)) hx hb dL_law_2427 (by decide) ?_
        exact absurd hf (fun h => nomatch h)
  · replace hf := wb_f hc hf
    refine lv_iconst (v := (0 : Int32)) hx hb dL_law_2410 (by decide) ?_
    exact absurd hf (fun h => nomatch h)

set_option maxHeartbeats 4000000 in
set_option maxRecDepth 100000 in
theorem law_case31 {p : Program} {e : Env} {s : State} {m : MethodId} {below : List Frame} {meth : Method} {c : Code} (l : Launch) (hlt : l.stackTraces = false) (D : va_G) (cB cI cZ cJ : ClassId) (N : Nat) {b L : Nat} {xs : Nat → Int32} (C0 : lw_At p s m meth c b L xs) (hX0 : wb_XH s.heap s) (hNc : va_Nc wb_E2 wb_E1 s) (a0 a1 : Nat → Nat) (b2 : Nat) (I0 : Nat → Int32) (M0 : Nat → Nat → Int32) (I1 : Nat → Int32) (L1 : Int64) (M1 : Nat → Nat → Int32) (o2 : Nat → Int64) (y4 : Int32) (c0 s0 : Nat) (hc1 : c0 + 1 ≤ room_1.cells) (hs1 : s0 + 6 ≤ room_1.slots) (H : Heap) (locs : List Loc) (hK : va_K D vwCl [(cB, .byte), (cI, .int), (cZ, .boolean), (cJ, .long)] s) (hP : va_P D vwCl ((wWX11 cB cI cZ a0 I0 M0) ++ ((wWX12 cB cI cZ a1 I1 L1 M1) ++ [(b2, .inl (cJ, 1, .inr (.inl o2)))])) H) (hD : va_D (fun q : Nat => s.heap.size ≤ q) ((wWX11 cB cI cZ a0 I0 M0) ++ ((wWX12 cB cI cZ a1 I1 L1 M1) ++ [(b2, .inl (cJ, 1, .inr (.inl o2)))]))) (hS : va_S (fun q : Nat => s.heap.size ≤ q) s.heap H locs) (ls : Array Slot) (hl : lv_has ls 7 [(0, .ref b), (1, .ref (a0 0)), (2, .ref (a1 0)), (3, .ref b2), (4, .int y4)]) (R : (Nat → Int32) × (Nat → Nat → Int32) × (Nat → Int32) × Int64 × (Nat → Nat → Int32) × (Nat → Int64)) (hf : fL_case31 N L xs I0 M0 I1 L1 M1 o2 y4 = some R)
    (kk : ∀ (H : Heap) (locs : List Loc) (ls : Array Slot), va_P D vwCl ((wWX11 cB cI cZ a0 R.1 R.2.1) ++ ((wWX12 cB cI cZ a1 R.2.2.1 R.2.2.2.1 R.2.2.2.2.1) ++ [(b2, .inl (cJ, 1, .inr (.inl R.2.2.2.2.2)))])) H → va_D (fun q : Nat => s.heap.size ≤ q) ((wWX11 cB cI cZ a0 R.1 R.2.1) ++ ((wWX12 cB cI cZ a1 R.2.2.1 R.2.2.2.1 R.2.2.2.2.1) ++ [(b2, .inl (cJ, 1, .inr (.inl R.2.2.2.2.2)))])) → va_S (fun q : Nat => s.heap.size ≤ q) s.heap H locs → lv_has ls 7 [(0, .ref b), (1, .ref (a0 0)), (2, .ref (a1 0)), (3, .ref b2), (4, .int y4)] → W p l e room_1 s m #[Value.ref b] below meth c H locs (c0 + 1) (s0 + 6) (lw_Z below #[Value.ref b] s) (F0 m 3022 ls [])) : W p l e room_1 s m #[Value.ref b] below meth c H locs c0 s0 (lw_Z below #[Value.ref b] s) (F0 m 2432 ls []) := by
  obtain ⟨hx, hb, hr, hml, hown, hts0, hXs, hbl, hlocks, hgv⟩ := id C0
  have hown : s.vm.findClass RL = some m.cls := hown
  have hb : c.code = cL_law := hb
  have hts : ∀ w ∈ wyL_law, w.before #[Value.ref b] s = true := fun w h => hts0 w (wl_law w h)
  have hA : ∀ q : Nat, s.heap.size ≤ q → (fun q : Nat => s.heap.size ≤ q) q := fun _ h => h
  have hbA : ¬ (fun q : Nat => s.heap.size ≤ q) b := Nat.not_le.mpr hbl
  have hK3 : va_K D vwCl [(cB, .byte), (cI, .int), (cZ, .boolean)] s := hK.sub [0, 1, 2] rfl
  have hc0 : c0 ≤ room_1.cells := Nat.le_of_succ_le hc1
  have hs0 : s0 ≤ room_1.slots := Nat.le_trans (Nat.le_add_right _ 6) hs1
  unfold fL_case31 at hf
  refine lv_aload_n hx hb dL_law_2432 rfl (lv_at hl 1 rfl) ?_
  refine lv_aload_n hx hb dL_law_2433 rfl (lv_at hl 0 rfl) ?_
  refine lv_iload hx hb dL_law_2434 (lv_at hl 4 rfl) ?_
  refine lv_iconst (v := (1 : Int32)) hx hb dL_law_2436 (by decide) ?_
  refine lv_iadd hx hb dL_law_2437 ?_
  obtain ⟨hin, hf⟩ := wb_n hf
  refine va_sld hx hb hXs hbl hbA hS hin dL_law_2438 ?_
  refine lv_aload_n hx hb dL_law_2439 rfl (lv_at hl 0 rfl) ?_
  refine lv_iload hx hb dL_law_2440 (lv_at hl 4 rfl) ?_
  refine lv_iconst (v := (2 : Int32)) hx hb dL_law_2442 (by decide) ?_
  refine lv_iadd hx hb dL_law_2443 ?_
  obtain ⟨hin, hf⟩ := wb_n hf
  refine va_sld hx hb hXs hbl hbA hS hin dL_law_2444 ?_
  refine lv_aload_n hx hb dL_law_2445 rfl (lv_at hl 0 rfl) ?_
  refine lv_iload hx hb dL_law_2446 (lv_at hl 4 rfl) ?_
  refine lv_iconst (v := (3 : Int32)) hx hb dL_law_2448 (by decide) ?_
  refine lv_iadd hx hb dL_law_2449 ?_
  obtain ⟨hin, hf⟩ := wb_n hf
  refine va_sld hx hb hXs hbl hbA hS hin dL_law_2450 ?_
  refine lv_aload_n hx hb dL_law_2451 rfl (lv_at hl 3 rfl) ?_
  obtain ⟨r1, hr1, hf⟩ := wb_b hf
  have hPc := wj_P3 hP
  have hDc := wj_D3 hD
  have hFc := wj_F hDc hS hA
  refine va_calli (vx_runSW (As := [.ref (a0 0), .int (xs ((y4 + (1 : Int32))).toNatClampNeg), .int (xs ((y4 + (2 : Int32))).toNatClampNeg), .int (xs ((y4 + (3 : Int32))).toNatClampNeg), .ref b2]) (rest := []) ⟨hx, hb, hml, hown, hts⟩ (cn_L_order l hlt D cB cI cZ cJ N a0 I0 M0 (xs ((y4 + (1 : Int32))).toNatClampNeg) (xs ((y4 + (2 : Int32))).toNatClampNeg) (xs ((y4 + (3 : Int32))).toNatClampNeg) b2 o2 H.size r1 hr1) (vx_cwSW 5 hts gyL_law_L_order rfl rfl rfl csL_order ⟨Nat.le_of_ble_eq_true rfl, Nat.le_of_ble_eq_true rfl⟩) (wb_preLS hPc hK hDc (hX0.kept hS) hNc) rfl rfl hl.1 rfl (lv_room (Nat.le_of_ble_eq_true rfl)) dL_law_2452 ⟨hc1, hs1⟩) hS (fun q _ h => hFc q h) hFc (fun r9 u t H locs ht hvm hw hB hz1 hk1 hS => ?_)
  obtain ⟨hP, hD⟩ := wj_3 hP hD hk1 hFc ht hB
  rw [hw]
  obtain ⟨v2, ev2, hf⟩ := wb_v hf
  refine wb_topi ev2 ?_
  refine lv_istore (lv' := [(5, .int v2), (0, .ref b), (1, .ref (a0 0)), (2, .ref (a1 0)), (3, .ref b2), (4, .int y4)]) hx hb dL_law_2455 hl (by decide) rfl (fun ls hl => ?_)
  refine lv_aload_n hx hb dL_law_2457 rfl (lv_at hl 3 rfl) ?_
  refine lv_aload_n hx hb dL_law_2458 rfl (lv_at hl 1 rfl) ?_
  refine lv_iload hx hb dL_law_2459 (lv_at hl 5 rfl) ?_
  refine lv_iconst (v := (1 : Int32)) hx hb dL_law_2461 (by decide) ?_
  refine lv_iadd hx hb dL_law_2462 ?_
  obtain ⟨hin, hf⟩ := wb_n hf
  refine va_sld hx hb hXs hbl hbA hS hin dL_law_2463 ?_
  refine lv_aload_n hx hb dL_law_2464 rfl (lv_at hl 1 rfl) ?_
  refine lv_iload hx hb dL_law_2465 (lv_at hl 5 rfl) ?_
  refine lv_iconst (v := (2 : Int32)) hx hb dL_law_2467 (by decide) ?_
  refine lv_iadd hx hb dL_law_2468 ?_
  obtain ⟨hin, hf⟩ := wb_n hf
  refine va_sld hx hb hXs hbl hbA hS hin dL_law_2469 ?_
  refine lv_aload_n hx hb dL_law_2470 rfl (lv_at hl 1 rfl) ?_
  refine lv_iload hx hb dL_law_2471 (lv_at hl 5 rfl) ?_
  refine lv_iconst (v := (3 : Int32)) hx hb dL_law_2473 (by decide) ?_
  refine lv_iadd hx hb dL_law_2474 ?_
  obtain ⟨hin, hf⟩ := wb_n hf
  refine va_sld hx hb hXs hbl hbA hS hin dL_law_2475 ?_
  obtain ⟨r3, hr3, hf⟩ := wb_b hf
  have hPc := wj_P2 hP
  have hDc := wj_D2 hD
  have hFc := wj_F hDc hS hA
  refine va_calli (va_runV (As := [.int (xs ((y4 + (1 : Int32))).toNatClampNeg), .int (xs ((y4 + (2 : Int32))).toNatClampNeg), .int (xs ((y4 + (3 : Int32))).toNatClampNeg)]) (rest := []) ⟨hx, hb, hml, hown, hts⟩ (cn_X12_order l D cB cI cZ N a1 I1 L1 M1 (xs ((y4 + (1 : Int32))).toNatClampNeg) (xs ((y4 + (2 : Int32))).toNatClampNeg) (xs ((y4 + (3 : Int32))).toNatClampNeg) H.size r3 hr3) (cwV 3 hts gyL_law_X12_order rfl rfl rfl cdX12_order ⟨Nat.le_of_ble_eq_true rfl, Nat.le_of_ble_eq_true rfl⟩) (wb_preDV hPc hK3 hDc (va_recv hK hP (ci := 12) (q0 := 52) rfl rfl)) rfl rfl hl.1 rfl (lv_room (Nat.le_of_ble_eq_true rfl)) dL_law_2476 ⟨hc1, hs1⟩) hS (fun q _ h => hFc q h) hFc (fun r9 u t H locs ht hvm hw hB hz1 hk1 hS => ?_)
  obtain ⟨hP, hD⟩ := wj_2 hP hD hk1 hFc ht hB
  rw [hw]
  obtain ⟨v4, ev4, hf⟩ := wb_v hf
  refine wb_topi ev4 ?_
  refine lv_istore (lv' := [(6, .int v4), (5, .int v2), (0, .ref b), (1, .ref (a0 0)), (2, .ref (a1 0)), (3, .ref b2), (4, .int y4)]) hx hb dL_law_2479 hl (by decide) rfl (fun ls hl => ?_)
  refine lv_aload_n hx hb dL_law_2481 rfl (lv_at hl 4 rfl) ?_
  obtain ⟨r5, hr5, hf⟩ := wb_b hf
  refine vp_callSi (W.runV (As := []) (rest := []) ⟨hx, hb, hml, hown, hts⟩ (cn_X12_thrown l D cB cI cZ N a1 r3.2.1 r3.2.2.1 r3.2.2.2 r5 hr5) (cwV 0 hts gyL_law_X12_thrown rfl rfl rfl cdX12_thrown ⟨Nat.le_of_ble_eq_true rfl, Nat.le_of_ble_eq_true rfl⟩) (wb_preV (hP.sub (ws' := (wWX12 cB cI cZ a1 r3.2.1 r3.2.2.1 r3.2.2.2)) [52, 53, 54, 55, 56, 57, 58, 59, 60, 61, 62, 63, 64, 65, 66, 67, 68, 69, 70, 71, 72, 73, 74, 75, 76, 77, 78, 79, 80, 81, 82, 83, 84, 85, 86, 87, 88, 89] rfl) hK3 (va_recv hK hP (ci := 12) (q0 := 52) rfl rfl)) rfl rfl hl.1 rfl (lv_room (Nat.le_of_ble_eq_true rfl)) dL_law_2482 ⟨hc1, hs1⟩) (fun r9 e9 => ?_)
  rw [e9]
  refine lv_iload hx hb dL_law_2485 (lv_at hl 1 rfl) ?_
  refine lv_icmp_eq (tgt := 2492) hx hb dL_law_2487 (by decide) (fun hc => ?_) (fun hc => ?_)
  · replace hf := wb_t hc hf
    refine lv_iload hx hb dL_law_2492 (lv_at hl 1 rfl) ?_
    refine lv_if_ne (tgt := 2509) hx hb dL_law_2494 (by decide) (fun hc => ?_) (fun hc => ?_)
    · replace hf := wb_f hc hf
      refine lv_goto (tgt := 3022) hx hb dL_law_2509 (by decide) ?_
      refine W.widen (k := c0 + 1) (n := s0 + 6) (Nat.le_refl _) (Nat.le_refl _) ?_
      have h9 := Option.some.inj hf
      exact kk H locs ls (by rw [← h9]; exact hP) (by rw [← h9]; exact hD) hS (lv_sub hl [2, 3, 4, 5, 6] rfl)
    · replace hf := wb_t hc hf
      refine lv_aload_n hx hb dL_law_2497 rfl (lv_at hl 5 rfl) ?_
      refine lv_iconst (v := (0 : Int32)) hx hb dL_law_2498 (by decide) ?_
      refine va_lald hx hb hK hP 90 3 rfl rfl (show ¬ ((0 : Int32) < 0 ∨ 1 ≤ (0 : Int32).toNatClampNeg) from by decide) dL_law_2499 ?_
      refine lv_iload hx hb dL_law_2500 (lv_at hl 0 rfl) ?_
      refine lv_i2l hx hb dL_law_2502 rfl ?_
      refine W.lcmp hx hb dL_law_2503 ?_
      refine lv_if_eq (tgt := 2509) hx hb dL_law_2504 (by decide) (fun hc => ?_) (fun hc => ?_)
      · replace hf := wb_t hc hf
        refine lv_goto (tgt := 3022) hx hb dL_law_2509 (by decide) ?_
        refine W.widen (k := c0 + 1) (n := s0 + 6) (Nat.le_refl _) (Nat.le_refl _) ?_
        have h9 := Option.some.inj hf
        exact kk H locs ls (by rw [← h9]; exact hP) (by rw [← h9]; exact hD) hS (lv_sub hl [2, 3, 4, 5, 6] rfl)
      · replace hf := wb_f hc hf
        refine lv_iconst (v := (0 : Int32)) hx hb dL_law_2507 (by decide) ?_
        exact absurd hf (fun h => nomatch h)
  · replace hf := wb_f hc hf
    refine lv_iconst (v := (0 : Int32)) hx hb dL_law_2490 (by decide) ?_
    exact absurd hf (fun h => nomatch h)

set_option maxHeartbeats 4000000 in
set_option maxRecDepth 100000 in
theorem law_case32 {p : Program} {e : Env} {s : State} {m : MethodId} {below : List Frame} {meth : Method} {c : Code} (l : Launch) (hlt : l.stackTraces = false) (D : va_G) (cB cI cZ cJ : ClassId) (N : Nat) {b L : Nat} {xs : Nat → Int32} (C0 : lw_At p s m meth c b L xs) (hX0 : wb_XH s.heap s) (hNc : va_Nc wb_E2 wb_E1 s) (a0 a1 : Nat → Nat) (b2 : Nat) (I0 : Nat → Int32) (M0 : Nat → Nat → Int32) (I1 : Nat → Int32) (L1 : Int64) (M1 : Nat → Nat → Int32) (o2 : Nat → Int64) (y4 : Int32) (c0 s0 : Nat) (hc1 : c0 + 1 ≤ room_1.cells) (hs1 : s0 + 6 ≤ room_1.slots) (H : Heap) (locs : List Loc) (hK : va_K D vwCl [(cB, .byte), (cI, .int), (cZ, .boolean), (cJ, .long)] s) (hP : va_P D vwCl ((wWX11 cB cI cZ a0 I0 M0) ++ ((wWX12 cB cI cZ a1 I1 L1 M1) ++ [(b2, .inl (cJ, 1, .inr (.inl o2)))])) H) (hD : va_D (fun q : Nat => s.heap.size ≤ q) ((wWX11 cB cI cZ a0 I0 M0) ++ ((wWX12 cB cI cZ a1 I1 L1 M1) ++ [(b2, .inl (cJ, 1, .inr (.inl o2)))]))) (hS : va_S (fun q : Nat => s.heap.size ≤ q) s.heap H locs) (ls : Array Slot) (hl : lv_has ls 7 [(0, .ref b), (1, .ref (a0 0)), (2, .ref (a1 0)), (3, .ref b2), (4, .int y4)]) (R : (Nat → Int32) × (Nat → Nat → Int32) × (Nat → Int32) × Int64 × (Nat → Nat → Int32) × (Nat → Int64)) (hf : fL_case32 N L xs I0 M0 I1 L1 M1 o2 y4 = some R)
    (kk : ∀ (H : Heap) (locs : List Loc) (ls : Array Slot), va_P D vwCl ((wWX11 cB cI cZ a0 R.1 R.2.1) ++ ((wWX12 cB cI cZ a1 R.2.2.1 R.2.2.2.1 R.2.2.2.2.1) ++ [(b2, .inl (cJ, 1, .inr (.inl R.2.2.2.2.2)))])) H → va_D (fun q : Nat => s.heap.size ≤ q) ((wWX11 cB cI cZ a0 R.1 R.2.1) ++ ((wWX12 cB cI cZ a1 R.2.2.1 R.2.2.2.1 R.2.2.2.2.1) ++ [(b2, .inl (cJ, 1, .inr (.inl R.2.2.2.2.2)))])) → va_S (fun q : Nat => s.heap.size ≤ q) s.heap H locs → lv_has ls 7 [(0, .ref b), (1, .ref (a0 0)), (2, .ref (a1 0)), (3, .ref b2), (4, .int y4)] → W p l e room_1 s m #[Value.ref b] below meth c H locs (c0 + 1) (s0 + 6) (lw_Z below #[Value.ref b] s) (F0 m 3022 ls [])) : W p l e room_1 s m #[Value.ref b] below meth c H locs c0 s0 (lw_Z below #[Value.ref b] s) (F0 m 2512 ls []) := by
  obtain ⟨hx, hb, hr, hml, hown, hts0, hXs, hbl, hlocks, hgv⟩ := id C0
  have hown : s.vm.findClass RL = some m.cls := hown
  have hb : c.code = cL_law := hb
  have hts : ∀ w ∈ wyL_law, w.before #[Value.ref b] s = true := fun w h => hts0 w (wl_law w h)
  have hA : ∀ q : Nat, s.heap.size ≤ q → (fun q : Nat => s.heap.size ≤ q) q := fun _ h => h
  have hbA : ¬ (fun q : Nat => s.heap.size ≤ q) b := Nat.not_le.mpr hbl
  have hK3 : va_K D vwCl [(cB, .byte), (cI, .int), (cZ, .boolean)] s := hK.sub [0, 1, 2] rfl
  have hc0 : c0 ≤ room_1.cells := Nat.le_of_succ_le hc1
  have hs0 : s0 ≤ room_1.slots := Nat.le_trans (Nat.le_add_right _ 6) hs1
  unfold fL_case32 at hf
  refine lv_aload_n hx hb dL_law_2512 rfl (lv_at hl 1 rfl) ?_
  refine lv_aload_n hx hb dL_law_2513 rfl (lv_at hl 0 rfl) ?_
  refine lv_iload hx hb dL_law_2514 (lv_at hl 4 rfl) ?_
  refine lv_iconst (v := (1 : Int32)) hx hb dL_law_2516 (by decide) ?_
  refine lv_iadd hx hb dL_law_2517 ?_
  obtain ⟨hin, hf⟩ := wb_n hf
  refine va_sld hx hb hXs hbl hbA hS hin dL_law_2518 ?_
  refine lv_aload_n hx hb dL_law_2519 rfl (lv_at hl 0 rfl) ?_
  refine lv_iload hx hb dL_law_2520 (lv_at hl 4 rfl) ?_
  refine lv_iconst (v := (2 : Int32)) hx hb dL_law_2522 (by decide) ?_
  refine lv_iadd hx hb dL_law_2523 ?_
  obtain ⟨hin, hf⟩ := wb_n hf
  refine va_sld hx hb hXs hbl hbA hS hin dL_law_2524 ?_
  refine lv_aload_n hx hb dL_law_2525 rfl (lv_at hl 0 rfl) ?_
  refine lv_iload hx hb dL_law_2526 (lv_at hl 4 rfl) ?_
  refine lv_iconst (v := (3 : Int32)) hx hb dL_law_2528 (by decide) ?_
  refine lv_iadd hx hb dL_law_2529 ?_
  obtain ⟨hin, hf⟩ := wb_n hf
  refine va_sld hx hb hXs hbl hbA hS hin dL_law_2530 ?_
  refine lv_aload_n hx hb dL_law_2531 rfl (lv_at hl 3 rfl) ?_
  obtain ⟨r1, hr1, hf⟩ := wb_b hf
  have hPc := wj_P3 hP
  have hDc := wj_D3 hD
  have hFc := wj_F hDc hS hA
  refine va_calli (vx_runSW (As := [.ref (a0 0), .int (xs ((y4 + (1 : Int32))).toNatClampNeg), .int (xs ((y4 + (2 : Int32))).toNatClampNeg), .int (xs ((y4 + (3 : Int32))).toNatClampNeg), .ref b2]) (rest := []) ⟨hx, hb, hml, hown, hts⟩ (cn_L_same l hlt D cB cI cZ cJ N a0 I0 M0 (xs ((y4 + (1 : Int32))).toNatClampNeg) (xs ((y4 + (2 : Int32))).toNatClampNeg) (xs ((y4 + (3 : Int32))).toNatClampNeg) b2 o2 H.size r1 hr1) (vx_cwSW 5 hts gyL_law_L_same rfl rfl rfl csL_same ⟨Nat.le_of_ble_eq_true rfl, Nat.le_of_ble_eq_true rfl⟩) (wb_preLS hPc hK hDc (hX0.kept hS) hNc) rfl rfl hl.1 rfl (lv_room (Nat.le_of_ble_eq_true rfl)) dL_law_2532 ⟨hc1, hs1⟩) hS (fun q _ h => hFc q h) hFc (fun r9 u t H locs ht hvm hw hB hz1 hk1 hS => ?_)
  obtain ⟨hP, hD⟩ := wj_3 hP hD hk1 hFc ht hB
  rw [hw]
  obtain ⟨v2, ev2, hf⟩ := wb_v hf
  refine wb_topi ev2 ?_
  refine lv_istore (lv' := [(5, .int v2), (0, .ref b), (1, .ref (a0 0)), (2, .ref (a1 0)), (3, .ref b2), (4, .int y4)]) hx hb dL_law_2535 hl (by decide) rfl (fun ls hl => ?_)
  refine lv_aload_n hx hb dL_law_2537 rfl (lv_at hl 3 rfl) ?_
  refine lv_aload_n hx hb dL_law_2538 rfl (lv_at hl 1 rfl) ?_
  refine lv_iload hx hb dL_law_2539 (lv_at hl 5 rfl) ?_
  refine lv_iconst (v := (1 : Int32)) hx hb dL_law_2541 (by decide) ?_
  refine lv_iadd hx hb dL_law_2542 ?_
  obtain ⟨hin, hf⟩ := wb_n hf
  refine va_sld hx hb hXs hbl hbA hS hin dL_law_2543 ?_
  refine lv_aload_n hx hb dL_law_2544 rfl (lv_at hl 1 rfl) ?_
  refine lv_iload hx hb dL_law_2545 (lv_at hl 5 rfl) ?_
  refine lv_iconst (v := (2 : Int32)) hx hb dL_law_2547 (by decide) ?_
  refine lv_iadd hx hb dL_law_2548 ?_
  obtain ⟨hin, hf⟩ := wb_n hf
  refine va_sld hx hb hXs hbl hbA hS hin dL_law_2549 ?_
  refine lv_aload_n hx hb dL_law_2550 rfl (lv_at hl 1 rfl) ?_
  refine lv_iload hx hb dL_law_2551 (lv_at hl 5 rfl) ?_
  refine lv_iconst (v := (3 : Int32)) hx hb dL_law_2553 (by decide) ?_
  refine lv_iadd hx hb dL_law_2554 ?_
  obtain ⟨hin, hf⟩ := wb_n hf
  refine va_sld hx hb hXs hbl hbA hS hin dL_law_2555 ?_
  obtain ⟨r3, hr3, hf⟩ := wb_b hf
  have hPc := wj_P2 hP
  have hDc := wj_D2 hD
  have hFc := wj_F hDc hS hA
  refine va_calli (va_runV (As := [.int (xs ((y4 + (1 : Int32))).toNatClampNeg), .int (xs ((y4 + (2 : Int32))).toNatClampNeg), .int (xs ((y4 + (3 : Int32))).toNatClampNeg)]) (rest := []) ⟨hx, hb, hml, hown, hts⟩ (cn_X12_same l D cB cI cZ N a1 I1 L1 M1 (xs ((y4 + (1 : Int32))).toNatClampNeg) (xs ((y4 + (2 : Int32))).toNatClampNeg) (xs ((y4 + (3 : Int32))).toNatClampNeg) H.size r3 hr3) (cwV 3 hts gyL_law_X12_same rfl rfl rfl cdX12_same ⟨Nat.le_of_ble_eq_true rfl, Nat.le_of_ble_eq_true rfl⟩) (wb_preDV hPc hK3 hDc (va_recv hK hP (ci := 12) (q0 := 52) rfl rfl)) rfl rfl hl.1 rfl (lv_room (Nat.le_of_ble_eq_true rfl)) dL_law_2556 ⟨hc1, hs1⟩) hS (fun q _ h => hFc q h) hFc (fun r9 u t H locs ht hvm hw hB hz1 hk1 hS => ?_)
  obtain ⟨hP, hD⟩ := wj_2 hP hD hk1 hFc ht hB
  rw [hw]
  obtain ⟨v4, ev4, hf⟩ := wb_v hf
  refine wb_topi ev4 ?_
  refine lv_istore (lv' := [(6, .int v4), (5, .int v2), (0, .ref b), (1, .ref (a0 0)), (2, .ref (a1 0)), (3, .ref b2), (4, .int y4)]) hx hb dL_law_2559 hl (by decide) rfl (fun ls hl => ?_)
  refine lv_aload_n hx hb dL_law_2561 rfl (lv_at hl 4 rfl) ?_
  obtain ⟨r5, hr5, hf⟩ := wb_b hf
  refine vp_callSi (W.runV (As := []) (rest := []) ⟨hx, hb, hml, hown, hts⟩ (cn_X12_thrown l D cB cI cZ N a1 r3.2.1 r3.2.2.1 r3.2.2.2 r5 hr5) (cwV 0 hts gyL_law_X12_thrown rfl rfl rfl cdX12_thrown ⟨Nat.le_of_ble_eq_true rfl, Nat.le_of_ble_eq_true rfl⟩) (wb_preV (hP.sub (ws' := (wWX12 cB cI cZ a1 r3.2.1 r3.2.2.1 r3.2.2.2)) [52, 53, 54, 55, 56, 57, 58, 59, 60, 61, 62, 63, 64, 65, 66, 67, 68, 69, 70, 71, 72, 73, 74, 75, 76, 77, 78, 79, 80, 81, 82, 83, 84, 85, 86, 87, 88, 89] rfl) hK3 (va_recv hK hP (ci := 12) (q0 := 52) rfl rfl)) rfl rfl hl.1 rfl (lv_room (Nat.le_of_ble_eq_true rfl)) dL_law_2562 ⟨hc1, hs1⟩) (fun r9 e9 => ?_)
  rw [e9]
  refine lv_iload hx hb dL_law_2565 (lv_at hl 1 rfl) ?_
  refine lv_icmp_eq (tgt := 2572) hx hb dL_law_2567 (by decide) (fun hc => ?_) (fun hc => ?_)
  · replace hf := wb_t hc hf
    refine lv_iload hx hb dL_law_2572 (lv_at hl 1 rfl) ?_
    refine lv_if_ne (tgt := 2596) hx hb dL_law_2574 (by decide) (fun hc => ?_) (fun hc => ?_)
    · replace hf := wb_f hc hf
      refine lv_goto (tgt := 3022) hx hb dL_law_2596 (by decide) ?_
      refine W.widen (k := c0 + 1) (n := s0 + 6) (Nat.le_refl _) (Nat.le_refl _) ?_
      have h9 := Option.some.inj hf
      exact kk H locs ls (by rw [← h9]; exact hP) (by rw [← h9]; exact hD) hS (lv_sub hl [2, 3, 4, 5, 6] rfl)
    · replace hf := wb_t hc hf
      refine lv_aload_n hx hb dL_law_2577 rfl (lv_at hl 5 rfl) ?_
      refine lv_iconst (v := (0 : Int32)) hx hb dL_law_2578 (by decide) ?_
      refine va_lald hx hb hK hP 90 3 rfl rfl (show ¬ ((0 : Int32) < 0 ∨ 1 ≤ (0 : Int32).toNatClampNeg) from by decide) dL_law_2579 ?_
      refine lv_iload hx hb dL_law_2580 (lv_at hl 0 rfl) ?_
      refine lv_if_eq (tgt := 2589) hx hb dL_law_2582 (by decide) (fun hc => ?_) (fun hc => ?_)
      · replace hf := wb_t hc hf
        refine lv_lconst (v := (0 : Int64)) hx hb dL_law_2589 (by decide) ?_
        refine W.lcmp hx hb dL_law_2590 ?_
        refine lv_if_eq (tgt := 2596) hx hb dL_law_2591 (by decide) (fun hc => ?_) (fun hc => ?_)
        · replace hf := wb_t hc hf
          refine lv_goto (tgt := 3022) hx hb dL_law_2596 (by decide) ?_
          refine W.widen (k := c0 + 1) (n := s0 + 6) (Nat.le_refl _) (Nat.le_refl _) ?_
          have h9 := Option.some.inj hf
          exact kk H locs ls (by rw [← h9]; exact hP) (by rw [← h9]; exact hD) hS (lv_sub hl [2, 3, 4, 5, 6] rfl)
        · replace hf := wb_f hc hf
          refine lv_iconst (v := (0 : Int32)) hx hb dL_law_2594 (by decide) ?_
          exact absurd hf (fun h => nomatch h)
      · replace hf := wb_f hc hf
        refine lv_lconst (v := (1 : Int64)) hx hb dL_law_2585 (by decide) ?_
        refine lv_goto (tgt := 2590) hx hb dL_law_2586 (by decide) ?_
        refine W.lcmp hx hb dL_law_2590 ?_
        refine lv_if_eq (tgt := 2596) hx hb dL_law_2591 (by decide) (fun hc => ?_) (fun hc => ?_)
        · replace hf := wb_t hc hf
          refine lv_goto (tgt := 3022) hx hb dL_law_2596 (by decide) ?_
          refine W.widen (k := c0 + 1) (n := s0 + 6) (Nat.le_refl _) (Nat.le_refl _) ?_
          have h9 := Option.some.inj hf
          exact kk H locs ls (by rw [← h9]; exact hP) (by rw [← h9]; exact hD) hS (lv_sub hl [2, 3, 4, 5, 6] rfl)
        · replace hf := wb_f hc hf
          refine lv_iconst (v := (0 : Int32)) hx hb dL_law_2594 (by decide) ?_
          exact absurd hf (fun h => nomatch h)
  · replace hf := wb_f hc hf
    refine lv_iconst (v := (0 : Int32)) hx hb dL_law_2570 (by decide) ?_
    exact absurd hf (fun h => nomatch h)

set_option maxHeartbeats 4000000 in
set_option maxRecDepth 100000 in
theorem law_case33 {p : Program} {e : Env} {s : State} {m : MethodId} {below : List Frame} {meth : Method} {c : Code} (l : Launch) (hlt : l.stackTraces = false) (D : va_G) (cB cI cZ cJ : ClassId) (N : Nat) {b L : Nat} {xs : Nat → Int32} (C0 : lw_At p s m meth c b L xs) (hX0 : wb_XH s.heap s) (hNc : va_Nc wb_E2 wb_E1 s) (a0 a1 : Nat → Nat) (b2 : Nat) (I0 : Nat → Int32) (M0 : Nat → Nat → Int32) (I1 : Nat → Int32) (L1 : Int64) (M1 : Nat → Nat → Int32) (o2 : Nat → Int64) (y4 : Int32) (c0 s0 : Nat) (hc1 : c0 + 1 ≤ room_1.cells) (hs1 : s0 + 6 ≤ room_1.slots) (H : Heap) (locs : List Loc) (hK : va_K D vwCl [(cB, .byte), (cI, .int), (cZ, .boolean), (cJ, .long)] s) (hP : va_P D vwCl ((wWX11 cB cI cZ a0 I0 M0) ++ ((wWX12 cB cI cZ a1 I1 L1 M1) ++ [(b2, .inl (cJ, 1, .inr (.inl o2)))])) H) (hD : va_D (fun q : Nat => s.heap.size ≤ q) ((wWX11 cB cI cZ a0 I0 M0) ++ ((wWX12 cB cI cZ a1 I1 L1 M1) ++ [(b2, .inl (cJ, 1, .inr (.inl o2)))]))) (hS : va_S (fun q : Nat => s.heap.size ≤ q) s.heap H locs) (ls : Array Slot) (hl : lv_has ls 7 [(0, .ref b), (1, .ref (a0 0)), (2, .ref (a1 0)), (3, .ref b2), (4, .int y4)]) (R : (Nat → Int32) × (Nat → Nat → Int32) × (Nat → Int32) × Int64 × (Nat → Nat → Int32) × (Nat → Int64)) (hf : fL_case33 N L xs I0 M0 I1 L1 M1 o2 y4 = some R)
    (kk : ∀ (H : Heap) (locs : List Loc) (ls : Array Slot), va_P D vwCl ((wWX11 cB cI cZ a0 R.1 R.2.1) ++ ((wWX12 cB cI cZ a1 R.2.2.1 R.2.2.2.1 R.2.2.2.2.1) ++ [(b2, .inl (cJ, 1, .inr (.inl R.2.2.2.2.2)))])) H → va_D (fun q : Nat => s.heap.size ≤ q) ((wWX11 cB cI cZ a0 R.1 R.2.1) ++ ((wWX12 cB cI cZ a1 R.2.2.1 R.2.2.2.1 R.2.2.2.2.1) ++ [(b2, .inl (cJ, 1, .inr (.inl R.2.2.2.2.2)))])) → va_S (fun q : Nat => s.heap.size ≤ q) s.heap H locs → lv_has ls 7 [(0, .ref b), (1, .ref (a0 0)), (2, .ref (a1 0)), (3, .ref b2), (4, .int y4)] → W p l e room_1 s m #[Value.ref b] below meth c H locs (c0 + 1) (s0 + 6) (lw_Z below #[Value.ref b] s) (F0 m 3022 ls [])) : W p l e room_1 s m #[Value.ref b] below meth c H locs c0 s0 (lw_Z below #[Value.ref b] s) (F0 m 2599 ls []) := by
  obtain ⟨hx, hb, hr, hml, hown, hts0, hXs, hbl, hlocks, hgv⟩ := id C0
  have hown : s.vm.findClass RL = some m.cls := hown
  have hb : c.code = cL_law := hb
  have hts : ∀ w ∈ wyL_law, w.before #[Value.ref b] s = true := fun w h => hts0 w (wl_law w h)
  have hA : ∀ q : Nat, s.heap.size ≤ q → (fun q : Nat => s.heap.size ≤ q) q := fun _ h => h
  have hbA : ¬ (fun q : Nat => s.heap.size ≤ q) b := Nat.not_le.mpr hbl
  have hK3 : va_K D vwCl [(cB, .byte), (cI, .int), (cZ, .boolean)] s := hK.sub [0, 1, 2] rfl
  have hc0 : c0 ≤ room_1.cells := Nat.le_of_succ_le hc1
  have hs0 : s0 ≤ room_1.slots := Nat.le_trans (Nat.le_add_right _ 6) hs1
  unfold fL_case33 at hf
  refine lv_aload_n hx hb dL_law_2599 rfl (lv_at hl 1 rfl) ?_
  refine lv_aload_n hx hb dL_law_2600 rfl (lv_at hl 0 rfl) ?_
  refine lv_iload hx hb dL_law_2601 (lv_at hl 4 rfl) ?_
  refine lv_iconst (v := (1 : Int32)) hx hb dL_law_2603 (by decide) ?_
  refine lv_iadd hx hb dL_law_2604 ?_
  obtain ⟨hin, hf⟩ := wb_n hf
  refine va_sld hx hb hXs hbl hbA hS hin dL_law_2605 ?_
  refine lv_aload_n hx hb dL_law_2606 rfl (lv_at hl 0 rfl) ?_
  refine lv_iload hx hb dL_law_2607 (lv_at hl 4 rfl) ?_
  refine lv_iconst (v := (2 : Int32)) hx hb dL_law_2609 (by decide) ?_
  refine lv_iadd hx hb dL_law_2610 ?_
  obtain ⟨hin, hf⟩ := wb_n hf
  refine va_sld hx hb hXs hbl hbA hS hin dL_law_2611 ?_
  refine lv_aload_n hx hb dL_law_2612 rfl (lv_at hl 3 rfl) ?_
  obtain ⟨r1, hr1, hf⟩ := wb_b hf
  have hPc := wj_P3 hP
  have hDc := wj_D3 hD
  have hFc := wj_F hDc hS hA
  refine va_calli (vx_runSW (As := [.ref (a0 0), .int (xs ((y4 + (1 : Int32))).toNatClampNeg), .int (xs ((y4 + (2 : Int32))).toNatClampNeg), .ref b2]) (rest := []) ⟨hx, hb, hml, hown, hts⟩ (cn_L_births l hlt D cB cI cZ cJ N a0 I0 M0 (xs ((y4 + (1 : Int32))).toNatClampNeg) (xs ((y4 + (2 : Int32))).toNatClampNeg) b2 o2 H.size r1 hr1) (vx_cwSW 4 hts gyL_law_L_births rfl rfl rfl csL_births ⟨Nat.le_of_ble_eq_true rfl, Nat.le_of_ble_eq_true rfl⟩) (wb_preLS hPc hK hDc (hX0.kept hS) hNc) rfl rfl hl.1 rfl (lv_room (Nat.le_of_ble_eq_true rfl)) dL_law_2613 ⟨hc1, hs1⟩) hS (fun q _ h => hFc q h) hFc (fun r9 u t H locs ht hvm hw hB hz1 hk1 hS => ?_)
  obtain ⟨hP, hD⟩ := wj_3 hP hD hk1 hFc ht hB
  rw [hw]
  obtain ⟨v2, ev2, hf⟩ := wb_v hf
  refine wb_topi ev2 ?_
  refine lv_istore (lv' := [(5, .int v2), (0, .ref b), (1, .ref (a0 0)), (2, .ref (a1 0)), (3, .ref b2), (4, .int y4)]) hx hb dL_law_2616 hl (by decide) rfl (fun ls hl => ?_)
  refine lv_aload_n hx hb dL_law_2618 rfl (lv_at hl 3 rfl) ?_
  refine lv_aload_n hx hb dL_law_2619 rfl (lv_at hl 1 rfl) ?_
  refine lv_iload hx hb dL_law_2620 (lv_at hl 5 rfl) ?_
  refine lv_iconst (v := (1 : Int32)) hx hb dL_law_2622 (by decide) ?_
  refine lv_iadd hx hb dL_law_2623 ?_
  obtain ⟨hin, hf⟩ := wb_n hf
  refine va_sld hx hb hXs hbl hbA hS hin dL_law_2624 ?_
  refine lv_aload_n hx hb dL_law_2625 rfl (lv_at hl 1 rfl) ?_
  refine lv_iload hx hb dL_law_2626 (lv_at hl 5 rfl) ?_
  refine lv_iconst (v := (2 : Int32)) hx hb dL_law_2628 (by decide) ?_
  refine lv_iadd hx hb dL_law_2629 ?_
  obtain ⟨hin, hf⟩ := wb_n hf
  refine va_sld hx hb hXs hbl hbA hS hin dL_law_2630 ?_
  obtain ⟨r3, hr3, hf⟩ := wb_b hf
  have hPc := wj_P2 hP
  have hDc := wj_D2 hD
  have hFc := wj_F hDc hS hA
  refine va_calli (va_runV (As := [.int (xs ((y4 + (1 : Int32))).toNatClampNeg), .int (xs ((y4 + (2 : Int32))).toNatClampNeg)]) (rest := []) ⟨hx, hb, hml, hown, hts⟩ (cn_X12_births l D cB cI cZ N a1 I1 L1 M1 (xs ((y4 + (1 : Int32))).toNatClampNeg) (xs ((y4 + (2 : Int32))).toNatClampNeg) H.size r3 hr3) (cwV 2 hts gyL_law_X12_births rfl rfl rfl cdX12_births ⟨Nat.le_of_ble_eq_true rfl, Nat.le_of_ble_eq_true rfl⟩) (wb_preDV hPc hK3 hDc (va_recv hK hP (ci := 12) (q0 := 52) rfl rfl)) rfl rfl hl.1 rfl (lv_room (Nat.le_of_ble_eq_true rfl)) dL_law_2631 ⟨hc1, hs1⟩) hS (fun q _ h => hFc q h) hFc (fun r9 u t H locs ht hvm hw hB hz1 hk1 hS => ?_)
  obtain ⟨hP, hD⟩ := wj_2 hP hD hk1 hFc ht hB
  rw [hw]
  obtain ⟨v4, ev4, hf⟩ := wb_v hf
  refine wb_topi ev4 ?_
  refine lv_istore (lv' := [(6, .int v4), (5, .int v2), (0, .ref b), (1, .ref (a0 0)), (2, .ref (a1 0)), (3, .ref b2), (4, .int y4)]) hx hb dL_law_2634 hl (by decide) rfl (fun ls hl => ?_)
  refine lv_aload_n hx hb dL_law_2636 rfl (lv_at hl 4 rfl) ?_
  obtain ⟨r5, hr5, hf⟩ := wb_b hf
  refine vp_callSi (W.runV (As := []) (rest := []) ⟨hx, hb, hml, hown, hts⟩ (cn_X12_thrown l D cB cI cZ N a1 r3.2.1 r3.2.2.1 r3.2.2.2 r5 hr5) (cwV 0 hts gyL_law_X12_thrown rfl rfl rfl cdX12_thrown ⟨Nat.le_of_ble_eq_true rfl, Nat.le_of_ble_eq_true rfl⟩) (wb_preV (hP.sub (ws' := (wWX12 cB cI cZ a1 r3.2.1 r3.2.2.1 r3.2.2.2)) [52, 53, 54, 55, 56, 57, 58, 59, 60, 61, 62, 63, 64, 65, 66, 67, 68, 69, 70, 71, 72, 73, 74, 75, 76, 77, 78, 79, 80, 81, 82, 83, 84, 85, 86, 87, 88, 89] rfl) hK3 (va_recv hK hP (ci := 12) (q0 := 52) rfl rfl)) rfl rfl hl.1 rfl (lv_room (Nat.le_of_ble_eq_true rfl)) dL_law_2637 ⟨hc1, hs1⟩) (fun r9 e9 => ?_)
  rw [e9]
  refine lv_iload hx hb dL_law_2640 (lv_at hl 1 rfl) ?_
  refine lv_icmp_eq (tgt := 2647) hx hb dL_law_2642 (by decide) (fun hc => ?_) (fun hc => ?_)
  · replace hf := wb_t hc hf
    refine lv_iload hx hb dL_law_2647 (lv_at hl 1 rfl) ?_
    refine lv_if_ne (tgt := 2664) hx hb dL_law_2649 (by decide) (fun hc => ?_) (fun hc => ?_)
    · replace hf := wb_f hc hf
      refine lv_goto (tgt := 3022) hx hb dL_law_2664 (by decide) ?_
      refine W.widen (k := c0 + 1) (n := s0 + 6) (Nat.le_refl _) (Nat.le_refl _) ?_
      have h9 := Option.some.inj hf
      exact kk H locs ls (by rw [← h9]; exact hP) (by rw [← h9]; exact hD) hS (lv_sub hl [2, 3, 4, 5, 6] rfl)
    · replace hf := wb_t hc hf
      refine lv_aload_n hx hb dL_law_2652 rfl (lv_at hl 5 rfl) ?_
      refine lv_iconst (v := (0 : Int32)) hx hb dL_law_2653 (by decide) ?_
      refine va_lald hx hb hK hP 90 3 rfl rfl (show ¬ ((0 : Int32) < 0 ∨ 1 ≤ (0 : Int32).toNatClampNeg) from by decide) dL_law_2654 ?_
      refine lv_iload hx hb dL_law_2655 (lv_at hl 0 rfl) ?_
      refine lv_i2l hx hb dL_law_2657 rfl ?_
      refine W.lcmp hx hb dL_law_2658 ?_
      refine lv_if_eq (tgt := 2664) hx hb dL_law_2659 (by decide) (fun hc => ?_) (fun hc => ?_)
      · replace hf := wb_t hc hf
        refine lv_goto (tgt := 3022) hx hb dL_law_2664 (by decide) ?_
        refine W.widen (k := c0 + 1) (n := s0 + 6) (Nat.le_refl _) (Nat.le_refl _) ?_
        have h9 := Option.some.inj hf
        exact kk H locs ls (by rw [← h9]; exact hP) (by rw [← h9]; exact hD) hS (lv_sub hl [2, 3, 4, 5, 6] rfl)
      · replace hf := wb_f hc hf
        refine lv_iconst (v := (0 : Int32)) hx hb dL_law_2662 (by decide) ?_
        exact absurd hf (fun h => nomatch h)
  · replace hf := wb_f hc hf
    refine lv_iconst (v := (0 : Int32)) hx hb dL_law_2645 (by decide) ?_
    exact absurd hf (fun h => nomatch h)

set_option maxHeartbeats 4000000 in
set_option maxRecDepth 100000 in
theorem law_case34 {p : Program} {e : Env} {s : State} {m : MethodId} {below : List Frame} {meth : Method} {c : Code} (l : Launch) (hlt : l.stackTraces = false) (D : va_G) (cB cI cZ cJ : ClassId) (N : Nat) {b L : Nat} {xs : Nat → Int32} (C0 : lw_At p s m meth c b L xs) (hX0 : wb_XH s.heap s) (hNc : va_Nc wb_E2 wb_E1 s) (a0 a1 : Nat → Nat) (b2 : Nat) (I0 : Nat → Int32) (M0 : Nat → Nat → Int32) (I1 : Nat → Int32) (L1 : Int64) (M1 : Nat → Nat → Int32) (o2 : Nat → Int64) (y4 : Int32) (c0 s0 : Nat) (hc1 : c0 + 1 ≤ room_1.cells) (hs1 : s0 + 6 ≤ room_1.slots) (H : Heap) (locs : List Loc) (hK : va_K D vwCl [(cB, .byte), (cI, .int), (cZ, .boolean), (cJ, .long)] s) (hP : va_P D vwCl ((wWX11 cB cI cZ a0 I0 M0) ++ ((wWX12 cB cI cZ a1 I1 L1 M1) ++ [(b2, .inl (cJ, 1, .inr (.inl o2)))])) H) (hD : va_D (fun q : Nat => s.heap.size ≤ q) ((wWX11 cB cI cZ a0 I0 M0) ++ ((wWX12 cB cI cZ a1 I1 L1 M1) ++ [(b2, .inl (cJ, 1, .inr (.inl o2)))]))) (hS : va_S (fun q : Nat => s.heap.size ≤ q) s.heap H locs) (ls : Array Slot) (hl : lv_has ls 7 [(0, .ref b), (1, .ref (a0 0)), (2, .ref (a1 0)), (3, .ref b2), (4, .int y4)]) (R : (Nat → Int32) × (Nat → Nat → Int32) × (Nat → Int32) × Int64 × (Nat → Nat → Int32) × (Nat → Int64)) (hf : fL_case34 N L xs I0 M0 I1 L1 M1 o2 y4 = some R)
    (kk : ∀ (H : Heap) (locs : List Loc) (ls : Array Slot), va_P D vwCl ((wWX11 cB cI cZ a0 R.1 R.2.1) ++ ((wWX12 cB cI cZ a1 R.2.2.1 R.2.2.2.1 R.2.2.2.2.1) ++ [(b2, .inl (cJ, 1, .inr (.inl R.2.2.2.2.2)))])) H → va_D (fun q : Nat => s.heap.size ≤ q) ((wWX11 cB cI cZ a0 R.1 R.2.1) ++ ((wWX12 cB cI cZ a1 R.2.2.1 R.2.2.2.1 R.2.2.2.2.1) ++ [(b2, .inl (cJ, 1, .inr (.inl R.2.2.2.2.2)))])) → va_S (fun q : Nat => s.heap.size ≤ q) s.heap H locs → lv_has ls 7 [(0, .ref b), (1, .ref (a0 0)), (2, .ref (a1 0)), (3, .ref b2), (4, .int y4)] → W p l e room_1 s m #[Value.ref b] below meth c H locs (c0 + 1) (s0 + 6) (lw_Z below #[Value.ref b] s) (F0 m 3022 ls [])) : W p l e room_1 s m #[Value.ref b] below meth c H locs c0 s0 (lw_Z below #[Value.ref b] s) (F0 m 2667 ls []) := by
  obtain ⟨hx, hb, hr, hml, hown, hts0, hXs, hbl, hlocks, hgv⟩ := id C0
  have hown : s.vm.findClass RL = some m.cls := hown
  have hb : c.code = cL_law := hb
  have hts : ∀ w ∈ wyL_law, w.before #[Value.ref b] s = true := fun w h => hts0 w (wl_law w h)
  have hA : ∀ q : Nat, s.heap.size ≤ q → (fun q : Nat => s.heap.size ≤ q) q := fun _ h => h
  have hbA : ¬ (fun q : Nat => s.heap.size ≤ q) b := Nat.not_le.mpr hbl
  have hK3 : va_K D vwCl [(cB, .byte), (cI, .int), (cZ, .boolean)] s := hK.sub [0, 1, 2] rfl
  have hc0 : c0 ≤ room_1.cells := Nat.le_of_succ_le hc1
  have hs0 : s0 ≤ room_1.slots := Nat.le_trans (Nat.le_add_right _ 6) hs1
  unfold fL_case34 at hf
  refine lv_aload_n hx hb dL_law_2667 rfl (lv_at hl 1 rfl) ?_
  obtain ⟨r1, hr1, hf⟩ := wb_b hf
  have hPc := wj_P1 hP
  have hDc := wj_D1 hD
  have hFc := wj_F hDc hS hA
  refine va_calli (va_runV (As := []) (rest := []) ⟨hx, hb, hml, hown, hts⟩ (cn_X11_tree l D cB cI cZ N a0 I0 M0 H.size r1 hr1) (cwV 0 hts gyL_law_X11_tree rfl rfl rfl cdX11_tree ⟨Nat.le_of_ble_eq_true rfl, Nat.le_of_ble_eq_true rfl⟩) (wb_preDV hPc hK3 hDc (va_recv hK hP (ci := 11) (q0 := 0) rfl rfl)) rfl rfl hl.1 rfl (lv_room (Nat.le_of_ble_eq_true rfl)) dL_law_2668 ⟨hc0, hs0⟩) hS (fun q _ h => hFc q h) hFc (fun r9 u t H locs ht hvm hw hB hz1 hk1 hS => ?_)
  obtain ⟨hP, hD⟩ := wj_1 hP hD hk1 hFc ht hB
  rw [hw]
  refine lv_aload_n hx hb dL_law_2671 rfl (lv_at hl 2 rfl) ?_
  obtain ⟨r2, hr2, hf⟩ := wb_b hf
  have hPc := wj_P2 hP
  have hDc := wj_D2 hD
  have hFc := wj_F hDc hS hA
  refine va_calli (va_runV (As := []) (rest := [.int r1.1]) ⟨hx, hb, hml, hown, hts⟩ (cn_X12_tree l D cB cI cZ N a1 I1 L1 M1 H.size r2 hr2) (cwV 0 hts gyL_law_X12_tree rfl rfl rfl cdX12_tree ⟨Nat.le_of_ble_eq_true rfl, Nat.le_of_ble_eq_true rfl⟩) (wb_preDV hPc hK3 hDc (va_recv hK hP (ci := 12) (q0 := 52) rfl rfl)) rfl rfl hl.1 rfl (lv_room (Nat.le_of_ble_eq_true rfl)) dL_law_2672 ⟨hc0, hs0⟩) hS (fun q _ h => hFc q h) hFc (fun r9 u t H locs ht hvm hw hB hz1 hk1 hS => ?_)
  obtain ⟨hP, hD⟩ := wj_2 hP hD hk1 hFc ht hB
  rw [hw]
  refine lv_icmp_eq (tgt := 3022) hx hb dL_law_2675 (by decide) (fun hc => ?_) (fun hc => ?_)
  · replace hf := wb_t hc hf
    refine W.widen (k := c0 + 1) (n := s0 + 6) (Nat.le_succ _) (Nat.le_add_right _ _) ?_
    have h9 := Option.some.inj hf
    exact kk H locs ls (by rw [← h9]; exact hP) (by rw [← h9]; exact hD) hS (lv_sub hl [0, 1, 2, 3, 4] rfl)
  · replace hf := wb_f hc hf
    refine lv_iconst (v := (0 : Int32)) hx hb dL_law_2678 (by decide) ?_
    exact absurd hf (fun h => nomatch h)

set_option maxHeartbeats 4000000 in
set_option maxRecDepth 100000 in
theorem law_case35 {p : Program} {e : Env} {s : State} {m : MethodId} {below : List Frame} {meth : Method} {c : Code} (l : Launch) (hlt : l.stackTraces = false) (D : va_G) (cB cI cZ cJ : ClassId) (N : Nat) {b L : Nat} {xs : Nat → Int32} (C0 : lw_At p s m meth c b L xs) (hX0 : wb_XH s.heap s) (hNc : va_Nc wb_E2 wb_E1 s) (a0 a1 : Nat → Nat) (b2 : Nat) (I0 : Nat → Int32) (M0 : Nat → Nat → Int32) (I1 : Nat → Int32) (L1 : Int64) (M1 : Nat → Nat → Int32) (o2 : Nat → Int64) (y4 : Int32) (c0 s0 : Nat) (hc1 : c0 + 1 ≤ room_1.cells) (hs1 : s0 + 6 ≤ room_1.slots) (H : Heap) (locs : List Loc) (hK : va_K D vwCl [(cB, .byte), (cI, .int), (cZ, .boolean), (cJ, .long)] s) (hP : va_P D vwCl ((wWX11 cB cI cZ a0 I0 M0) ++ ((wWX12 cB cI cZ a1 I1 L1 M1) ++ [(b2, .inl (cJ, 1, .inr (.inl o2)))])) H) (hD : va_D (fun q : Nat => s.heap.size ≤ q) ((wWX11 cB cI cZ a0 I0 M0) ++ ((wWX12 cB cI cZ a1 I1 L1 M1) ++ [(b2, .inl (cJ, 1, .inr (.inl o2)))]))) (hS : va_S (fun q : Nat => s.heap.size ≤ q) s.heap H locs) (ls : Array Slot) (hl : lv_has ls 7 [(0, .ref b), (1, .ref (a0 0)), (2, .ref (a1 0)), (3, .ref b2), (4, .int y4)]) (R : (Nat → Int32) × (Nat → Nat → Int32) × (Nat → Int32) × Int64 × (Nat → Nat → Int32) × (Nat → Int64)) (hf : fL_case35 N L xs I0 M0 I1 L1 M1 o2 y4 = some R)
    (kk : ∀ (H : Heap) (locs : List Loc) (ls : Array Slot), va_P D vwCl ((wWX11 cB cI cZ a0 R.1 R.2.1) ++ ((wWX12 cB cI cZ a1 R.2.2.1 R.2.2.2.1 R.2.2.2.2.1) ++ [(b2, .inl (cJ, 1, .inr (.inl R.2.2.2.2.2)))])) H → va_D (fun q : Nat => s.heap.size ≤ q) ((wWX11 cB cI cZ a0 R.1 R.2.1) ++ ((wWX12 cB cI cZ a1 R.2.2.1 R.2.2.2.1 R.2.2.2.2.1) ++ [(b2, .inl (cJ, 1, .inr (.inl R.2.2.2.2.2)))])) → va_S (fun q : Nat => s.heap.size ≤ q) s.heap H locs → lv_has ls 7 [(0, .ref b), (1, .ref (a0 0)), (2, .ref (a1 0)), (3, .ref b2), (4, .int y4)] → W p l e room_1 s m #[Value.ref b] below meth c H locs (c0 + 1) (s0 + 6) (lw_Z below #[Value.ref b] s) (F0 m 3022 ls [])) : W p l e room_1 s m #[Value.ref b] below meth c H locs c0 s0 (lw_Z below #[Value.ref b] s) (F0 m 2680 ls []) := by
  obtain ⟨hx, hb, hr, hml, hown, hts0, hXs, hbl, hlocks, hgv⟩ := id C0
  have hown : s.vm.findClass RL = some m.cls := hown
  have hb : c.code = cL_law := hb
  have hts : ∀ w ∈ wyL_law, w.before #[Value.ref b] s = true := fun w h => hts0 w (wl_law w h)
  have hA : ∀ q : Nat, s.heap.size ≤ q → (fun q : Nat => s.heap.size ≤ q) q := fun _ h => h
  have hbA : ¬ (fun q : Nat => s.heap.size ≤ q) b := Nat.not_le.mpr hbl
  have hK3 : va_K D vwCl [(cB, .byte), (cI, .int), (cZ, .boolean)] s := hK.sub [0, 1, 2] rfl
  have hc0 : c0 ≤ room_1.cells := Nat.le_of_succ_le hc1
  have hs0 : s0 ≤ room_1.slots := Nat.le_trans (Nat.le_add_right _ 6) hs1
  unfold fL_case35 at hf
  refine lv_aload_n hx hb dL_law_2680 rfl (lv_at hl 1 rfl) ?_
  refine lv_aload_n hx hb dL_law_2681 rfl (lv_at hl 0 rfl) ?_
  refine lv_iload hx hb dL_law_2682 (lv_at hl 4 rfl) ?_
  refine lv_iconst (v := (1 : Int32)) hx hb dL_law_2684 (by decide) ?_
  refine lv_iadd hx hb dL_law_2685 ?_
  obtain ⟨hin, hf⟩ := wb_n hf
  refine va_sld hx hb hXs hbl hbA hS hin dL_law_2686 ?_
  refine lv_aload_n hx hb dL_law_2687 rfl (lv_at hl 3 rfl) ?_
  obtain ⟨r1, hr1, hf⟩ := wb_b hf
  have hPc := wj_P3 hP
  have hDc := wj_D3 hD
  have hFc := wj_F hDc hS hA
  refine va_calli (vx_runSW (As := [.ref (a0 0), .int (xs ((y4 + (1 : Int32))).toNatClampNeg), .ref b2]) (rest := []) ⟨hx, hb, hml, hown, hts⟩ (cn_L_whence l hlt D cB cI cZ cJ N a0 I0 M0 (xs ((y4 + (1 : Int32))).toNatClampNeg) b2 o2 H.size r1 hr1) (vx_cwSW 3 hts gyL_law_L_whence rfl rfl rfl csL_whence ⟨Nat.le_of_ble_eq_true rfl, Nat.le_of_ble_eq_true rfl⟩) (wb_preLS hPc hK hDc (hX0.kept hS) hNc) rfl rfl hl.1 rfl (lv_room (Nat.le_of_ble_eq_true rfl)) dL_law_2688 ⟨hc1, hs1⟩) hS (fun q _ h => hFc q h) hFc (fun r9 u t H locs ht hvm hw hB hz1 hk1 hS => ?_)
  obtain ⟨hP, hD⟩ := wj_3 hP hD hk1 hFc ht hB
  rw [hw]
  obtain ⟨v2, ev2, hf⟩ := wb_v hf
  refine wb_topi ev2 ?_
  refine lv_istore (lv' := [(5, .int v2), (0, .ref b), (1, .ref (a0 0)), (2, .ref (a1 0)), (3, .ref b2), (4, .int y4)]) hx hb dL_law_2691 hl (by decide) rfl (fun ls hl => ?_)
  refine lv_aload_n hx hb dL_law_2693 rfl (lv_at hl 3 rfl) ?_
  refine lv_aload_n hx hb dL_law_2694 rfl (lv_at hl 1 rfl) ?_
  refine lv_iload hx hb dL_law_2695 (lv_at hl 5 rfl) ?_
  refine lv_iconst (v := (1 : Int32)) hx hb dL_law_2697 (by decide) ?_
  refine lv_iadd hx hb dL_law_2698 ?_
  obtain ⟨hin, hf⟩ := wb_n hf
  refine va_sld hx hb hXs hbl hbA hS hin dL_law_2699 ?_
  obtain ⟨r3, hr3, hf⟩ := wb_b hf
  have hPc := wj_P2 hP
  have hDc := wj_D2 hD
  have hFc := wj_F hDc hS hA
  refine va_calli (va_runV (As := [.int (xs ((y4 + (1 : Int32))).toNatClampNeg)]) (rest := []) ⟨hx, hb, hml, hown, hts⟩ (cn_X12_whence l D cB cI cZ N a1 I1 L1 M1 (xs ((y4 + (1 : Int32))).toNatClampNeg) H.size r3 hr3) (cwV 1 hts gyL_law_X12_whence rfl rfl rfl cdX12_whence ⟨Nat.le_of_ble_eq_true rfl, Nat.le_of_ble_eq_true rfl⟩) (wb_preDV hPc hK3 hDc (va_recv hK hP (ci := 12) (q0 := 52) rfl rfl)) rfl rfl hl.1 rfl (lv_room (Nat.le_of_ble_eq_true rfl)) dL_law_2700 ⟨hc1, hs1⟩) hS (fun q _ h => hFc q h) hFc (fun r9 u t H locs ht hvm hw hB hz1 hk1 hS => ?_)
  obtain ⟨hP, hD⟩ := wj_2 hP hD hk1 hFc ht hB
  rw [hw]
  obtain ⟨v4, ev4, hf⟩ := wb_v hf
  refine wb_topi ev4 ?_
  refine lv_istore (lv' := [(6, .int v4), (5, .int v2), (0, .ref b), (1, .ref (a0 0)), (2, .ref (a1 0)), (3, .ref b2), (4, .int y4)]) hx hb dL_law_2703 hl (by decide) rfl (fun ls hl => ?_)
  refine lv_aload_n hx hb dL_law_2705 rfl (lv_at hl 4 rfl) ?_
  obtain ⟨r5, hr5, hf⟩ := wb_b hf
  refine vp_callSi (W.runV (As := []) (rest := []) ⟨hx, hb, hml, hown, hts⟩ (cn_X12_thrown l D cB cI cZ N a1 r3.2.1 r3.2.2.1 r3.2.2.2 r5 hr5) (cwV 0 hts gyL_law_X12_thrown rfl rfl rfl cdX12_thrown ⟨Nat.le_of_ble_eq_true rfl, Nat.le_of_ble_eq_true rfl⟩) (wb_preV (hP.sub (ws' := (wWX12 cB cI cZ a1 r3.2.1 r3.2.2.1 r3.2.2.2)) [52, 53, 54, 55, 56, 57, 58, 59, 60, 61, 62, 63, 64, 65, 66, 67, 68, 69, 70, 71, 72, 73, 74, 75, 76, 77, 78, 79, 80, 81, 82, 83, 84, 85, 86, 87, 88, 89] rfl) hK3 (va_recv hK hP (ci := 12) (q0 := 52) rfl rfl)) rfl rfl hl.1 rfl (lv_room (Nat.le_of_ble_eq_true rfl)) dL_law_2706 ⟨hc1, hs1⟩) (fun r9 e9 => ?_)
  rw [e9]
  refine lv_iload hx hb dL_law_2709 (lv_at hl 1 rfl) ?_
  refine lv_icmp_eq (tgt := 2716) hx hb dL_law_2711 (by decide) (fun hc => ?_) (fun hc => ?_)
  · replace hf := wb_t hc hf
    refine lv_iload hx hb dL_law_2716 (lv_at hl 1 rfl) ?_
    refine lv_if_ne (tgt := 2733) hx hb dL_law_2718 (by decide) (fun hc => ?_) (fun hc => ?_)
    · replace hf := wb_f hc hf
      refine lv_goto (tgt := 3022) hx hb dL_law_2733 (by decide) ?_
      refine W.widen (k := c0 + 1) (n := s0 + 6) (Nat.le_refl _) (Nat.le_refl _) ?_
      have h9 := Option.some.inj hf
      exact kk H locs ls (by rw [← h9]; exact hP) (by rw [← h9]; exact hD) hS (lv_sub hl [2, 3, 4, 5, 6] rfl)
    · replace hf := wb_t hc hf
      refine lv_aload_n hx hb dL_law_2721 rfl (lv_at hl 5 rfl) ?_
      refine lv_iconst (v := (0 : Int32)) hx hb dL_law_2722 (by decide) ?_
      refine va_lald hx hb hK hP 90 3 rfl rfl (show ¬ ((0 : Int32) < 0 ∨ 1 ≤ (0 : Int32).toNatClampNeg) from by decide) dL_law_2723 ?_
      refine lv_iload hx hb dL_law_2724 (lv_at hl 0 rfl) ?_
      refine lv_i2l hx hb dL_law_2726 rfl ?_
      refine W.lcmp hx hb dL_law_2727 ?_
      refine lv_if_eq (tgt := 2733) hx hb dL_law_2728 (by decide) (fun hc => ?_) (fun hc => ?_)
      · replace hf := wb_t hc hf
        refine lv_goto (tgt := 3022) hx hb dL_law_2733 (by decide) ?_
        refine W.widen (k := c0 + 1) (n := s0 + 6) (Nat.le_refl _) (Nat.le_refl _) ?_
        have h9 := Option.some.inj hf
        exact kk H locs ls (by rw [← h9]; exact hP) (by rw [← h9]; exact hD) hS (lv_sub hl [2, 3, 4, 5, 6] rfl)
      · replace hf := wb_f hc hf
        refine lv_iconst (v := (0 : Int32)) hx hb dL_law_2731 (by decide) ?_
        exact absurd hf (fun h => nomatch h)
  · replace hf := wb_f hc hf
    refine lv_iconst (v := (0 : Int32)) hx hb dL_law_2714 (by decide) ?_
    exact absurd hf (fun h => nomatch h)

set_option maxHeartbeats 4000000 in
set_option maxRecDepth 100000 in
theorem law_case36 {p : Program} {e : Env} {s : State} {m : MethodId} {below : List Frame} {meth : Method} {c : Code} (l : Launch) (hlt : l.stackTraces = false) (D : va_G) (cB cI cZ cJ : ClassId) (N : Nat) {b L : Nat} {xs : Nat → Int32} (C0 : lw_At p s m meth c b L xs) (hX0 : wb_XH s.heap s) (hNc : va_Nc wb_E2 wb_E1 s) (a0 a1 : Nat → Nat) (b2 : Nat) (I0 : Nat → Int32) (M0 : Nat → Nat → Int32) (I1 : Nat → Int32) (L1 : Int64) (M1 : Nat → Nat → Int32) (o2 : Nat → Int64) (y4 : Int32) (c0 s0 : Nat) (hc1 : c0 + 1 ≤ room_1.cells) (hs1 : s0 + 6 ≤ room_1.slots) (H : Heap) (locs : List Loc) (hK : va_K D vwCl [(cB, .byte), (cI, .int), (cZ, .boolean), (cJ, .long)] s) (hP : va_P D vwCl ((wWX11 cB cI cZ a0 I0 M0) ++ ((wWX12 cB cI cZ a1 I1 L1 M1) ++ [(b2, .inl (cJ, 1, .inr (.inl o2)))])) H) (hD : va_D (fun q : Nat => s.heap.size ≤ q) ((wWX11 cB cI cZ a0 I0 M0) ++ ((wWX12 cB cI cZ a1 I1 L1 M1) ++ [(b2, .inl (cJ, 1, .inr (.inl o2)))]))) (hS : va_S (fun q : Nat => s.heap.size ≤ q) s.heap H locs) (ls : Array Slot) (hl : lv_has ls 7 [(0, .ref b), (1, .ref (a0 0)), (2, .ref (a1 0)), (3, .ref b2), (4, .int y4)]) (R : (Nat → Int32) × (Nat → Nat → Int32) × (Nat → Int32) × Int64 × (Nat → Nat → Int32) × (Nat → Int64)) (hf : fL_case36 N L xs I0 M0 I1 L1 M1 o2 y4 = some R)
    (kk : ∀ (H : Heap) (locs : List Loc) (ls : Array Slot), va_P D vwCl ((wWX11 cB cI cZ a0 R.1 R.2.1) ++ ((wWX12 cB cI cZ a1 R.2.2.1 R.2.2.2.1 R.2.2.2.2.1) ++ [(b2, .inl (cJ, 1, .inr (.inl R.2.2.2.2.2)))])) H → va_D (fun q : Nat => s.heap.size ≤ q) ((wWX11 cB cI cZ a0 R.1 R.2.1) ++ ((wWX12 cB cI cZ a1 R.2.2.1 R.2.2.2.1 R.2.2.2.2.1) ++ [(b2, .inl (cJ, 1, .inr (.inl R.2.2.2.2.2)))])) → va_S (fun q : Nat => s.heap.size ≤ q) s.heap H locs → lv_has ls 7 [(0, .ref b), (1, .ref (a0 0)), (2, .ref (a1 0)), (3, .ref b2), (4, .int y4)] → W p l e room_1 s m #[Value.ref b] below meth c H locs (c0 + 1) (s0 + 6) (lw_Z below #[Value.ref b] s) (F0 m 3022 ls [])) : W p l e room_1 s m #[Value.ref b] below meth c H locs c0 s0 (lw_Z below #[Value.ref b] s) (F0 m 2736 ls []) := by
  obtain ⟨hx, hb, hr, hml, hown, hts0, hXs, hbl, hlocks, hgv⟩ := id C0
  have hown : s.vm.findClass RL = some m.cls := hown
  have hb : c.code = cL_law := hb
  have hts : ∀ w ∈ wyL_law, w.before #[Value.ref b] s = true := fun w h => hts0 w (wl_law w h)
  have hA : ∀ q : Nat, s.heap.size ≤ q → (fun q : Nat => s.heap.size ≤ q) q := fun _ h => h
  have hbA : ¬ (fun q : Nat => s.heap.size ≤ q) b := Nat.not_le.mpr hbl
  have hK3 : va_K D vwCl [(cB, .byte), (cI, .int), (cZ, .boolean)] s := hK.sub [0, 1, 2] rfl
  have hc0 : c0 ≤ room_1.cells := Nat.le_of_succ_le hc1
  have hs0 : s0 ≤ room_1.slots := Nat.le_trans (Nat.le_add_right _ 6) hs1
  unfold fL_case36 at hf
  refine lv_aload_n hx hb dL_law_2736 rfl (lv_at hl 1 rfl) ?_
  refine lv_aload_n hx hb dL_law_2737 rfl (lv_at hl 0 rfl) ?_
  refine lv_iload hx hb dL_law_2738 (lv_at hl 4 rfl) ?_
  refine lv_iconst (v := (1 : Int32)) hx hb dL_law_2740 (by decide) ?_
  refine lv_iadd hx hb dL_law_2741 ?_
  obtain ⟨hin, hf⟩ := wb_n hf
  refine va_sld hx hb hXs hbl hbA hS hin dL_law_2742 ?_
  refine lv_aload_n hx hb dL_law_2743 rfl (lv_at hl 0 rfl) ?_
  refine lv_iload hx hb dL_law_2744 (lv_at hl 4 rfl) ?_
  refine lv_iconst (v := (2 : Int32)) hx hb dL_law_2746 (by decide) ?_
  refine lv_iadd hx hb dL_law_2747 ?_
  obtain ⟨hin, hf⟩ := wb_n hf
  refine va_sld hx hb hXs hbl hbA hS hin dL_law_2748 ?_
  refine lv_aload_n hx hb dL_law_2749 rfl (lv_at hl 0 rfl) ?_
  refine lv_iload hx hb dL_law_2750 (lv_at hl 4 rfl) ?_
  refine lv_iconst (v := (3 : Int32)) hx hb dL_law_2752 (by decide) ?_
  refine lv_iadd hx hb dL_law_2753 ?_
  obtain ⟨hin, hf⟩ := wb_n hf
  refine va_sld hx hb hXs hbl hbA hS hin dL_law_2754 ?_
  refine lv_aload_n hx hb dL_law_2755 rfl (lv_at hl 3 rfl) ?_
  obtain ⟨r1, hr1, hf⟩ := wb_b hf
  have hPc := wj_P3 hP
  have hDc := wj_D3 hD
  have hFc := wj_F hDc hS hA
  refine va_calli (vx_runSW (As := [.ref (a0 0), .int (xs ((y4 + (1 : Int32))).toNatClampNeg), .int (xs ((y4 + (2 : Int32))).toNatClampNeg), .int (xs ((y4 + (3 : Int32))).toNatClampNeg), .ref b2]) (rest := []) ⟨hx, hb, hml, hown, hts⟩ (cn_L_life l hlt D cB cI cZ cJ N a0 I0 M0 (xs ((y4 + (1 : Int32))).toNatClampNeg) (xs ((y4 + (2 : Int32))).toNatClampNeg) (xs ((y4 + (3 : Int32))).toNatClampNeg) b2 o2 H.size r1 hr1) (vx_cwSW 5 hts gyL_law_L_life rfl rfl rfl csL_life ⟨Nat.le_of_ble_eq_true rfl, Nat.le_of_ble_eq_true rfl⟩) (wb_preLS hPc hK hDc (hX0.kept hS) hNc) rfl rfl hl.1 rfl (lv_room (Nat.le_of_ble_eq_true rfl)) dL_law_2756 ⟨hc1, hs1⟩) hS (fun q _ h => hFc q h) hFc (fun r9 u t H locs ht hvm hw hB hz1 hk1 hS => ?_)
  obtain ⟨hP, hD⟩ := wj_3 hP hD hk1 hFc ht hB
  rw [hw]
  obtain ⟨v2, ev2, hf⟩ := wb_v hf
  refine wb_topi ev2 ?_
  refine lv_istore (lv' := [(5, .int v2), (0, .ref b), (1, .ref (a0 0)), (2, .ref (a1 0)), (3, .ref b2), (4, .int y4)]) hx hb dL_law_2759 hl (by decide) rfl (fun ls hl => ?_)
  refine lv_aload_n hx hb dL_law_2761 rfl (lv_at hl 3 rfl) ?_
  refine lv_aload_n hx hb dL_law_2762 rfl (lv_at hl 1 rfl) ?_
  refine lv_iload hx hb dL_law_2763 (lv_at hl 5 rfl) ?_
  refine lv_iconst (v := (1 : Int32)) hx hb dL_law_2765 (by decide) ?_
  refine lv_iadd hx hb dL_law_2766 ?_
  obtain ⟨hin, hf⟩ := wb_n hf
  refine va_sld hx hb hXs hbl hbA hS hin dL_law_2767 ?_
  refine lv_aload_n hx hb dL_law_2768 rfl (lv_at hl 1 rfl) ?_
  refine lv_iload hx hb dL_law_2769 (lv_at hl 5 rfl) ?_
  refine lv_iconst (v := (2 : Int32)) hx hb dL_law_2771 (by decide) ?_
  refine lv_iadd hx hb dL_law_2772 ?_
  obtain ⟨hin, hf⟩ := wb_n hf
  refine va_sld hx hb hXs hbl hbA hS hin dL_law_2773 ?_
  refine lv_aload_n hx hb dL_law_2774 rfl (lv_at hl 1 rfl) ?_
  refine lv_iload hx hb dL_law_2775 (lv_at hl 5 rfl) ?_
  refine lv_iconst (v := (3 : Int32)) hx hb dL_law_2777 (by decide) ?_
  refine lv_iadd hx hb dL_law_2778 ?_
  obtain ⟨hin, hf⟩ := wb_n hf
  refine va_sld hx hb hXs hbl hbA hS hin dL_law_2779 ?_
  obtain ⟨r3, hr3, hf⟩ := wb_b hf
  have hPc := wj_P2 hP
  have hDc := wj_D2 hD
  have hFc := wj_F hDc hS hA
  refine va_calli (va_runV (As := [.int (xs ((y4 + (1 : Int32))).toNatClampNeg), .int (xs ((y4 + (2 : Int32))).toNatClampNeg), .int (xs ((y4 + (3 : Int32))).toNatClampNeg)]) (rest := []) ⟨hx, hb, hml, hown, hts⟩ (cn_X12_life l D cB cI cZ N a1 I1 L1 M1 (xs ((y4 + (1 : Int32))).toNatClampNeg) (xs ((y4 + (2 : Int32))).toNatClampNeg) (xs ((y4 + (3 : Int32))).toNatClampNeg) H.size r3 hr3) (cwV 3 hts gyL_law_X12_life rfl rfl rfl cdX12_life ⟨Nat.le_of_ble_eq_true rfl, Nat.le_of_ble_eq_true rfl⟩) (wb_preDV hPc hK3 hDc (va_recv hK hP (ci := 12) (q0 := 52) rfl rfl)) rfl rfl hl.1 rfl (lv_room (Nat.le_of_ble_eq_true rfl)) dL_law_2780 ⟨hc1, hs1⟩) hS (fun q _ h => hFc q h) hFc (fun r9 u t H locs ht hvm hw hB hz1 hk1 hS => ?_)
  obtain ⟨hP, hD⟩ := wj_2 hP hD hk1 hFc ht hB
  rw [hw]
  obtain ⟨v4, ev4, hf⟩ := wb_v hf
  refine wb_topi ev4 ?_
  refine lv_istore (lv' := [(6, .int v4), (5, .int v2), (0, .ref b), (1, .ref (a0 0)), (2, .ref (a1 0)), (3, .ref b2), (4, .int y4)]) hx hb dL_law_2783 hl (by decide) rfl (fun ls hl => ?_)
  refine lv_aload_n hx hb dL_law_2785 rfl (lv_at hl 4 rfl) ?_
  obtain ⟨r5, hr5, hf⟩ := wb_b hf
  refine vp_callSi (W.runV (As := []) (rest := []) ⟨hx, hb, hml, hown, hts⟩ (cn_X12_thrown l D cB cI cZ N a1 r3.2.1 r3.2.2.1 r3.2.2.2 r5 hr5) (cwV 0 hts gyL_law_X12_thrown rfl rfl rfl cdX12_thrown ⟨Nat.le_of_ble_eq_true rfl, Nat.le_of_ble_eq_true rfl⟩) (wb_preV (hP.sub (ws' := (wWX12 cB cI cZ a1 r3.2.1 r3.2.2.1 r3.2.2.2)) [52, 53, 54, 55, 56, 57, 58, 59, 60, 61, 62, 63, 64, 65, 66, 67, 68, 69, 70, 71, 72, 73, 74, 75, 76, 77, 78, 79, 80, 81, 82, 83, 84, 85, 86, 87, 88, 89] rfl) hK3 (va_recv hK hP (ci := 12) (q0 := 52) rfl rfl)) rfl rfl hl.1 rfl (lv_room (Nat.le_of_ble_eq_true rfl)) dL_law_2786 ⟨hc1, hs1⟩) (fun r9 e9 => ?_)
  rw [e9]
  refine lv_iload hx hb dL_law_2789 (lv_at hl 1 rfl) ?_
  refine lv_icmp_eq (tgt := 2796) hx hb dL_law_2791 (by decide) (fun hc => ?_) (fun hc => ?_)
  · replace hf := wb_t hc hf
    refine lv_iload hx hb dL_law_2796 (lv_at hl 1 rfl) ?_
    refine lv_if_ne (tgt := 2820) hx hb dL_law_2798 (by decide) (fun hc => ?_) (fun hc => ?_)
    · replace hf := wb_f hc hf
      refine lv_goto (tgt := 3022) hx hb dL_law_2820 (by decide) ?_
      refine W.widen (k := c0 + 1) (n := s0 + 6) (Nat.le_refl _) (Nat.le_refl _) ?_
      have h9 := Option.some.inj hf
      exact kk H locs ls (by rw [← h9]; exact hP) (by rw [← h9]; exact hD) hS (lv_sub hl [2, 3, 4, 5, 6] rfl)
    · replace hf := wb_t hc hf
      refine lv_aload_n hx hb dL_law_2801 rfl (lv_at hl 5 rfl) ?_
      refine lv_iconst (v := (0 : Int32)) hx hb dL_law_2802 (by decide) ?_
      refine va_lald hx hb hK hP 90 3 rfl rfl (show ¬ ((0 : Int32) < 0 ∨ 1 ≤ (0 : Int32).toNatClampNeg) from by decide) dL_law_2803 ?_
      refine lv_iload hx hb dL_law_2804 (lv_at hl 0 rfl) ?_
      refine lv_if_eq (tgt := 2813) hx hb dL_law_2806 (by decide) (fun hc => ?_) (fun hc => ?_)
      · replace hf := wb_t hc hf
        refine lv_lconst (v := (0 : Int64)) hx hb dL_law_2813 (by decide) ?_
        refine W.lcmp hx hb dL_law_2814 ?_
        refine lv_if_eq (tgt := 2820) hx hb dL_law_2815 (by decide) (fun hc => ?_) (fun hc => ?_)
        · replace hf := wb_t hc hf
          refine lv_goto (tgt := 3022) hx hb dL_law_2820 (by decide) ?_
          refine W.widen (k := c0 + 1) (n := s0 + 6) (Nat.le_refl _) (Nat.le_refl _) ?_
          have h9 := Option.some.inj hf
          exact kk H locs ls (by rw [← h9]; exact hP) (by rw [← h9]; exact hD) hS (lv_sub hl [2, 3, 4, 5, 6] rfl)
        · replace hf := wb_f hc hf
          refine lv_iconst (v := (0 : Int32)) hx hb dL_law_2818 (by decide) ?_
          exact absurd hf (fun h => nomatch h)
      · replace hf := wb_f hc hf
        refine lv_lconst (v := (1 : Int64)) hx hb dL_law_2809 (by decide) ?_
        refine lv_goto (tgt := 2814) hx hb dL_law_2810 (by decide) ?_
        refine W.lcmp hx hb dL_law_2814 ?_
        refine lv_if_eq (tgt := 2820) hx hb dL_law_2815 (by decide) (fun hc => ?_) (fun hc => ?_)
        · replace hf := wb_t hc hf
          refine lv_goto (tgt := 3022) hx hb dL_law_2820 (by decide) ?_
          refine W.widen (k := c0 + 1) (n := s0 + 6) (Nat.le_refl _) (Nat.le_refl _) ?_
          have h9 := Option.some.inj hf
          exact kk H locs ls (by rw [← h9]; exact hP) (by rw [← h9]; exact hD) hS (lv_sub hl [2, 3, 4, 5, 6] rfl)
        · replace hf := wb_f hc hf
          refine lv_iconst (v := (0 : Int32)) hx hb dL_law_2818 (by decide) ?_
          exact absurd hf (fun h => nomatch h)
  · replace hf := wb_f hc hf
    refine lv_iconst (v := (0 : Int32)) hx hb dL_law_2794 (by decide) ?_
    exact absurd hf (fun h => nomatch h)

set_option maxHeartbeats 4000000 in
set_option maxRecDepth 100000 in
theorem law_case37 {p : Program} {e : Env} {s : State} {m : MethodId} {below : List Frame} {meth : Method} {c : Code} (l : Launch) (hlt : l.stackTraces = false) (D : va_G) (cB cI cZ cJ : ClassId) (N : Nat) {b L : Nat} {xs : Nat → Int32} (C0 : lw_At p s m meth c b L xs) (hX0 : wb_XH s.heap s) (hNc : va_Nc wb_E2 wb_E1 s) (a0 a1 : Nat → Nat) (b2 : Nat) (I0 : Nat → Int32) (M0 : Nat → Nat → Int32) (I1 : Nat → Int32) (L1 : Int64) (M1 : Nat → Nat → Int32) (o2 : Nat → Int64) (y4 : Int32) (c0 s0 : Nat) (hc1 : c0 + 1 ≤ room_1.cells) (hs1 : s0 + 6 ≤ room_1.slots) (H : Heap) (locs : List Loc) (hK : va_K D vwCl [(cB, .byte), (cI, .int), (cZ, .boolean), (cJ, .long)] s) (hP : va_P D vwCl ((wWX11 cB cI cZ a0 I0 M0) ++ ((wWX12 cB cI cZ a1 I1 L1 M1) ++ [(b2, .inl (cJ, 1, .inr (.inl o2)))])) H) (hD : va_D (fun q : Nat => s.heap.size ≤ q) ((wWX11 cB cI cZ a0 I0 M0) ++ ((wWX12 cB cI cZ a1 I1 L1 M1) ++ [(b2, .inl (cJ, 1, .inr (.inl o2)))]))) (hS : va_S (fun q : Nat => s.heap.size ≤ q) s.heap H locs) (ls : Array Slot) (hl : lv_has ls 7 [(0, .ref b), (1, .ref (a0 0)), (2, .ref (a1 0)), (3, .ref b2), (4, .int y4)]) (R : (Nat → Int32) × (Nat → Nat → Int32) × (Nat → Int32) × Int64 × (Nat → Nat → Int32) × (Nat → Int64)) (hf : fL_case37 N L xs I0 M0 I1 L1 M1 o2 y4 = some R)
    (kk : ∀ (H : Heap) (locs : List Loc) (ls : Array Slot), va_P D vwCl ((wWX11 cB cI cZ a0 R.1 R.2.1) ++ ((wWX12 cB cI cZ a1 R.2.2.1 R.2.2.2.1 R.2.2.2.2.1) ++ [(b2, .inl (cJ, 1, .inr (.inl R.2.2.2.2.2)))])) H → va_D (fun q : Nat => s.heap.size ≤ q) ((wWX11 cB cI cZ a0 R.1 R.2.1) ++ ((wWX12 cB cI cZ a1 R.2.2.1 R.2.2.2.1 R.2.2.2.2.1) ++ [(b2, .inl (cJ, 1, .inr (.inl R.2.2.2.2.2)))])) → va_S (fun q : Nat => s.heap.size ≤ q) s.heap H locs → lv_has ls 7 [(0, .ref b), (1, .ref (a0 0)), (2, .ref (a1 0)), (3, .ref b2), (4, .int y4)] → W p l e room_1 s m #[Value.ref b] below meth c H locs (c0 + 1) (s0 + 6) (lw_Z below #[Value.ref b] s) (F0 m 3022 ls [])) : W p l e room_1 s m #[Value.ref b] below meth c H locs c0 s0 (lw_Z below #[Value.ref b] s) (F0 m 2823 ls []) := by
  obtain ⟨hx, hb, hr, hml, hown, hts0, hXs, hbl, hlocks, hgv⟩ := id C0
  have hown : s.vm.findClass RL = some m.cls := hown
  have hb : c.code = cL_law := hb
  have hts : ∀ w ∈ wyL_law, w.before #[Value.ref b] s = true := fun w h => hts0 w (wl_law w h)
  have hA : ∀ q : Nat, s.heap.size ≤ q → (fun q : Nat => s.heap.size ≤ q) q := fun _ h => h
  have hbA : ¬ (fun q : Nat => s.heap.size ≤ q) b := Nat.not_le.mpr hbl
  have hK3 : va_K D vwCl [(cB, .byte), (cI, .int), (cZ, .boolean)] s := hK.sub [0, 1, 2] rfl
  have hc0 : c0 ≤ room_1.cells := Nat.le_of_succ_le hc1
  have hs0 : s0 ≤ room_1.slots := Nat.le_trans (Nat.le_add_right _ 6) hs1
  unfold fL_case37 at hf
  refine lv_aload_n hx hb dL_law_2823 rfl (lv_at hl 1 rfl) ?_
  refine lv_aload_n hx hb dL_law_2824 rfl (lv_at hl 0 rfl) ?_
  refine lv_iload hx hb dL_law_2825 (lv_at hl 4 rfl) ?_
  refine lv_iconst (v := (1 : Int32)) hx hb dL_law_2827 (by decide) ?_
  refine lv_iadd hx hb dL_law_2828 ?_
  obtain ⟨hin, hf⟩ := wb_n hf
  refine va_sld hx hb hXs hbl hbA hS hin dL_law_2829 ?_
  refine lv_aload_n hx hb dL_law_2830 rfl (lv_at hl 0 rfl) ?_
  refine lv_iload hx hb dL_law_2831 (lv_at hl 4 rfl) ?_
  refine lv_iconst (v := (2 : Int32)) hx hb dL_law_2833 (by decide) ?_
  refine lv_iadd hx hb dL_law_2834 ?_
  obtain ⟨hin, hf⟩ := wb_n hf
  refine va_sld hx hb hXs hbl hbA hS hin dL_law_2835 ?_
  refine lv_aload_n hx hb dL_law_2836 rfl (lv_at hl 3 rfl) ?_
  obtain ⟨r1, hr1, hf⟩ := wb_b hf
  have hPc := wj_P3 hP
  have hDc := wj_D3 hD
  have hFc := wj_F hDc hS hA
  refine va_calli (vx_runSW (As := [.ref (a0 0), .int (xs ((y4 + (1 : Int32))).toNatClampNeg), .int (xs ((y4 + (2 : Int32))).toNatClampNeg), .ref b2]) (rest := []) ⟨hx, hb, hml, hown, hts⟩ (cn_L_fate l hlt D cB cI cZ cJ N a0 I0 M0 (xs ((y4 + (1 : Int32))).toNatClampNeg) (xs ((y4 + (2 : Int32))).toNatClampNeg) b2 o2 H.size r1 hr1) (vx_cwSW 4 hts gyL_law_L_fate rfl rfl rfl csL_fate ⟨Nat.le_of_ble_eq_true rfl, Nat.le_of_ble_eq_true rfl⟩) (wb_preLS hPc hK hDc (hX0.kept hS) hNc) rfl rfl hl.1 rfl (lv_room (Nat.le_of_ble_eq_true rfl)) dL_law_2837 ⟨hc1, hs1⟩) hS (fun q _ h => hFc q h) hFc (fun r9 u t H locs ht hvm hw hB hz1 hk1 hS => ?_)
  obtain ⟨hP, hD⟩ := wj_3 hP hD hk1 hFc ht hB
  rw [hw]
  obtain ⟨v2, ev2, hf⟩ := wb_v hf
  refine wb_topi ev2 ?_
  refine lv_istore (lv' := [(5, .int v2), (0, .ref b), (1, .ref (a0 0)), (2, .ref (a1 0)), (3, .ref b2), (4, .int y4)]) hx hb dL_law_2840 hl (by decide) rfl (fun ls hl => ?_)
  refine lv_aload_n hx hb dL_law_2842 rfl (lv_at hl 3 rfl) ?_
  refine lv_aload_n hx hb dL_law_2843 rfl (lv_at hl 1 rfl) ?_
  refine lv_iload hx hb dL_law_2844 (lv_at hl 5 rfl) ?_
  refine lv_iconst (v := (1 : Int32)) hx hb dL_law_2846 (by decide) ?_
  refine lv_iadd hx hb dL_law_2847 ?_
  obtain ⟨hin, hf⟩ := wb_n hf
  refine va_sld hx hb hXs hbl hbA hS hin dL_law_2848 ?_
  refine lv_aload_n hx hb dL_law_2849 rfl (lv_at hl 1 rfl) ?_
  refine lv_iload hx hb dL_law_2850 (lv_at hl 5 rfl) ?_
  refine lv_iconst (v := (2 : Int32)) hx hb dL_law_2852 (by decide) ?_
  refine lv_iadd hx hb dL_law_2853 ?_
  obtain ⟨hin, hf⟩ := wb_n hf
  refine va_sld hx hb hXs hbl hbA hS hin dL_law_2854 ?_
  obtain ⟨r3, hr3, hf⟩ := wb_b hf
  have hPc := wj_P2 hP
  have hDc := wj_D2 hD
  have hFc := wj_F hDc hS hA
  refine va_calli (va_runV (As := [.int (xs ((y4 + (1 : Int32))).toNatClampNeg), .int (xs ((y4 + (2 : Int32))).toNatClampNeg)]) (rest := []) ⟨hx, hb, hml, hown, hts⟩ (cn_X12_fate l D cB cI cZ N a1 I1 L1 M1 (xs ((y4 + (1 : Int32))).toNatClampNeg) (xs ((y4 + (2 : Int32))).toNatClampNeg) H.size r3 hr3) (cwV 2 hts gyL_law_X12_fate rfl rfl rfl cdX12_fate ⟨Nat.le_of_ble_eq_true rfl, Nat.le_of_ble_eq_true rfl⟩) (wb_preDV hPc hK3 hDc (va_recv hK hP (ci := 12) (q0 := 52) rfl rfl)) rfl rfl hl.1 rfl (lv_room (Nat.le_of_ble_eq_true rfl)) dL_law_2855 ⟨hc1, hs1⟩) hS (fun q _ h => hFc q h) hFc (fun r9 u t H locs ht hvm hw hB hz1 hk1 hS => ?_)
  obtain ⟨hP, hD⟩ := wj_2 hP hD hk1 hFc ht hB
  rw [hw]
  obtain ⟨v4, ev4, hf⟩ := wb_v hf
  refine wb_topi ev4 ?_
  refine lv_istore (lv' := [(6, .int v4), (5, .int v2), (0, .ref b), (1, .ref (a0 0)), (2, .ref (a1 0)), (3, .ref b2), (4, .int y4)]) hx hb dL_law_2858 hl (by decide) rfl (fun ls hl => ?_)
  refine lv_aload_n hx hb dL_law_2860 rfl (lv_at hl 4 rfl) ?_
  obtain ⟨r5, hr5, hf⟩ := wb_b hf
  refine vp_callSi (W.runV (As := []) (rest := []) ⟨hx, hb, hml, hown, hts⟩ (cn_X12_thrown l D cB cI cZ N a1 r3.2.1 r3.2.2.1 r3.2.2.2 r5 hr5) (cwV 0 hts gyL_law_X12_thrown rfl rfl rfl cdX12_thrown ⟨Nat.le_of_ble_eq_true rfl, Nat.le_of_ble_eq_true rfl⟩) (wb_preV (hP.sub (ws' := (wWX12 cB cI cZ a1 r3.2.1 r3.2.2.1 r3.2.2.2)) [52, 53, 54, 55, 56, 57, 58, 59, 60, 61, 62, 63, 64, 65, 66, 67, 68, 69, 70, 71, 72, 73, 74, 75, 76, 77, 78, 79, 80, 81, 82, 83, 84, 85, 86, 87, 88, 89] rfl) hK3 (va_recv hK hP (ci := 12) (q0 := 52) rfl rfl)) rfl rfl hl.1 rfl (lv_room (Nat.le_of_ble_eq_true rfl)) dL_law_2861 ⟨hc1, hs1⟩) (fun r9 e9 => ?_)
  rw [e9]
  refine lv_iload hx hb dL_law_2864 (lv_at hl 1 rfl) ?_
  refine lv_icmp_eq (tgt := 2871) hx hb dL_law_2866 (by decide) (fun hc => ?_) (fun hc => ?_)
  · replace hf := wb_t hc hf
    refine lv_iload hx hb dL_law_2871 (lv_at hl 1 rfl) ?_
    refine lv_if_ne (tgt := 2895) hx hb dL_law_2873 (by decide) (fun hc => ?_) (fun hc => ?_)
    · replace hf := wb_f hc hf
      refine lv_goto (tgt := 3022) hx hb dL_law_2895 (by decide) ?_
      refine W.widen (k := c0 + 1) (n := s0 + 6) (Nat.le_refl _) (Nat.le_refl _) ?_
      have h9 := Option.some.inj hf
      exact kk H locs ls (by rw [← h9]; exact hP) (by rw [← h9]; exact hD) hS (lv_sub hl [2, 3, 4, 5, 6] rfl)
    · replace hf := wb_t hc hf
      refine lv_aload_n hx hb dL_law_2876 rfl (lv_at hl 5 rfl) ?_
      refine lv_iconst (v := (0 : Int32)) hx hb dL_law_2877 (by decide) ?_
      refine va_lald hx hb hK hP 90 3 rfl rfl (show ¬ ((0 : Int32) < 0 ∨ 1 ≤ (0 : Int32).toNatClampNeg) from by decide) dL_law_2878 ?_
      refine lv_iload hx hb dL_law_2879 (lv_at hl 0 rfl) ?_
      refine lv_if_eq (tgt := 2888) hx hb dL_law_2881 (by decide) (fun hc => ?_) (fun hc => ?_)
      · replace hf := wb_t hc hf
        refine lv_lconst (v := (0 : Int64)) hx hb dL_law_2888 (by decide) ?_
        refine W.lcmp hx hb dL_law_2889 ?_
        refine lv_if_eq (tgt := 2895) hx hb dL_law_2890 (by decide) (fun hc => ?_) (fun hc => ?_)
        · replace hf := wb_t hc hf
          refine lv_goto (tgt := 3022) hx hb dL_law_2895 (by decide) ?_
          refine W.widen (k := c0 + 1) (n := s0 + 6) (Nat.le_refl _) (Nat.le_refl _) ?_
          have h9 := Option.some.inj hf
          exact kk H locs ls (by rw [← h9]; exact hP) (by rw [← h9]; exact hD) hS (lv_sub hl [2, 3, 4, 5, 6] rfl)
        · replace hf := wb_f hc hf
          refine lv_iconst (v := (0 : Int32)) hx hb dL_law_2893 (by decide) ?_
          exact absurd hf (fun h => nomatch h)
      · replace hf := wb_f hc hf
        refine lv_lconst (v := (1 : Int64)) hx hb dL_law_2884 (by decide) ?_
        refine lv_goto (tgt := 2889) hx hb dL_law_2885 (by decide) ?_
        refine W.lcmp hx hb dL_law_2889 ?_
        refine lv_if_eq (tgt := 2895) hx hb dL_law_2890 (by decide) (fun hc => ?_) (fun hc => ?_)
        · replace hf := wb_t hc hf
          refine lv_goto (tgt := 3022) hx hb dL_law_2895 (by decide) ?_
          refine W.widen (k := c0 + 1) (n := s0 + 6) (Nat.le_refl _) (Nat.le_refl _) ?_
          have h9 := Option.some.inj hf
          exact kk H locs ls (by rw [← h9]; exact hP) (by rw [← h9]; exact hD) hS (lv_sub hl [2, 3, 4, 5, 6] rfl)
        · replace hf := wb_f hc hf
          refine lv_iconst (v := (0 : Int32)) hx hb dL_law_2893 (by decide) ?_
          exact absurd hf (fun h => nomatch h)
  · replace hf := wb_f hc hf
    refine lv_iconst (v := (0 : Int32)) hx hb dL_law_2869 (by decide) ?_
    exact absurd hf (fun h => nomatch h)

set_option maxHeartbeats 4000000 in
set_option maxRecDepth 100000 in
theorem law_case38 {p : Program} {e : Env} {s : State} {m : MethodId} {below : List Frame} {meth : Method} {c : Code} (l : Launch) (hlt : l.stackTraces = false) (D : va_G) (cB cI cZ cJ : ClassId) (N : Nat) {b L : Nat} {xs : Nat → Int32} (C0 : lw_At p s m meth c b L xs) (hX0 : wb_XH s.heap s) (hNc : va_Nc wb_E2 wb_E1 s) (a0 a1 : Nat → Nat) (b2 : Nat) (I0 : Nat → Int32) (M0 : Nat → Nat → Int32) (I1 : Nat → Int32) (L1 : Int64) (M1 : Nat → Nat → Int32) (o2 : Nat → Int64) (y4 : Int32) (c0 s0 : Nat) (hc1 : c0 + 1 ≤ room_1.cells) (hs1 : s0 + 6 ≤ room_1.slots) (H : Heap) (locs : List Loc) (hK : va_K D vwCl [(cB, .byte), (cI, .int), (cZ, .boolean), (cJ, .long)] s) (hP : va_P D vwCl ((wWX11 cB cI cZ a0 I0 M0) ++ ((wWX12 cB cI cZ a1 I1 L1 M1) ++ [(b2, .inl (cJ, 1, .inr (.inl o2)))])) H) (hD : va_D (fun q : Nat => s.heap.size ≤ q) ((wWX11 cB cI cZ a0 I0 M0) ++ ((wWX12 cB cI cZ a1 I1 L1 M1) ++ [(b2, .inl (cJ, 1, .inr (.inl o2)))]))) (hS : va_S (fun q : Nat => s.heap.size ≤ q) s.heap H locs) (ls : Array Slot) (hl : lv_has ls 7 [(0, .ref b), (1, .ref (a0 0)), (2, .ref (a1 0)), (3, .ref b2), (4, .int y4)]) (R : (Nat → Int32) × (Nat → Nat → Int32) × (Nat → Int32) × Int64 × (Nat → Nat → Int32) × (Nat → Int64)) (hf : fL_case38 N L xs I0 M0 I1 L1 M1 o2 y4 = some R)
    (kk : ∀ (H : Heap) (locs : List Loc) (ls : Array Slot), va_P D vwCl ((wWX11 cB cI cZ a0 R.1 R.2.1) ++ ((wWX12 cB cI cZ a1 R.2.2.1 R.2.2.2.1 R.2.2.2.2.1) ++ [(b2, .inl (cJ, 1, .inr (.inl R.2.2.2.2.2)))])) H → va_D (fun q : Nat => s.heap.size ≤ q) ((wWX11 cB cI cZ a0 R.1 R.2.1) ++ ((wWX12 cB cI cZ a1 R.2.2.1 R.2.2.2.1 R.2.2.2.2.1) ++ [(b2, .inl (cJ, 1, .inr (.inl R.2.2.2.2.2)))])) → va_S (fun q : Nat => s.heap.size ≤ q) s.heap H locs → lv_has ls 7 [(0, .ref b), (1, .ref (a0 0)), (2, .ref (a1 0)), (3, .ref b2), (4, .int y4)] → W p l e room_1 s m #[Value.ref b] below meth c H locs (c0 + 1) (s0 + 6) (lw_Z below #[Value.ref b] s) (F0 m 3022 ls [])) : W p l e room_1 s m #[Value.ref b] below meth c H locs c0 s0 (lw_Z below #[Value.ref b] s) (F0 m 2898 ls []) := by
  obtain ⟨hx, hb, hr, hml, hown, hts0, hXs, hbl, hlocks, hgv⟩ := id C0
  have hown : s.vm.findClass RL = some m.cls := hown
  have hb : c.code = cL_law := hb
  have hts : ∀ w ∈ wyL_law, w.before #[Value.ref b] s = true := fun w h => hts0 w (wl_law w h)
  have hA : ∀ q : Nat, s.heap.size ≤ q → (fun q : Nat => s.heap.size ≤ q) q := fun _ h => h
  have hbA : ¬ (fun q : Nat => s.heap.size ≤ q) b := Nat.not_le.mpr hbl
  have hK3 : va_K D vwCl [(cB, .byte), (cI, .int), (cZ, .boolean)] s := hK.sub [0, 1, 2] rfl
  have hc0 : c0 ≤ room_1.cells := Nat.le_of_succ_le hc1
  have hs0 : s0 ≤ room_1.slots := Nat.le_trans (Nat.le_add_right _ 6) hs1
  unfold fL_case38 at hf
  refine lv_aload_n hx hb dL_law_2898 rfl (lv_at hl 1 rfl) ?_
  refine lv_aload_n hx hb dL_law_2899 rfl (lv_at hl 0 rfl) ?_
  refine lv_iload hx hb dL_law_2900 (lv_at hl 4 rfl) ?_
  refine lv_iconst (v := (1 : Int32)) hx hb dL_law_2902 (by decide) ?_
  refine lv_iadd hx hb dL_law_2903 ?_
  obtain ⟨hin, hf⟩ := wb_n hf
  refine va_sld hx hb hXs hbl hbA hS hin dL_law_2904 ?_
  refine lv_aload_n hx hb dL_law_2905 rfl (lv_at hl 3 rfl) ?_
  obtain ⟨r1, hr1, hf⟩ := wb_b hf
  have hPc := wj_P3 hP
  have hDc := wj_D3 hD
  have hFc := wj_F hDc hS hA
  refine va_calli (vx_runSW (As := [.ref (a0 0), .int (xs ((y4 + (1 : Int32))).toNatClampNeg), .ref b2]) (rest := []) ⟨hx, hb, hml, hown, hts⟩ (cn_L_fates l hlt D cB cI cZ cJ N a0 I0 M0 (xs ((y4 + (1 : Int32))).toNatClampNeg) b2 o2 H.size r1 hr1) (vx_cwSW 3 hts gyL_law_L_fates rfl rfl rfl csL_fates ⟨Nat.le_of_ble_eq_true rfl, Nat.le_of_ble_eq_true rfl⟩) (wb_preLS hPc hK hDc (hX0.kept hS) hNc) rfl rfl hl.1 rfl (lv_room (Nat.le_of_ble_eq_true rfl)) dL_law_2906 ⟨hc1, hs1⟩) hS (fun q _ h => hFc q h) hFc (fun r9 u t H locs ht hvm hw hB hz1 hk1 hS => ?_)
  obtain ⟨hP, hD⟩ := wj_3 hP hD hk1 hFc ht hB
  rw [hw]
  obtain ⟨v2, ev2, hf⟩ := wb_v hf
  refine wb_topi ev2 ?_
  refine lv_istore (lv' := [(5, .int v2), (0, .ref b), (1, .ref (a0 0)), (2, .ref (a1 0)), (3, .ref b2), (4, .int y4)]) hx hb dL_law_2909 hl (by decide) rfl (fun ls hl => ?_)
  refine lv_aload_n hx hb dL_law_2911 rfl (lv_at hl 3 rfl) ?_
  refine lv_aload_n hx hb dL_law_2912 rfl (lv_at hl 1 rfl) ?_
  refine lv_iload hx hb dL_law_2913 (lv_at hl 5 rfl) ?_
  refine lv_iconst (v := (1 : Int32)) hx hb dL_law_2915 (by decide) ?_
  refine lv_iadd hx hb dL_law_2916 ?_
  obtain ⟨hin, hf⟩ := wb_n hf
  refine va_sld hx hb hXs hbl hbA hS hin dL_law_2917 ?_
  obtain ⟨r3, hr3, hf⟩ := wb_b hf
  have hPc := wj_P2 hP
  have hDc := wj_D2 hD
  have hFc := wj_F hDc hS hA
  refine va_calli (va_runV (As := [.int (xs ((y4 + (1 : Int32))).toNatClampNeg)]) (rest := []) ⟨hx, hb, hml, hown, hts⟩ (cn_X12_fates l D cB cI cZ N a1 I1 L1 M1 (xs ((y4 + (1 : Int32))).toNatClampNeg) H.size r3 hr3) (cwV 1 hts gyL_law_X12_fates rfl rfl rfl cdX12_fates ⟨Nat.le_of_ble_eq_true rfl, Nat.le_of_ble_eq_true rfl⟩) (wb_preDV hPc hK3 hDc (va_recv hK hP (ci := 12) (q0 := 52) rfl rfl)) rfl rfl hl.1 rfl (lv_room (Nat.le_of_ble_eq_true rfl)) dL_law_2918 ⟨hc1, hs1⟩) hS (fun q _ h => hFc q h) hFc (fun r9 u t H locs ht hvm hw hB hz1 hk1 hS => ?_)
  obtain ⟨hP, hD⟩ := wj_2 hP hD hk1 hFc ht hB
  rw [hw]
  obtain ⟨v4, ev4, hf⟩ := wb_v hf
  refine wb_topi ev4 ?_
  refine lv_istore (lv' := [(6, .int v4), (5, .int v2), (0, .ref b), (1, .ref (a0 0)), (2, .ref (a1 0)), (3, .ref b2), (4, .int y4)]) hx hb dL_law_2921 hl (by decide) rfl (fun ls hl => ?_)
  refine lv_aload_n hx hb dL_law_2923 rfl (lv_at hl 4 rfl) ?_
  obtain ⟨r5, hr5, hf⟩ := wb_b hf
  refine vp_callSi (W.runV (As := []) (rest := []) ⟨hx, hb, hml, hown, hts⟩ (cn_X12_thrown l D cB cI cZ N a1 r3.2.1 r3.2.2.1 r3.2.2.2 r5 hr5) (cwV 0 hts gyL_law_X12_thrown rfl rfl rfl cdX12_thrown ⟨Nat.le_of_ble_eq_true rfl, Nat.le_of_ble_eq_true rfl⟩) (wb_preV (hP.sub (ws' := (wWX12 cB cI cZ a1 r3.2.1 r3.2.2.1 r3.2.2.2)) [52, 53, 54, 55, 56, 57, 58, 59, 60, 61, 62, 63, 64, 65, 66, 67, 68, 69, 70, 71, 72, 73, 74, 75, 76, 77, 78, 79, 80, 81, 82, 83, 84, 85, 86, 87, 88, 89] rfl) hK3 (va_recv hK hP (ci := 12) (q0 := 52) rfl rfl)) rfl rfl hl.1 rfl (lv_room (Nat.le_of_ble_eq_true rfl)) dL_law_2924 ⟨hc1, hs1⟩) (fun r9 e9 => ?_)
  rw [e9]
  refine lv_iload hx hb dL_law_2927 (lv_at hl 1 rfl) ?_
  refine lv_icmp_eq (tgt := 2934) hx hb dL_law_2929 (by decide) (fun hc => ?_) (fun hc => ?_)
  · replace hf := wb_t hc hf
    refine lv_iload hx hb dL_law_2934 (lv_at hl 1 rfl) ?_
    refine lv_if_ne (tgt := 2951) hx hb dL_law_2936 (by decide) (fun hc => ?_) (fun hc => ?_)
    · replace hf := wb_f hc hf
      refine lv_goto (tgt := 3022) hx hb dL_law_2951 (by decide) ?_
      refine W.widen (k := c0 + 1) (n := s0 + 6) (Nat.le_refl _) (Nat.le_refl _) ?_
      have h9 := Option.some.inj hf
      exact kk H locs ls (by rw [← h9]; exact hP) (by rw [← h9]; exact hD) hS (lv_sub hl [2, 3, 4, 5, 6] rfl)
    · replace hf := wb_t hc hf
      refine lv_aload_n hx hb dL_law_2939 rfl (lv_at hl 5 rfl) ?_
      refine lv_iconst (v := (0 : Int32)) hx hb dL_law_2940 (by decide) ?_
      refine va_lald hx hb hK hP 90 3 rfl rfl (show ¬ ((0 : Int32) < 0 ∨ 1 ≤ (0 : Int32).toNatClampNeg) from by decide) dL_law_2941 ?_
      refine lv_iload hx hb dL_law_2942 (lv_at hl 0 rfl) ?_
      refine lv_i2l hx hb dL_law_2944 rfl ?_
      refine W.lcmp hx hb dL_law_2945 ?_
      refine lv_if_eq (tgt := 2951) hx hb dL_law_2946 (by decide) (fun hc => ?_) (fun hc => ?_)
      · replace hf := wb_t hc hf
        refine lv_goto (tgt := 3022) hx hb dL_law_2951 (by decide) ?_
        refine W.widen (k := c0 + 1) (n := s0 + 6) (Nat.le_refl _) (Nat.le_refl _) ?_
        have h9 := Option.some.inj hf
        exact kk H locs ls (by rw [← h9]; exact hP) (by rw [← h9]; exact hD) hS (lv_sub hl [2, 3, 4, 5, 6] rfl)
      · replace hf := wb_f hc hf
        refine lv_iconst (v := (0 : Int32)) hx hb dL_law_2949 (by decide) ?_
        exact absurd hf (fun h => nomatch h)
  · replace hf := wb_f hc hf
    refine lv_iconst (v := (0 : Int32)) hx hb dL_law_2932 (by decide) ?_
    exact absurd hf (fun h => nomatch h)

set_option maxHeartbeats 4000000 in
set_option maxRecDepth 100000 in
theorem law_case39 {p : Program} {e : Env} {s : State} {m : MethodId} {below : List Frame} {meth : Method} {c : Code} (l : Launch) (hlt : l.stackTraces = false) (D : va_G) (cB cI cZ cJ : ClassId) (N : Nat) {b L : Nat} {xs : Nat → Int32} (C0 : lw_At p s m meth c b L xs) (hX0 : wb_XH s.heap s) (hNc : va_Nc wb_E2 wb_E1 s) (a0 a1 : Nat → Nat) (b2 : Nat) (I0 : Nat → Int32) (M0 : Nat → Nat → Int32) (I1 : Nat → Int32) (L1 : Int64) (M1 : Nat → Nat → Int32) (o2 : Nat → Int64) (y4 : Int32) (c0 s0 : Nat) (hc1 : c0 + 1 ≤ room_1.cells) (hs1 : s0 + 6 ≤ room_1.slots) (H : Heap) (locs : List Loc) (hK : va_K D vwCl [(cB, .byte), (cI, .int), (cZ, .boolean), (cJ, .long)] s) (hP : va_P D vwCl ((wWX11 cB cI cZ a0 I0 M0) ++ ((wWX12 cB cI cZ a1 I1 L1 M1) ++ [(b2, .inl (cJ, 1, .inr (.inl o2)))])) H) (hD : va_D (fun q : Nat => s.heap.size ≤ q) ((wWX11 cB cI cZ a0 I0 M0) ++ ((wWX12 cB cI cZ a1 I1 L1 M1) ++ [(b2, .inl (cJ, 1, .inr (.inl o2)))]))) (hS : va_S (fun q : Nat => s.heap.size ≤ q) s.heap H locs) (ls : Array Slot) (hl : lv_has ls 7 [(0, .ref b), (1, .ref (a0 0)), (2, .ref (a1 0)), (3, .ref b2), (4, .int y4)]) (R : (Nat → Int32) × (Nat → Nat → Int32) × (Nat → Int32) × Int64 × (Nat → Nat → Int32) × (Nat → Int64)) (hf : fL_case39 N L xs I0 M0 I1 L1 M1 o2 y4 = some R)
    (kk : ∀ (H : Heap) (locs : List Loc) (ls : Array Slot), va_P D vwCl ((wWX11 cB cI cZ a0 R.1 R.2.1) ++ ((wWX12 cB cI cZ a1 R.2.2.1 R.2.2.2.1 R.2.2.2.2.1) ++ [(b2, .inl (cJ, 1, .inr (.inl R.2.2.2.2.2)))])) H → va_D (fun q : Nat => s.heap.size ≤ q) ((wWX11 cB cI cZ a0 R.1 R.2.1) ++ ((wWX12 cB cI cZ a1 R.2.2.1 R.2.2.2.1 R.2.2.2.2.1) ++ [(b2, .inl (cJ, 1, .inr (.inl R.2.2.2.2.2)))])) → va_S (fun q : Nat => s.heap.size ≤ q) s.heap H locs → lv_has ls 7 [(0, .ref b), (1, .ref (a0 0)), (2, .ref (a1 0)), (3, .ref b2), (4, .int y4)] → W p l e room_1 s m #[Value.ref b] below meth c H locs (c0 + 1) (s0 + 6) (lw_Z below #[Value.ref b] s) (F0 m 3022 ls [])) : W p l e room_1 s m #[Value.ref b] below meth c H locs c0 s0 (lw_Z below #[Value.ref b] s) (F0 m 2954 ls []) := by
  obtain ⟨hx, hb, hr, hml, hown, hts0, hXs, hbl, hlocks, hgv⟩ := id C0
  have hown : s.vm.findClass RL = some m.cls := hown
  have hb : c.code = cL_law := hb
  have hts : ∀ w ∈ wyL_law, w.before #[Value.ref b] s = true := fun w h => hts0 w (wl_law w h)
  have hA : ∀ q : Nat, s.heap.size ≤ q → (fun q : Nat => s.heap.size ≤ q) q := fun _ h => h
  have hbA : ¬ (fun q : Nat => s.heap.size ≤ q) b := Nat.not_le.mpr hbl
  have hK3 : va_K D vwCl [(cB, .byte), (cI, .int), (cZ, .boolean)] s := hK.sub [0, 1, 2] rfl
  have hc0 : c0 ≤ room_1.cells := Nat.le_of_succ_le hc1
  have hs0 : s0 ≤ room_1.slots := Nat.le_trans (Nat.le_add_right _ 6) hs1
  unfold fL_case39 at hf
  refine lv_aload_n hx hb dL_law_2954 rfl (lv_at hl 1 rfl) ?_
  refine lv_aload_n hx hb dL_law_2955 rfl (lv_at hl 0 rfl) ?_
  refine lv_iload hx hb dL_law_2956 (lv_at hl 4 rfl) ?_
  refine lv_iconst (v := (1 : Int32)) hx hb dL_law_2958 (by decide) ?_
  refine lv_iadd hx hb dL_law_2959 ?_
  obtain ⟨hin, hf⟩ := wb_n hf
  refine va_sld hx hb hXs hbl hbA hS hin dL_law_2960 ?_
  refine lv_aload_n hx hb dL_law_2961 rfl (lv_at hl 0 rfl) ?_
  refine lv_iload hx hb dL_law_2962 (lv_at hl 4 rfl) ?_
  refine lv_iconst (v := (2 : Int32)) hx hb dL_law_2964 (by decide) ?_
  refine lv_iadd hx hb dL_law_2965 ?_
  obtain ⟨hin, hf⟩ := wb_n hf
  refine va_sld hx hb hXs hbl hbA hS hin dL_law_2966 ?_
  refine lv_aload_n hx hb dL_law_2967 rfl (lv_at hl 3 rfl) ?_
  obtain ⟨r1, hr1, hf⟩ := wb_b hf
  have hPc := wj_P3 hP
  have hDc := wj_D3 hD
  have hFc := wj_F hDc hS hA
  refine va_calli (vx_runSW (As := [.ref (a0 0), .int (xs ((y4 + (1 : Int32))).toNatClampNeg), .int (xs ((y4 + (2 : Int32))).toNatClampNeg), .ref b2]) (rest := []) ⟨hx, hb, hml, hown, hts⟩ (cn_L_hits l hlt D cB cI cZ cJ N a0 I0 M0 (xs ((y4 + (1 : Int32))).toNatClampNeg) (xs ((y4 + (2 : Int32))).toNatClampNeg) b2 o2 H.size r1 hr1) (vx_cwSW 4 hts gyL_law_L_hits rfl rfl rfl csL_hits ⟨Nat.le_of_ble_eq_true rfl, Nat.le_of_ble_eq_true rfl⟩) (wb_preLS hPc hK hDc (hX0.kept hS) hNc) rfl rfl hl.1 rfl (lv_room (Nat.le_of_ble_eq_true rfl)) dL_law_2968 ⟨hc1, hs1⟩) hS (fun q _ h => hFc q h) hFc (fun r9 u t H locs ht hvm hw hB hz1 hk1 hS => ?_)
  obtain ⟨hP, hD⟩ := wj_3 hP hD hk1 hFc ht hB
  rw [hw]
  obtain ⟨v2, ev2, hf⟩ := wb_v hf
  refine wb_topi ev2 ?_
  refine lv_istore (lv' := [(5, .int v2), (0, .ref b), (1, .ref (a0 0)), (2, .ref (a1 0)), (3, .ref b2), (4, .int y4)]) hx hb dL_law_2971 hl (by decide) rfl (fun ls hl => ?_)
  refine lv_aload_n hx hb dL_law_2973 rfl (lv_at hl 3 rfl) ?_
  refine lv_aload_n hx hb dL_law_2974 rfl (lv_at hl 1 rfl) ?_
  refine lv_iload hx hb dL_law_2975 (lv_at hl 5 rfl) ?_
  refine lv_iconst (v := (1 : Int32)) hx hb dL_law_2977 (by decide) ?_
  refine lv_iadd hx hb dL_law_2978 ?_
  obtain ⟨hin, hf⟩ := wb_n hf
  refine va_sld hx hb hXs hbl hbA hS hin dL_law_2979 ?_
  refine lv_aload_n hx hb dL_law_2980 rfl (lv_at hl 1 rfl) ?_
  refine lv_iload hx hb dL_law_2981 (lv_at hl 5 rfl) ?_
  refine lv_iconst (v := (2 : Int32)) hx hb dL_law_2983 (by decide) ?_
  refine lv_iadd hx hb dL_law_2984 ?_
  obtain ⟨hin, hf⟩ := wb_n hf
  refine va_sld hx hb hXs hbl hbA hS hin dL_law_2985 ?_
  obtain ⟨r3, hr3, hf⟩ := wb_b hf
  have hPc := wj_P2 hP
  have hDc := wj_D2 hD
  have hFc := wj_F hDc hS hA
  refine va_calli (va_runV (As := [.int (xs ((y4 + (1 : Int32))).toNatClampNeg), .int (xs ((y4 + (2 : Int32))).toNatClampNeg)]) (rest := []) ⟨hx, hb, hml, hown, hts⟩ (cn_X12_hits l D cB cI cZ N a1 I1 L1 M1 (xs ((y4 + (1 : Int32))).toNatClampNeg) (xs ((y4 + (2 : Int32))).toNatClampNeg) H.size r3 hr3) (cwV 2 hts gyL_law_X12_hits rfl rfl rfl cdX12_hits ⟨Nat.le_of_ble_eq_true rfl, Nat.le_of_ble_eq_true rfl⟩) (wb_preDV hPc hK3 hDc (va_recv hK hP (ci := 12) (q0 := 52) rfl rfl)) rfl rfl hl.1 rfl (lv_room (Nat.le_of_ble_eq_true rfl)) dL_law_2986 ⟨hc1, hs1⟩) hS (fun q _ h => hFc q h) hFc (fun r9 u t H locs ht hvm hw hB hz1 hk1 hS => ?_)
  obtain ⟨hP, hD⟩ := wj_2 hP hD hk1 hFc ht hB
  rw [hw]
  obtain ⟨v4, ev4, hf⟩ := wb_v hf
  refine wb_topi ev4 ?_
  refine lv_istore (lv' := [(6, .int v4), (5, .int v2), (0, .ref b), (1, .ref (a0 0)), (2, .ref (a1 0)), (3, .ref b2), (4, .int y4)]) hx hb dL_law_2989 hl (by decide) rfl (fun ls hl => ?_)
  refine lv_aload_n hx hb dL_law_2991 rfl (lv_at hl 4 rfl) ?_
  obtain ⟨r5, hr5, hf⟩ := wb_b hf
  refine vp_callSi (W.runV (As := []) (rest := []) ⟨hx, hb, hml, hown, hts⟩ (cn_X12_thrown l D cB cI cZ N a1 r3.2.1 r3.2.2.1 r3.2.2.2 r5 hr5) (cwV 0 hts gyL_law_X12_thrown rfl rfl rfl cdX12_thrown ⟨Nat.le_of_ble_eq_true rfl, Nat.le_of_ble_eq_true rfl⟩) (wb_preV (hP.sub (ws' := (wWX12 cB cI cZ a1 r3.2.1 r3.2.2.1 r3.2.2.2)) [52, 53, 54, 55, 56, 57, 58, 59, 60, 61, 62, 63, 64, 65, 66, 67, 68, 69, 70, 71, 72, 73, 74, 75, 76, 77, 78, 79, 80, 81, 82, 83, 84, 85, 86, 87, 88, 89] rfl) hK3 (va_recv hK hP (ci := 12) (q0 := 52) rfl rfl)) rfl rfl hl.1 rfl (lv_room (Nat.le_of_ble_eq_true rfl)) dL_law_2992 ⟨hc1, hs1⟩) (fun r9 e9 => ?_)
  rw [e9]
  refine lv_iload hx hb dL_law_2995 (lv_at hl 1 rfl) ?_
  refine lv_icmp_eq (tgt := 3002) hx hb dL_law_2997 (by decide) (fun hc => ?_) (fun hc => ?_)
  · replace hf := wb_t hc hf
    refine lv_iload hx hb dL_law_3002 (lv_at hl 1 rfl) ?_
    refine lv_if_ne (tgt := 3019) hx hb dL_law_3004 (by decide) (fun hc => ?_) (fun hc => ?_)
    · replace hf := wb_f hc hf
      refine lv_goto (tgt := 3022) hx hb dL_law_3019 (by decide) ?_
      refine W.widen (k := c0 + 1) (n := s0 + 6) (Nat.le_refl _) (Nat.le_refl _) ?_
      have h9 := Option.some.inj hf
      exact kk H locs ls (by rw [← h9]; exact hP) (by rw [← h9]; exact hD) hS (lv_sub hl [2, 3, 4, 5, 6] rfl)
    · replace hf := wb_t hc hf
      refine lv_aload_n hx hb dL_law_3007 rfl (lv_at hl 5 rfl) ?_
      refine lv_iconst (v := (0 : Int32)) hx hb dL_law_3008 (by decide) ?_
      refine va_lald hx hb hK hP 90 3 rfl rfl (show ¬ ((0 : Int32) < 0 ∨ 1 ≤ (0 : Int32).toNatClampNeg) from by decide) dL_law_3009 ?_
      refine lv_iload hx hb dL_law_3010 (lv_at hl 0 rfl) ?_
      refine lv_i2l hx hb dL_law_3012 rfl ?_
      refine W.lcmp hx hb dL_law_3013 ?_
      refine lv_if_eq (tgt := 3019) hx hb dL_law_3014 (by decide) (fun hc => ?_) (fun hc => ?_)
      · replace hf := wb_t hc hf
        refine lv_goto (tgt := 3022) hx hb dL_law_3019 (by decide) ?_
        refine W.widen (k := c0 + 1) (n := s0 + 6) (Nat.le_refl _) (Nat.le_refl _) ?_
        have h9 := Option.some.inj hf
        exact kk H locs ls (by rw [← h9]; exact hP) (by rw [← h9]; exact hD) hS (lv_sub hl [2, 3, 4, 5, 6] rfl)
      · replace hf := wb_f hc hf
        refine lv_iconst (v := (0 : Int32)) hx hb dL_law_3017 (by decide) ?_
        exact absurd hf (fun h => nomatch h)
  · replace hf := wb_f hc hf
    refine lv_iconst (v := (0 : Int32)) hx hb dL_law_3000 (by decide) ?_
    exact absurd hf (fun h => nomatch h)
