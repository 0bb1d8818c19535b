theorem wb_sw40 {x : Int32} (h0 : ¬ x = (0 : Int32)) (h1 : ¬ x = (1 : Int32)) (h2 : ¬ x = (2 : Int32)) (h3 : ¬ x = (3 : Int32)) (h4 : ¬ x = (4 : Int32)) (h5 : ¬ x = (5 : Int32)) (h6 : ¬ x = (6 : Int32)) (h7 : ¬ x = (7 : Int32)) (h8 : ¬ x = (8 : Int32)) (h9 : ¬ x = (9 : Int32)) (h10 : ¬ x = (10 : Int32)) (h11 : ¬ x = (11 : Int32)) (h12 : ¬ x = (12 : Int32)) (h13 : ¬ x = (13 : Int32)) (h14 : ¬ x = (14 : Int32)) (h15 : ¬ x = (15 : Int32)) (h16 : ¬ x = (16 : Int32)) (h17 : ¬ x = (17 : Int32)) (h18 : ¬ x = (18 : Int32)) (h19 : ¬ x = (19 : Int32)) (h20 : ¬ x = (20 : Int32)) (h21 : ¬ x = (21 : Int32)) (h22 : ¬ x = (22 : Int32)) (h23 : ¬ x = (23 : Int32)) (h24 : ¬ x = (24 : Int32)) (h25 : ¬ x = (25 : Int32)) (h26 : ¬ x = (26 : Int32)) (h27 : ¬ x = (27 : Int32)) (h28 : ¬ x = (28 : Int32)) (h29 : ¬ x = (29 : Int32)) (h30 : ¬ x = (30 : Int32)) (h31 : ¬ x = (31 : Int32)) (h32 : ¬ x = (32 : Int32)) (h33 : ¬ x = (33 : Int32)) (h34 : ¬ x = (34 : Int32)) (h35 : ¬ x = (35 : Int32)) (h36 : ¬ x = (36 : Int32)) (h37 : ¬ x = (37 : Int32)) (h38 : ¬ x = (38 : Int32)) (h39 : ¬ x = (39 : Int32)) : x.toInt < 0 ∨ 39 < x.toInt := by
  have q0 := wb_ne (0) h0
  rw [show (0 : Int32).toInt = 0 from by decide] at q0
  have q1 := wb_ne (1) h1
  rw [show (1 : Int32).toInt = 1 from by decide] at q1
  have q2 := wb_ne (2) h2
  rw [show (2 : Int32).toInt = 2 from by decide] at q2
  have q3 := wb_ne (3) h3
  rw [show (3 : Int32).toInt = 3 from by decide] at q3
  have q4 := wb_ne (4) h4
  rw [show (4 : Int32).toInt = 4 from by decide] at q4
  have q5 := wb_ne (5) h5
  rw [show (5 : Int32).toInt = 5 from by decide] at q5
  have q6 := wb_ne (6) h6
  rw [show (6 : Int32).toInt = 6 from by decide] at q6
  have q7 := wb_ne (7) h7
  rw [show (7 : Int32).toInt = 7 from by decide] at q7
  have q8 := wb_ne (8) h8
  rw [show (8 : Int32).toInt = 8 from by decide] at q8
  have q9 := wb_ne (9) h9
  rw [show (9 : Int32).toInt = 9 from by decide] at q9
  have q10 := wb_ne (10) h10
  rw [show (10 : Int32).toInt = 10 from by decide] at q10
  have q11 := wb_ne (11) h11
  rw [show (11 : Int32).toInt = 11 from by decide] at q11
  have q12 := wb_ne (12) h12
  rw [show (12 : Int32).toInt = 12 from by decide] at q12
  have q13 := wb_ne (13) h13
  rw [show (13 : Int32).toInt = 13 from by decide] at q13
  have q14 := wb_ne (14) h14
  rw [show (14 : Int32).toInt = 14 from by decide] at q14
  have q15 := wb_ne (15) h15
  rw [show (15 : Int32).toInt = 15 from by decide] at q15
  have q16 := wb_ne (16) h16
  rw [show (16 : Int32).toInt = 16 from by decide] at q16
  have q17 := wb_ne (17) h17
  rw [show (17 : Int32).toInt = 17 from by decide] at q17
  have q18 := wb_ne (18) h18
  rw [show (18 : Int32).toInt = 18 from by decide] at q18
  have q19 := wb_ne (19) h19
  rw [show (19 : Int32).toInt = 19 from by decide] at q19
  have q20 := wb_ne (20) h20
  rw [show (20 : Int32).toInt = 20 from by decide] at q20
  have q21 := wb_ne (21) h21
  rw [show (21 : Int32).toInt = 21 from by decide] at q21
  have q22 := wb_ne (22) h22
  rw [show (22 : Int32).toInt = 22 from by decide] at q22
  have q23 := wb_ne (23) h23
  rw [show (23 : Int32).toInt = 23 from by decide] at q23
  have q24 := wb_ne (24) h24
  rw [show (24 : Int32).toInt = 24 from by decide] at q24
  have q25 := wb_ne (25) h25
  rw [show (25 : Int32).toInt = 25 from by decide] at q25
  have q26 := wb_ne (26) h26
  rw [show (26 : Int32).toInt = 26 from by decide] at q26
  have q27 := wb_ne (27) h27
  rw [show (27 : Int32).toInt = 27 from by decide] at q27
  have q28 := wb_ne (28) h28
  rw [show (28 : Int32).toInt = 28 from by decide] at q28
  have q29 := wb_ne (29) h29
  rw [show (29 : Int32).toInt = 29 from by decide] at q29
  have q30 := wb_ne (30) h30
  rw [show (30 : Int32).toInt = 30 from by decide] at q30
  have q31 := wb_ne (31) h31
  rw [show (31 : Int32).toInt = 31 from by decide] at q31
  have q32 := wb_ne (32) h32
  rw [show (32 : Int32).toInt = 32 from by decide] at q32
  have q33 := wb_ne (33) h33
  rw [show (33 : Int32).toInt = 33 from by decide] at q33
  have q34 := wb_ne (34) h34
  rw [show (34 : Int32).toInt = 34 from by decide] at q34
  have q35 := wb_ne (35) h35
  rw [show (35 : Int32).toInt = 35 from by decide] at q35
  have q36 := wb_ne (36) h36
  rw [show (36 : Int32).toInt = 36 from by decide] at q36
  have q37 := wb_ne (37) h37
  rw [show (37 : Int32).toInt = 37 from by decide] at q37
  have q38 := wb_ne (38) h38
  rw [show (38 : Int32).toInt = 38 from by decide] at q38
  have q39 := wb_ne (39) h39
  rw [show (39 : Int32).toInt = 39 from by decide] at q39
  omega
set_option maxHeartbeats 4000000 in
set_option maxRecDepth 100000 in
theorem law_body {p : Program} {e : Env} {s : State} {m : MethodId} {below : List Frame} {meth : Method} {c : Code} (l : Launch) (hlt : l.stackTraces = false) (D : va_G) (cB cI cZ cJ : ClassId) (N : Nat) {b L : Nat} {xs : Nat → Int32} (C0 : lw_At p s m meth c b L xs) (hX0 : wb_XH s.heap s) (hNc : va_Nc wb_E2 wb_E1 s) (aK aV : Nat → Nat) (hZ0 : wb_Z aK aV (fun q : Nat => s.heap.size ≤ q) s s.heap) (a0 a1 : Nat → Nat) (b2 : Nat) (I0 : Nat → Int32) (M0 : Nat → Nat → Int32) (I1 : Nat → Int32) (L1 : Int64) (M1 : Nat → Nat → Int32) (o2 : Nat → Int64) (y4 : Int32) (c0 s0 : Nat) (hc1 : c0 + 1 ≤ room_1.cells) (hs1 : s0 + 6 ≤ room_1.slots) (H : Heap) (locs : List Loc) (hK : va_K D vwCl [(cB, .byte), (cI, .int), (cZ, .boolean), (cJ, .long)] s) (hP : va_P D vwCl ((wWX11 cB cI cZ a0 I0 M0) ++ ((wWX12 cB cI cZ a1 I1 L1 M1) ++ [(b2, .inl (cJ, 1, .inr (.inl o2)))])) H) (hD : va_D (fun q : Nat => s.heap.size ≤ q) ((wWX11 cB cI cZ a0 I0 M0) ++ ((wWX12 cB cI cZ a1 I1 L1 M1) ++ [(b2, .inl (cJ, 1, .inr (.inl o2)))]))) (hS : va_S (fun q : Nat => s.heap.size ≤ q) s.heap H locs) (ls : Array Slot) (hl : lv_has ls 7 [(0, .ref b), (1, .ref (a0 0)), (2, .ref (a1 0)), (3, .ref b2), (4, .int y4)]) (R : (Nat → Int32) × (Nat → Nat → Int32) × (Nat → Int32) × Int64 × (Nat → Nat → Int32) × (Nat → Int64)) (hf : fL_body N L xs I0 M0 I1 L1 M1 o2 y4 = some R)
    (kk : ∀ (H : Heap) (locs : List Loc) (ls : Array Slot), va_P D vwCl ((wWX11 cB cI cZ a0 R.1 R.2.1) ++ ((wWX12 cB cI cZ a1 R.2.2.1 R.2.2.2.1 R.2.2.2.2.1) ++ [(b2, .inl (cJ, 1, .inr (.inl R.2.2.2.2.2)))])) H → va_D (fun q : Nat => s.heap.size ≤ q) ((wWX11 cB cI cZ a0 R.1 R.2.1) ++ ((wWX12 cB cI cZ a1 R.2.2.1 R.2.2.2.1 R.2.2.2.2.1) ++ [(b2, .inl (cJ, 1, .inr (.inl R.2.2.2.2.2)))])) → va_S (fun q : Nat => s.heap.size ≤ q) s.heap H locs → lv_has ls 7 [(0, .ref b), (1, .ref (a0 0)), (2, .ref (a1 0)), (3, .ref b2), (4, .int y4)] → W p l e room_1 s m #[Value.ref b] below meth c H locs (c0 + 1) (s0 + 6) (lw_Z below #[Value.ref b] s) (F0 m 2066 ls [])) : W p l e room_1 s m #[Value.ref b] below meth c H locs c0 s0 (lw_Z below #[Value.ref b] s) (F0 m 33 ls []) := by
  obtain ⟨hx, hb, hr, hml, hown, hts0, hXs, hbl, hlocks, hgv⟩ := id C0
  have hb : c.code = cL_law := hb
  have hbA : ¬ (fun q : Nat => s.heap.size ≤ q) b := Nat.not_le.mpr hbl
  unfold fL_body at hf
  obtain ⟨hin, hf⟩ := wb_n hf
  refine lv_aload_n hx hb dL_law_33 rfl (lv_at hl 0 rfl) ?_
  refine lv_iload hx hb dL_law_34 (lv_at hl 4 rfl) ?_
  refine va_sld hx hb hXs hbl hbA hS hin dL_law_36 ?_
  refine lv_bipush (v := (63 : Int32)) hx hb dL_law_37 (by decide) ?_
  refine lv_iand hx hb dL_law_39 ?_
  generalize hxe : (xs (y4).toNatClampNeg &&& (63 : Int32)) = x at hf ⊢
  by_cases hv0 : x = (0 : Int32)
  · replace hf := wb_t hv0 hf
    refine lv_tableIn (off := 176) (tgt := 216) hx hb dL_law_40 (by rw [hv0]; decide) (by rw [hv0]; decide) (by rw [hv0]; rfl) (by decide) ?_
    exact law_case0 l hlt D cB cI cZ cJ N C0 hX0 hNc a0 a1 b2 I0 M0 I1 L1 M1 o2 y4 c0 s0 hc1 hs1 H locs hK hP hD hS ls hl R hf kk
  replace hf := wb_f hv0 hf
  by_cases hv1 : x = (1 : Int32)
  · replace hf := wb_t hv1 hf
    refine lv_tableIn (off := 249) (tgt := 289) hx hb dL_law_40 (by rw [hv1]; decide) (by rw [hv1]; decide) (by rw [hv1]; rfl) (by decide) ?_
    exact law_case1 l hlt D cB cI cZ cJ N C0 hX0 hNc aK aV hZ0 a0 a1 b2 I0 M0 I1 L1 M1 o2 y4 c0 s0 hc1 hs1 H locs hK hP hD hS ls hl R hf kk
  replace hf := wb_f hv1 hf
  by_cases hv2 : x = (2 : Int32)
  · replace hf := wb_t hv2 hf
    refine lv_tableIn (off := 277) (tgt := 317) hx hb dL_law_40 (by rw [hv2]; decide) (by rw [hv2]; decide) (by rw [hv2]; rfl) (by decide) ?_
    exact law_case2 l hlt D cB cI cZ cJ N C0 hX0 hNc aK aV hZ0 a0 a1 b2 I0 M0 I1 L1 M1 o2 y4 c0 s0 hc1 hs1 H locs hK hP hD hS ls hl R hf kk
  replace hf := wb_f hv2 hf
  by_cases hv3 : x = (3 : Int32)
  · replace hf := wb_t hv3 hf
    refine lv_tableIn (off := 329) (tgt := 369) hx hb dL_law_40 (by rw [hv3]; decide) (by rw [hv3]; decide) (by rw [hv3]; rfl) (by decide) ?_
    exact law_case3 l hlt D cB cI cZ cJ N C0 hX0 hNc a0 a1 b2 I0 M0 I1 L1 M1 o2 y4 c0 s0 hc1 hs1 H locs hK hP hD hS ls hl R hf kk
  replace hf := wb_f hv3 hf
  by_cases hv4 : x = (4 : Int32)
  · replace hf := wb_t hv4 hf
    refine lv_tableIn (off := 342) (tgt := 382) hx hb dL_law_40 (by rw [hv4]; decide) (by rw [hv4]; decide) (by rw [hv4]; rfl) (by decide) ?_
    exact law_case4 l hlt D cB cI cZ cJ N C0 hX0 hNc a0 a1 b2 I0 M0 I1 L1 M1 o2 y4 c0 s0 hc1 hs1 H locs hK hP hD hS ls hl R hf kk
  replace hf := wb_f hv4 hf
  by_cases hv5 : x = (5 : Int32)
  · replace hf := wb_t hv5 hf
    refine lv_tableIn (off := 370) (tgt := 410) hx hb dL_law_40 (by rw [hv5]; decide) (by rw [hv5]; decide) (by rw [hv5]; rfl) (by decide) ?_
    exact law_case5 l hlt D cB cI cZ cJ N C0 hX0 hNc a0 a1 b2 I0 M0 I1 L1 M1 o2 y4 c0 s0 hc1 hs1 H locs hK hP hD hS ls hl R hf kk
  replace hf := wb_f hv5 hf
  by_cases hv6 : x = (6 : Int32)
  · replace hf := wb_t hv6 hf
    refine lv_tableIn (off := 422) (tgt := 462) hx hb dL_law_40 (by rw [hv6]; decide) (by rw [hv6]; decide) (by rw [hv6]; rfl) (by decide) ?_
    exact law_case6 l hlt D cB cI cZ cJ N C0 hX0 hNc a0 a1 b2 I0 M0 I1 L1 M1 o2 y4 c0 s0 hc1 hs1 H locs hK hP hD hS ls hl R hf kk
  replace hf := wb_f hv6 hf
  by_cases hv7 : x = (7 : Int32)
  · replace hf := wb_t hv7 hf
    refine lv_tableIn (off := 474) (tgt := 514) hx hb dL_law_40 (by rw [hv7]; decide) (by rw [hv7]; decide) (by rw [hv7]; rfl) (by decide) ?_
    exact law_case7 l hlt D cB cI cZ cJ N C0 hX0 hNc a0 a1 b2 I0 M0 I1 L1 M1 o2 y4 c0 s0 hc1 hs1 H locs hK hP hD hS ls hl R hf kk
  replace hf := wb_f hv7 hf
  by_cases hv8 : x = (8 : Int32)
  · replace hf := wb_t hv8 hf
    refine lv_tableIn (off := 538) (tgt := 578) hx hb dL_law_40 (by rw [hv8]; decide) (by rw [hv8]; decide) (by rw [hv8]; rfl) (by decide) ?_
    exact law_case8 l hlt D cB cI cZ cJ N C0 hX0 hNc a0 a1 b2 I0 M0 I1 L1 M1 o2 y4 c0 s0 hc1 hs1 H locs hK hP hD hS ls hl R hf kk
  replace hf := wb_f hv8 hf
  by_cases hv9 : x = (9 : Int32)
  · replace hf := wb_t hv9 hf
    refine lv_tableIn (off := 614) (tgt := 654) hx hb dL_law_40 (by rw [hv9]; decide) (by rw [hv9]; decide) (by rw [hv9]; rfl) (by decide) ?_
    exact law_case9 l hlt D cB cI cZ cJ N C0 hX0 hNc a0 a1 b2 I0 M0 I1 L1 M1 o2 y4 c0 s0 hc1 hs1 H locs hK hP hD hS ls hl R hf kk
  replace hf := wb_f hv9 hf
  by_cases hv10 : x = (10 : Int32)
  · replace hf := wb_t hv10 hf
    refine lv_tableIn (off := 642) (tgt := 682) hx hb dL_law_40 (by rw [hv10]; decide) (by rw [hv10]; decide) (by rw [hv10]; rfl) (by decide) ?_
    exact law_case10 l hlt D cB cI cZ cJ N C0 hX0 hNc a0 a1 b2 I0 M0 I1 L1 M1 o2 y4 c0 s0 hc1 hs1 H locs hK hP hD hS ls hl R hf kk
  replace hf := wb_f hv10 hf
  by_cases hv11 : x = (11 : Int32)
  · replace hf := wb_t hv11 hf
    refine lv_tableIn (off := 718) (tgt := 758) hx hb dL_law_40 (by rw [hv11]; decide) (by rw [hv11]; decide) (by rw [hv11]; rfl) (by decide) ?_
    exact law_case11 l hlt D cB cI cZ cJ N C0 hX0 hNc a0 a1 b2 I0 M0 I1 L1 M1 o2 y4 c0 s0 hc1 hs1 H locs hK hP hD hS ls hl R hf kk
  replace hf := wb_f hv11 hf
  by_cases hv12 : x = (12 : Int32)
  · replace hf := wb_t hv12 hf
    refine lv_tableIn (off := 782) (tgt := 822) hx hb dL_law_40 (by rw [hv12]; decide) (by rw [hv12]; decide) (by rw [hv12]; rfl) (by decide) ?_
    exact law_case12 l hlt D cB cI cZ cJ N C0 hX0 hNc a0 a1 b2 I0 M0 I1 L1 M1 o2 y4 c0 s0 hc1 hs1 H locs hK hP hD hS ls hl R hf kk
  replace hf := wb_f hv12 hf
  by_cases hv13 : x = (13 : Int32)
  · replace hf := wb_t hv13 hf
    refine lv_tableIn (off := 822) (tgt := 862) hx hb dL_law_40 (by rw [hv13]; decide) (by rw [hv13]; decide) (by rw [hv13]; rfl) (by decide) ?_
    exact law_case13 l hlt D cB cI cZ cJ N C0 hX0 hNc a0 a1 b2 I0 M0 I1 L1 M1 o2 y4 c0 s0 hc1 hs1 H locs hK hP hD hS ls hl R hf kk
  replace hf := wb_f hv13 hf
  by_cases hv14 : x = (14 : Int32)
  · replace hf := wb_t hv14 hf
    refine lv_tableIn (off := 874) (tgt := 914) hx hb dL_law_40 (by rw [hv14]; decide) (by rw [hv14]; decide) (by rw [hv14]; rfl) (by decide) ?_
    exact law_case14 l hlt D cB cI cZ cJ N C0 hX0 hNc a0 a1 b2 I0 M0 I1 L1 M1 o2 y4 c0 s0 hc1 hs1 H locs hK hP hD hS ls hl R hf kk
  replace hf := wb_f hv14 hf
  by_cases hv15 : x = (15 : Int32)
  · replace hf := wb_t hv15 hf
    refine lv_tableIn (off := 914) (tgt := 954) hx hb dL_law_40 (by rw [hv15]; decide) (by rw [hv15]; decide) (by rw [hv15]; rfl) (by decide) ?_
    exact law_case15 l hlt D cB cI cZ cJ N C0 hX0 hNc a0 a1 b2 I0 M0 I1 L1 M1 o2 y4 c0 s0 hc1 hs1 H locs hK hP hD hS ls hl R hf kk
  replace hf := wb_f hv15 hf
  by_cases hv16 : x = (16 : Int32)
  · replace hf := wb_t hv16 hf
    refine lv_tableIn (off := 966) (tgt := 1006) hx hb dL_law_40 (by rw [hv16]; decide) (by rw [hv16]; decide) (by rw [hv16]; rfl) (by decide) ?_
    exact law_case16 l hlt D cB cI cZ cJ N C0 hX0 hNc a0 a1 b2 I0 M0 I1 L1 M1 o2 y4 c0 s0 hc1 hs1 H locs hK hP hD hS ls hl R hf kk
  replace hf := wb_f hv16 hf
  by_cases hv17 : x = (17 : Int32)
  · replace hf := wb_t hv17 hf
    refine lv_tableIn (off := 1058) (tgt := 1098) hx hb dL_law_40 (by rw [hv17]; decide) (by rw [hv17]; decide) (by rw [hv17]; rfl) (by decide) ?_
    exact law_case17 l hlt D cB cI cZ cJ N C0 hX0 hNc a0 a1 b2 I0 M0 I1 L1 M1 o2 y4 c0 s0 hc1 hs1 H locs hK hP hD hS ls hl R hf kk
  replace hf := wb_f hv17 hf
  by_cases hv18 : x = (18 : Int32)
  · replace hf := wb_t hv18 hf
    refine lv_tableIn (off := 1122) (tgt := 1162) hx hb dL_law_40 (by rw [hv18]; decide) (by rw [hv18]; decide) (by rw [hv18]; rfl) (by decide) ?_
    exact law_case18 l hlt D cB cI cZ cJ N C0 hX0 hNc a0 a1 b2 I0 M0 I1 L1 M1 o2 y4 c0 s0 hc1 hs1 H locs hK hP hD hS ls hl R hf kk
  replace hf := wb_f hv18 hf
  by_cases hv19 : x = (19 : Int32)
  · replace hf := wb_t hv19 hf
    refine lv_tableIn (off := 1174) (tgt := 1214) hx hb dL_law_40 (by rw [hv19]; decide) (by rw [hv19]; decide) (by rw [hv19]; rfl) (by decide) ?_
    exact law_case19 l hlt D cB cI cZ cJ N C0 hX0 hNc a0 a1 b2 I0 M0 I1 L1 M1 o2 y4 c0 s0 hc1 hs1 H locs hK hP hD hS ls hl R hf kk
  replace hf := wb_f hv19 hf
  by_cases hv20 : x = (20 : Int32)
  · replace hf := wb_t hv20 hf
    refine lv_tableIn (off := 1214) (tgt := 1254) hx hb dL_law_40 (by rw [hv20]; decide) (by rw [hv20]; decide) (by rw [hv20]; rfl) (by decide) ?_
    exact law_case20 l hlt D cB cI cZ cJ N C0 hX0 hNc a0 a1 b2 I0 M0 I1 L1 M1 o2 y4 c0 s0 hc1 hs1 H locs hK hP hD hS ls hl R hf kk
  replace hf := wb_f hv20 hf
  by_cases hv21 : x = (21 : Int32)
  · replace hf := wb_t hv21 hf
    refine lv_tableIn (off := 1275) (tgt := 1315) hx hb dL_law_40 (by rw [hv21]; decide) (by rw [hv21]; decide) (by rw [hv21]; rfl) (by decide) ?_
    exact law_case21 l hlt D cB cI cZ cJ N C0 hX0 hNc a0 a1 b2 I0 M0 I1 L1 M1 o2 y4 c0 s0 hc1 hs1 H locs hK hP hD hS ls hl R hf kk
  replace hf := wb_f hv21 hf
  by_cases hv22 : x = (22 : Int32)
  · replace hf := wb_t hv22 hf
    refine lv_tableIn (off := 1303) (tgt := 1343) hx hb dL_law_40 (by rw [hv22]; decide) (by rw [hv22]; decide) (by rw [hv22]; rfl) (by decide) ?_
    exact law_case22 l hlt D cB cI cZ cJ N C0 hX0 hNc a0 a1 b2 I0 M0 I1 L1 M1 o2 y4 c0 s0 hc1 hs1 H locs hK hP hD hS ls hl R hf kk
  replace hf := wb_f hv22 hf
  by_cases hv23 : x = (23 : Int32)
  · replace hf := wb_t hv23 hf
    refine lv_tableIn (off := 1331) (tgt := 1371) hx hb dL_law_40 (by rw [hv23]; decide) (by rw [hv23]; decide) (by rw [hv23]; rfl) (by decide) ?_
    exact law_case23 l hlt D cB cI cZ cJ N C0 hX0 hNc a0 a1 b2 I0 M0 I1 L1 M1 o2 y4 c0 s0 hc1 hs1 H locs hK hP hD hS ls hl R hf kk
  replace hf := wb_f hv23 hf
  by_cases hv24 : x = (24 : Int32)
  · replace hf := wb_t hv24 hf
    refine lv_tableIn (off := 1344) (tgt := 1384) hx hb dL_law_40 (by rw [hv24]; decide) (by rw [hv24]; decide) (by rw [hv24]; rfl) (by decide) ?_
    exact law_case24 l hlt D cB cI cZ cJ N C0 hX0 hNc a0 a1 b2 I0 M0 I1 L1 M1 o2 y4 c0 s0 hc1 hs1 H locs hK hP hD hS ls hl R hf kk
  replace hf := wb_f hv24 hf
  by_cases hv25 : x = (25 : Int32)
  · replace hf := wb_t hv25 hf
    refine lv_tableIn (off := 1357) (tgt := 1397) hx hb dL_law_40 (by rw [hv25]; decide) (by rw [hv25]; decide) (by rw [hv25]; rfl) (by decide) ?_
    exact law_case25 l hlt D cB cI cZ cJ N C0 hX0 hNc a0 a1 b2 I0 M0 I1 L1 M1 o2 y4 c0 s0 hc1 hs1 H locs hK hP hD hS ls hl R hf kk
  replace hf := wb_f hv25 hf
  by_cases hv26 : x = (26 : Int32)
  · replace hf := wb_t hv26 hf
    refine lv_tableIn (off := 1433) (tgt := 1473) hx hb dL_law_40 (by rw [hv26]; decide) (by rw [hv26]; decide) (by rw [hv26]; rfl) (by decide) ?_
    exact law_case26 l hlt D cB cI cZ cJ N C0 hX0 hNc a0 a1 b2 I0 M0 I1 L1 M1 o2 y4 c0 s0 hc1 hs1 H locs hK hP hD hS ls hl R hf kk
  replace hf := wb_f hv26 hf
  by_cases hv27 : x = (27 : Int32)
  · replace hf := wb_t hv27 hf
    refine lv_tableIn (off := 1497) (tgt := 1537) hx hb dL_law_40 (by rw [hv27]; decide) (by rw [hv27]; decide) (by rw [hv27]; rfl) (by decide) ?_
    exact law_case27 l hlt D cB cI cZ cJ N C0 hX0 hNc a0 a1 b2 I0 M0 I1 L1 M1 o2 y4 c0 s0 hc1 hs1 H locs hK hP hD hS ls hl R hf kk
  replace hf := wb_f hv27 hf
  by_cases hv28 : x = (28 : Int32)
  · replace hf := wb_t hv28 hf
    refine lv_tableIn (off := 1549) (tgt := 1589) hx hb dL_law_40 (by rw [hv28]; decide) (by rw [hv28]; decide) (by rw [hv28]; rfl) (by decide) ?_
    exact law_case28 l hlt D cB cI cZ cJ N C0 hX0 hNc a0 a1 b2 I0 M0 I1 L1 M1 o2 y4 c0 s0 hc1 hs1 H locs hK hP hD hS ls hl R hf kk
  replace hf := wb_f hv28 hf
  by_cases hv29 : x = (29 : Int32)
  · replace hf := wb_t hv29 hf
    refine lv_tableIn (off := 1589) (tgt := 1629) hx hb dL_law_40 (by rw [hv29]; decide) (by rw [hv29]; decide) (by rw [hv29]; rfl) (by decide) ?_
    exact law_case29 l hlt D cB cI cZ cJ N C0 hX0 hNc a0 a1 b2 I0 M0 I1 L1 M1 o2 y4 c0 s0 hc1 hs1 H locs hK hP hD hS ls hl R hf kk
  replace hf := wb_f hv29 hf
  by_cases hv30 : x = (30 : Int32)
  · replace hf := wb_t hv30 hf
    refine lv_tableIn (off := 1641) (tgt := 1681) hx hb dL_law_40 (by rw [hv30]; decide) (by rw [hv30]; decide) (by rw [hv30]; rfl) (by decide) ?_
    exact law_case30 l hlt D cB cI cZ cJ N C0 hX0 hNc a0 a1 b2 I0 M0 I1 L1 M1 o2 y4 c0 s0 hc1 hs1 H locs hK hP hD hS ls hl R hf kk
  replace hf := wb_f hv30 hf
  by_cases hv31 : x = (31 : Int32)
  · replace hf := wb_t hv31 hf
    refine lv_tableIn (off := 1681) (tgt := 1721) hx hb dL_law_40 (by rw [hv31]; decide) (by rw [hv31]; decide) (by rw [hv31]; rfl) (by decide) ?_
    exact law_case31 l hlt D cB cI cZ cJ N C0 hX0 hNc a0 a1 b2 I0 M0 I1 L1 M1 o2 y4 c0 s0 hc1 hs1 H locs hK hP hD hS ls hl R hf kk
  replace hf := wb_f hv31 hf
  by_cases hv32 : x = (32 : Int32)
  · replace hf := wb_t hv32 hf
    refine lv_tableIn (off := 1733) (tgt := 1773) hx hb dL_law_40 (by rw [hv32]; decide) (by rw [hv32]; decide) (by rw [hv32]; rfl) (by decide) ?_
    exact law_case32 l hlt D cB cI cZ cJ N C0 hX0 hNc a0 a1 b2 I0 M0 I1 L1 M1 o2 y4 c0 s0 hc1 hs1 H locs hK hP hD hS ls hl R hf kk
  replace hf := wb_f hv32 hf
  by_cases hv33 : x = (33 : Int32)
  · replace hf := wb_t hv33 hf
    refine lv_tableIn (off := 1785) (tgt := 1825) hx hb dL_law_40 (by rw [hv33]; decide) (by rw [hv33]; decide) (by rw [hv33]; rfl) (by decide) ?_
    exact law_case33 l hlt D cB cI cZ cJ N C0 hX0 hNc a0 a1 b2 I0 M0 I1 L1 M1 o2 y4 c0 s0 hc1 hs1 H locs hK hP hD hS ls hl R hf kk
  replace hf := wb_f hv33 hf
  by_cases hv34 : x = (34 : Int32)
  · replace hf := wb_t hv34 hf
    refine lv_tableIn (off := 1825) (tgt := 1865) hx hb dL_law_40 (by rw [hv34]; decide) (by rw [hv34]; decide) (by rw [hv34]; rfl) (by decide) ?_
    exact law_case34 l hlt D cB cI cZ cJ N C0 hX0 hNc a0 a1 b2 I0 M0 I1 L1 M1 o2 y4 c0 s0 hc1 hs1 H locs hK hP hD hS ls hl R hf kk
  replace hf := wb_f hv34 hf
  by_cases hv35 : x = (35 : Int32)
  · replace hf := wb_t hv35 hf
    refine lv_tableIn (off := 1838) (tgt := 1878) hx hb dL_law_40 (by rw [hv35]; decide) (by rw [hv35]; decide) (by rw [hv35]; rfl) (by decide) ?_
    exact law_case35 l hlt D cB cI cZ cJ N C0 hX0 hNc a0 a1 b2 I0 M0 I1 L1 M1 o2 y4 c0 s0 hc1 hs1 H locs hK hP hD hS ls hl R hf kk
  replace hf := wb_f hv35 hf
  by_cases hv36 : x = (36 : Int32)
  · replace hf := wb_t hv36 hf
    refine lv_tableIn (off := 1866) (tgt := 1906) hx hb dL_law_40 (by rw [hv36]; decide) (by rw [hv36]; decide) (by rw [hv36]; rfl) (by decide) ?_
    exact law_case36 l hlt D cB cI cZ cJ N C0 hX0 hNc a0 a1 b2 I0 M0 I1 L1 M1 o2 y4 c0 s0 hc1 hs1 H locs hK hP hD hS ls hl R hf kk
  replace hf := wb_f hv36 hf
  by_cases hv37 : x = (37 : Int32)
  · replace hf := wb_t hv37 hf
    refine lv_tableIn (off := 1918) (tgt := 1958) hx hb dL_law_40 (by rw [hv37]; decide) (by rw [hv37]; decide) (by rw [hv37]; rfl) (by decide) ?_
    exact law_case37 l hlt D cB cI cZ cJ N C0 hX0 hNc a0 a1 b2 I0 M0 I1 L1 M1 o2 y4 c0 s0 hc1 hs1 H locs hK hP hD hS ls hl R hf kk
  replace hf := wb_f hv37 hf
  by_cases hv38 : x = (38 : Int32)
  · replace hf := wb_t hv38 hf
    refine lv_tableIn (off := 1958) (tgt := 1998) hx hb dL_law_40 (by rw [hv38]; decide) (by rw [hv38]; decide) (by rw [hv38]; rfl) (by decide) ?_
    exact law_case38 l hlt D cB cI cZ cJ N C0 hX0 hNc a0 a1 b2 I0 M0 I1 L1 M1 o2 y4 c0 s0 hc1 hs1 H locs hK hP hD hS ls hl R hf kk
  replace hf := wb_f hv38 hf
  by_cases hv39 : x = (39 : Int32)
  · replace hf := wb_t hv39 hf
    refine lv_tableIn (off := 1986) (tgt := 2026) hx hb dL_law_40 (by rw [hv39]; decide) (by rw [hv39]; decide) (by rw [hv39]; rfl) (by decide) ?_
    exact law_case39 l hlt D cB cI cZ cJ N C0 hX0 hNc a0 a1 b2 I0 M0 I1 L1 M1 o2 y4 c0 s0 hc1 hs1 H locs hK hP hD hS ls hl R hf kk
  replace hf := wb_f hv39 hf
  refine lv_tableOut (tgt := 2066) hx hb dL_law_40 (wb_sw40 hv0 hv1 hv2 hv3 hv4 hv5 hv6 hv7 hv8 hv9 hv10 hv11 hv12 hv13 hv14 hv15 hv16 hv17 hv18 hv19 hv20 hv21 hv22 hv23 hv24 hv25 hv26 hv27 hv28 hv29 hv30 hv31 hv32 hv33 hv34 hv35 hv36 hv37 hv38 hv39) (by decide) ?_
  refine W.widen (k := c0 + 1) (n := s0 + 6) (Nat.le_succ _) (Nat.le_add_right _ _) ?_
  have h9 := Option.some.inj hf
  exact kk H locs ls (by rw [← h9]; exact hP) (by rw [← h9]; exact hD) hS hl
