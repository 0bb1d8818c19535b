set_option maxHeartbeats 4000000 in
theorem tt_fX9_step_L150 {N : Nat} (hN : 3000000000 ≤ N)    : ∀ (fu : Nat) (I0_l150 : (Nat → Int32)) (M0_l150 : (Nat → Nat → Int32)), (KX9 I0_l150 M0_l150) → (600 - (I0_l150 3).toInt) < (fu : Int) → wq (fX9_step_L150 N fu I0_l150 M0_l150) (fun r => KX9 r.1 r.2 ∧ True) := by
  intro fu
  induction fu with
  | zero => intro I0_l150 M0_l150 k_I0_l150 hm; have hz0 := KX9.i3 k_I0_l150; exfalso; omega
  | succ fu ih =>
    intro I0_l150 M0_l150 k_I0_l150 hm
    rw [fX9_step_L150.eq_2]
    have t_2322 := KX9.i1 k_I0_l150
    have t_2323 := KX9.i3 k_I0_l150
    refine wq_le (fun hc_2324 => ?_) (fun hc_2325 => ?_)
    · exact wq_s ⟨k_I0_l150, trivial⟩
    · refine wq_in (n := 600) ⟨by omega, by omega⟩ ?_
      refine wq_b (tt_fX9_isDigit hN (M0_l150 0 (I0_l150 3).toNatClampNeg)) (fun r10_q2326 h_r10_q2326 => ?_)
      obtain ⟨h_r10_q2326_0, -⟩ := h_r10_q2326
      have l_0 := il_0
      refine wq_eq (fun hc_2327 => ?_) (fun hc_2328 => ?_)
      · exact wq_s ⟨k_I0_l150, trivial⟩
      · have l_7 := il_7
        have t_2329 := KX9.i2 k_I0_l150
        have t_2330 := ia_sub (I0_l150 3) (I0_l150 2) (by omega) (by omega)
        refine wq_le (fun hc_2331 => ?_) (fun hc_2332 => ?_)
        · unfold fX9_step_J218
          refine wq_v (fun I0_8_q2333 h_I0_8_q2333 => ?_)
          have k_I0_8_q2333 : KX9 I0_8_q2333 M0_l150 := by rw [h_I0_8_q2333]; exact KX9.si5 k_I0_l150
          have tr_2334 : (I0_8_q2333 1).toInt = (I0_l150 1).toInt := by rw [h_I0_8_q2333]; rfl
          have tr_2335 : (I0_8_q2333 3).toInt = (I0_l150 3).toInt := by rw [h_I0_8_q2333]; rfl
          refine wq_v (fun I0_9_q2336 h_I0_9_q2336 => ?_)
          have t_2337 : (I0_8_q2333 3).toInt = (I0_l150 3).toInt := by rw [h_I0_8_q2333]; rfl
          have l_1 := il_1
          have t_2338 := ia_add (I0_8_q2333 3) (1 : Int32) (by omega) (by omega)
          have k_I0_9_q2336 : KX9 I0_9_q2336 M0_l150 := by rw [h_I0_9_q2336]; exact KX9.si3 k_I0_8_q2333 ⟨by omega, by omega⟩
          have tr_2339 : (I0_9_q2336 1).toInt = (I0_8_q2333 1).toInt := by rw [h_I0_9_q2336]; rfl
          have tr_2340 : (I0_9_q2336 3).toInt = ((I0_8_q2333 3) + (1 : Int32)).toInt := by rw [h_I0_9_q2336]; rfl
          have t_2341 := KX9.i3 k_I0_9_q2336
          exact ih I0_9_q2336 M0_l150 k_I0_9_q2336 (by omega)
        · refine wq_in (n := 600) ⟨by omega, by omega⟩ ?_
          unfold fX9_step_J218
          refine wq_v (fun I0_8_q2342 h_I0_8_q2342 => ?_)
          have k_I0_8_q2342 : KX9 I0_8_q2342 M0_l150 := by rw [h_I0_8_q2342]; exact KX9.si5 k_I0_l150
          have tr_2343 : (I0_8_q2342 1).toInt = (I0_l150 1).toInt := by rw [h_I0_8_q2342]; rfl
          have tr_2344 : (I0_8_q2342 3).toInt = (I0_l150 3).toInt := by rw [h_I0_8_q2342]; rfl
          refine wq_v (fun I0_9_q2345 h_I0_9_q2345 => ?_)
          have t_2346 : (I0_8_q2342 3).toInt = (I0_l150 3).toInt := by rw [h_I0_8_q2342]; rfl
          have l_1 := il_1
          have t_2347 := ia_add (I0_8_q2342 3) (1 : Int32) (by omega) (by omega)
          have k_I0_9_q2345 : KX9 I0_9_q2345 M0_l150 := by rw [h_I0_9_q2345]; exact KX9.si3 k_I0_8_q2342 ⟨by omega, by omega⟩
          have tr_2348 : (I0_9_q2345 1).toInt = (I0_8_q2342 1).toInt := by rw [h_I0_9_q2345]; rfl
          have tr_2349 : (I0_9_q2345 3).toInt = ((I0_8_q2342 3) + (1 : Int32)).toInt := by rw [h_I0_9_q2345]; rfl
          have t_2350 := KX9.i3 k_I0_9_q2345
          exact ih I0_9_q2345 M0_l150 k_I0_9_q2345 (by omega)
set_option maxHeartbeats 4000000 in
theorem tt_fX9_step_L86 {N : Nat} (hN : 3000000000 ≤ N)    : ∀ (fu : Nat) (I0_l86 : (Nat → Int32)) (M0_l86 : (Nat → Nat → Int32)), (KX9 I0_l86 M0_l86) → (600 - (I0_l86 3).toInt) < (fu : Int) → wq (fX9_step_L86 N fu I0_l86 M0_l86) (fun r => KX9 r.1 r.2 ∧ True) := by
  intro fu
  induction fu with
  | zero => intro I0_l86 M0_l86 k_I0_l86 hm; have hz0 := KX9.i3 k_I0_l86; exfalso; omega
  | succ fu ih =>
    intro I0_l86 M0_l86 k_I0_l86 hm
    rw [fX9_step_L86.eq_2]
    have t_2351 := KX9.i1 k_I0_l86
    have t_2352 := KX9.i3 k_I0_l86
    refine wq_le (fun hc_2353 => ?_) (fun hc_2354 => ?_)
    · exact wq_s ⟨k_I0_l86, trivial⟩
    · refine wq_in (n := 600) ⟨by omega, by omega⟩ ?_
      refine wq_b (tt_fX9_isLetter hN (M0_l86 0 (I0_l86 3).toNatClampNeg)) (fun r12_q2355 h_r12_q2355 => ?_)
      obtain ⟨h_r12_q2355_0, -⟩ := h_r12_q2355
      have l_0 := il_0
      refine wq_eq (fun hc_2356 => ?_) (fun hc_2357 => ?_)
      · exact wq_s ⟨k_I0_l86, trivial⟩
      · refine wq_v (fun I0_13_q2358 h_I0_13_q2358 => ?_)
        have l_1 := il_1
        have t_2359 := ia_add (I0_l86 3) (1 : Int32) (by omega) (by omega)
        have k_I0_13_q2358 : KX9 I0_13_q2358 M0_l86 := by rw [h_I0_13_q2358]; exact KX9.si3 k_I0_l86 ⟨by omega, by omega⟩
        have tr_2360 : (I0_13_q2358 1).toInt = (I0_l86 1).toInt := by rw [h_I0_13_q2358]; rfl
        have tr_2361 : (I0_13_q2358 3).toInt = ((I0_l86 3) + (1 : Int32)).toInt := by rw [h_I0_13_q2358]; rfl
        have t_2362 := KX9.i3 k_I0_13_q2358
        exact ih I0_13_q2358 M0_l86 k_I0_13_q2358 (by omega)
set_option maxHeartbeats 4000000 in
theorem tt_fX9_step_L0 {N : Nat} (hN : 3000000000 ≤ N)    : ∀ (fu : Nat) (I0_l0 : (Nat → Int32)) (M0_l0 : (Nat → Nat → Int32)), (KX9 I0_l0 M0_l0) → (600 - (I0_l0 3).toInt) < (fu : Int) → wq (fX9_step_L0 N fu I0_l0 M0_l0) (fun r => KX9 r.1 r.2 ∧ True) := by
  intro fu
  induction fu with
  | zero => intro I0_l0 M0_l0 k_I0_l0 hm; have hz0 := KX9.i3 k_I0_l0; exfalso; omega
  | succ fu ih =>
    intro I0_l0 M0_l0 k_I0_l0 hm
    rw [fX9_step_L0.eq_2]
    have t_2363 := KX9.i1 k_I0_l0
    have t_2364 := KX9.i3 k_I0_l0
    refine wq_le (fun hc_2365 => ?_) (fun hc_2366 => ?_)
    · unfold fX9_step_J39
      refine wq_v (fun I0_3_q2367 h_I0_3_q2367 => ?_)
      have k_I0_3_q2367 : KX9 I0_3_q2367 M0_l0 := by rw [h_I0_3_q2367]; exact KX9.si2 k_I0_l0 ⟨by omega, by omega⟩
      have tr_2368 : (I0_3_q2367 1).toInt = (I0_l0 1).toInt := by rw [h_I0_3_q2367]; rfl
      have tr_2369 : (I0_3_q2367 3).toInt = (I0_l0 3).toInt := by rw [h_I0_3_q2367]; rfl
      have t_2370 : (I0_3_q2367 3).toInt = (I0_l0 3).toInt := by rw [h_I0_3_q2367]; rfl
      have t_2371 : (I0_3_q2367 1).toInt = (I0_l0 1).toInt := by rw [h_I0_3_q2367]; rfl
      refine wq_lt (fun hc_2372 => ?_) (fun hc_2373 => ?_)
      · refine wq_in (n := 600) ⟨by omega, by omega⟩ ?_
        refine wq_b (tt_fX9_isLetter hN (M0_l0 0 (I0_3_q2367 3).toNatClampNeg)) (fun r4_q2374 h_r4_q2374 => ?_)
        obtain ⟨h_r4_q2374_0, -⟩ := h_r4_q2374
        have l_0 := il_0
        refine wq_eq (fun hc_2375 => ?_) (fun hc_2376 => ?_)
        · refine wq_in (n := 600) ⟨by omega, by omega⟩ ?_
          refine wq_b (tt_fX9_isDigit hN (M0_l0 0 (I0_3_q2367 3).toNatClampNeg)) (fun r5_q2377 h_r5_q2377 => ?_)
          obtain ⟨h_r5_q2377_0, -⟩ := h_r5_q2377
          refine wq_eq (fun hc_2378 => ?_) (fun hc_2379 => ?_)
          · refine wq_in (n := 600) ⟨by omega, by omega⟩ ?_
            have l_59 := il_59
            refine wq_eq (fun hc_2380 => ?_) (fun hc_2381 => ?_)
            · unfold fX9_step_J254
              refine wq_v (fun I0_1_q2382 h_I0_1_q2382 => ?_)
              have k_I0_1_q2382 : KX9 I0_1_q2382 M0_l0 := by rw [h_I0_1_q2382]; exact KX9.si4 k_I0_3_q2367
              have tr_2383 : (I0_1_q2382 1).toInt = (I0_3_q2367 1).toInt := by rw [h_I0_1_q2382]; rfl
              have tr_2384 : (I0_1_q2382 3).toInt = (I0_3_q2367 3).toInt := by rw [h_I0_1_q2382]; rfl
              refine wq_v (fun I0_2_q2385 h_I0_2_q2385 => ?_)
              have t_2386 : (I0_1_q2382 3).toInt = (I0_3_q2367 3).toInt := by rw [h_I0_1_q2382]; rfl
              have l_1 := il_1
              have t_2387 := ia_add (I0_1_q2382 3) (1 : Int32) (by omega) (by omega)
              have k_I0_2_q2385 : KX9 I0_2_q2385 M0_l0 := by rw [h_I0_2_q2385]; exact KX9.si3 k_I0_1_q2382 ⟨by omega, by omega⟩
              have tr_2388 : (I0_2_q2385 1).toInt = (I0_1_q2382 1).toInt := by rw [h_I0_2_q2385]; rfl
              have tr_2389 : (I0_2_q2385 3).toInt = ((I0_1_q2382 3) + (1 : Int32)).toInt := by rw [h_I0_2_q2385]; rfl
              exact wq_s ⟨k_I0_2_q2385, trivial⟩
            · unfold fX9_step_J254
              refine wq_v (fun I0_1_q2390 h_I0_1_q2390 => ?_)
              have k_I0_1_q2390 : KX9 I0_1_q2390 M0_l0 := by rw [h_I0_1_q2390]; exact KX9.si4 k_I0_3_q2367
              have tr_2391 : (I0_1_q2390 1).toInt = (I0_3_q2367 1).toInt := by rw [h_I0_1_q2390]; rfl
              have tr_2392 : (I0_1_q2390 3).toInt = (I0_3_q2367 3).toInt := by rw [h_I0_1_q2390]; rfl
              refine wq_v (fun I0_2_q2393 h_I0_2_q2393 => ?_)
              have t_2394 : (I0_1_q2390 3).toInt = (I0_3_q2367 3).toInt := by rw [h_I0_1_q2390]; rfl
              have l_1 := il_1
              have t_2395 := ia_add (I0_1_q2390 3) (1 : Int32) (by omega) (by omega)
              have k_I0_2_q2393 : KX9 I0_2_q2393 M0_l0 := by rw [h_I0_2_q2393]; exact KX9.si3 k_I0_1_q2390 ⟨by omega, by omega⟩
              have tr_2396 : (I0_2_q2393 1).toInt = (I0_1_q2390 1).toInt := by rw [h_I0_2_q2393]; rfl
              have tr_2397 : (I0_2_q2393 3).toInt = ((I0_1_q2390 3) + (1 : Int32)).toInt := by rw [h_I0_2_q2393]; rfl
              exact wq_s ⟨k_I0_2_q2393, trivial⟩
          · refine wq_v (fun I0_6_q2398 h_I0_6_q2398 => ?_)
            have k_I0_6_q2398 : KX9 I0_6_q2398 M0_l0 := by rw [h_I0_6_q2398]; exact KX9.si4 k_I0_3_q2367
            have tr_2399 : (I0_6_q2398 1).toInt = (I0_3_q2367 1).toInt := by rw [h_I0_6_q2398]; rfl
            have tr_2400 : (I0_6_q2398 3).toInt = (I0_3_q2367 3).toInt := by rw [h_I0_6_q2398]; rfl
            refine wq_v (fun I0_7_q2401 h_I0_7_q2401 => ?_)
            have k_I0_7_q2401 : KX9 I0_7_q2401 M0_l0 := by rw [h_I0_7_q2401]; exact KX9.si5 k_I0_6_q2398
            have tr_2402 : (I0_7_q2401 1).toInt = (I0_6_q2398 1).toInt := by rw [h_I0_7_q2401]; rfl
            have tr_2403 : (I0_7_q2401 3).toInt = (I0_6_q2398 3).toInt := by rw [h_I0_7_q2401]; rfl
            have t_2404 := KX9.i3 k_I0_7_q2401
            exact tt_fX9_step_L150 hN N I0_7_q2401 M0_l0 k_I0_7_q2401 (by omega)
        · refine wq_v (fun I0_11_q2405 h_I0_11_q2405 => ?_)
          have k_I0_11_q2405 : KX9 I0_11_q2405 M0_l0 := by rw [h_I0_11_q2405]; exact KX9.si4 k_I0_3_q2367
          have tr_2406 : (I0_11_q2405 1).toInt = (I0_3_q2367 1).toInt := by rw [h_I0_11_q2405]; rfl
          have tr_2407 : (I0_11_q2405 3).toInt = (I0_3_q2367 3).toInt := by rw [h_I0_11_q2405]; rfl
          have t_2408 := KX9.i3 k_I0_11_q2405
          exact tt_fX9_step_L86 hN N I0_11_q2405 M0_l0 k_I0_11_q2405 (by omega)
      · refine wq_v (fun I0_14_q2409 h_I0_14_q2409 => ?_)
        have k_I0_14_q2409 : KX9 I0_14_q2409 M0_l0 := by rw [h_I0_14_q2409]; exact KX9.si4 k_I0_3_q2367
        have tr_2410 : (I0_14_q2409 1).toInt = (I0_3_q2367 1).toInt := by rw [h_I0_14_q2409]; rfl
        have tr_2411 : (I0_14_q2409 3).toInt = (I0_3_q2367 3).toInt := by rw [h_I0_14_q2409]; rfl
        exact wq_s ⟨k_I0_14_q2409, trivial⟩
    · refine wq_in (n := 600) ⟨by omega, by omega⟩ ?_
      refine wq_b (tt_fX9_isBlank hN (M0_l0 0 (I0_l0 3).toNatClampNeg)) (fun r15_q2412 h_r15_q2412 => ?_)
      obtain ⟨h_r15_q2412_0, -⟩ := h_r15_q2412
      have l_0 := il_0
      refine wq_eq (fun hc_2413 => ?_) (fun hc_2414 => ?_)
      · unfold fX9_step_J39
        refine wq_v (fun I0_3_q2415 h_I0_3_q2415 => ?_)
        have k_I0_3_q2415 : KX9 I0_3_q2415 M0_l0 := by rw [h_I0_3_q2415]; exact KX9.si2 k_I0_l0 ⟨by omega, by omega⟩
        have tr_2416 : (I0_3_q2415 1).toInt = (I0_l0 1).toInt := by rw [h_I0_3_q2415]; rfl
        have tr_2417 : (I0_3_q2415 3).toInt = (I0_l0 3).toInt := by rw [h_I0_3_q2415]; rfl
        have t_2418 : (I0_3_q2415 3).toInt = (I0_l0 3).toInt := by rw [h_I0_3_q2415]; rfl
        have t_2419 : (I0_3_q2415 1).toInt = (I0_l0 1).toInt := by rw [h_I0_3_q2415]; rfl
        refine wq_lt (fun hc_2420 => ?_) (fun hc_2421 => ?_)
        · refine wq_in (n := 600) ⟨by omega, by omega⟩ ?_
          refine wq_b (tt_fX9_isLetter hN (M0_l0 0 (I0_3_q2415 3).toNatClampNeg)) (fun r4_q2422 h_r4_q2422 => ?_)
          obtain ⟨h_r4_q2422_0, -⟩ := h_r4_q2422
          refine wq_eq (fun hc_2423 => ?_) (fun hc_2424 => ?_)
          · refine wq_in (n := 600) ⟨by omega, by omega⟩ ?_
            refine wq_b (tt_fX9_isDigit hN (M0_l0 0 (I0_3_q2415 3).toNatClampNeg)) (fun r5_q2425 h_r5_q2425 => ?_)
            obtain ⟨h_r5_q2425_0, -⟩ := h_r5_q2425
            refine wq_eq (fun hc_2426 => ?_) (fun hc_2427 => ?_)
            · refine wq_in (n := 600) ⟨by omega, by omega⟩ ?_
              have l_59 := il_59
              refine wq_eq (fun hc_2428 => ?_) (fun hc_2429 => ?_)
              · unfold fX9_step_J254
                refine wq_v (fun I0_1_q2430 h_I0_1_q2430 => ?_)
                have k_I0_1_q2430 : KX9 I0_1_q2430 M0_l0 := by rw [h_I0_1_q2430]; exact KX9.si4 k_I0_3_q2415
                have tr_2431 : (I0_1_q2430 1).toInt = (I0_3_q2415 1).toInt := by rw [h_I0_1_q2430]; rfl
                have tr_2432 : (I0_1_q2430 3).toInt = (I0_3_q2415 3).toInt := by rw [h_I0_1_q2430]; rfl
                refine wq_v (fun I0_2_q2433 h_I0_2_q2433 => ?_)
                have t_2434 : (I0_1_q2430 3).toInt = (I0_3_q2415 3).toInt := by rw [h_I0_1_q2430]; rfl
                have l_1 := il_1
                have t_2435 := ia_add (I0_1_q2430 3) (1 : Int32) (by omega) (by omega)
                have k_I0_2_q2433 : KX9 I0_2_q2433 M0_l0 := by rw [h_I0_2_q2433]; exact KX9.si3 k_I0_1_q2430 ⟨by omega, by omega⟩
                have tr_2436 : (I0_2_q2433 1).toInt = (I0_1_q2430 1).toInt := by rw [h_I0_2_q2433]; rfl
                have tr_2437 : (I0_2_q2433 3).toInt = ((I0_1_q2430 3) + (1 : Int32)).toInt := by rw [h_I0_2_q2433]; rfl
                exact wq_s ⟨k_I0_2_q2433, trivial⟩
              · unfold fX9_step_J254
                refine wq_v (fun I0_1_q2438 h_I0_1_q2438 => ?_)
                have k_I0_1_q2438 : KX9 I0_1_q2438 M0_l0 := by rw [h_I0_1_q2438]; exact KX9.si4 k_I0_3_q2415
                have tr_2439 : (I0_1_q2438 1).toInt = (I0_3_q2415 1).toInt := by rw [h_I0_1_q2438]; rfl
                have tr_2440 : (I0_1_q2438 3).toInt = (I0_3_q2415 3).toInt := by rw [h_I0_1_q2438]; rfl
                refine wq_v (fun I0_2_q2441 h_I0_2_q2441 => ?_)
                have t_2442 : (I0_1_q2438 3).toInt = (I0_3_q2415 3).toInt := by rw [h_I0_1_q2438]; rfl
                have l_1 := il_1
                have t_2443 := ia_add (I0_1_q2438 3) (1 : Int32) (by omega) (by omega)
                have k_I0_2_q2441 : KX9 I0_2_q2441 M0_l0 := by rw [h_I0_2_q2441]; exact KX9.si3 k_I0_1_q2438 ⟨by omega, by omega⟩
                have tr_2444 : (I0_2_q2441 1).toInt = (I0_1_q2438 1).toInt := by rw [h_I0_2_q2441]; rfl
                have tr_2445 : (I0_2_q2441 3).toInt = ((I0_1_q2438 3) + (1 : Int32)).toInt := by rw [h_I0_2_q2441]; rfl
                exact wq_s ⟨k_I0_2_q2441, trivial⟩
            · refine wq_v (fun I0_6_q2446 h_I0_6_q2446 => ?_)
              have k_I0_6_q2446 : KX9 I0_6_q2446 M0_l0 := by rw [h_I0_6_q2446]; exact KX9.si4 k_I0_3_q2415
              have tr_2447 : (I0_6_q2446 1).toInt = (I0_3_q2415 1).toInt := by rw [h_I0_6_q2446]; rfl
              have tr_2448 : (I0_6_q2446 3).toInt = (I0_3_q2415 3).toInt := by rw [h_I0_6_q2446]; rfl
              refine wq_v (fun I0_7_q2449 h_I0_7_q2449 => ?_)
              have k_I0_7_q2449 : KX9 I0_7_q2449 M0_l0 := by rw [h_I0_7_q2449]; exact KX9.si5 k_I0_6_q2446
              have tr_2450 : (I0_7_q2449 1).toInt = (I0_6_q2446 1).toInt := by rw [h_I0_7_q2449]; rfl
              have tr_2451 : (I0_7_q2449 3).toInt = (I0_6_q2446 3).toInt := by rw [h_I0_7_q2449]; rfl
              have t_2452 := KX9.i3 k_I0_7_q2449
              exact tt_fX9_step_L150 hN N I0_7_q2449 M0_l0 k_I0_7_q2449 (by omega)
          · refine wq_v (fun I0_11_q2453 h_I0_11_q2453 => ?_)
            have k_I0_11_q2453 : KX9 I0_11_q2453 M0_l0 := by rw [h_I0_11_q2453]; exact KX9.si4 k_I0_3_q2415
            have tr_2454 : (I0_11_q2453 1).toInt = (I0_3_q2415 1).toInt := by rw [h_I0_11_q2453]; rfl
            have tr_2455 : (I0_11_q2453 3).toInt = (I0_3_q2415 3).toInt := by rw [h_I0_11_q2453]; rfl
            have t_2456 := KX9.i3 k_I0_11_q2453
            exact tt_fX9_step_L86 hN N I0_11_q2453 M0_l0 k_I0_11_q2453 (by omega)
        · refine wq_v (fun I0_14_q2457 h_I0_14_q2457 => ?_)
          have k_I0_14_q2457 : KX9 I0_14_q2457 M0_l0 := by rw [h_I0_14_q2457]; exact KX9.si4 k_I0_3_q2415
          have tr_2458 : (I0_14_q2457 1).toInt = (I0_3_q2415 1).toInt := by rw [h_I0_14_q2457]; rfl
          have tr_2459 : (I0_14_q2457 3).toInt = (I0_3_q2415 3).toInt := by rw [h_I0_14_q2457]; rfl
          exact wq_s ⟨k_I0_14_q2457, trivial⟩
      · refine wq_v (fun I0_16_q2460 h_I0_16_q2460 => ?_)
        have l_1 := il_1
        have t_2461 := ia_add (I0_l0 3) (1 : Int32) (by omega) (by omega)
        have k_I0_16_q2460 : KX9 I0_16_q2460 M0_l0 := by rw [h_I0_16_q2460]; exact KX9.si3 k_I0_l0 ⟨by omega, by omega⟩
        have tr_2462 : (I0_16_q2460 1).toInt = (I0_l0 1).toInt := by rw [h_I0_16_q2460]; rfl
        have tr_2463 : (I0_16_q2460 3).toInt = ((I0_l0 3) + (1 : Int32)).toInt := by rw [h_I0_16_q2460]; rfl
        have t_2464 := KX9.i3 k_I0_16_q2460
        exact ih I0_16_q2460 M0_l0 k_I0_16_q2460 (by omega)
set_option maxHeartbeats 4000000 in
theorem tt_fX9_step {N : Nat} (hN : 3000000000 ≤ N) (I0 : Nat → Int32) (M0 : Nat → Nat → Int32) (k_I0 : KX9 I0 M0) : wq (fX9_step N I0 M0) (fun r => KX9 r.1 r.2 ∧ True) := by
  unfold fX9_step
  have t_2465 := KX9.i3 k_I0
  exact tt_fX9_step_L0 hN N I0 M0 k_I0 (by omega)
set_option maxHeartbeats 4000000 in
theorem tt_fX9_refuse {N : Nat} (hN : 3000000000 ≤ N) (I0 : Nat → Int32) (M0 : Nat → Nat → Int32) (x1 : Int32) (k_I0 : KX9 I0 M0) : wq (fX9_refuse N I0 M0 x1) (fun r => (0 ≤ r.1.toInt ∧ r.1.toInt ≤ 0) ∧ KX9 r.2.1 r.2.2 ∧ True) := by
  unfold fX9_refuse
  refine wq_v (fun I0_1_q2478 h_I0_1_q2478 => ?_)
  have k_I0_1_q2478 : KX9 I0_1_q2478 M0 := by rw [h_I0_1_q2478]; exact KX9.si7 k_I0
  refine wq_v (fun I0_2_q2479 h_I0_2_q2479 => ?_)
  have k_I0_2_q2479 : KX9 I0_2_q2479 M0 := by rw [h_I0_2_q2479]; exact KX9.si8 k_I0_1_q2478
  have l_0 := il_0
  exact wq_s ⟨(show 0 ≤ (0 : Int32).toInt ∧ (0 : Int32).toInt ≤ 0 from ⟨by omega, by omega⟩), k_I0_2_q2479, trivial⟩
set_option maxHeartbeats 4000000 in
theorem tt_fX1_isNew {N : Nat} (hN : 3000000000 ≤ N) (I0 : Nat → Int32) (M0 : Nat → Nat → Int32) (I1 : Nat → Int32) (M1 : Nat → Nat → Int32) (x2 : Int32) (h_x2 : 0 ≤ x2.toInt ∧ x2.toInt ≤ 21) (k_I0 : KX1 I0 M0) (k_I1 : KX9 I1 M1) : wq (fX1_isNew N I0 M0 I1 M1 x2) (fun r => (0 ≤ r.1.toInt ∧ r.1.toInt ≤ 1) ∧ KX9 r.2.1 r.2.2 ∧ True) := by
  unfold fX1_isNew
  refine wq_in (n := 22) ⟨by omega, by omega⟩ ?_
  have t_2510 := KX1.m1 k_I0 x2.toNatClampNeg
  have l_m1 := il_m1
  refine wq_eq (fun hc_2511 => ?_) (fun hc_2512 => ?_)
  · refine wq_b (tt_fX9_step hN I1 M1 k_I1) (fun r1_q2513 h_r1_q2513 => ?_)
    obtain ⟨h_r1_q2513_0, -⟩ := h_r1_q2513
    have l_1 := il_1
    exact wq_s ⟨(show 0 ≤ (1 : Int32).toInt ∧ (1 : Int32).toInt ≤ 1 from ⟨by omega, by omega⟩), h_r1_q2513_0, trivial⟩
  · have l_3 := il_3
    refine wq_b (tt_fX9_refuse hN I1 M1 (3 : Int32) k_I1) (fun r2_q2514 h_r2_q2514 => ?_)
    obtain ⟨h_r2_q2514_0, h_r2_q2514_1, -⟩ := h_r2_q2514
    refine wq_bz (by omega) ?_
    exact wq_s ⟨(show 0 ≤ r2_q2514.1.toInt ∧ r2_q2514.1.toInt ≤ 1 from ⟨by omega, by omega⟩), h_r2_q2514_1, trivial⟩
set_option maxHeartbeats 4000000 in
theorem tt_fX9_holdsNumber {N : Nat} (hN : 3000000000 ≤ N) (I0 : Nat → Int32) (M0 : Nat → Nat → Int32) (x1 : Int32) (x2 : Int32) (k_I0 : KX9 I0 M0) : wq (fX9_holdsNumber N I0 M0 x1 x2) (fun r => (r.1.toInt = 0 ∨ (x1.toInt ≤ (r.2.1 6).toInt ∧ (r.2.1 6).toInt ≤ x2.toInt)) ∧ (0 ≤ r.1.toInt ∧ r.1.toInt ≤ 1) ∧ KX9 r.2.1 r.2.2 ∧ True) := by
  unfold fX9_holdsNumber
  have l_2 := il_2
  refine wq_eq (fun hc_2635 => ?_) (fun hc_2636 => ?_)
  · have l_7 := il_7
    have t_2637 := KX9.i3 k_I0
    have t_2638 := KX9.i2 k_I0
    have t_2639 := ia_sub (I0 3) (I0 2) (by omega) (by omega)
    refine wq_lt (fun hc_2640 => ?_) (fun hc_2641 => ?_)
    · refine wq_b (tt_fX9_refuse hN I0 M0 (2 : Int32) k_I0) (fun r1_q2642 h_r1_q2642 => ?_)
      obtain ⟨h_r1_q2642_0, h_r1_q2642_1, -⟩ := h_r1_q2642
      refine wq_bz (by omega) ?_
      have b_2643 := i32b x1
      have b_2644 := i32b x2
      exact wq_s ⟨(show (r1_q2642.1.toInt = 0 ∨ (x1.toInt ≤ (r1_q2642.2.1 6).toInt ∧ (r1_q2642.2.1 6).toInt ≤ x2.toInt)) from by omega), (show 0 ≤ r1_q2642.1.toInt ∧ r1_q2642.1.toInt ≤ 1 from ⟨by omega, by omega⟩), h_r1_q2642_1, trivial⟩
    · have b_2645 := i32b x1
      refine wq_lt (fun hc_2646 => ?_) (fun hc_2647 => ?_)
      · refine wq_b (tt_fX9_refuse hN I0 M0 (2 : Int32) k_I0) (fun r2_q2648 h_r2_q2648 => ?_)
        obtain ⟨h_r2_q2648_0, h_r2_q2648_1, -⟩ := h_r2_q2648
        refine wq_bz (by omega) ?_
        have b_2649 := i32b x2
        exact wq_s ⟨(show (r2_q2648.1.toInt = 0 ∨ (x1.toInt ≤ (r2_q2648.2.1 6).toInt ∧ (r2_q2648.2.1 6).toInt ≤ x2.toInt)) from by omega), (show 0 ≤ r2_q2648.1.toInt ∧ r2_q2648.1.toInt ≤ 1 from ⟨by omega, by omega⟩), h_r2_q2648_1, trivial⟩
      · have b_2650 := i32b x2
        refine wq_le (fun hc_2651 => ?_) (fun hc_2652 => ?_)
        · refine wq_v (fun I0_3_q2653 h_I0_3_q2653 => ?_)
          have k_I0_3_q2653 : KX9 I0_3_q2653 M0 := by rw [h_I0_3_q2653]; exact KX9.si6 k_I0
          have tr_2654 : (I0_3_q2653 6).toInt = (I0 5).toInt := by rw [h_I0_3_q2653]; rfl
          have t_2655 : (I0_3_q2653 6).toInt = (I0 5).toInt := by rw [h_I0_3_q2653]; rfl
          have l_1 := il_1
          exact wq_s ⟨(show ((1 : Int32).toInt = 0 ∨ (x1.toInt ≤ (I0_3_q2653 6).toInt ∧ (I0_3_q2653 6).toInt ≤ x2.toInt)) from by omega), (show 0 ≤ (1 : Int32).toInt ∧ (1 : Int32).toInt ≤ 1 from ⟨by omega, by omega⟩), k_I0_3_q2653, trivial⟩
        · refine wq_b (tt_fX9_refuse hN I0 M0 (2 : Int32) k_I0) (fun r4_q2656 h_r4_q2656 => ?_)
          obtain ⟨h_r4_q2656_0, h_r4_q2656_1, -⟩ := h_r4_q2656
          refine wq_bz (by omega) ?_
          exact wq_s ⟨(show (r4_q2656.1.toInt = 0 ∨ (x1.toInt ≤ (r4_q2656.2.1 6).toInt ∧ (r4_q2656.2.1 6).toInt ≤ x2.toInt)) from by omega), (show 0 ≤ r4_q2656.1.toInt ∧ r4_q2656.1.toInt ≤ 1 from ⟨by omega, by omega⟩), h_r4_q2656_1, trivial⟩
  · have l_1 := il_1
    refine wq_b (tt_fX9_refuse hN I0 M0 (1 : Int32) k_I0) (fun r5_q2657 h_r5_q2657 => ?_)
    obtain ⟨h_r5_q2657_0, h_r5_q2657_1, -⟩ := h_r5_q2657
    refine wq_bz (by omega) ?_
    have b_2658 := i32b x1
    have b_2659 := i32b x2
    exact wq_s ⟨(show (r5_q2657.1.toInt = 0 ∨ (x1.toInt ≤ (r5_q2657.2.1 6).toInt ∧ (r5_q2657.2.1 6).toInt ≤ x2.toInt)) from by omega), (show 0 ≤ r5_q2657.1.toInt ∧ r5_q2657.1.toInt ≤ 1 from ⟨by omega, by omega⟩), h_r5_q2657_1, trivial⟩
def wp {α : Type} (x : Option α) (Q : α → Prop) : Prop := ∀ r, x = some r → Q r
theorem wp_s {α : Type} {r : α} {Q : α → Prop} (h : Q r) : wp (some r) Q := fun q e => by
  have := Option.some.inj e
  rw [← this]; exact h
theorem wp_none {α : Type} {Q : α → Prop} : wp (none : Option α) Q := fun _ e => nomatch e
theorem wp_v {α β : Type} {e : α} {k : α → Option β} {Q : β → Prop} (h : wp (k e) Q) : wp ((some e).bind k) Q := h
theorem wp_b {α β : Type} {x : Option α} {k : α → Option β} {Q : β → Prop} (h : ∀ r, wp (k r) Q) : wp (x.bind k) Q := by
  cases x with
  | none => exact wp_none
  | some r => exact h r
theorem wp_i {α : Type} {c : Prop} [Decidable c] {A B : Option α} {Q : α → Prop} (h1 : wp A Q) (h2 : wp B Q) : wp (if c then A else B) Q := by
  by_cases h : c
  · rw [if_pos h]; exact h1
  · rw [if_neg h]; exact h2
theorem st6_254 {N : Nat} {I : Nat → Int32} {M : Nat → Nat → Int32} {x : Int32} : wp (fX9_step_J254 N I M x) (fun r => r.1 6 = I 6) := by
  unfold fX9_step_J254
  repeat' first | with_reducible exact wp_none | (with_reducible refine wp_i ?_ ?_) | (with_reducible refine wp_v ?_) | (with_reducible refine wp_b (fun _ => ?_)) | (refine wp_s ?_; show _ = _; rfl)
theorem st6_L150 {N : Nat} : ∀ (fu : Nat) (I : Nat → Int32) (M : Nat → Nat → Int32), wp (fX9_step_L150 N fu I M) (fun r => r.1 6 = I 6) := by
  intro fu
  induction fu with
  | zero => intro I M; rw [fX9_step_L150.eq_1]; exact wp_none
  | succ fu ih =>
    intro I M
    rw [fX9_step_L150.eq_2]
    unfold fX9_step_J218
    repeat' first | with_reducible exact wp_none | (with_reducible refine wp_i ?_ ?_) | (with_reducible refine wp_v ?_) | (with_reducible refine wp_b (fun _ => ?_)) | exact ih _ _ | (refine wp_s ?_; show _ = _; rfl)
theorem st6_L86 {N : Nat} : ∀ (fu : Nat) (I : Nat → Int32) (M : Nat → Nat → Int32), wp (fX9_step_L86 N fu I M) (fun r => r.1 6 = I 6) := by
  intro fu
  induction fu with
  | zero => intro I M; rw [fX9_step_L86.eq_1]; exact wp_none
  | succ fu ih =>
    intro I M
    rw [fX9_step_L86.eq_2]
    repeat' first | with_reducible exact wp_none | (with_reducible refine wp_i ?_ ?_) | (with_reducible refine wp_v ?_) | (with_reducible refine wp_b (fun _ => ?_)) | exact ih _ _ | (refine wp_s ?_; show _ = _; rfl)
theorem st6_J39 {N : Nat} {I : Nat → Int32} {M : Nat → Nat → Int32} : wp (fX9_step_J39 N I M) (fun r => r.1 6 = I 6) := by
  unfold fX9_step_J39
  repeat' first | with_reducible exact wp_none | (with_reducible refine wp_i ?_ ?_) | (with_reducible refine wp_v ?_) | (with_reducible refine wp_b (fun _ => ?_)) | exact st6_254 | exact st6_L150 _ _ _ | exact st6_L86 _ _ _ | (refine wp_s ?_; show _ = _; rfl)
theorem st6_L0 {N : Nat} : ∀ (fu : Nat) (I : Nat → Int32) (M : Nat → Nat → Int32), wp (fX9_step_L0 N fu I M) (fun r => r.1 6 = I 6) := by
  intro fu
  induction fu with
  | zero => intro I M; rw [fX9_step_L0.eq_1]; exact wp_none
  | succ fu ih =>
    intro I M
    rw [fX9_step_L0.eq_2]
    repeat' first | with_reducible exact wp_none | (with_reducible refine wp_i ?_ ?_) | (with_reducible refine wp_v ?_) | (with_reducible refine wp_b (fun _ => ?_)) | exact ih _ _ | exact st6_J39 | (refine wp_s ?_; show _ = _; rfl)
set_option maxHeartbeats 4000000 in
theorem tt_fX9_takeNumber {N : Nat} (hN : 3000000000 ≤ N) (I0 : Nat → Int32) (M0 : Nat → Nat → Int32) (x1 : Int32) (x2 : Int32) (k_I0 : KX9 I0 M0) : wq (fX9_takeNumber N I0 M0 x1 x2) (fun r => (r.1.toInt = 0 ∨ (x1.toInt ≤ (r.2.1 6).toInt ∧ (r.2.1 6).toInt ≤ x2.toInt)) ∧ (0 ≤ r.1.toInt ∧ r.1.toInt ≤ 1) ∧ KX9 r.2.1 r.2.2 ∧ True) := by
  unfold fX9_takeNumber
  refine wq_b (tt_fX9_holdsNumber hN I0 M0 x1 x2 k_I0) (fun r h => ?_)
  obtain ⟨hs, hr, hk, -⟩ := h
  have l_0 := il_0
  refine wq_eq (fun hc => ?_) (fun hc => ?_)
  · exact wq_s ⟨Or.inl il_0, (show 0 ≤ (0 : Int32).toInt ∧ (0 : Int32).toInt ≤ 1 from by decide), hk, trivial⟩
  · obtain ⟨r2, he, h2⟩ := tt_fX9_step hN _ _ hk
    have e6 : r2.1 6 = r.2.1 6 := st6_L0 _ _ _ _ he
    rw [he]
    show wq (some ((1 : Int32), r2.1, r2.2)) _
    exact wq_s ⟨Or.inr (show x1.toInt ≤ (r2.1 6).toInt ∧ (r2.1 6).toInt ≤ x2.toInt from by rw [e6]; omega), (show 0 ≤ (1 : Int32).toInt ∧ (1 : Int32).toInt ≤ 1 from by decide), h2.1, trivial⟩
set_option maxHeartbeats 4000000 in
theorem tt_fX9_takeStop {N : Nat} (hN : 3000000000 ≤ N) (I0 : Nat → Int32) (M0 : Nat → Nat → Int32) (k_I0 : KX9 I0 M0) : wq (fX9_takeStop N I0 M0) (fun r => (0 ≤ r.1.toInt ∧ r.1.toInt ≤ 1) ∧ KX9 r.2.1 r.2.2 ∧ True) := by
  unfold fX9_takeStop
  have l_3 := il_3
  refine wq_eq (fun hc_2684 => ?_) (fun hc_2685 => ?_)
  · refine wq_b (tt_fX9_step hN I0 M0 k_I0) (fun r1_q2686 h_r1_q2686 => ?_)
    obtain ⟨h_r1_q2686_0, -⟩ := h_r1_q2686
    have l_1 := il_1
    exact wq_s ⟨(show 0 ≤ (1 : Int32).toInt ∧ (1 : Int32).toInt ≤ 1 from ⟨by omega, by omega⟩), h_r1_q2686_0, trivial⟩
  · have l_1 := il_1
    refine wq_b (tt_fX9_refuse hN I0 M0 (1 : Int32) k_I0) (fun r2_q2687 h_r2_q2687 => ?_)
    obtain ⟨h_r2_q2687_0, h_r2_q2687_1, -⟩ := h_r2_q2687
    refine wq_bz (by omega) ?_
    exact wq_s ⟨(show 0 ≤ r2_q2687.1.toInt ∧ r2_q2687.1.toInt ≤ 1 from ⟨by omega, by omega⟩), h_r2_q2687_1, trivial⟩
set_option maxHeartbeats 4000000 in
theorem tt_fX1_readDegree {N : Nat} (hN : 3000000000 ≤ N) (I0 : Nat → Int32) (M0 : Nat → Nat → Int32) (I1 : Nat → Int32) (M1 : Nat → Nat → Int32) (x2 : Int32) (h_x2 : 0 ≤ x2.toInt ∧ x2.toInt ≤ 20) (k_I0 : KX1 I0 M0) (k_I1 : KX9 I1 M1) : wq (fX1_readDegree N I0 M0 I1 M1 x2) (fun r => (0 ≤ r.1.toInt ∧ r.1.toInt ≤ 1) ∧ KX1 r.2.1 r.2.2.1 ∧ KX9 r.2.2.2.1 r.2.2.2.2 ∧ True) := by
  unfold fX1_readDegree
  refine wq_b (tt_fX1_isNew hN I0 M0 I1 M1 x2 ⟨by omega, by omega⟩ k_I0 k_I1) (fun r1_q2778 h_r1_q2778 => ?_)
  obtain ⟨h_r1_q2778_0, h_r1_q2778_1, -⟩ := h_r1_q2778
  have l_0 := il_0
  refine wq_eq (fun hc_2779 => ?_) (fun hc_2780 => ?_)
  · exact wq_s ⟨(show 0 ≤ (0 : Int32).toInt ∧ (0 : Int32).toInt ≤ 1 from ⟨by omega, by omega⟩), k_I0, h_r1_q2778_1, trivial⟩
  · have l_11 := il_11
    refine wq_b (tt_fX9_takeNumber hN r1_q2778.2.1 r1_q2778.2.2 (0 : Int32) (11 : Int32) h_r1_q2778_1) (fun r2_q2781 h_r2_q2781 => ?_)
    obtain ⟨h_r2_q2781_0, h_r2_q2781_1, h_r2_q2781_2, -⟩ := h_r2_q2781
    refine wq_eq (fun hc_2782 => ?_) (fun hc_2783 => ?_)
    · exact wq_s ⟨(show 0 ≤ (0 : Int32).toInt ∧ (0 : Int32).toInt ≤ 1 from ⟨by omega, by omega⟩), k_I0, h_r2_q2781_2, trivial⟩
    · refine wq_v (fun v3_q2784 h_v3_q2784 => ?_)
      have t_v3_q2784 := congrArg Int32.toInt h_v3_q2784
      have l_29 := il_29
      refine wq_b (tt_fX9_takeNumber hN r2_q2781.2.1 r2_q2781.2.2 (0 : Int32) (29 : Int32) h_r2_q2781_2) (fun r4_q2785 h_r4_q2785 => ?_)
      obtain ⟨h_r4_q2785_0, h_r4_q2785_1, h_r4_q2785_2, -⟩ := h_r4_q2785
      refine wq_eq (fun hc_2786 => ?_) (fun hc_2787 => ?_)
      · exact wq_s ⟨(show 0 ≤ (0 : Int32).toInt ∧ (0 : Int32).toInt ≤ 1 from ⟨by omega, by omega⟩), k_I0, h_r4_q2785_2, trivial⟩
      · refine wq_in (n := 22) ⟨by omega, by omega⟩ ?_
        refine wq_v (fun M0_5_q2788 h_M0_5_q2788 => ?_)
        have l_30 := il_30
        have t_2789 := ia_mul (30 : Int32) (30) il_30 v3_q2784 (by omega) (by omega)
        have t_2790 := ia_add ((30 : Int32) * v3_q2784) (r4_q2785.2.1 6) (by omega) (by omega)
        have tn_2791 := tn_of x2 (by omega)
        have k_M0_5_q2788 : KX1 I0 M0_5_q2788 := by rw [h_M0_5_q2788]; exact KX1.sm1 k_I0 ⟨by omega, by omega⟩ (DN.um (KX1.edn k_I0) (fun q => by omega))
        refine wq_b (tt_fX9_takeStop hN r4_q2785.2.1 r4_q2785.2.2 h_r4_q2785_2) (fun r6_q2792 h_r6_q2792 => ?_)
        obtain ⟨h_r6_q2792_0, h_r6_q2792_1, -⟩ := h_r6_q2792
        refine wq_bz (by omega) ?_
        exact wq_s ⟨(show 0 ≤ r6_q2792.1.toInt ∧ r6_q2792.1.toInt ≤ 1 from ⟨by omega, by omega⟩), k_M0_5_q2788, h_r6_q2792_1, trivial⟩
set_option maxHeartbeats 4000000 in
theorem tt_fX1_readDate {N : Nat} (hN : 3000000000 ≤ N) (I0 : Nat → Int32) (M0 : Nat → Nat → Int32) (I1 : Nat → Int32) (M1 : Nat → Nat → Int32) (k_I0 : KX1 I0 M0) (k_I1 : KX9 I1 M1) : wq (fX1_readDate N I0 M0 I1 M1) (fun r => (0 ≤ r.1.toInt ∧ r.1.toInt ≤ 1) ∧ KX1 r.2.1 r.2.2.1 ∧ KX9 r.2.2.2.1 r.2.2.2.2 ∧ True) := by
  unfold fX1_readDate
  have l_21 := il_21
  refine wq_b (tt_fX1_isNew hN I0 M0 I1 M1 (21 : Int32) ⟨by omega, by omega⟩ k_I0 k_I1) (fun r4_q2943 h_r4_q2943 => ?_)
  obtain ⟨h_r4_q2943_0, h_r4_q2943_1, -⟩ := h_r4_q2943
  have l_0 := il_0
  refine wq_eq (fun hc_2944 => ?_) (fun hc_2945 => ?_)
  · exact wq_s ⟨(show 0 ≤ (0 : Int32).toInt ∧ (0 : Int32).toInt ≤ 1 from ⟨by omega, by omega⟩), k_I0, h_r4_q2943_1, trivial⟩
  · have l_12 := il_12
    refine wq_b (tt_fX9_takeNumber hN r4_q2943.2.1 r4_q2943.2.2 (0 : Int32) (12 : Int32) h_r4_q2943_1) (fun r5_q2946 h_r5_q2946 => ?_)
    obtain ⟨h_r5_q2946_0, h_r5_q2946_1, h_r5_q2946_2, -⟩ := h_r5_q2946
    refine wq_eq (fun hc_2947 => ?_) (fun hc_2948 => ?_)
    · exact wq_s ⟨(show 0 ≤ (0 : Int32).toInt ∧ (0 : Int32).toInt ≤ 1 from ⟨by omega, by omega⟩), k_I0, h_r5_q2946_2, trivial⟩
    · refine wq_v (fun v6_q2949 h_v6_q2949 => ?_)
      have t_v6_q2949 := congrArg Int32.toInt h_v6_q2949
      refine wq_eq (fun hc_2950 => ?_) (fun hc_2951 => ?_)
      · unfold fX1_readDate_J41
        have l_4 := il_4
        refine wq_b (tt_fX9_takeNumber hN r5_q2946.2.1 r5_q2946.2.2 (0 : Int32) (4 : Int32) h_r5_q2946_2) (fun r1_q2952 h_r1_q2952 => ?_)
        obtain ⟨h_r1_q2952_0, h_r1_q2952_1, h_r1_q2952_2, -⟩ := h_r1_q2952
        refine wq_eq (fun hc_2953 => ?_) (fun hc_2954 => ?_)
        · exact wq_s ⟨(show 0 ≤ (0 : Int32).toInt ∧ (0 : Int32).toInt ≤ 1 from ⟨by omega, by omega⟩), k_I0, h_r1_q2952_2, trivial⟩
        · refine wq_in (n := 22) ⟨by omega, by omega⟩ ?_
          refine wq_v (fun M0_2_q2955 h_M0_2_q2955 => ?_)
          have l_30 := il_30
          have t_2956 := ia_mul (30 : Int32) (30) il_30 v6_q2949 (by omega) (by omega)
          have t_2957 := ia_add ((30 : Int32) * v6_q2949) (r1_q2952.2.1 6) (by omega) (by omega)
          have tn_2958 := tn_of (21 : Int32) (by omega)
          have k_M0_2_q2955 : KX1 I0 M0_2_q2955 := by rw [h_M0_2_q2955]; exact KX1.sm1 k_I0 ⟨by omega, by omega⟩ (DN.um (KX1.edn k_I0) (fun q => by omega))
          refine wq_b (tt_fX9_takeStop hN r1_q2952.2.1 r1_q2952.2.2 h_r1_q2952_2) (fun r3_q2959 h_r3_q2959 => ?_)
          obtain ⟨h_r3_q2959_0, h_r3_q2959_1, -⟩ := h_r3_q2959
          refine wq_bz (by omega) ?_
          exact wq_s ⟨(show 0 ≤ r3_q2959.1.toInt ∧ r3_q2959.1.toInt ≤ 1 from ⟨by omega, by omega⟩), k_M0_2_q2955, h_r3_q2959_1, trivial⟩
      · unfold fX1_readDate_J41
        have l_29 := il_29
        refine wq_b (tt_fX9_takeNumber hN r5_q2946.2.1 r5_q2946.2.2 (0 : Int32) (29 : Int32) h_r5_q2946_2) (fun r1_q2960 h_r1_q2960 => ?_)
        obtain ⟨h_r1_q2960_0, h_r1_q2960_1, h_r1_q2960_2, -⟩ := h_r1_q2960
        refine wq_eq (fun hc_2961 => ?_) (fun hc_2962 => ?_)
        · exact wq_s ⟨(show 0 ≤ (0 : Int32).toInt ∧ (0 : Int32).toInt ≤ 1 from ⟨by omega, by omega⟩), k_I0, h_r1_q2960_2, trivial⟩
        · refine wq_in (n := 22) ⟨by omega, by omega⟩ ?_
          refine wq_v (fun M0_2_q2963 h_M0_2_q2963 => ?_)
          have l_30 := il_30
          have t_2964 := ia_mul (30 : Int32) (30) il_30 v6_q2949 (by omega) (by omega)
          have t_2965 := ia_add ((30 : Int32) * v6_q2949) (r1_q2960.2.1 6) (by omega) (by omega)
          have tn_2966 := tn_of (21 : Int32) (by omega)
          have k_M0_2_q2963 : KX1 I0 M0_2_q2963 := by rw [h_M0_2_q2963]; exact KX1.sm1 k_I0 ⟨by omega, by omega⟩ (DN.um (KX1.edn k_I0) (fun q => by omega))
          refine wq_b (tt_fX9_takeStop hN r1_q2960.2.1 r1_q2960.2.2 h_r1_q2960_2) (fun r3_q2967 h_r3_q2967 => ?_)
          obtain ⟨h_r3_q2967_0, h_r3_q2967_1, -⟩ := h_r3_q2967
          refine wq_bz (by omega) ?_
          exact wq_s ⟨(show 0 ≤ r3_q2967.1.toInt ∧ r3_q2967.1.toInt ≤ 1 from ⟨by omega, by omega⟩), k_M0_2_q2963, h_r3_q2967_1, trivial⟩
set_option maxHeartbeats 4000000 in
theorem tt_fX1_readEntry {N : Nat} (hN : 3000000000 ≤ N) (I0 : Nat → Int32) (M0 : Nat → Nat → Int32) (I1 : Nat → Int32) (M1 : Nat → Nat → Int32) (k_I0 : KX1 I0 M0) (k_I1 : KX9 I1 M1) : wq (fX1_readEntry N I0 M0 I1 M1) (fun r => (0 ≤ r.1.toInt ∧ r.1.toInt ≤ 1) ∧ KX1 r.2.1 r.2.2.1 ∧ KX9 r.2.2.2.1 r.2.2.2.2 ∧ True) := by
  unfold fX1_readEntry
  refine wq_b (tt_fX9_isWord hN I1 M1 0 k_I1 (by omega)) (fun r1_q3088 h_r1_q3088 => ?_)
  obtain ⟨h_r1_q3088_0, -⟩ := h_r1_q3088
  have l_0 := il_0
  refine wq_eq (fun hc_3089 => ?_) (fun hc_3090 => ?_)
  · refine wq_b (tt_fX9_isWord hN I1 M1 1 k_I1 (by omega)) (fun r2_q3091 h_r2_q3091 => ?_)
    obtain ⟨h_r2_q3091_0, -⟩ := h_r2_q3091
    refine wq_eq (fun hc_3092 => ?_) (fun hc_3093 => ?_)
    · have l_9 := il_9
      refine wq_b (tt_fX9_namedOf hN I1 M1 (9 : Int32) ⟨by omega, by omega⟩ k_I1) (fun r3_q3094 h_r3_q3094 => ?_)
      obtain ⟨h_r3_q3094_0, h_r3_q3094_1, -⟩ := h_r3_q3094
      have l_m1 := il_m1
      refine wq_eq (fun hc_3095 => ?_) (fun hc_3096 => ?_)
      · have l_1 := il_1
        refine wq_b (tt_fX9_refuse hN I1 M1 (1 : Int32) k_I1) (fun r5_q3097 h_r5_q3097 => ?_)
        obtain ⟨h_r5_q3097_0, h_r5_q3097_1, -⟩ := h_r5_q3097
        refine wq_bz (by omega) ?_
        exact wq_s ⟨(show 0 ≤ r5_q3097.1.toInt ∧ r5_q3097.1.toInt ≤ 1 from ⟨by omega, by omega⟩), k_I0, h_r5_q3097_1, trivial⟩
      · refine wq_b (tt_fX1_readDegree hN I0 M0 I1 M1 r3_q3094 ⟨by omega, by omega⟩ k_I0 k_I1) (fun r4_q3098 h_r4_q3098 => ?_)
        obtain ⟨h_r4_q3098_0, h_r4_q3098_1, h_r4_q3098_2, -⟩ := h_r4_q3098
        refine wq_bz (by omega) ?_
        exact wq_s ⟨(show 0 ≤ r4_q3098.1.toInt ∧ r4_q3098.1.toInt ≤ 1 from ⟨by omega, by omega⟩), h_r4_q3098_1, h_r4_q3098_2, trivial⟩
    · refine wq_b (tt_fX1_readDate hN I0 M0 I1 M1 k_I0 k_I1) (fun r6_q3099 h_r6_q3099 => ?_)
      obtain ⟨h_r6_q3099_0, h_r6_q3099_1, h_r6_q3099_2, -⟩ := h_r6_q3099
      refine wq_bz (by omega) ?_
      exact wq_s ⟨(show 0 ≤ r6_q3099.1.toInt ∧ r6_q3099.1.toInt ≤ 1 from ⟨by omega, by omega⟩), h_r6_q3099_1, h_r6_q3099_2, trivial⟩
  · refine wq_b (tt_fX9_step hN I1 M1 k_I1) (fun r7_q3100 h_r7_q3100 => ?_)
    obtain ⟨h_r7_q3100_0, -⟩ := h_r7_q3100
    have l_1 := il_1
    have l_12 := il_12
    refine wq_b (tt_fX9_holdsNumber hN r7_q3100.1 r7_q3100.2 (1 : Int32) (12 : Int32) h_r7_q3100_0) (fun r8_q3101 h_r8_q3101 => ?_)
    obtain ⟨h_r8_q3101_0, h_r8_q3101_1, h_r8_q3101_2, -⟩ := h_r8_q3101
    refine wq_eq (fun hc_3102 => ?_) (fun hc_3103 => ?_)
    · exact wq_s ⟨(show 0 ≤ (0 : Int32).toInt ∧ (0 : Int32).toInt ≤ 1 from ⟨by omega, by omega⟩), k_I0, h_r8_q3101_2, trivial⟩
    · have l_8 := il_8
      have t_3104 := ia_add (8 : Int32) (r8_q3101.2.1 6) (by omega) (by omega)
      refine wq_b (tt_fX1_readDegree hN I0 M0 r8_q3101.2.1 r8_q3101.2.2 ((8 : Int32) + (r8_q3101.2.1 6)) ⟨by omega, by omega⟩ k_I0 h_r8_q3101_2) (fun r9b_q3105 h_r9b_q3105 => ?_)
      obtain ⟨h_r9b_q3105_0, h_r9b_q3105_1, h_r9b_q3105_2, -⟩ := h_r9b_q3105
      refine wq_eq (fun hc_3106 => ?_) (fun hc_3107 => ?_)
      · exact wq_s ⟨(show 0 ≤ (0 : Int32).toInt ∧ (0 : Int32).toInt ≤ 1 from ⟨by omega, by omega⟩), h_r9b_q3105_1, h_r9b_q3105_2, trivial⟩
      · exact wq_s ⟨(show 0 ≤ (1 : Int32).toInt ∧ (1 : Int32).toInt ≤ 1 from ⟨by omega, by omega⟩), h_r9b_q3105_1, h_r9b_q3105_2, trivial⟩
set_option maxHeartbeats 4000000 in
theorem tt_fX1_readEntries_L10 {N : Nat} (hN : 3000000000 ≤ N)    : ∀ (fu : Nat) (I0_l10 : (Nat → Int32)) (M0_l10 : (Nat → Nat → Int32)) (I1_l10 : (Nat → Int32)) (M1_l10 : (Nat → Nat → Int32)) (y10_2 : Int32), (0 ≤ y10_2.toInt ∧ y10_2.toInt ≤ 600) → (KX1 I0_l10 M0_l10) → (KX9 I1_l10 M1_l10) → (600 - y10_2.toInt) < (fu : Int) → wq (fX1_readEntries_L10 N fu I0_l10 M0_l10 I1_l10 M1_l10 y10_2) (fun r => (0 ≤ r.1.toInt ∧ r.1.toInt ≤ 1) ∧ KX1 r.2.1 r.2.2.1 ∧ KX9 r.2.2.2.1 r.2.2.2.2 ∧ True) := by
  intro fu
  induction fu with
  | zero => intro I0_l10 M0_l10 I1_l10 M1_l10 y10_2 h_y10_2 k_I0_l10 k_I1_l10 hm; exfalso; omega
  | succ fu ih =>
    intro I0_l10 M0_l10 I1_l10 M1_l10 y10_2 h_y10_2 k_I0_l10 k_I1_l10 hm
    rw [fX1_readEntries_L10.eq_2]
    have l_600 := il_600
    refine wq_le (fun hc_3228 => ?_) (fun hc_3229 => ?_)
    · have l_1 := il_1
      exact wq_s ⟨(show 0 ≤ (1 : Int32).toInt ∧ (1 : Int32).toInt ≤ 1 from ⟨by omega, by omega⟩), k_I0_l10, k_I1_l10, trivial⟩
    · refine wq_b (tt_fX9_isAtEnd hN I1_l10 M1_l10 k_I1_l10) (fun r3_q3230 h_r3_q3230 => ?_)
      obtain ⟨h_r3_q3230_0, -⟩ := h_r3_q3230
      have l_0 := il_0
      refine wq_eq (fun hc_3231 => ?_) (fun hc_3232 => ?_)
      · refine wq_b (tt_fX1_readEntry hN I0_l10 M0_l10 I1_l10 M1_l10 k_I0_l10 k_I1_l10) (fun r4_q3233 h_r4_q3233 => ?_)
        obtain ⟨h_r4_q3233_0, h_r4_q3233_1, h_r4_q3233_2, -⟩ := h_r4_q3233
        refine wq_eq (fun hc_3234 => ?_) (fun hc_3235 => ?_)
        · exact wq_s ⟨(show 0 ≤ (0 : Int32).toInt ∧ (0 : Int32).toInt ≤ 1 from ⟨by omega, by omega⟩), h_r4_q3233_1, h_r4_q3233_2, trivial⟩
        · have l_1 := il_1
          have t_3237 := ia_add y10_2 (1 : Int32) (by omega) (by omega)
          refine wq_v (fun v5_q3236 h_v5_q3236 => ?_)
          have t_v5_q3236 := congrArg Int32.toInt h_v5_q3236
          exact ih r4_q3233.2.1 r4_q3233.2.2.1 r4_q3233.2.2.2.1 r4_q3233.2.2.2.2 v5_q3236 ⟨by omega, by omega⟩ h_r4_q3233_1 h_r4_q3233_2 (by omega)
      · have l_1 := il_1
        exact wq_s ⟨(show 0 ≤ (1 : Int32).toInt ∧ (1 : Int32).toInt ≤ 1 from ⟨by omega, by omega⟩), k_I0_l10, k_I1_l10, trivial⟩
set_option maxHeartbeats 4000000 in
theorem tt_fX1_readEntries {N : Nat} (hN : 3000000000 ≤ N) (I0 : Nat → Int32) (M0 : Nat → Nat → Int32) (I1 : Nat → Int32) (M1 : Nat → Nat → Int32) (k_I0 : KX1 I0 M0) (k_I1 : KX9 I1 M1) : wq (fX1_readEntries N I0 M0 I1 M1) (fun r => (0 ≤ r.1.toInt ∧ r.1.toInt ≤ 1) ∧ KX1 r.2.1 r.2.2.1 ∧ KX9 r.2.2.2.1 r.2.2.2.2 ∧ True) := by
  unfold fX1_readEntries
  have l_m1 := il_m1
  refine wq_b (tt_fJ7_fill_53178 hN 22 (M0 1) ((-1) : Int32) (by omega)) (fun r1_q3238 h_r1_q3238 => ?_)
  obtain ⟨h_r1_q3238_0, -⟩ := h_r1_q3238
  refine wq_v (fun M0_2_q3239 h_M0_2_q3239 => ?_)
  have k_M0_2_q3239 : KX1 I0 M0_2_q3239 := by rw [h_M0_2_q3239]; exact KX1.sf1 k_I0 (by rw [h_r1_q3238_0]; exact fill_rng (KX1.m1 k_I0)) (by rw [h_r1_q3238_0]; exact fill_dn)
  have l_0 := il_0
  exact tt_fX1_readEntries_L10 hN N I0 M0_2_q3239 I1 M1 (0 : Int32) ⟨by omega, by omega⟩ k_M0_2_q3239 k_I1 (by omega)
set_option maxHeartbeats 4000000 in
theorem tt_fX1_howManyTell_L4 {N : Nat} (hN : 3000000000 ≤ N) (I0 : Nat → Int32) (M0 : Nat → Nat → Int32) (k_I0 : KX1 I0 M0)  : ∀ (fu : Nat) (y4_1 : Int32) (y4_2 : Int32), (0 ≤ y4_2.toInt ∧ y4_2.toInt ≤ 120) → (120 - y4_2.toInt) < (fu : Int) → wq (fX1_howManyTell_L4 N I0 M0 fu y4_1 y4_2) (fun r => True) := by
  intro fu
  induction fu with
  | zero => intro y4_1 y4_2 h_y4_2 hm; exfalso; omega
  | succ fu ih =>
    intro y4_1 y4_2 h_y4_2 hm
    rw [fX1_howManyTell_L4.eq_2]
    have l_120 := il_120
    refine wq_le (fun hc_3415 => ?_) (fun hc_3416 => ?_)
    · have b_3417 := i32b y4_1
      exact wq_s trivial
    · refine wq_b (tt_fX1_tellsSomething hN I0 M0 y4_2 ⟨by omega, by omega⟩ k_I0) (fun r1_q3418 h_r1_q3418 => ?_)
      obtain ⟨h_r1_q3418_0, -⟩ := h_r1_q3418
      have l_0 := il_0
      refine wq_eq (fun hc_3419 => ?_) (fun hc_3420 => ?_)
      · have l_1 := il_1
        have t_3422 := ia_add y4_2 (1 : Int32) (by omega) (by omega)
        refine wq_v (fun v2_q3421 h_v2_q3421 => ?_)
        have t_v2_q3421 := congrArg Int32.toInt h_v2_q3421
        have b_3423 := i32b y4_1
        exact ih y4_1 v2_q3421 ⟨by omega, by omega⟩ (by omega)
      · have b_3425 := i32b y4_1
        have l_1 := il_1
        refine wq_v (fun v3_q3424 h_v3_q3424 => ?_)
        have t_v3_q3424 := congrArg Int32.toInt h_v3_q3424
        have t_3427 := ia_add y4_2 (1 : Int32) (by omega) (by omega)
        refine wq_v (fun v4_q3426 h_v4_q3426 => ?_)
        have t_v4_q3426 := congrArg Int32.toInt h_v4_q3426
        have b_3428 := i32b v3_q3424
        exact ih v3_q3424 v4_q3426 ⟨by omega, by omega⟩ (by omega)
set_option maxHeartbeats 4000000 in
theorem tt_fX1_howManyTell {N : Nat} (hN : 3000000000 ≤ N) (I0 : Nat → Int32) (M0 : Nat → Nat → Int32) (k_I0 : KX1 I0 M0) : wq (fX1_howManyTell N I0 M0) (fun r => True) := by
  unfold fX1_howManyTell
  have l_0 := il_0
  exact tt_fX1_howManyTell_L4 hN I0 M0 k_I0 N (0 : Int32) (0 : Int32) ⟨by omega, by omega⟩ (by omega)
