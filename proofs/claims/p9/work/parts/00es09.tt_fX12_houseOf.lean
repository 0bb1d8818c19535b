set_option maxHeartbeats 4000000 in
theorem tt_fX12_houseOf {N : Nat} (hN : 3000000000 ≤ N) (I0 : Nat → Int32) (L0 : Int64) (M0 : Nat → Nat → Int32) (x1 : Int32) (x2 : Int32) (x3 : Int32) (x4 : Int32) (k_I0 : KX12 I0 M0) : wq (fX12_houseOf N I0 L0 M0 x1 x2 x3 x4) (fun r => (-359 ≤ r.1.toInt ∧ r.1.toInt ≤ 359) ∧ KX12 r.2.1 r.2.2.2 ∧ True) := by
  unfold fX12_houseOf
  refine wq_v (fun I0_4_q47265 h_I0_4_q47265 => ?_)
  have k_I0_4_q47265 : KX12 I0_4_q47265 M0 := by rw [h_I0_4_q47265]; exact KX12.si0 k_I0
  have b_47266 := i32b x1
  have l_0 := il_0
  have l_359 := il_359
  refine wq_b (tt_fX12_within hN x1 (0 : Int32) (359 : Int32)) (fun r5_q47267 h_r5_q47267 => ?_)
  obtain ⟨h_r5_q47267_0, h_r5_q47267_1, -⟩ := h_r5_q47267
  refine wq_eq (fun hc_47268 => ?_) (fun hc_47269 => ?_)
  · unfold fX12_houseOf_J32
    unfold fX12_houseOf_J33
    have l_1 := il_1
    refine wq_b (tt_fX12_right hN I0_4_q47265 L0 M0 (0 : Int32) (1 : Int32) ⟨by omega, by omega⟩ k_I0_4_q47265) (fun r1_q47270 h_r1_q47270 => ?_)
    obtain ⟨h_r1_q47270_0, h_r1_q47270_1, h_r1_q47270_2, h_r1_q47270_3, -⟩ := h_r1_q47270
    have t_47271 := KX12.i1 h_r1_q47270_3
    have t_47272 := KX12.i1 k_I0
    have t_47273 : (I0_4_q47265 1).toInt = (I0 1).toInt := by rw [h_I0_4_q47265]; rfl
    refine wq_eq (fun hc_47274 => ?_) (fun hc_47275 => ?_)
    · exact wq_s ⟨(show -359 ≤ (0 : Int32).toInt ∧ (0 : Int32).toInt ≤ 359 from ⟨by omega, by omega⟩), h_r1_q47270_3, trivial⟩
    · have b_47276 := i32b x2
      have b_47277 := i32b x3
      refine wq_b (tt_fX12_isWay hN r1_q47270.2.1 r1_q47270.2.2.1 r1_q47270.2.2.2 x2 x3 h_r1_q47270_3) (fun r2_q47278 h_r2_q47278 => ?_)
      obtain ⟨h_r2_q47278_0, h_r2_q47278_1, h_r2_q47278_2, h_r2_q47278_3, -⟩ := h_r2_q47278
      have t_47279 := KX12.i1 h_r2_q47278_3
      refine wq_eq (fun hc_47280 => ?_) (fun hc_47281 => ?_)
      · exact wq_s ⟨(show -359 ≤ (0 : Int32).toInt ∧ (0 : Int32).toInt ≤ 359 from ⟨by omega, by omega⟩), h_r2_q47278_3, trivial⟩
      · have b_47282 := i32b x4
        refine wq_b (tt_fX12_houseAt hN r2_q47278.2.1 r2_q47278.2.2.1 r2_q47278.2.2.2 x1 x2 x3 x4 ⟨by omega, by omega⟩ ⟨by omega, by omega⟩ h_r2_q47278_3 (by omega)) (fun r3_q47283 h_r3_q47283 => ?_)
        obtain ⟨h_r3_q47283_0, -⟩ := h_r3_q47283
        exact wq_s ⟨(show -359 ≤ r3_q47283.toInt ∧ r3_q47283.toInt ≤ 359 from ⟨by omega, by omega⟩), h_r2_q47278_3, trivial⟩
  · have b_47284 := i32b x4
    have l_1 := il_1
    have l_12 := il_12
    refine wq_b (tt_fX12_within hN x4 (1 : Int32) (12 : Int32)) (fun r6_q47285 h_r6_q47285 => ?_)
    obtain ⟨h_r6_q47285_0, h_r6_q47285_1, -⟩ := h_r6_q47285
    refine wq_eq (fun hc_47286 => ?_) (fun hc_47287 => ?_)
    · unfold fX12_houseOf_J32
      unfold fX12_houseOf_J33
      refine wq_b (tt_fX12_right hN I0_4_q47265 L0 M0 (0 : Int32) (1 : Int32) ⟨by omega, by omega⟩ k_I0_4_q47265) (fun r1_q47288 h_r1_q47288 => ?_)
      obtain ⟨h_r1_q47288_0, h_r1_q47288_1, h_r1_q47288_2, h_r1_q47288_3, -⟩ := h_r1_q47288
      have t_47289 := KX12.i1 h_r1_q47288_3
      have t_47290 := KX12.i1 k_I0
      have t_47291 : (I0_4_q47265 1).toInt = (I0 1).toInt := by rw [h_I0_4_q47265]; rfl
      refine wq_eq (fun hc_47292 => ?_) (fun hc_47293 => ?_)
      · exact wq_s ⟨(show -359 ≤ (0 : Int32).toInt ∧ (0 : Int32).toInt ≤ 359 from ⟨by omega, by omega⟩), h_r1_q47288_3, trivial⟩
      · have b_47294 := i32b x2
        have b_47295 := i32b x3
        refine wq_b (tt_fX12_isWay hN r1_q47288.2.1 r1_q47288.2.2.1 r1_q47288.2.2.2 x2 x3 h_r1_q47288_3) (fun r2_q47296 h_r2_q47296 => ?_)
        obtain ⟨h_r2_q47296_0, h_r2_q47296_1, h_r2_q47296_2, h_r2_q47296_3, -⟩ := h_r2_q47296
        have t_47297 := KX12.i1 h_r2_q47296_3
        refine wq_eq (fun hc_47298 => ?_) (fun hc_47299 => ?_)
        · exact wq_s ⟨(show -359 ≤ (0 : Int32).toInt ∧ (0 : Int32).toInt ≤ 359 from ⟨by omega, by omega⟩), h_r2_q47296_3, trivial⟩
        · refine wq_b (tt_fX12_houseAt hN r2_q47296.2.1 r2_q47296.2.2.1 r2_q47296.2.2.2 x1 x2 x3 x4 ⟨by omega, by omega⟩ ⟨by omega, by omega⟩ h_r2_q47296_3 (by omega)) (fun r3_q47300 h_r3_q47300 => ?_)
          obtain ⟨h_r3_q47300_0, -⟩ := h_r3_q47300
          exact wq_s ⟨(show -359 ≤ r3_q47300.toInt ∧ r3_q47300.toInt ≤ 359 from ⟨by omega, by omega⟩), h_r2_q47296_3, trivial⟩
    · unfold fX12_houseOf_J33
      refine wq_b (tt_fX12_right hN I0_4_q47265 L0 M0 (1 : Int32) (1 : Int32) ⟨by omega, by omega⟩ k_I0_4_q47265) (fun r1_q47301 h_r1_q47301 => ?_)
      obtain ⟨h_r1_q47301_0, h_r1_q47301_1, h_r1_q47301_2, h_r1_q47301_3, -⟩ := h_r1_q47301
      have t_47302 := KX12.i1 h_r1_q47301_3
      have t_47303 := KX12.i1 k_I0
      have t_47304 : (I0_4_q47265 1).toInt = (I0 1).toInt := by rw [h_I0_4_q47265]; rfl
      refine wq_eq (fun hc_47305 => ?_) (fun hc_47306 => ?_)
      · exact wq_s ⟨(show -359 ≤ (0 : Int32).toInt ∧ (0 : Int32).toInt ≤ 359 from ⟨by omega, by omega⟩), h_r1_q47301_3, trivial⟩
      · have b_47307 := i32b x2
        have b_47308 := i32b x3
        refine wq_b (tt_fX12_isWay hN r1_q47301.2.1 r1_q47301.2.2.1 r1_q47301.2.2.2 x2 x3 h_r1_q47301_3) (fun r2_q47309 h_r2_q47309 => ?_)
        obtain ⟨h_r2_q47309_0, h_r2_q47309_1, h_r2_q47309_2, h_r2_q47309_3, -⟩ := h_r2_q47309
        have t_47310 := KX12.i1 h_r2_q47309_3
        refine wq_eq (fun hc_47311 => ?_) (fun hc_47312 => ?_)
        · exact wq_s ⟨(show -359 ≤ (0 : Int32).toInt ∧ (0 : Int32).toInt ≤ 359 from ⟨by omega, by omega⟩), h_r2_q47309_3, trivial⟩
        · refine wq_b (tt_fX12_houseAt hN r2_q47309.2.1 r2_q47309.2.2.1 r2_q47309.2.2.2 x1 x2 x3 x4 ⟨by omega, by omega⟩ ⟨by omega, by omega⟩ h_r2_q47309_3 (by omega)) (fun r3_q47313 h_r3_q47313 => ?_)
          obtain ⟨h_r3_q47313_0, -⟩ := h_r3_q47313
          exact wq_s ⟨(show -359 ≤ r3_q47313.toInt ∧ r3_q47313.toInt ≤ 359 from ⟨by omega, by omega⟩), h_r2_q47309_3, trivial⟩
