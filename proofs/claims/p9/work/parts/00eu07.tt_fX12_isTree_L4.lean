set_option maxHeartbeats 4000000 in
theorem tt_fX12_isTree_L4 {N : Nat} (hN : 3000000000 ≤ N) (I0 : Nat → Int32) (L0 : Int64) (M0 : Nat → Nat → Int32) (k_I0 : KX12 I0 M0)  : ∀ (fu : Nat) (y4_1 : Int32) (y4_2 : Int32), (0 ≤ y4_2.toInt ∧ y4_2.toInt ≤ 6) → (6 - y4_2.toInt) < (fu : Int) → wq (fX12_isTree_L4 N I0 L0 M0 fu y4_1 y4_2) (fun r => (0 ≤ r.toInt ∧ r.toInt ≤ 1) ∧ True) := by
  intro fu
  induction fu with
  | zero => intro y4_1 y4_2 h_y4_2 hm; exfalso; omega
  | succ fu ih =>
    intro y4_1 y4_2 h_y4_2 hm
    rw [fX12_isTree_L4.eq_2]
    have l_6 := il_6
    refine wq_le (fun hc_53152 => ?_) (fun hc_53153 => ?_)
    · have b_53154 := i32b y4_1
      have l_1 := il_1
      refine wq_eq (fun hc_53155 => ?_) (fun hc_53156 => ?_)
      · exact wq_s ⟨(show 0 ≤ (1 : Int32).toInt ∧ (1 : Int32).toInt ≤ 1 from ⟨by omega, by omega⟩), trivial⟩
      · have l_0 := il_0
        exact wq_s ⟨(show 0 ≤ (0 : Int32).toInt ∧ (0 : Int32).toInt ≤ 1 from ⟨by omega, by omega⟩), trivial⟩
    · refine wq_in (n := 6) ⟨by omega, by omega⟩ ?_
      have l_0 := il_0
      refine wq_eq (fun hc_53157 => ?_) (fun hc_53158 => ?_)
      · have l_1 := il_1
        have t_53160 := ia_add y4_2 (1 : Int32) (by omega) (by omega)
        refine wq_v (fun v5_q53159 h_v5_q53159 => ?_)
        have t_v5_q53159 := congrArg Int32.toInt h_v5_q53159
        have b_53161 := i32b y4_1
        exact ih y4_1 v5_q53159 ⟨by omega, by omega⟩ (by omega)
      · refine wq_in (n := 6) ⟨by omega, by omega⟩ ?_
        have t_53162 := KX12.m24 k_I0 y4_2.toNatClampNeg
        have l_m1 := il_m1
        refine wq_eq (fun hc_53163 => ?_) (fun hc_53164 => ?_)
        · have b_53166 := i32b y4_1
          have l_1 := il_1
          refine wq_v (fun v4_q53165 h_v4_q53165 => ?_)
          have t_v4_q53165 := congrArg Int32.toInt h_v4_q53165
          unfold fX12_isTree_J35
          refine wq_in (n := 6) ⟨by omega, by omega⟩ ?_
          refine wq_eq (fun hc_53167 => ?_) (fun hc_53168 => ?_)
          · unfold fX12_isTree_J71
            have b_53169 := i32b v4_q53165
            exact tt_fX12_isTree_L76 hN I0 L0 M0 v4_q53165 y4_2 _ ⟨by omega, by omega⟩ k_I0 (fun q0 q1 hq0 hq1 => ih q0 q1 hq0 (by omega)) N y4_2 (0 : Int32) ⟨by omega, by omega⟩ ⟨by omega, by omega⟩ (by omega)
          · exfalso; omega
        · unfold fX12_isTree_J35
          refine wq_in (n := 6) ⟨by omega, by omega⟩ ?_
          refine wq_eq (fun hc_53170 => ?_) (fun hc_53171 => ?_)
          · exfalso; omega
          · refine wq_in (n := 6) ⟨by omega, by omega⟩ ?_
            refine wq_in (n := 6) ⟨by omega, by omega⟩ ?_
            refine wq_eq (fun hc_53172 => ?_) (fun hc_53173 => ?_)
            · exact wq_s ⟨(show 0 ≤ (0 : Int32).toInt ∧ (0 : Int32).toInt ≤ 1 from ⟨by omega, by omega⟩), trivial⟩
            · refine wq_in (n := 6) ⟨by omega, by omega⟩ ?_
              refine wq_eq (fun hc_53174 => ?_) (fun hc_53175 => ?_)
              · exact wq_s ⟨(show 0 ≤ (0 : Int32).toInt ∧ (0 : Int32).toInt ≤ 1 from ⟨by omega, by omega⟩), trivial⟩
              · unfold fX12_isTree_J71
                have b_53176 := i32b y4_1
                exact tt_fX12_isTree_L76 hN I0 L0 M0 y4_1 y4_2 _ ⟨by omega, by omega⟩ k_I0 (fun q0 q1 hq0 hq1 => ih q0 q1 hq0 (by omega)) N y4_2 (0 : Int32) ⟨by omega, by omega⟩ ⟨by omega, by omega⟩ (by omega)
