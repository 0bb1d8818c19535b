set_option maxHeartbeats 4000000 in
theorem tt_fX12_isTree_L76 {N : Nat} (hN : 3000000000 ≤ N) (I0 : Nat → Int32) (L0 : Int64) (M0 : Nat → Nat → Int32) (y71_1 : Int32) (y71_2 : Int32) (g4 : Int32 → Int32 → Option (Int32)) (h_y71_2 : 0 ≤ y71_2.toInt ∧ y71_2.toInt ≤ 5) (k_I0 : KX12 I0 M0) (hg4 : ∀ (q0 : Int32) (q1 : Int32), (0 ≤ q1.toInt ∧ q1.toInt ≤ 6) → (y71_2.toInt < q1.toInt) → wq (g4 q0 q1) (fun r => (0 ≤ r.toInt ∧ r.toInt ≤ 1) ∧ True)) : ∀ (fu : Nat) (y76_3 : Int32) (y76_4 : Int32), (0 ≤ y76_3.toInt ∧ y76_3.toInt ≤ 5) → (0 ≤ y76_4.toInt ∧ y76_4.toInt ≤ 6) → (6 - y76_4.toInt) < (fu : Int) → wq (fX12_isTree_L76 N I0 L0 M0 y71_1 y71_2 g4 fu y76_3 y76_4) (fun r => (0 ≤ r.toInt ∧ r.toInt ≤ 1) ∧ True) := by
  intro fu
  induction fu with
  | zero => intro y76_3 y76_4 h_y76_3 h_y76_4 hm; exfalso; omega
  | succ fu ih =>
    intro y76_3 y76_4 h_y76_3 h_y76_4 hm
    rw [fX12_isTree_L76.eq_2]
    refine wq_in (n := 6) ⟨by omega, by omega⟩ ?_
    have t_53135 := KX12.m24 k_I0 y76_3.toNatClampNeg
    have l_m1 := il_m1
    refine wq_eq (fun hc_53136 => ?_) (fun hc_53137 => ?_)
    · unfold fX12_isTree_J114
      refine wq_in (n := 6) ⟨by omega, by omega⟩ ?_
      refine wq_eq (fun hc_53138 => ?_) (fun hc_53139 => ?_)
      · have l_1 := il_1
        have t_53141 := ia_add y71_2 (1 : Int32) (by omega) (by omega)
        refine wq_v (fun v1_q53140 h_v1_q53140 => ?_)
        have t_v1_q53140 := congrArg Int32.toInt h_v1_q53140
        have b_53142 := i32b y71_1
        exact hg4 y71_1 v1_q53140 ⟨by omega, by omega⟩ (by omega)
      · exfalso; omega
    · have l_6 := il_6
      refine wq_le (fun hc_53143 => ?_) (fun hc_53144 => ?_)
      · unfold fX12_isTree_J114
        refine wq_in (n := 6) ⟨by omega, by omega⟩ ?_
        refine wq_eq (fun hc_53145 => ?_) (fun hc_53146 => ?_)
        · exfalso; omega
        · have l_0 := il_0
          exact wq_s ⟨(show 0 ≤ (0 : Int32).toInt ∧ (0 : Int32).toInt ≤ 1 from ⟨by omega, by omega⟩), trivial⟩
      · refine wq_in (n := 6) ⟨by omega, by omega⟩ ?_
        refine wq_v (fun v2_q53147 h_v2_q53147 => ?_)
        have t_v2_q53147 := congrArg Int32.toInt h_v2_q53147
        have l_1 := il_1
        have t_53149 := ia_add y76_4 (1 : Int32) (by omega) (by omega)
        refine wq_v (fun v3_q53148 h_v3_q53148 => ?_)
        have t_v3_q53148 := congrArg Int32.toInt h_v3_q53148
        refine wq_in (n := 6) ⟨by omega, by omega⟩ ?_
        have l_0 := il_0
        refine wq_eq (fun hc_53150 => ?_) (fun hc_53151 => ?_)
        · exact wq_s ⟨(show 0 ≤ (0 : Int32).toInt ∧ (0 : Int32).toInt ≤ 1 from ⟨by omega, by omega⟩), trivial⟩
        · exact ih v2_q53147 v3_q53148 ⟨by omega, by omega⟩ ⟨by omega, by omega⟩ (by omega)
