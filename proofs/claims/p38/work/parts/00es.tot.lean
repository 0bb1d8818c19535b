set_option maxHeartbeats 4000000 in
theorem tt_fX12_isTree_L4 {N : Nat} (hN : 3000000000 ≤ N) (I0 : Nat → Int32) (L0 : Int64) (M0 : Nat → Nat → Int32) (k_I0 : KX12 I0 M0)  : ∀ (fu : Nat) (y4_1 : Int32) (y4_2 : Int32), (0 ≤ y4_2.toInt ∧ y4_2.toInt ≤ 6) → (6 - y4_2.toInt) < (fu : Int) → wq (fX12_isTree_L4 N I0 L0 M0 fu y4_1 y4_2) (fun r => (0 ≤ r.toInt ∧ r.toInt ≤ 1) ∧ True) := by
  intro fu
  induction fu with
  | zero => intro y4_1 y4_2 h_y4_2 hm; exfalso; omega
  | succ fu ih =>
    intro y4_1 y4_2 h_y4_2 hm
    rw [fX12_isTree_L4.eq_2]
    have l_6 := il_6
    refine wq_le (fun hc_48435 => ?_) (fun hc_48436 => ?_)
    · have b_48437 := i32b y4_1
      have l_1 := il_1
      refine wq_eq (fun hc_48438 => ?_) (fun hc_48439 => ?_)
      · exact wq_s ⟨(show 0 ≤ (1 : Int32).toInt ∧ (1 : Int32).toInt ≤ 1 from ⟨by omega, by omega⟩), trivial⟩
      · have l_0 := il_0
        exact wq_s ⟨(show 0 ≤ (0 : Int32).toInt ∧ (0 : Int32).toInt ≤ 1 from ⟨by omega, by omega⟩), trivial⟩
    · refine wq_in (n := 6) ⟨by omega, by omega⟩ ?_
      have l_0 := il_0
      refine wq_eq (fun hc_48440 => ?_) (fun hc_48441 => ?_)
      · have l_1 := il_1
        have t_48443 := ia_add y4_2 (1 : Int32) (by omega) (by omega)
        refine wq_v (fun v5_q48442 h_v5_q48442 => ?_)
        have t_v5_q48442 := congrArg Int32.toInt h_v5_q48442
        have b_48444 := i32b y4_1
        exact ih y4_1 v5_q48442 ⟨by omega, by omega⟩ (by omega)
      · refine wq_in (n := 6) ⟨by omega, by omega⟩ ?_
        have t_48445 := KX12.m24 k_I0 y4_2.toNatClampNeg
        have l_m1 := il_m1
        refine wq_eq (fun hc_48446 => ?_) (fun hc_48447 => ?_)
        · have b_48449 := i32b y4_1
          have l_1 := il_1
          refine wq_v (fun v4_q48448 h_v4_q48448 => ?_)
          have t_v4_q48448 := congrArg Int32.toInt h_v4_q48448
          unfold fX12_isTree_J35
          refine wq_in (n := 6) ⟨by omega, by omega⟩ ?_
          refine wq_eq (fun hc_48450 => ?_) (fun hc_48451 => ?_)
          · unfold fX12_isTree_J71
            have b_48452 := i32b v4_q48448
            exact tt_fX12_isTree_L76 hN I0 L0 M0 v4_q48448 y4_2 _ ⟨by omega, by omega⟩ k_I0 (fun q0 q1 hq0 hq1 => ih q0 q1 hq0 (by omega)) N y4_2 (0 : Int32) ⟨by omega, by omega⟩ ⟨by omega, by omega⟩ (by omega)
          · exfalso; omega
        · unfold fX12_isTree_J35
          refine wq_in (n := 6) ⟨by omega, by omega⟩ ?_
          refine wq_eq (fun hc_48453 => ?_) (fun hc_48454 => ?_)
          · exfalso; omega
          · refine wq_in (n := 6) ⟨by omega, by omega⟩ ?_
            refine wq_in (n := 6) ⟨by omega, by omega⟩ ?_
            refine wq_eq (fun hc_48455 => ?_) (fun hc_48456 => ?_)
            · exact wq_s ⟨(show 0 ≤ (0 : Int32).toInt ∧ (0 : Int32).toInt ≤ 1 from ⟨by omega, by omega⟩), trivial⟩
            · refine wq_in (n := 6) ⟨by omega, by omega⟩ ?_
              refine wq_eq (fun hc_48457 => ?_) (fun hc_48458 => ?_)
              · exact wq_s ⟨(show 0 ≤ (0 : Int32).toInt ∧ (0 : Int32).toInt ≤ 1 from ⟨by omega, by omega⟩), trivial⟩
              · unfold fX12_isTree_J71
                have b_48459 := i32b y4_1
                exact tt_fX12_isTree_L76 hN I0 L0 M0 y4_1 y4_2 _ ⟨by omega, by omega⟩ k_I0 (fun q0 q1 hq0 hq1 => ih q0 q1 hq0 (by omega)) N y4_2 (0 : Int32) ⟨by omega, by omega⟩ ⟨by omega, by omega⟩ (by omega)
set_option maxHeartbeats 4000000 in
theorem tt_fX12_isTree {N : Nat} (hN : 3000000000 ≤ N) (I0 : Nat → Int32) (L0 : Int64) (M0 : Nat → Nat → Int32) (k_I0 : KX12 I0 M0) : wq (fX12_isTree N I0 L0 M0) (fun r => (0 ≤ r.toInt ∧ r.toInt ≤ 1) ∧ True) := by
  unfold fX12_isTree
  have l_0 := il_0
  exact tt_fX12_isTree_L4 hN I0 L0 M0 k_I0 N (0 : Int32) (0 : Int32) ⟨by omega, by omega⟩ (by omega)
set_option maxHeartbeats 4000000 in
theorem tt_fX12_tree_L274 {N : Nat} (hN : 3000000000 ≤ N) (y258_4 : Int32) (y258_7 : Int32) (y94_3 : Int32) (g9 : (Nat → Int32) → Int64 → (Nat → Nat → Int32) → Int32 → Int32 → Option (Int32 × (Nat → Int32) × Int64 × (Nat → Nat → Int32))) (g57 : (Nat → Int32) → Int64 → (Nat → Nat → Int32) → Int32 → Option (Int32 × (Nat → Int32) × Int64 × (Nat → Nat → Int32))) (g94 : (Nat → Int32) → Int64 → (Nat → Nat → Int32) → Int32 → Int32 → Option (Int32 × (Nat → Int32) × Int64 × (Nat → Nat → Int32))) (g115 : (Nat → Int32) → Int64 → (Nat → Nat → Int32) → Int32 → Int32 → Option (Int32 × (Nat → Int32) × Int64 × (Nat → Nat → Int32))) (h_y258_4 : -2147483648 ≤ y258_4.toInt ∧ y258_4.toInt ≤ 2147483646) (h_y94_3 : -2147483647 ≤ y94_3.toInt ∧ y94_3.toInt ≤ 2147483647) (hg115 : ∀ (q0 : (Nat → Int32)) (q1 : Int64) (q2 : (Nat → Nat → Int32)) (q3 : Int32) (q4 : Int32), (-2147483647 ≤ q4.toInt ∧ q4.toInt ≤ 2147483647) → (KX12 q0 q2) → (y258_4.toInt < q4.toInt) → wq (g115 q0 q1 q2 q3 q4) (fun r => KX12 r.2.1 r.2.2.2 ∧ True)) : ∀ (fu : Nat) (I0_l274 : (Nat → Int32)) (L0_l274 : Int64) (M0_l274 : (Nat → Nat → Int32)) (y274_8 : Int32), (0 ≤ y274_8.toInt ∧ y274_8.toInt ≤ 6) → (KX12 I0_l274 M0_l274) → (6 - y274_8.toInt) < (fu : Int) → wq (fX12_tree_L274 N y258_4 y258_7 y94_3 g9 g57 g94 g115 fu I0_l274 L0_l274 M0_l274 y274_8) (fun r => KX12 r.2.1 r.2.2.2 ∧ True) := by
  intro fu
  induction fu with
  | zero => intro I0_l274 L0_l274 M0_l274 y274_8 h_y274_8 k_I0_l274 hm; exfalso; omega
  | succ fu ih =>
    intro I0_l274 L0_l274 M0_l274 y274_8 h_y274_8 k_I0_l274 hm
    rw [fX12_tree_L274.eq_2]
    have l_6 := il_6
    refine wq_le (fun hc_52177 => ?_) (fun hc_52178 => ?_)
    · have b_52180 := i32b y258_4
      have l_1 := il_1
      have t_52181 := ia_add y258_4 (1 : Int32) (by omega) (by omega)
      refine wq_v (fun v3_q52179 h_v3_q52179 => ?_)
      have t_v3_q52179 := congrArg Int32.toInt h_v3_q52179
      have b_52182 := i32b y258_7
      have b_52183 := i32b v3_q52179
      exact hg115 I0_l274 L0_l274 M0_l274 y258_7 v3_q52179 ⟨by omega, by omega⟩ k_I0_l274 (by omega)
    · refine wq_in (n := 6) ⟨by omega, by omega⟩ ?_
      have l_0 := il_0
      refine wq_eq (fun hc_52184 => ?_) (fun hc_52185 => ?_)
      · refine wq_in (n := 6) ⟨by omega, by omega⟩ ?_
        refine wq_v (fun M0_4_q52186 h_M0_4_q52186 => ?_)
        have l_m2 := il_m2
        have k_M0_4_q52186 : KX12 I0_l274 M0_4_q52186 := by rw [h_M0_4_q52186]; exact KX12.sm23 k_I0_l274 ⟨by omega, by omega⟩
        have l_1 := il_1
        have t_52188 := ia_add y274_8 (1 : Int32) (by omega) (by omega)
        refine wq_v (fun v5_q52187 h_v5_q52187 => ?_)
        have t_v5_q52187 := congrArg Int32.toInt h_v5_q52187
        exact ih I0_l274 L0_l274 M0_4_q52186 v5_q52187 ⟨by omega, by omega⟩ k_M0_4_q52186 (by omega)
      · refine wq_in (n := 6) ⟨by omega, by omega⟩ ?_
        refine wq_in (n := 6) ⟨by omega, by omega⟩ ?_
        refine wq_v (fun M0_6_q52189 h_M0_6_q52189 => ?_)
        have t_52190 := KX12.m24 k_I0_l274 y274_8.toNatClampNeg
        have k_M0_6_q52189 : KX12 I0_l274 M0_6_q52189 := by rw [h_M0_6_q52189]; exact KX12.sm23 k_I0_l274 ⟨by omega, by omega⟩
        have l_1 := il_1
        have t_52192 := ia_add y274_8 (1 : Int32) (by omega) (by omega)
        refine wq_v (fun v7_q52191 h_v7_q52191 => ?_)
        have t_v7_q52191 := congrArg Int32.toInt h_v7_q52191
        exact ih I0_l274 L0_l274 M0_6_q52189 v7_q52191 ⟨by omega, by omega⟩ k_M0_6_q52189 (by omega)
set_option maxHeartbeats 4000000 in
theorem tt_fX12_tree_L134 {N : Nat} (hN : 3000000000 ≤ N) (y115_2 : Int32) (y115_4 : Int32) (y94_3 : Int32) (g9 : (Nat → Int32) → Int64 → (Nat → Nat → Int32) → Int32 → Int32 → Option (Int32 × (Nat → Int32) × Int64 × (Nat → Nat → Int32))) (g57 : (Nat → Int32) → Int64 → (Nat → Nat → Int32) → Int32 → Option (Int32 × (Nat → Int32) × Int64 × (Nat → Nat → Int32))) (g94 : (Nat → Int32) → Int64 → (Nat → Nat → Int32) → Int32 → Int32 → Option (Int32 × (Nat → Int32) × Int64 × (Nat → Nat → Int32))) (g115 : (Nat → Int32) → Int64 → (Nat → Nat → Int32) → Int32 → Int32 → Option (Int32 × (Nat → Int32) × Int64 × (Nat → Nat → Int32))) (h_y115_4 : -2147483647 ≤ y115_4.toInt ∧ y115_4.toInt ≤ 2147483646) (h_y94_3 : -2147483646 ≤ y94_3.toInt ∧ y94_3.toInt ≤ 2147483647) (hg115 : ∀ (q0 : (Nat → Int32)) (q1 : Int64) (q2 : (Nat → Nat → Int32)) (q3 : Int32) (q4 : Int32), (-2147483647 ≤ q4.toInt ∧ q4.toInt ≤ 2147483647) → (KX12 q0 q2) → (y115_4.toInt < q4.toInt) → wq (g115 q0 q1 q2 q3 q4) (fun r => KX12 r.2.1 r.2.2.2 ∧ True)) : ∀ (fu : Nat) (I0_l134 : (Nat → Int32)) (L0_l134 : Int64) (M0_l134 : (Nat → Nat → Int32)) (y134_5 : Int32) (y134_6 : Int32) (y134_7 : Int32) (y134_8 : Int32), (-2147483647 ≤ y134_5.toInt ∧ y134_5.toInt ≤ 2147483646) → (0 ≤ y134_6.toInt ∧ y134_6.toInt ≤ 1) → (-1 ≤ y134_8.toInt ∧ y134_8.toInt ≤ 5) → (KX12 I0_l134 M0_l134) → (y134_8.toInt - -1) < (fu : Int) → wq (fX12_tree_L134 N y115_2 y115_4 y94_3 g9 g57 g94 g115 fu I0_l134 L0_l134 M0_l134 y134_5 y134_6 y134_7 y134_8) (fun r => KX12 r.2.1 r.2.2.2 ∧ True) := by
  intro fu
  induction fu with
  | zero => intro I0_l134 L0_l134 M0_l134 y134_5 y134_6 y134_7 y134_8 h_y134_5 h_y134_6 h_y134_8 k_I0_l134 hm; exfalso; omega
  | succ fu ih =>
    intro I0_l134 L0_l134 M0_l134 y134_5 y134_6 y134_7 y134_8 h_y134_5 h_y134_6 h_y134_8 k_I0_l134 hm
    rw [fX12_tree_L134.eq_2]
    have l_0 := il_0
    refine wq_lt (fun hc_52193 => ?_) (fun hc_52194 => ?_)
    · refine wq_eq (fun hc_52195 => ?_) (fun hc_52196 => ?_)
      · have l_1 := il_1
        have t_52198 := ia_add y115_4 (1 : Int32) (by omega) (by omega)
        refine wq_v (fun v16_q52197 h_v16_q52197 => ?_)
        have t_v16_q52197 := congrArg Int32.toInt h_v16_q52197
        have b_52199 := i32b y115_2
        have b_52200 := i32b v16_q52197
        exact hg115 I0_l134 L0_l134 M0_l134 y115_2 v16_q52197 ⟨by omega, by omega⟩ k_I0_l134 (by omega)
      · have b_52201 := i32b y115_2
        have l_m1 := il_m1
        refine wq_eq (fun hc_52202 => ?_) (fun hc_52203 => ?_)
        · unfold fX12_tree_J258
          refine wq_b (tt_fX12_isTree hN I0_l134 L0_l134 M0_l134 k_I0_l134) (fun r2_q52204 h_r2_q52204 => ?_)
          obtain ⟨h_r2_q52204_0, -⟩ := h_r2_q52204
          refine wq_eq (fun hc_52205 => ?_) (fun hc_52206 => ?_)
          · have l_1 := il_1
            have t_52208 := ia_add y115_4 (1 : Int32) (by omega) (by omega)
            refine wq_v (fun v8_q52207 h_v8_q52207 => ?_)
            have t_v8_q52207 := congrArg Int32.toInt h_v8_q52207
            have b_52209 := i32b v8_q52207
            exact hg115 I0_l134 L0_l134 M0_l134 y115_2 v8_q52207 ⟨by omega, by omega⟩ k_I0_l134 (by omega)
          · have b_52210 := i32b y134_7
            have b_52211 := i32b y94_3
            exact tt_fX12_tree_L274 hN y115_4 y134_7 y94_3 g9 g57 g94 g115 ⟨by omega, by omega⟩ ⟨by omega, by omega⟩ hg115 N I0_l134 L0_l134 M0_l134 (0 : Int32) ⟨by omega, by omega⟩ k_I0_l134 (by omega)
        · have b_52212 := i32b y134_7
          refine wq_le (fun hc_52213 => ?_) (fun hc_52214 => ?_)
          · have l_1 := il_1
            have t_52216 := ia_add y115_4 (1 : Int32) (by omega) (by omega)
            refine wq_v (fun v17_q52215 h_v17_q52215 => ?_)
            have t_v17_q52215 := congrArg Int32.toInt h_v17_q52215
            have b_52217 := i32b v17_q52215
            exact hg115 I0_l134 L0_l134 M0_l134 y115_2 v17_q52215 ⟨by omega, by omega⟩ k_I0_l134 (by omega)
          · unfold fX12_tree_J258
            refine wq_b (tt_fX12_isTree hN I0_l134 L0_l134 M0_l134 k_I0_l134) (fun r2_q52218 h_r2_q52218 => ?_)
            obtain ⟨h_r2_q52218_0, -⟩ := h_r2_q52218
            refine wq_eq (fun hc_52219 => ?_) (fun hc_52220 => ?_)
            · have l_1 := il_1
              have t_52222 := ia_add y115_4 (1 : Int32) (by omega) (by omega)
              refine wq_v (fun v8_q52221 h_v8_q52221 => ?_)
              have t_v8_q52221 := congrArg Int32.toInt h_v8_q52221
              have b_52223 := i32b v8_q52221
              exact hg115 I0_l134 L0_l134 M0_l134 y115_2 v8_q52221 ⟨by omega, by omega⟩ k_I0_l134 (by omega)
            · have b_52224 := i32b y94_3
              exact tt_fX12_tree_L274 hN y115_4 y134_7 y94_3 g9 g57 g94 g115 ⟨by omega, by omega⟩ ⟨by omega, by omega⟩ hg115 N I0_l134 L0_l134 M0_l134 (0 : Int32) ⟨by omega, by omega⟩ k_I0_l134 (by omega)
    · refine wq_in (n := 6) ⟨by omega, by omega⟩ ?_
      refine wq_v (fun M0_18_q52225 h_M0_18_q52225 => ?_)
      have l_7 := il_7
      have t_52226 := ia_rem2 y134_5 (7 : Int32) 7 il_7 (by decide)
      have l_1 := il_1
      have t_52227 := ia_sub (y134_5 - ((y134_5 / (7 : Int32)) * (7 : Int32))) (1 : Int32) (by omega) (by omega)
      have k_M0_18_q52225 : KX12 I0_l134 M0_18_q52225 := by rw [h_M0_18_q52225]; exact KX12.sm24 k_I0_l134 ⟨by omega, by omega⟩
      have t_52229 := ia_div2 y134_5 (7 : Int32) 7 il_7 (by decide)
      refine wq_v (fun v19_q52228 h_v19_q52228 => ?_)
      have t_v19_q52228 := congrArg Int32.toInt h_v19_q52228
      refine wq_eq (fun hc_52230 => ?_) (fun hc_52231 => ?_)
      · unfold fX12_tree_J190
        unfold fX12_tree_J191
        refine wq_in (n := 6) ⟨by omega, by omega⟩ ?_
        have t_52232 := KX12.m24 k_M0_18_q52225 y134_8.toNatClampNeg
        have l_m1 := il_m1
        refine wq_eq (fun hc_52233 => ?_) (fun hc_52234 => ?_)
        · have b_52236 := i32b y134_7
          have t_52237 := ia_add y134_7 (0 : Int32) (by omega) (by omega)
          refine wq_v (fun v10_q52235 h_v10_q52235 => ?_)
          have t_v10_q52235 := congrArg Int32.toInt h_v10_q52235
          have t_52239 := ia_add y134_8 ((-1) : Int32) (by omega) (by omega)
          refine wq_v (fun v11_q52238 h_v11_q52238 => ?_)
          have t_v11_q52238 := congrArg Int32.toInt h_v11_q52238
          have b_52240 := i32b v10_q52235
          exact ih I0_l134 L0_l134 M0_18_q52225 v19_q52228 (0 : Int32) v10_q52235 v11_q52238 ⟨by omega, by omega⟩ ⟨by omega, by omega⟩ ⟨by omega, by omega⟩ k_M0_18_q52225 (by omega)
        · refine wq_eq (fun hc_52241 => ?_) (fun hc_52242 => ?_)
          · have b_52244 := i32b y134_7
            have t_52245 := ia_add y134_7 (0 : Int32) (by omega) (by omega)
            refine wq_v (fun v14_q52243 h_v14_q52243 => ?_)
            have t_v14_q52243 := congrArg Int32.toInt h_v14_q52243
            have t_52247 := ia_add y134_8 ((-1) : Int32) (by omega) (by omega)
            refine wq_v (fun v15_q52246 h_v15_q52246 => ?_)
            have t_v15_q52246 := congrArg Int32.toInt h_v15_q52246
            have b_52248 := i32b v14_q52243
            exact ih I0_l134 L0_l134 M0_18_q52225 v19_q52228 (0 : Int32) v14_q52243 v15_q52246 ⟨by omega, by omega⟩ ⟨by omega, by omega⟩ ⟨by omega, by omega⟩ k_M0_18_q52225 (by omega)
          · exfalso; omega
      · refine wq_in (n := 6) ⟨by omega, by omega⟩ ?_
        have t_52249 : (M0_18_q52225 26 y134_8.toNatClampNeg).toInt = (M0_l134 26 y134_8.toNatClampNeg).toInt := by rw [h_M0_18_q52225]; rfl
        refine wq_eq (fun hc_52250 => ?_) (fun hc_52251 => ?_)
        · refine wq_in (n := 6) ⟨by omega, by omega⟩ ?_
          have t_52252 := KX12.m24 k_M0_18_q52225 y134_8.toNatClampNeg
          have l_m1 := il_m1
          refine wq_eq (fun hc_52253 => ?_) (fun hc_52254 => ?_)
          · unfold fX12_tree_J186
            unfold fX12_tree_J191
            refine wq_in (n := 6) ⟨by omega, by omega⟩ ?_
            refine wq_eq (fun hc_52255 => ?_) (fun hc_52256 => ?_)
            · have b_52258 := i32b y134_7
              have t_52259 := ia_add y134_7 (0 : Int32) (by omega) (by omega)
              refine wq_v (fun v10_q52257 h_v10_q52257 => ?_)
              have t_v10_q52257 := congrArg Int32.toInt h_v10_q52257
              have t_52261 := ia_add y134_8 ((-1) : Int32) (by omega) (by omega)
              refine wq_v (fun v11_q52260 h_v11_q52260 => ?_)
              have t_v11_q52260 := congrArg Int32.toInt h_v11_q52260
              have b_52262 := i32b v10_q52257
              exact ih I0_l134 L0_l134 M0_18_q52225 v19_q52228 (1 : Int32) v10_q52257 v11_q52260 ⟨by omega, by omega⟩ ⟨by omega, by omega⟩ ⟨by omega, by omega⟩ k_M0_18_q52225 (by omega)
            · exfalso; omega
          · unfold fX12_tree_J190
            unfold fX12_tree_J191
            refine wq_in (n := 6) ⟨by omega, by omega⟩ ?_
            refine wq_eq (fun hc_52263 => ?_) (fun hc_52264 => ?_)
            · exfalso; omega
            · refine wq_eq (fun hc_52265 => ?_) (fun hc_52266 => ?_)
              · have b_52268 := i32b y134_7
                have t_52269 := ia_add y134_7 (0 : Int32) (by omega) (by omega)
                refine wq_v (fun v14_q52267 h_v14_q52267 => ?_)
                have t_v14_q52267 := congrArg Int32.toInt h_v14_q52267
                have t_52271 := ia_add y134_8 ((-1) : Int32) (by omega) (by omega)
                refine wq_v (fun v15_q52270 h_v15_q52270 => ?_)
                have t_v15_q52270 := congrArg Int32.toInt h_v15_q52270
                have b_52272 := i32b v14_q52267
                exact ih I0_l134 L0_l134 M0_18_q52225 v19_q52228 (0 : Int32) v14_q52267 v15_q52270 ⟨by omega, by omega⟩ ⟨by omega, by omega⟩ ⟨by omega, by omega⟩ k_M0_18_q52225 (by omega)
              · exfalso; omega
        · unfold fX12_tree_J186
          unfold fX12_tree_J191
          refine wq_in (n := 6) ⟨by omega, by omega⟩ ?_
          have t_52273 := KX12.m24 k_M0_18_q52225 y134_8.toNatClampNeg
          have l_m1 := il_m1
          refine wq_eq (fun hc_52274 => ?_) (fun hc_52275 => ?_)
          · have b_52277 := i32b y134_7
            have t_52278 := ia_add y134_7 (0 : Int32) (by omega) (by omega)
            refine wq_v (fun v10_q52276 h_v10_q52276 => ?_)
            have t_v10_q52276 := congrArg Int32.toInt h_v10_q52276
            have t_52280 := ia_add y134_8 ((-1) : Int32) (by omega) (by omega)
            refine wq_v (fun v11_q52279 h_v11_q52279 => ?_)
            have t_v11_q52279 := congrArg Int32.toInt h_v11_q52279
            have b_52281 := i32b v10_q52276
            exact ih I0_l134 L0_l134 M0_18_q52225 v19_q52228 (1 : Int32) v10_q52276 v11_q52279 ⟨by omega, by omega⟩ ⟨by omega, by omega⟩ ⟨by omega, by omega⟩ k_M0_18_q52225 (by omega)
          · refine wq_eq (fun hc_52282 => ?_) (fun hc_52283 => ?_)
            · exfalso; omega
            · refine wq_in (n := 6) ⟨by omega, by omega⟩ ?_
              have l_6 := il_6
              have t_52284 := ia_mul (6 : Int32) (6) il_6 (M0_18_q52225 24 y134_8.toNatClampNeg) (by omega) (by omega)
              have t_52285 := ia_add ((6 : Int32) * (M0_18_q52225 24 y134_8.toNatClampNeg)) y134_8 (by omega) (by omega)
              refine wq_in (n := 36) ⟨by omega, by omega⟩ ?_
              have b_52287 := i32b y134_7
              have t_52288 : (M0_18_q52225 25 (((6 : Int32) * (M0_18_q52225 24 y134_8.toNatClampNeg)) + y134_8).toNatClampNeg).toInt = (M0_l134 25 (((6 : Int32) * (M0_18_q52225 24 y134_8.toNatClampNeg)) + y134_8).toNatClampNeg).toInt := by rw [h_M0_18_q52225]; rfl
              refine wq_v (fun v12_q52286 h_v12_q52286 => ?_)
              have t_v12_q52286 := congrArg Int32.toInt h_v12_q52286
              have t_52290 := ia_add y134_8 ((-1) : Int32) (by omega) (by omega)
              refine wq_v (fun v13_q52289 h_v13_q52289 => ?_)
              have t_v13_q52289 := congrArg Int32.toInt h_v13_q52289
              have b_52291 := i32b v12_q52286
              exact ih I0_l134 L0_l134 M0_18_q52225 v19_q52228 (1 : Int32) v12_q52286 v13_q52289 ⟨by omega, by omega⟩ ⟨by omega, by omega⟩ ⟨by omega, by omega⟩ k_M0_18_q52225 (by omega)
set_option maxHeartbeats 4000000 in
theorem tt_fX12_tree_L115 {N : Nat} (hN : 3000000000 ≤ N) (y94_3 : Int32) (g9 : (Nat → Int32) → Int64 → (Nat → Nat → Int32) → Int32 → Int32 → Option (Int32 × (Nat → Int32) × Int64 × (Nat → Nat → Int32))) (g57 : (Nat → Int32) → Int64 → (Nat → Nat → Int32) → Int32 → Option (Int32 × (Nat → Int32) × Int64 × (Nat → Nat → Int32))) (g94 : (Nat → Int32) → Int64 → (Nat → Nat → Int32) → Int32 → Int32 → Option (Int32 × (Nat → Int32) × Int64 × (Nat → Nat → Int32)))   : ∀ (fu : Nat) (I0_l115 : (Nat → Int32)) (L0_l115 : Int64) (M0_l115 : (Nat → Nat → Int32)) (y115_2 : Int32) (y115_4 : Int32), (-2147483647 ≤ y115_4.toInt ∧ y115_4.toInt ≤ 2147483647) → (KX12 I0_l115 M0_l115) → (2147483647 - y115_4.toInt) < (fu : Int) → wq (fX12_tree_L115 N y94_3 g9 g57 g94 fu I0_l115 L0_l115 M0_l115 y115_2 y115_4) (fun r => KX12 r.2.1 r.2.2.2 ∧ True) := by
  intro fu
  induction fu with
  | zero => intro I0_l115 L0_l115 M0_l115 y115_2 y115_4 h_y115_4 k_I0_l115 hm; exfalso; omega
  | succ fu ih =>
    intro I0_l115 L0_l115 M0_l115 y115_2 y115_4 h_y115_4 k_I0_l115 hm
    rw [fX12_tree_L115.eq_2]
    have b_52292 := i32b y94_3
    have b_52293 := i32b y115_4
    refine wq_le (fun hc_52294 => ?_) (fun hc_52295 => ?_)
    · refine wq_v (fun I0_9_q52296 h_I0_9_q52296 => ?_)
      have l_1 := il_1
      have k_I0_9_q52296 : KX12 I0_9_q52296 M0_l115 := by rw [h_I0_9_q52296]; exact KX12.si18 k_I0_l115 ⟨by omega, by omega⟩
      have b_52297 := i32b y115_2
      exact wq_s ⟨k_I0_9_q52296, trivial⟩
    · have b_52298 := i32b y115_2
      have l_1 := il_1
      have l_0 := il_0
      have l_5 := il_5
      exact tt_fX12_tree_L134 hN y115_2 y115_4 y94_3 g9 g57 g94 _ ⟨by omega, by omega⟩ ⟨by omega, by omega⟩ (fun q0 q1 q2 q3 q4 hq0 hq1 hq2 => ih q0 q1 q2 q3 q4 hq0 hq1 (by omega)) N I0_l115 L0_l115 M0_l115 y115_4 (1 : Int32) (0 : Int32) (5 : Int32) ⟨by omega, by omega⟩ ⟨by omega, by omega⟩ ⟨by omega, by omega⟩ k_I0_l115 (by omega)
set_option maxHeartbeats 4000000 in
theorem tt_fX12_tree_L94 {N : Nat} (hN : 3000000000 ≤ N) (g9 : (Nat → Int32) → Int64 → (Nat → Nat → Int32) → Int32 → Int32 → Option (Int32 × (Nat → Int32) × Int64 × (Nat → Nat → Int32))) (g57 : (Nat → Int32) → Int64 → (Nat → Nat → Int32) → Int32 → Option (Int32 × (Nat → Int32) × Int64 × (Nat → Nat → Int32)))   : ∀ (fu : Nat) (I0_l94 : (Nat → Int32)) (L0_l94 : Int64) (M0_l94 : (Nat → Nat → Int32)) (y94_3 : Int32) (y94_4 : Int32), (0 ≤ y94_4.toInt ∧ y94_4.toInt ≤ 6) → (KX12 I0_l94 M0_l94) → (6 - y94_4.toInt) < (fu : Int) → wq (fX12_tree_L94 N g9 g57 fu I0_l94 L0_l94 M0_l94 y94_3 y94_4) (fun r => KX12 r.2.1 r.2.2.2 ∧ True) := by
  intro fu
  induction fu with
  | zero => intro I0_l94 L0_l94 M0_l94 y94_3 y94_4 h_y94_4 k_I0_l94 hm; exfalso; omega
  | succ fu ih =>
    intro I0_l94 L0_l94 M0_l94 y94_3 y94_4 h_y94_4 k_I0_l94 hm
    rw [fX12_tree_L94.eq_2]
    have l_6 := il_6
    refine wq_le (fun hc_52299 => ?_) (fun hc_52300 => ?_)
    · have b_52301 := i32b y94_3
      have l_m1 := il_m1
      have l_0 := il_0
      exact tt_fX12_tree_L115 hN y94_3 g9 g57 _ N I0_l94 L0_l94 M0_l94 ((-1) : Int32) (0 : Int32) ⟨by omega, by omega⟩ k_I0_l94 (by omega)
    · refine wq_v (fun v20_q52302 h_v20_q52302 => ?_)
      have t_v20_q52302 := congrArg Int32.toInt h_v20_q52302
      have l_1 := il_1
      have t_52304 := ia_add y94_4 (1 : Int32) (by omega) (by omega)
      refine wq_v (fun v21_q52303 h_v21_q52303 => ?_)
      have t_v21_q52303 := congrArg Int32.toInt h_v21_q52303
      have b_52305 := i32b v20_q52302
      exact ih I0_l94 L0_l94 M0_l94 v20_q52302 v21_q52303 ⟨by omega, by omega⟩ k_I0_l94 (by omega)
set_option maxHeartbeats 4000000 in
theorem tt_fX12_tree_L57 {N : Nat} (hN : 3000000000 ≤ N) (g9 : (Nat → Int32) → Int64 → (Nat → Nat → Int32) → Int32 → Int32 → Option (Int32 × (Nat → Int32) × Int64 × (Nat → Nat → Int32)))   : ∀ (fu : Nat) (I0_l57 : (Nat → Int32)) (L0_l57 : Int64) (M0_l57 : (Nat → Nat → Int32)) (y57_2 : Int32), (0 ≤ y57_2.toInt ∧ y57_2.toInt ≤ 36) → (KX12 I0_l57 M0_l57) → (36 - y57_2.toInt) < (fu : Int) → wq (fX12_tree_L57 N g9 fu I0_l57 L0_l57 M0_l57 y57_2) (fun r => KX12 r.2.1 r.2.2.2 ∧ True) := by
  intro fu
  induction fu with
  | zero => intro I0_l57 L0_l57 M0_l57 y57_2 h_y57_2 k_I0_l57 hm; exfalso; omega
  | succ fu ih =>
    intro I0_l57 L0_l57 M0_l57 y57_2 h_y57_2 k_I0_l57 hm
    rw [fX12_tree_L57.eq_2]
    have l_36 := il_36
    refine wq_le (fun hc_52306 => ?_) (fun hc_52307 => ?_)
    · have l_1 := il_1
      have l_0 := il_0
      exact tt_fX12_tree_L94 hN g9 _ N I0_l57 L0_l57 M0_l57 (1 : Int32) (0 : Int32) ⟨by omega, by omega⟩ k_I0_l57 (by omega)
    · have l_6 := il_6
      have t_52308 := ia_div y57_2 (6 : Int32) 6 il_6 (by decide) (by omega)
      have t_52309 := ia_rem y57_2 (6 : Int32) 6 il_6 (by decide) (by omega)
      refine wq_b (tt_fX12_priceAll hN I0_l57 L0_l57 M0_l57 (y57_2 / (6 : Int32)) (y57_2 - ((y57_2 / (6 : Int32)) * (6 : Int32))) ⟨by omega, by omega⟩ ⟨by omega, by omega⟩ k_I0_l57) (fun r22_q52310 h_r22_q52310 => ?_)
      obtain ⟨-⟩ := h_r22_q52310
      refine wq_in (n := 36) ⟨by omega, by omega⟩ ?_
      refine wq_v (fun M0_23_q52311 h_M0_23_q52311 => ?_)
      have k_M0_23_q52311 : KX12 I0_l57 M0_23_q52311 := by rw [h_M0_23_q52311]; exact KX12.sm25 k_I0_l57
      have l_1 := il_1
      have t_52313 := ia_add y57_2 (1 : Int32) (by omega) (by omega)
      refine wq_v (fun v24_q52312 h_v24_q52312 => ?_)
      have t_v24_q52312 := congrArg Int32.toInt h_v24_q52312
      exact ih I0_l57 L0_l57 M0_23_q52311 v24_q52312 ⟨by omega, by omega⟩ k_M0_23_q52311 (by omega)
set_option maxHeartbeats 4000000 in
theorem tt_fX12_tree_L9 {N : Nat} (hN : 3000000000 ≤ N)    : ∀ (fu : Nat) (I0_l9 : (Nat → Int32)) (L0_l9 : Int64) (M0_l9 : (Nat → Nat → Int32)) (y9_1 : Int32) (y9_2 : Int32), (0 ≤ y9_2.toInt ∧ y9_2.toInt ≤ 6) → (KX12 I0_l9 M0_l9) → (6 - y9_2.toInt) < (fu : Int) → wq (fX12_tree_L9 N fu I0_l9 L0_l9 M0_l9 y9_1 y9_2) (fun r => KX12 r.2.1 r.2.2.2 ∧ True) := by
  intro fu
  induction fu with
  | zero => intro I0_l9 L0_l9 M0_l9 y9_1 y9_2 h_y9_2 k_I0_l9 hm; exfalso; omega
  | succ fu ih =>
    intro I0_l9 L0_l9 M0_l9 y9_1 y9_2 h_y9_2 k_I0_l9 hm
    rw [fX12_tree_L9.eq_2]
    have l_6 := il_6
    refine wq_le (fun hc_52314 => ?_) (fun hc_52315 => ?_)
    · have b_52316 := i32b y9_1
      have l_0 := il_0
      refine wq_eq (fun hc_52317 => ?_) (fun hc_52318 => ?_)
      · have l_m1 := il_m1
        exact wq_s ⟨k_I0_l9, trivial⟩
      · exact tt_fX12_tree_L57 hN _ N I0_l9 L0_l9 M0_l9 (0 : Int32) ⟨by omega, by omega⟩ k_I0_l9 (by omega)
    · refine wq_b (tt_fX12_bookTells hN I0_l9 L0_l9 M0_l9 y9_2 ⟨by omega, by omega⟩ k_I0_l9) (fun r25_q52319 h_r25_q52319 => ?_)
      obtain ⟨h_r25_q52319_0, -⟩ := h_r25_q52319
      refine wq_in (n := 6) ⟨by omega, by omega⟩ ?_
      refine wq_v (fun M0_26_q52320 h_M0_26_q52320 => ?_)
      have k_M0_26_q52320 : KX12 I0_l9 M0_26_q52320 := by rw [h_M0_26_q52320]; exact KX12.sm26 k_I0_l9
      refine wq_in (n := 6) ⟨by omega, by omega⟩ ?_
      have l_0 := il_0
      refine wq_eq (fun hc_52321 => ?_) (fun hc_52322 => ?_)
      · have b_52324 := i32b y9_1
        have t_52325 := ia_add y9_1 (0 : Int32) (by omega) (by omega)
        refine wq_v (fun v27_q52323 h_v27_q52323 => ?_)
        have t_v27_q52323 := congrArg Int32.toInt h_v27_q52323
        have l_1 := il_1
        have t_52327 := ia_add y9_2 (1 : Int32) (by omega) (by omega)
        refine wq_v (fun v28_q52326 h_v28_q52326 => ?_)
        have t_v28_q52326 := congrArg Int32.toInt h_v28_q52326
        have b_52328 := i32b v27_q52323
        exact ih I0_l9 L0_l9 M0_26_q52320 v27_q52323 v28_q52326 ⟨by omega, by omega⟩ k_M0_26_q52320 (by omega)
      · have b_52330 := i32b y9_1
        have l_1 := il_1
        refine wq_v (fun v29_q52329 h_v29_q52329 => ?_)
        have t_v29_q52329 := congrArg Int32.toInt h_v29_q52329
        have t_52332 := ia_add y9_2 (1 : Int32) (by omega) (by omega)
        refine wq_v (fun v30_q52331 h_v30_q52331 => ?_)
        have t_v30_q52331 := congrArg Int32.toInt h_v30_q52331
        have b_52333 := i32b v29_q52329
        exact ih I0_l9 L0_l9 M0_26_q52320 v29_q52329 v30_q52331 ⟨by omega, by omega⟩ k_M0_26_q52320 (by omega)
set_option maxHeartbeats 4000000 in
theorem tt_fX12_tree {N : Nat} (hN : 3000000000 ≤ N) (I0 : Nat → Int32) (L0 : Int64) (M0 : Nat → Nat → Int32) (k_I0 : KX12 I0 M0) : wq (fX12_tree N I0 L0 M0) (fun r => KX12 r.2.1 r.2.2.2 ∧ True) := by
  unfold fX12_tree
  refine wq_v (fun I0_1_q52334 h_I0_1_q52334 => ?_)
  have k_I0_1_q52334 : KX12 I0_1_q52334 M0 := by rw [h_I0_1_q52334]; exact KX12.si0 k_I0
  have l_0 := il_0
  exact tt_fX12_tree_L9 hN N I0_1_q52334 L0 M0 (0 : Int32) (0 : Int32) ⟨by omega, by omega⟩ k_I0_1_q52334 (by omega)
set_option maxHeartbeats 4000000 in
theorem tt_fX12_whence {N : Nat} (hN : 3000000000 ≤ N) (I0 : Nat → Int32) (L0 : Int64) (M0 : Nat → Nat → Int32) (x1 : Int32) (k_I0 : KX12 I0 M0) : wq (fX12_whence N I0 L0 M0 x1) (fun r => (-2 ≤ r.1.toInt ∧ r.1.toInt ≤ 5) ∧ KX12 r.2.1 r.2.2.2 ∧ True) := by
  unfold fX12_whence
  refine wq_v (fun I0_2_q52509 h_I0_2_q52509 => ?_)
  have k_I0_2_q52509 : KX12 I0_2_q52509 M0 := by rw [h_I0_2_q52509]; exact KX12.si0 k_I0
  have b_52510 := i32b x1
  refine wq_b (tt_fX12_isBook hN I0_2_q52509 L0 M0 x1 k_I0_2_q52509) (fun r3_q52511 h_r3_q52511 => ?_)
  obtain ⟨h_r3_q52511_0, h_r3_q52511_1, h_r3_q52511_2, h_r3_q52511_3, -⟩ := h_r3_q52511
  have t_52512 := KX12.i1 h_r3_q52511_3
  have t_52513 := KX12.i1 k_I0
  have t_52514 : (I0_2_q52509 1).toInt = (I0 1).toInt := by rw [h_I0_2_q52509]; rfl
  have l_0 := il_0
  refine wq_eq (fun hc_52515 => ?_) (fun hc_52516 => ?_)
  · exact wq_s ⟨(show -2 ≤ (0 : Int32).toInt ∧ (0 : Int32).toInt ≤ 5 from ⟨by omega, by omega⟩), h_r3_q52511_3, trivial⟩
  · have t_52517 := KX12.i18 h_r3_q52511_3
    refine wq_eq (fun hc_52518 => ?_) (fun hc_52519 => ?_)
    · unfold fX12_whence_J36
      unfold fX12_whence_J37
      have l_1 := il_1
      refine wq_b (tt_fX12_right hN r3_q52511.2.1 r3_q52511.2.2.1 r3_q52511.2.2.2 (0 : Int32) (1 : Int32) ⟨by omega, by omega⟩ h_r3_q52511_3) (fun r1_q52520 h_r1_q52520 => ?_)
      obtain ⟨h_r1_q52520_0, h_r1_q52520_1, h_r1_q52520_2, h_r1_q52520_3, -⟩ := h_r1_q52520
      have t_52521 := KX12.i1 h_r1_q52520_3
      refine wq_eq (fun hc_52522 => ?_) (fun hc_52523 => ?_)
      · exact wq_s ⟨(show -2 ≤ (0 : Int32).toInt ∧ (0 : Int32).toInt ≤ 5 from ⟨by omega, by omega⟩), h_r1_q52520_3, trivial⟩
      · refine wq_in (n := 6) ⟨by omega, by omega⟩ ?_
        have t_52524 := KX12.m23 h_r1_q52520_3 x1.toNatClampNeg
        exact wq_s ⟨(show -2 ≤ (r1_q52520.2.2.2 23 x1.toNatClampNeg).toInt ∧ (r1_q52520.2.2.2 23 x1.toNatClampNeg).toInt ≤ 5 from ⟨by omega, by omega⟩), h_r1_q52520_3, trivial⟩
    · refine wq_in (n := 6) ⟨by omega, by omega⟩ ?_
      have t_52525 := KX12.m23 h_r3_q52511_3 x1.toNatClampNeg
      have l_m2 := il_m2
      refine wq_eq (fun hc_52526 => ?_) (fun hc_52527 => ?_)
      · unfold fX12_whence_J36
        unfold fX12_whence_J37
        have l_1 := il_1
        refine wq_b (tt_fX12_right hN r3_q52511.2.1 r3_q52511.2.2.1 r3_q52511.2.2.2 (0 : Int32) (1 : Int32) ⟨by omega, by omega⟩ h_r3_q52511_3) (fun r1_q52528 h_r1_q52528 => ?_)
        obtain ⟨h_r1_q52528_0, h_r1_q52528_1, h_r1_q52528_2, h_r1_q52528_3, -⟩ := h_r1_q52528
        have t_52529 := KX12.i1 h_r1_q52528_3
        refine wq_eq (fun hc_52530 => ?_) (fun hc_52531 => ?_)
        · exact wq_s ⟨(show -2 ≤ (0 : Int32).toInt ∧ (0 : Int32).toInt ≤ 5 from ⟨by omega, by omega⟩), h_r1_q52528_3, trivial⟩
        · refine wq_in (n := 6) ⟨by omega, by omega⟩ ?_
          have t_52532 := KX12.m23 h_r1_q52528_3 x1.toNatClampNeg
          exact wq_s ⟨(show -2 ≤ (r1_q52528.2.2.2 23 x1.toNatClampNeg).toInt ∧ (r1_q52528.2.2.2 23 x1.toNatClampNeg).toInt ≤ 5 from ⟨by omega, by omega⟩), h_r1_q52528_3, trivial⟩
      · unfold fX12_whence_J37
        have l_1 := il_1
        refine wq_b (tt_fX12_right hN r3_q52511.2.1 r3_q52511.2.2.1 r3_q52511.2.2.2 (1 : Int32) (1 : Int32) ⟨by omega, by omega⟩ h_r3_q52511_3) (fun r1_q52533 h_r1_q52533 => ?_)
        obtain ⟨h_r1_q52533_0, h_r1_q52533_1, h_r1_q52533_2, h_r1_q52533_3, -⟩ := h_r1_q52533
        have t_52534 := KX12.i1 h_r1_q52533_3
        refine wq_eq (fun hc_52535 => ?_) (fun hc_52536 => ?_)
        · exact wq_s ⟨(show -2 ≤ (0 : Int32).toInt ∧ (0 : Int32).toInt ≤ 5 from ⟨by omega, by omega⟩), h_r1_q52533_3, trivial⟩
        · refine wq_in (n := 6) ⟨by omega, by omega⟩ ?_
          have t_52537 := KX12.m23 h_r1_q52533_3 x1.toNatClampNeg
          exact wq_s ⟨(show -2 ≤ (r1_q52533.2.2.2 23 x1.toNatClampNeg).toInt ∧ (r1_q52533.2.2.2 23 x1.toNatClampNeg).toInt ≤ 5 from ⟨by omega, by omega⟩), h_r1_q52533_3, trivial⟩
set_option maxHeartbeats 4000000 in
theorem tt_fX12_slips_L62 {N : Nat} (hN : 3000000000 ≤ N) (x1 : Int32) (x2 : Int32) (y52_4 : Int32) (g52 : (Nat → Int32) → Int64 → (Nat → Nat → Int32) → Int32 → Int32 → Option (Int32 × (Nat → Int32) × Int64 × (Nat → Nat → Int32))) (h_y52_4 : 0 ≤ y52_4.toInt ∧ y52_4.toInt ≤ 5) (hg52 : ∀ (q0 : (Nat → Int32)) (q1 : Int64) (q2 : (Nat → Nat → Int32)) (q3 : Int32) (q4 : Int32), (0 ≤ q4.toInt ∧ q4.toInt ≤ 6) → (KX12 q0 q2) → (y52_4.toInt < q4.toInt) → wq (g52 q0 q1 q2 q3 q4) (fun r => KX12 r.2.1 r.2.2.2 ∧ True)) : ∀ (fu : Nat) (I0_l62 : (Nat → Int32)) (L0_l62 : Int64) (M0_l62 : (Nat → Nat → Int32)) (y62_3 : Int32) (y62_5 : Int32), (0 ≤ y62_5.toInt ∧ y62_5.toInt ≤ 420) → (KX12 I0_l62 M0_l62) → (420 - y62_5.toInt) < (fu : Int) → wq (fX12_slips_L62 N x1 x2 y52_4 g52 fu I0_l62 L0_l62 M0_l62 y62_3 y62_5) (fun r => KX12 r.2.1 r.2.2.2 ∧ True) := by
  intro fu
  induction fu with
  | zero => intro I0_l62 L0_l62 M0_l62 y62_3 y62_5 h_y62_5 k_I0_l62 hm; exfalso; omega
  | succ fu ih =>
    intro I0_l62 L0_l62 M0_l62 y62_3 y62_5 h_y62_5 k_I0_l62 hm
    rw [fX12_slips_L62.eq_2]
    have l_420 := il_420
    refine wq_le (fun hc_55468 => ?_) (fun hc_55469 => ?_)
    · have l_1 := il_1
      have t_55471 := ia_add y52_4 (1 : Int32) (by omega) (by omega)
      refine wq_v (fun v7_q55470 h_v7_q55470 => ?_)
      have t_v7_q55470 := congrArg Int32.toInt h_v7_q55470
      have b_55472 := i32b y62_3
      exact hg52 I0_l62 L0_l62 M0_l62 y62_3 v7_q55470 ⟨by omega, by omega⟩ k_I0_l62 (by omega)
    · refine wq_in (n := 6) ⟨by omega, by omega⟩ ?_
      have t_55473 := KX12.m23 k_I0_l62 y52_4.toNatClampNeg
      have l_0 := il_0
      refine wq_lt (fun hc_55474 => ?_) (fun hc_55475 => ?_)
      · have l_1 := il_1
        have t_55477 := ia_add y52_4 (1 : Int32) (by omega) (by omega)
        refine wq_v (fun v8_q55476 h_v8_q55476 => ?_)
        have t_v8_q55476 := congrArg Int32.toInt h_v8_q55476
        have b_55478 := i32b y62_3
        exact hg52 I0_l62 L0_l62 M0_l62 y62_3 v8_q55476 ⟨by omega, by omega⟩ k_I0_l62 (by omega)
      · have l_20 := il_20
        have t_55479 := ia_mul (20 : Int32) (20) il_20 y52_4 (by omega) (by omega)
        have l_21 := il_21
        have t_55480 := ia_div y62_5 (21 : Int32) 21 il_21 (by decide) (by omega)
        have t_55481 := ia_add ((20 : Int32) * y52_4) (y62_5 / (21 : Int32)) (by omega) (by omega)
        have t_55482 := ia_rem y62_5 (21 : Int32) 21 il_21 (by decide) (by omega)
        refine wq_b (tt_fX12_at hN I0_l62 L0_l62 M0_l62 (((20 : Int32) * y52_4) + (y62_5 / (21 : Int32))) (y62_5 - ((y62_5 / (21 : Int32)) * (21 : Int32))) ⟨by omega, by omega⟩ ⟨by omega, by omega⟩ k_I0_l62) (fun r9b_q55483 h_r9b_q55483 => ?_)
        obtain ⟨h_r9b_q55483_0, h_r9b_q55483_1, h_r9b_q55483_2, -⟩ := h_r9b_q55483
        refine wq_in (n := 6) ⟨by omega, by omega⟩ ?_
        have t_55484 := ia_mul (20 : Int32) (20) il_20 (M0_l62 23 y52_4.toNatClampNeg) (by omega) (by omega)
        have t_55485 := ia_add ((20 : Int32) * (M0_l62 23 y52_4.toNatClampNeg)) (y62_5 / (21 : Int32)) (by omega) (by omega)
        refine wq_b (tt_fX12_at hN I0_l62 L0_l62 M0_l62 (((20 : Int32) * (M0_l62 23 y52_4.toNatClampNeg)) + (y62_5 / (21 : Int32))) (y62_5 - ((y62_5 / (21 : Int32)) * (21 : Int32))) ⟨by omega, by omega⟩ ⟨by omega, by omega⟩ k_I0_l62) (fun r10_q55486 h_r10_q55486 => ?_)
        obtain ⟨h_r10_q55486_0, h_r10_q55486_1, h_r10_q55486_2, -⟩ := h_r10_q55486
        have l_m1 := il_m1
        refine wq_eq (fun hc_55487 => ?_) (fun hc_55488 => ?_)
        · have l_1 := il_1
          have t_55490 := ia_add y62_5 (1 : Int32) (by omega) (by omega)
          refine wq_v (fun v11_q55489 h_v11_q55489 => ?_)
          have t_v11_q55489 := congrArg Int32.toInt h_v11_q55489
          have b_55491 := i32b y62_3
          exact ih I0_l62 L0_l62 M0_l62 y62_3 v11_q55489 ⟨by omega, by omega⟩ k_I0_l62 (by omega)
        · refine wq_eq (fun hc_55492 => ?_) (fun hc_55493 => ?_)
          · have l_1 := il_1
            have t_55495 := ia_add y62_5 (1 : Int32) (by omega) (by omega)
            refine wq_v (fun v15_q55494 h_v15_q55494 => ?_)
            have t_v15_q55494 := congrArg Int32.toInt h_v15_q55494
            have b_55496 := i32b y62_3
            exact ih I0_l62 L0_l62 M0_l62 y62_3 v15_q55494 ⟨by omega, by omega⟩ k_I0_l62 (by omega)
          · refine wq_b (tt_fX12_beside hN I0_l62 L0_l62 M0_l62 r9b_q55483 r10_q55486 ⟨by omega, by omega⟩ k_I0_l62) (fun r12_q55497 h_r12_q55497 => ?_)
            obtain ⟨h_r12_q55497_0, -⟩ := h_r12_q55497
            have l_1 := il_1
            refine wq_eq (fun hc_55498 => ?_) (fun hc_55499 => ?_)
            · have l_30 := il_30
              have t_55500 := ia_rem r9b_q55483 (30 : Int32) 30 il_30 (by decide) (by omega)
              have b_55501 := i32b x1
              refine wq_eq (fun hc_55502 => ?_) (fun hc_55503 => ?_)
              · have t_55504 := ia_rem r10_q55486 (30 : Int32) 30 il_30 (by decide) (by omega)
                have b_55505 := i32b x2
                refine wq_eq (fun hc_55506 => ?_) (fun hc_55507 => ?_)
                · have b_55509 := i32b y62_3
                  refine wq_v (fun v13_q55508 h_v13_q55508 => ?_)
                  have t_v13_q55508 := congrArg Int32.toInt h_v13_q55508
                  have t_55511 := ia_add y62_5 (1 : Int32) (by omega) (by omega)
                  refine wq_v (fun v14_q55510 h_v14_q55510 => ?_)
                  have t_v14_q55510 := congrArg Int32.toInt h_v14_q55510
                  have b_55512 := i32b v13_q55508
                  exact ih I0_l62 L0_l62 M0_l62 v13_q55508 v14_q55510 ⟨by omega, by omega⟩ k_I0_l62 (by omega)
                · unfold fX12_slips_J178
                  have l_2 := il_2
                  refine wq_eq (fun hc_55513 => ?_) (fun hc_55514 => ?_)
                  · exfalso; omega
                  · have t_55516 := ia_add y62_5 (1 : Int32) (by omega) (by omega)
                    refine wq_v (fun v2_q55515 h_v2_q55515 => ?_)
                    have t_v2_q55515 := congrArg Int32.toInt h_v2_q55515
                    have b_55517 := i32b y62_3
                    exact ih I0_l62 L0_l62 M0_l62 y62_3 v2_q55515 ⟨by omega, by omega⟩ k_I0_l62 (by omega)
              · unfold fX12_slips_J178
                have l_2 := il_2
                refine wq_eq (fun hc_55518 => ?_) (fun hc_55519 => ?_)
                · exfalso; omega
                · have t_55521 := ia_add y62_5 (1 : Int32) (by omega) (by omega)
                  refine wq_v (fun v2_q55520 h_v2_q55520 => ?_)
                  have t_v2_q55520 := congrArg Int32.toInt h_v2_q55520
                  have b_55522 := i32b y62_3
                  exact ih I0_l62 L0_l62 M0_l62 y62_3 v2_q55520 ⟨by omega, by omega⟩ k_I0_l62 (by omega)
            · unfold fX12_slips_J178
              have l_2 := il_2
              refine wq_eq (fun hc_55523 => ?_) (fun hc_55524 => ?_)
              · have l_30 := il_30
                have t_55525 := ia_div r9b_q55483 (30 : Int32) 30 il_30 (by decide) (by omega)
                have b_55526 := i32b x1
                refine wq_eq (fun hc_55527 => ?_) (fun hc_55528 => ?_)
                · have t_55529 := ia_div r10_q55486 (30 : Int32) 30 il_30 (by decide) (by omega)
                  have b_55530 := i32b x2
                  refine wq_eq (fun hc_55531 => ?_) (fun hc_55532 => ?_)
                  · have b_55534 := i32b y62_3
                    refine wq_v (fun v5_q55533 h_v5_q55533 => ?_)
                    have t_v5_q55533 := congrArg Int32.toInt h_v5_q55533
                    have t_55536 := ia_add y62_5 (1 : Int32) (by omega) (by omega)
                    refine wq_v (fun v6_q55535 h_v6_q55535 => ?_)
                    have t_v6_q55535 := congrArg Int32.toInt h_v6_q55535
                    have b_55537 := i32b v5_q55533
                    exact ih I0_l62 L0_l62 M0_l62 v5_q55533 v6_q55535 ⟨by omega, by omega⟩ k_I0_l62 (by omega)
                  · have t_55539 := ia_add y62_5 (1 : Int32) (by omega) (by omega)
                    refine wq_v (fun v4_q55538 h_v4_q55538 => ?_)
                    have t_v4_q55538 := congrArg Int32.toInt h_v4_q55538
                    have b_55540 := i32b y62_3
                    exact ih I0_l62 L0_l62 M0_l62 y62_3 v4_q55538 ⟨by omega, by omega⟩ k_I0_l62 (by omega)
                · have t_55542 := ia_add y62_5 (1 : Int32) (by omega) (by omega)
                  refine wq_v (fun v3_q55541 h_v3_q55541 => ?_)
                  have t_v3_q55541 := congrArg Int32.toInt h_v3_q55541
                  have b_55543 := i32b y62_3
                  exact ih I0_l62 L0_l62 M0_l62 y62_3 v3_q55541 ⟨by omega, by omega⟩ k_I0_l62 (by omega)
              · have t_55545 := ia_add y62_5 (1 : Int32) (by omega) (by omega)
                refine wq_v (fun v2_q55544 h_v2_q55544 => ?_)
                have t_v2_q55544 := congrArg Int32.toInt h_v2_q55544
                have b_55546 := i32b y62_3
                exact ih I0_l62 L0_l62 M0_l62 y62_3 v2_q55544 ⟨by omega, by omega⟩ k_I0_l62 (by omega)
set_option maxHeartbeats 4000000 in
theorem tt_fX12_slips_L52 {N : Nat} (hN : 3000000000 ≤ N) (x1 : Int32) (x2 : Int32)   : ∀ (fu : Nat) (I0_l52 : (Nat → Int32)) (L0_l52 : Int64) (M0_l52 : (Nat → Nat → Int32)) (y52_3 : Int32) (y52_4 : Int32), (0 ≤ y52_4.toInt ∧ y52_4.toInt ≤ 6) → (KX12 I0_l52 M0_l52) → (6 - y52_4.toInt) < (fu : Int) → wq (fX12_slips_L52 N x1 x2 fu I0_l52 L0_l52 M0_l52 y52_3 y52_4) (fun r => KX12 r.2.1 r.2.2.2 ∧ True) := by
  intro fu
  induction fu with
  | zero => intro I0_l52 L0_l52 M0_l52 y52_3 y52_4 h_y52_4 k_I0_l52 hm; exfalso; omega
  | succ fu ih =>
    intro I0_l52 L0_l52 M0_l52 y52_3 y52_4 h_y52_4 k_I0_l52 hm
    rw [fX12_slips_L52.eq_2]
    have l_6 := il_6
    refine wq_le (fun hc_55547 => ?_) (fun hc_55548 => ?_)
    · have b_55549 := i32b y52_3
      exact wq_s ⟨k_I0_l52, trivial⟩
    · have b_55550 := i32b x1
      have b_55551 := i32b x2
      have b_55552 := i32b y52_3
      have l_0 := il_0
      exact tt_fX12_slips_L62 hN x1 x2 y52_4 _ ⟨by omega, by omega⟩ (fun q0 q1 q2 q3 q4 hq0 hq1 hq2 => ih q0 q1 q2 q3 q4 hq0 hq1 (by omega)) N I0_l52 L0_l52 M0_l52 y52_3 (0 : Int32) ⟨by omega, by omega⟩ k_I0_l52 (by omega)
