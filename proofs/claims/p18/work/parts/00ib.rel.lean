/-! houses alike -/
theorem n360 : (360 : Int32).toInt = 360 := by decide
theorem fm360 {N : Nat} {x r : Int32} (h0 : -360 ≤ x.toInt) (h1 : x.toInt ≤ 100000) (h : fJ9_floorMod_7cf53 N x 360 = some r) : r = (x + 360) - (x + 360) / 360 * 360 ∧ r.toInt = x.toInt % 360 := by
  have a := fmd32 n360 (by omega) h
  have b := ia_add x 360 (by rw [n360]; omega) (by rw [n360]; omega)
  rw [n360] at b
  have c := ia_rem (x + 360) 360 360 n360 (by omega) (by omega)
  exact ⟨t32 (by rw [a, c, b]; omega), a⟩
theorem md0 (x : Int32) (g : Int32) : x + (0 * g) / 3 = x := by
  rw [Int32.zero_mul, show (0 : Int32) / 3 = 0 from by decide, Int32.add_zero]
theorem md1 (x : Int32) (g : Int32) : x + (1 * g) / 3 = x + g / 3 := by rw [Int32.one_mul]
theorem hm_eq {N N2 : Nat} {I J : Nat → Int32} {L : Int64} {m K : Nat → Nat → Int32} {x p a b h w : Int32} {c : Nat} (hc : CL (m 0) (K 4) c) (h00 : CL (m 0) (K 4) 0) (hx : x.toInt = (c : Int)) (hp : 0 ≤ p.toInt ∧ p.toInt ≤ 359) (hh : 1 ≤ h.toInt ∧ h.toInt ≤ 12) (w0 : ¬ w = 0) (w1 : ¬ w = 1) (f : fX2_houseByMiddle N I m p x h = some a) (g : fX12_houseAt N2 J L K p w x h = some b) : a = b := by
  have n60 : (60 : Int32).toInt = 60 := by decide
  have n180 : (180 : Int32).toInt = 180 := by decide
  have m60 := ia_mul 60 60 n60 p (by omega) (by omega)
  unfold fX12_houseAt at g
  have g := wb_f w1 (wb_f w0 g)
  obtain ⟨s1, g1, g⟩ := wb_b g
  obtain ⟨v2, e2, g⟩ := wb_v g
  obtain ⟨v3, e3, g⟩ := wb_v g
  obtain ⟨v4, e4, g⟩ := wb_v g
  have core : ∀ (r1 F G : Int32), fX2_middleOf N I m x ((60 : Int32) * p) = some r1 → (fJ9_floorMod_7cf53 N (p - r1 / 60) 360 = some F → F = v3) ∧ (fJ9_floorMod_7cf53 N ((r1 / 60 + 180) - p) 360 = some G → G = v4) ∧ r1 / 60 = v2 := by
    intro r1 F G f1
    obtain ⟨e, q0, q1⟩ := mi_eq hc h00 hx ⟨by omega, by omega⟩ f1 g1
    have d := dv60 q0 q1
    rw [← e] at e2
    rw [← e2] at d ⊢
    clear f1 g1
    have b1 := ia_sub p v2 (by omega) (by omega)
    have b2 := ia_add v2 180 (by rw [n180]; omega) (by rw [n180]; omega)
    rw [n180] at b2
    have b3 := ia_sub (v2 + 180) p (by omega) (by omega)
    refine ⟨fun q => ?_, fun q => ?_, rfl⟩
    · rw [e3]; exact (fm360 (by omega) (by omega) q).1
    · rw [e4]; exact (fm360 (by omega) (by omega) q).1
  clear e2 e3 e4 g1
  have hcs : h = 1 ∨ h = 2 ∨ h = 3 ∨ h = 4 ∨ h = 5 ∨ h = 6 ∨ h = 7 ∨ h = 8 ∨ h = 9 ∨ h = 10 ∨ h = 11 ∨ h = 12 := by
    have t : ∀ z : Int32, z.toInt = h.toInt → h = z := fun z e => (t32 e).symm
    have k1 : (1 : Int32).toInt = 1 := by decide
    have k2 : (2 : Int32).toInt = 2 := by decide
    have k3 : (3 : Int32).toInt = 3 := by decide
    have k4 : (4 : Int32).toInt = 4 := by decide
    have k5 : (5 : Int32).toInt = 5 := by decide
    have k6 : (6 : Int32).toInt = 6 := by decide
    have k7 : (7 : Int32).toInt = 7 := by decide
    have k8 : (8 : Int32).toInt = 8 := by decide
    have k9 : (9 : Int32).toInt = 9 := by decide
    have k10 : (10 : Int32).toInt = 10 := by decide
    have k11 : (11 : Int32).toInt = 11 := by decide
    have k12 : (12 : Int32).toInt = 12 := by decide
    rcases (by omega : h.toInt = 1 ∨ h.toInt = 2 ∨ h.toInt = 3 ∨ h.toInt = 4 ∨ h.toInt = 5 ∨ h.toInt = 6 ∨ h.toInt = 7 ∨ h.toInt = 8 ∨ h.toInt = 9 ∨ h.toInt = 10 ∨ h.toInt = 11 ∨ h.toInt = 12) with q | q | q | q | q | q | q | q | q | q | q | q
    · exact Or.inl (t 1 (by omega))
    · exact Or.inr (Or.inl (t 2 (by omega)))
    · exact Or.inr (Or.inr (Or.inl (t 3 (by omega))))
    · exact Or.inr (Or.inr (Or.inr (Or.inl (t 4 (by omega)))))
    · exact Or.inr (Or.inr (Or.inr (Or.inr (Or.inl (t 5 (by omega))))))
    · exact Or.inr (Or.inr (Or.inr (Or.inr (Or.inr (Or.inl (t 6 (by omega)))))))
    · exact Or.inr (Or.inr (Or.inr (Or.inr (Or.inr (Or.inr (Or.inl (t 7 (by omega))))))))
    · exact Or.inr (Or.inr (Or.inr (Or.inr (Or.inr (Or.inr (Or.inr (Or.inl (t 8 (by omega)))))))))
    · exact Or.inr (Or.inr (Or.inr (Or.inr (Or.inr (Or.inr (Or.inr (Or.inr (Or.inl (t 9 (by omega))))))))))
    · exact Or.inr (Or.inr (Or.inr (Or.inr (Or.inr (Or.inr (Or.inr (Or.inr (Or.inr (Or.inl (t 10 (by omega)))))))))))
    · exact Or.inr (Or.inr (Or.inr (Or.inr (Or.inr (Or.inr (Or.inr (Or.inr (Or.inr (Or.inr (Or.inl (t 11 (by omega))))))))))))
    · exact Or.inr (Or.inr (Or.inr (Or.inr (Or.inr (Or.inr (Or.inr (Or.inr (Or.inr (Or.inr (Or.inr (t 12 (by omega))))))))))))
  unfold fX2_houseByMiddle at f
  rcases hcs with q | q | q | q | q | q | q | q | q | q | q | q
  · subst q
    have f := wb_t (c := (1 : Int32) < 4) (by decide) f
    unfold fX2_houseByMiddle_J15 fX2_houseByMiddle_J16 at f
    have f := wb_t (c := (0 : Int32) = 0) rfl f
    unfold fX2_houseByMiddle_J44 at f
    obtain ⟨r1, f1, f⟩ := wb_b f
    obtain ⟨w2, d2, f⟩ := wb_v f
    rw [d2] at f
    clear d2 w2
    have f := wb_t (c := ((1 : Int32)) < (10 : Int32)) (by decide) f
    obtain ⟨G, fG, f⟩ := wb_b f
    obtain ⟨_, kG, k2⟩ := core r1 0 G f1
    have eG := kG fG
    rw [eG] at f
    obtain ⟨u, eu, f⟩ := wb_v f
    rw [show (((1 : Int32)) - 1) = (0 : Int32) from by decide, md0] at eu
    unfold fX2_houseByMiddle_J118 at f
    have f := Option.some.inj (wb_t (c := (0 : Int32) = 0) (by decide) f)
    have g := wb_t (c := (1 : Int32) ≤ 3) (by decide) g
    unfold fX12_houseAt_J110 fX12_houseAt_J112 at g
    have g := wb_t (c := (1 : Int32) = 1) (by decide) g
    unfold fX12_houseAt_J195 at g
    have g := Option.some.inj (wb_t (c := (1 : Int32) = 1) (by decide) g)
    rw [← f, ← g, eu]
  · subst q
    have f := wb_t (c := (2 : Int32) < 4) (by decide) f
    unfold fX2_houseByMiddle_J15 fX2_houseByMiddle_J16 at f
    have f := wb_t (c := (0 : Int32) = 0) rfl f
    unfold fX2_houseByMiddle_J44 at f
    obtain ⟨r1, f1, f⟩ := wb_b f
    obtain ⟨w2, d2, f⟩ := wb_v f
    rw [d2] at f
    clear d2 w2
    have f := wb_t (c := ((2 : Int32)) < (10 : Int32)) (by decide) f
    obtain ⟨G, fG, f⟩ := wb_b f
    obtain ⟨_, kG, k2⟩ := core r1 0 G f1
    have eG := kG fG
    rw [eG] at f
    obtain ⟨u, eu, f⟩ := wb_v f
    rw [show (((2 : Int32)) - 1) = (1 : Int32) from by decide, md1] at eu
    unfold fX2_houseByMiddle_J118 at f
    have f := Option.some.inj (wb_t (c := (0 : Int32) = 0) (by decide) f)
    have g := wb_t (c := (2 : Int32) ≤ 3) (by decide) g
    unfold fX12_houseAt_J110 fX12_houseAt_J112 at g
    have g := wb_f (c := (2 : Int32) = 1) (by decide) g
    have g := wb_f (c := (2 : Int32) = 10) (by decide) g
    have g := wb_f (c := (2 : Int32) = 11) (by decide) g
    have g := wb_f (c := (2 : Int32) = 12) (by decide) g
    have g := wb_t (c := (2 : Int32) = 2) (by decide) g
    unfold fX12_houseAt_J195 at g
    have g := Option.some.inj (wb_t (c := (2 : Int32) = 2) (by decide) g)
    rw [← f, ← g, eu]
  · subst q
    have f := wb_t (c := (3 : Int32) < 4) (by decide) f
    unfold fX2_houseByMiddle_J15 fX2_houseByMiddle_J16 at f
    have f := wb_t (c := (0 : Int32) = 0) rfl f
    unfold fX2_houseByMiddle_J44 at f
    obtain ⟨r1, f1, f⟩ := wb_b f
    obtain ⟨w2, d2, f⟩ := wb_v f
    rw [d2] at f
    clear d2 w2
    have f := wb_t (c := ((3 : Int32)) < (10 : Int32)) (by decide) f
    obtain ⟨G, fG, f⟩ := wb_b f
    obtain ⟨_, kG, k2⟩ := core r1 0 G f1
    have eG := kG fG
    rw [eG] at f
    obtain ⟨u, eu, f⟩ := wb_v f
    rw [show (((3 : Int32)) - 1) = (2 : Int32) from by decide] at eu
    unfold fX2_houseByMiddle_J118 at f
    have f := Option.some.inj (wb_t (c := (0 : Int32) = 0) (by decide) f)
    have g := wb_t (c := (3 : Int32) ≤ 3) (by decide) g
    unfold fX12_houseAt_J110 fX12_houseAt_J112 at g
    have g := wb_f (c := (3 : Int32) = 1) (by decide) g
    have g := wb_f (c := (3 : Int32) = 10) (by decide) g
    have g := wb_f (c := (3 : Int32) = 11) (by decide) g
    have g := wb_f (c := (3 : Int32) = 12) (by decide) g
    have g := wb_f (c := (3 : Int32) = 2) (by decide) g
    unfold fX12_houseAt_J195 at g
    have g := Option.some.inj (wb_t (c := (3 : Int32) = 3) (by decide) g)
    rw [← f, ← g, eu]
  · subst q
    have f := wb_f (c := (4 : Int32) < 4) (by decide) f
    have f := wb_f (c := (9 : Int32) < 4) (by decide) f
    unfold fX2_houseByMiddle_J16 at f
    have f := wb_f (c := (1 : Int32) = 0) (by decide) f
    have f := wb_f (c := (7 : Int32) ≤ 4) (by decide) f
    unfold fX2_houseByMiddle_J44 at f
    obtain ⟨r1, f1, f⟩ := wb_b f
    obtain ⟨w2, d2, f⟩ := wb_v f
    rw [d2] at f
    clear d2 w2
    have f := wb_f (c := ((4 : Int32) + 6) < (10 : Int32)) (by decide) f
    obtain ⟨F, fF, f⟩ := wb_b f
    obtain ⟨kF, _, k2⟩ := core r1 F 0 f1
    have eF := kF fF
    rw [eF, k2] at f
    obtain ⟨u, eu, f⟩ := wb_v f
    rw [show (((4 : Int32) + 6) - 10) = (0 : Int32) from by decide, md0] at eu
    unfold fX2_houseByMiddle_J118 at f
    have f := Option.some.inj (wb_f (c := (1 : Int32) = 0) (by decide) f)
    have g := wb_f (c := (4 : Int32) ≤ 3) (by decide) g
    have g := wb_f (c := (10 : Int32) ≤ 4) (by decide) g
    unfold fX12_houseAt_J112 at g
    have g := wb_f (c := ((((4 : Int32) + 5) - ((4 : Int32) + 5) / 12 * 12) + 1) = 1) (by decide) g
    have g := wb_t (c := ((((4 : Int32) + 5) - ((4 : Int32) + 5) / 12 * 12) + 1) = 10) (by decide) g
    unfold fX12_houseAt_J195 at g
    have g := Option.some.inj (wb_f (c := ((((4 : Int32) + 5) - ((4 : Int32) + 5) / 12 * 12) + 1) = 4) (by decide) g)
    rw [← f, ← g, eu]
  · subst q
    have f := wb_f (c := (5 : Int32) < 4) (by decide) f
    have f := wb_f (c := (9 : Int32) < 5) (by decide) f
    unfold fX2_houseByMiddle_J16 at f
    have f := wb_f (c := (1 : Int32) = 0) (by decide) f
    have f := wb_f (c := (7 : Int32) ≤ 5) (by decide) f
    unfold fX2_houseByMiddle_J44 at f
    obtain ⟨r1, f1, f⟩ := wb_b f
    obtain ⟨w2, d2, f⟩ := wb_v f
    rw [d2] at f
    clear d2 w2
    have f := wb_f (c := ((5 : Int32) + 6) < (10 : Int32)) (by decide) f
    obtain ⟨F, fF, f⟩ := wb_b f
    obtain ⟨kF, _, k2⟩ := core r1 F 0 f1
    have eF := kF fF
    rw [eF, k2] at f
    obtain ⟨u, eu, f⟩ := wb_v f
    rw [show (((5 : Int32) + 6) - 10) = (1 : Int32) from by decide, md1] at eu
    unfold fX2_houseByMiddle_J118 at f
    have f := Option.some.inj (wb_f (c := (1 : Int32) = 0) (by decide) f)
    have g := wb_f (c := (5 : Int32) ≤ 3) (by decide) g
    have g := wb_f (c := (10 : Int32) ≤ 5) (by decide) g
    unfold fX12_houseAt_J112 at g
    have g := wb_f (c := ((((5 : Int32) + 5) - ((5 : Int32) + 5) / 12 * 12) + 1) = 1) (by decide) g
    have g := wb_f (c := ((((5 : Int32) + 5) - ((5 : Int32) + 5) / 12 * 12) + 1) = 10) (by decide) g
    have g := wb_t (c := ((((5 : Int32) + 5) - ((5 : Int32) + 5) / 12 * 12) + 1) = 11) (by decide) g
    unfold fX12_houseAt_J195 at g
    have g := Option.some.inj (wb_f (c := ((((5 : Int32) + 5) - ((5 : Int32) + 5) / 12 * 12) + 1) = 5) (by decide) g)
    rw [← f, ← g, eu]
  · subst q
    have f := wb_f (c := (6 : Int32) < 4) (by decide) f
    have f := wb_f (c := (9 : Int32) < 6) (by decide) f
    unfold fX2_houseByMiddle_J16 at f
    have f := wb_f (c := (1 : Int32) = 0) (by decide) f
    have f := wb_f (c := (7 : Int32) ≤ 6) (by decide) f
    unfold fX2_houseByMiddle_J44 at f
    obtain ⟨r1, f1, f⟩ := wb_b f
    obtain ⟨w2, d2, f⟩ := wb_v f
    rw [d2] at f
    clear d2 w2
    have f := wb_f (c := ((6 : Int32) + 6) < (10 : Int32)) (by decide) f
    obtain ⟨F, fF, f⟩ := wb_b f
    obtain ⟨kF, _, k2⟩ := core r1 F 0 f1
    have eF := kF fF
    rw [eF, k2] at f
    obtain ⟨u, eu, f⟩ := wb_v f
    rw [show (((6 : Int32) + 6) - 10) = (2 : Int32) from by decide] at eu
    unfold fX2_houseByMiddle_J118 at f
    have f := Option.some.inj (wb_f (c := (1 : Int32) = 0) (by decide) f)
    have g := wb_f (c := (6 : Int32) ≤ 3) (by decide) g
    have g := wb_f (c := (10 : Int32) ≤ 6) (by decide) g
    unfold fX12_houseAt_J112 at g
    have g := wb_f (c := ((((6 : Int32) + 5) - ((6 : Int32) + 5) / 12 * 12) + 1) = 1) (by decide) g
    have g := wb_f (c := ((((6 : Int32) + 5) - ((6 : Int32) + 5) / 12 * 12) + 1) = 10) (by decide) g
    have g := wb_f (c := ((((6 : Int32) + 5) - ((6 : Int32) + 5) / 12 * 12) + 1) = 11) (by decide) g
    have g := wb_t (c := ((((6 : Int32) + 5) - ((6 : Int32) + 5) / 12 * 12) + 1) = 12) (by decide) g
    unfold fX12_houseAt_J195 at g
    have g := Option.some.inj (wb_f (c := ((((6 : Int32) + 5) - ((6 : Int32) + 5) / 12 * 12) + 1) = 6) (by decide) g)
    rw [← f, ← g, eu]
  · subst q
    have f := wb_f (c := (7 : Int32) < 4) (by decide) f
    have f := wb_f (c := (9 : Int32) < 7) (by decide) f
    unfold fX2_houseByMiddle_J16 at f
    have f := wb_f (c := (1 : Int32) = 0) (by decide) f
    have f := wb_t (c := (7 : Int32) ≤ 7) (by decide) f
    unfold fX2_houseByMiddle_J44 at f
    obtain ⟨r1, f1, f⟩ := wb_b f
    obtain ⟨w2, d2, f⟩ := wb_v f
    rw [d2] at f
    clear d2 w2
    have f := wb_t (c := ((7 : Int32) - 6) < (10 : Int32)) (by decide) f
    obtain ⟨G, fG, f⟩ := wb_b f
    obtain ⟨_, kG, k2⟩ := core r1 0 G f1
    have eG := kG fG
    rw [eG] at f
    obtain ⟨u, eu, f⟩ := wb_v f
    rw [show (((7 : Int32) - 6) - 1) = (0 : Int32) from by decide, md0] at eu
    unfold fX2_houseByMiddle_J118 at f
    have f := Option.some.inj (wb_f (c := (1 : Int32) = 0) (by decide) f)
    have g := wb_f (c := (7 : Int32) ≤ 3) (by decide) g
    have g := wb_f (c := (10 : Int32) ≤ 7) (by decide) g
    unfold fX12_houseAt_J112 at g
    have g := wb_t (c := ((((7 : Int32) + 5) - ((7 : Int32) + 5) / 12 * 12) + 1) = 1) (by decide) g
    unfold fX12_houseAt_J195 at g
    have g := Option.some.inj (wb_f (c := ((((7 : Int32) + 5) - ((7 : Int32) + 5) / 12 * 12) + 1) = 7) (by decide) g)
    rw [← f, ← g, eu]
  · subst q
    have f := wb_f (c := (8 : Int32) < 4) (by decide) f
    have f := wb_f (c := (9 : Int32) < 8) (by decide) f
    unfold fX2_houseByMiddle_J16 at f
    have f := wb_f (c := (1 : Int32) = 0) (by decide) f
    have f := wb_t (c := (7 : Int32) ≤ 8) (by decide) f
    unfold fX2_houseByMiddle_J44 at f
    obtain ⟨r1, f1, f⟩ := wb_b f
    obtain ⟨w2, d2, f⟩ := wb_v f
    rw [d2] at f
    clear d2 w2
    have f := wb_t (c := ((8 : Int32) - 6) < (10 : Int32)) (by decide) f
    obtain ⟨G, fG, f⟩ := wb_b f
    obtain ⟨_, kG, k2⟩ := core r1 0 G f1
    have eG := kG fG
    rw [eG] at f
    obtain ⟨u, eu, f⟩ := wb_v f
    rw [show (((8 : Int32) - 6) - 1) = (1 : Int32) from by decide, md1] at eu
    unfold fX2_houseByMiddle_J118 at f
    have f := Option.some.inj (wb_f (c := (1 : Int32) = 0) (by decide) f)
    have g := wb_f (c := (8 : Int32) ≤ 3) (by decide) g
    have g := wb_f (c := (10 : Int32) ≤ 8) (by decide) g
    unfold fX12_houseAt_J112 at g
    have g := wb_f (c := ((((8 : Int32) + 5) - ((8 : Int32) + 5) / 12 * 12) + 1) = 1) (by decide) g
    have g := wb_f (c := ((((8 : Int32) + 5) - ((8 : Int32) + 5) / 12 * 12) + 1) = 10) (by decide) g
    have g := wb_f (c := ((((8 : Int32) + 5) - ((8 : Int32) + 5) / 12 * 12) + 1) = 11) (by decide) g
    have g := wb_f (c := ((((8 : Int32) + 5) - ((8 : Int32) + 5) / 12 * 12) + 1) = 12) (by decide) g
    have g := wb_t (c := ((((8 : Int32) + 5) - ((8 : Int32) + 5) / 12 * 12) + 1) = 2) (by decide) g
    unfold fX12_houseAt_J195 at g
    have g := Option.some.inj (wb_f (c := ((((8 : Int32) + 5) - ((8 : Int32) + 5) / 12 * 12) + 1) = 8) (by decide) g)
    rw [← f, ← g, eu]
  · subst q
    have f := wb_f (c := (9 : Int32) < 4) (by decide) f
    have f := wb_f (c := (9 : Int32) < 9) (by decide) f
    unfold fX2_houseByMiddle_J16 at f
    have f := wb_f (c := (1 : Int32) = 0) (by decide) f
    have f := wb_t (c := (7 : Int32) ≤ 9) (by decide) f
    unfold fX2_houseByMiddle_J44 at f
    obtain ⟨r1, f1, f⟩ := wb_b f
    obtain ⟨w2, d2, f⟩ := wb_v f
    rw [d2] at f
    clear d2 w2
    have f := wb_t (c := ((9 : Int32) - 6) < (10 : Int32)) (by decide) f
    obtain ⟨G, fG, f⟩ := wb_b f
    obtain ⟨_, kG, k2⟩ := core r1 0 G f1
    have eG := kG fG
    rw [eG] at f
    obtain ⟨u, eu, f⟩ := wb_v f
    rw [show (((9 : Int32) - 6) - 1) = (2 : Int32) from by decide] at eu
    unfold fX2_houseByMiddle_J118 at f
    have f := Option.some.inj (wb_f (c := (1 : Int32) = 0) (by decide) f)
    have g := wb_f (c := (9 : Int32) ≤ 3) (by decide) g
    have g := wb_f (c := (10 : Int32) ≤ 9) (by decide) g
    unfold fX12_houseAt_J112 at g
    have g := wb_f (c := ((((9 : Int32) + 5) - ((9 : Int32) + 5) / 12 * 12) + 1) = 1) (by decide) g
    have g := wb_f (c := ((((9 : Int32) + 5) - ((9 : Int32) + 5) / 12 * 12) + 1) = 10) (by decide) g
    have g := wb_f (c := ((((9 : Int32) + 5) - ((9 : Int32) + 5) / 12 * 12) + 1) = 11) (by decide) g
    have g := wb_f (c := ((((9 : Int32) + 5) - ((9 : Int32) + 5) / 12 * 12) + 1) = 12) (by decide) g
    have g := wb_f (c := ((((9 : Int32) + 5) - ((9 : Int32) + 5) / 12 * 12) + 1) = 2) (by decide) g
    unfold fX12_houseAt_J195 at g
    have g := Option.some.inj (wb_f (c := ((((9 : Int32) + 5) - ((9 : Int32) + 5) / 12 * 12) + 1) = 9) (by decide) g)
    rw [← f, ← g, eu]
  · subst q
    have f := wb_f (c := (10 : Int32) < 4) (by decide) f
    have f := wb_t (c := (9 : Int32) < 10) (by decide) f
    unfold fX2_houseByMiddle_J15 fX2_houseByMiddle_J16 at f
    have f := wb_t (c := (0 : Int32) = 0) rfl f
    unfold fX2_houseByMiddle_J44 at f
    obtain ⟨r1, f1, f⟩ := wb_b f
    obtain ⟨w2, d2, f⟩ := wb_v f
    rw [d2] at f
    clear d2 w2
    have f := wb_f (c := ((10 : Int32)) < (10 : Int32)) (by decide) f
    obtain ⟨F, fF, f⟩ := wb_b f
    obtain ⟨kF, _, k2⟩ := core r1 F 0 f1
    have eF := kF fF
    rw [eF, k2] at f
    obtain ⟨u, eu, f⟩ := wb_v f
    rw [show (((10 : Int32)) - 10) = (0 : Int32) from by decide, md0] at eu
    unfold fX2_houseByMiddle_J118 at f
    have f := Option.some.inj (wb_t (c := (0 : Int32) = 0) (by decide) f)
    have g := wb_f (c := (10 : Int32) ≤ 3) (by decide) g
    have g := wb_t (c := (10 : Int32) ≤ 10) (by decide) g
    unfold fX12_houseAt_J110 fX12_houseAt_J112 at g
    have g := wb_f (c := (10 : Int32) = 1) (by decide) g
    have g := wb_t (c := (10 : Int32) = 10) (by decide) g
    unfold fX12_houseAt_J195 at g
    have g := Option.some.inj (wb_t (c := (10 : Int32) = 10) (by decide) g)
    rw [← f, ← g, eu]
  · subst q
    have f := wb_f (c := (11 : Int32) < 4) (by decide) f
    have f := wb_t (c := (9 : Int32) < 11) (by decide) f
    unfold fX2_houseByMiddle_J15 fX2_houseByMiddle_J16 at f
    have f := wb_t (c := (0 : Int32) = 0) rfl f
    unfold fX2_houseByMiddle_J44 at f
    obtain ⟨r1, f1, f⟩ := wb_b f
    obtain ⟨w2, d2, f⟩ := wb_v f
    rw [d2] at f
    clear d2 w2
    have f := wb_f (c := ((11 : Int32)) < (10 : Int32)) (by decide) f
    obtain ⟨F, fF, f⟩ := wb_b f
    obtain ⟨kF, _, k2⟩ := core r1 F 0 f1
    have eF := kF fF
    rw [eF, k2] at f
    obtain ⟨u, eu, f⟩ := wb_v f
    rw [show (((11 : Int32)) - 10) = (1 : Int32) from by decide, md1] at eu
    unfold fX2_houseByMiddle_J118 at f
    have f := Option.some.inj (wb_t (c := (0 : Int32) = 0) (by decide) f)
    have g := wb_f (c := (11 : Int32) ≤ 3) (by decide) g
    have g := wb_t (c := (10 : Int32) ≤ 11) (by decide) g
    unfold fX12_houseAt_J110 fX12_houseAt_J112 at g
    have g := wb_f (c := (11 : Int32) = 1) (by decide) g
    have g := wb_f (c := (11 : Int32) = 10) (by decide) g
    have g := wb_t (c := (11 : Int32) = 11) (by decide) g
    unfold fX12_houseAt_J195 at g
    have g := Option.some.inj (wb_t (c := (11 : Int32) = 11) (by decide) g)
    rw [← f, ← g, eu]
  · subst q
    have f := wb_f (c := (12 : Int32) < 4) (by decide) f
    have f := wb_t (c := (9 : Int32) < 12) (by decide) f
    unfold fX2_houseByMiddle_J15 fX2_houseByMiddle_J16 at f
    have f := wb_t (c := (0 : Int32) = 0) rfl f
    unfold fX2_houseByMiddle_J44 at f
    obtain ⟨r1, f1, f⟩ := wb_b f
    obtain ⟨w2, d2, f⟩ := wb_v f
    rw [d2] at f
    clear d2 w2
    have f := wb_f (c := ((12 : Int32)) < (10 : Int32)) (by decide) f
    obtain ⟨F, fF, f⟩ := wb_b f
    obtain ⟨kF, _, k2⟩ := core r1 F 0 f1
    have eF := kF fF
    rw [eF, k2] at f
    obtain ⟨u, eu, f⟩ := wb_v f
    rw [show (((12 : Int32)) - 10) = (2 : Int32) from by decide] at eu
    unfold fX2_houseByMiddle_J118 at f
    have f := Option.some.inj (wb_t (c := (0 : Int32) = 0) (by decide) f)
    have g := wb_f (c := (12 : Int32) ≤ 3) (by decide) g
    have g := wb_t (c := (10 : Int32) ≤ 12) (by decide) g
    unfold fX12_houseAt_J110 fX12_houseAt_J112 at g
    have g := wb_f (c := (12 : Int32) = 1) (by decide) g
    have g := wb_f (c := (12 : Int32) = 10) (by decide) g
    have g := wb_f (c := (12 : Int32) = 11) (by decide) g
    have g := wb_t (c := (12 : Int32) = 12) (by decide) g
    unfold fX12_houseAt_J195 at g
    have g := Option.some.inj (wb_t (c := (12 : Int32) = 12) (by decide) g)
    rw [← f, ← g, eu]
theorem ho_eq {N N2 : Nat} {I J : Nat → Int32} {L : Int64} {m K : Nat → Nat → Int32} {p a b h w x : Int32} (hc : ¬ w = 0 → ¬ w = 1 → ∃ c : Nat, CL (m 0) (K 4) c ∧ CL (m 0) (K 4) 0 ∧ x.toInt = (c : Int)) (hp : 0 ≤ p.toInt ∧ p.toInt ≤ 359) (hh : 1 ≤ h.toInt ∧ h.toInt ≤ 12) (f : fX2_houseDegree N I m p w x h = some a) (g : fX12_houseAt N2 J L K p w x h = some b) : a = b := by
  unfold fX2_houseDegree at f
  rcases ifr f with ⟨w0, f⟩ | ⟨w0, f⟩
  · unfold fX12_houseAt at g
    have g := wb_t w0 g
    rw [← Option.some.inj f, ← Option.some.inj g, Int32.mul_comm]
  · rcases ifr f with ⟨w1, f⟩ | ⟨w1, f⟩
    · unfold fX12_houseAt at g
      have g := wb_t w1 (wb_f w0 g)
      rw [← Option.some.inj f, ← Option.some.inj g]
    · obtain ⟨r, e, f⟩ := wb_b f
      obtain ⟨c, q1, q2, q3⟩ := hc w0 w1
      rw [← Option.some.inj f]
      exact hm_eq q1 q2 q3 hp hh w0 w1 e g
/-! hours alike -/
theorem hr_eq {N N2 : Nat} {I J : Nat → Int32} {L : Int64} {m K : Nat → Nat → Int32} {x t n sun rise a b : Int32} {c : Nat} (hc : CL (m 0) (K 4) c) (hx : x.toInt = (c : Int)) (ht : 0 ≤ t.toInt ∧ t.toInt ≤ 359) (hs : 0 ≤ sun.toInt ∧ sun.toInt ≤ 359) (g0 : fX12_at N2 J L K n 0 = some sun) (g7 : fX12_at N2 J L K n 7 = some rise) (f : fX2_isHour N I m x t sun rise = some a) (g : fX12_isHour N2 J L K n x t = some b) : a = b ∧ (a = 0 ∨ a = 1) := by
  have n60 : (60 : Int32).toInt = 60 := by decide
  have m60 := ia_mul 60 60 n60 sun (by omega) (by omega)
  unfold fX2_isHour at f
  unfold fX12_isHour at g
  obtain ⟨r1, f1, f⟩ := wb_b f
  obtain ⟨s0, d0, g⟩ := wb_b g
  obtain ⟨s1, d1, g⟩ := wb_b g
  obtain ⟨s7, d7, g⟩ := wb_b g
  have q0 : s0 = sun := Option.some.inj (d0.symm.trans g0)
  have q7 : s7 = rise := Option.some.inj (d7.symm.trans g7)
  rw [q0] at d1
  rw [q7] at g
  have e := (ri_eq hc hx ⟨by omega, by omega⟩ ht f1 d1).1
  rw [← e] at g
  rcases ifr f with ⟨k, f⟩ | ⟨k, f⟩
  · rw [← Option.some.inj f, ← Option.some.inj (wb_t k g)]
    exact ⟨rfl, Or.inr rfl⟩
  · rw [← Option.some.inj f, ← Option.some.inj (wb_f k g)]
    exact ⟨rfl, Or.inl rfl⟩
theorem cdv {y : Nat} (h : y < 2520) : ((nI y) / 360).toInt = ((y / 360 : Nat) : Int) ∧ (nI y - nI y / 360 * 360).toInt = ((y % 360 : Nat) : Int) := by
  have t : (nI y).toInt = (y : Int) := nI_toInt (by omega)
  have a := ia_div (nI y) 360 360 n360 (by omega) (by omega)
  have b := ia_rem (nI y) 360 360 n360 (by omega) (by omega)
  rw [t] at a b
  exact ⟨by omega, by omega⟩
/-- the hours that a WHEEL has, counted -/
theorem hh_l {N N2 : Nat} {I J : Nat → Int32} {L : Int64} {m K : Nat → Nat → Int32} {n sun rise x1 x2 : Int32} (hI : I 0 = J 1) (h7 : (J 1).toInt ≤ 7) (h70 : 0 ≤ (J 1).toInt) (hc : ∀ c : Nat, (c : Int) < (J 1).toInt → CL (m 0) (K 4) c) (hs : 0 ≤ sun.toInt ∧ sun.toInt ≤ 359) (g0 : fX12_at N2 J L K n 0 = some sun) (g7 : fX12_at N2 J L K n 7 = some rise) (j0 : J 0 = 0) : ∀ (fu fv y : Nat) (v a : Int32) S, fX2_howManyHours_L5 N I m sun rise fu v (nI y) = some a → fX12_hour_L67 N2 x1 x2 (-1) n 1 fv J L K v (nI y) = some S → 0 ≤ v.toInt → v.toInt ≤ (y : Int) → (y : Int) ≤ 360 * (J 1).toInt → S = (a, J, L, K) := by
  have m36 := ia_mul 360 360 n360 (J 1) (by omega) (by omega)
  intro fu
  induction fu with
  | zero => intro fv y v a S h; cases (show none = some a from h)
  | succ fu ih =>
    intro fv y v a S h g v0 v1 yb
    cases fv with
    | zero => cases (show none = some S from g)
    | succ fv =>
      rw [fX2_howManyHours_L5.eq_2, hI] at h
      rw [fX12_hour_L67.eq_2] at g
      have ty : (nI y).toInt = (y : Int) := nI_toInt (by omega)
      rcases ifr h with ⟨c, h⟩ | ⟨c, h⟩
      · have g := wb_t c g
        unfold fX12_hour_J127 at g
        have g := wb_t (c := (-1 : Int32) = -1) rfl g
        obtain ⟨r2, e2, g⟩ := wb_b g
        rcases rt12 j0 (by decide) e2 with ⟨-, q⟩ | ⟨q, -⟩
        · subst q
          have g := wb_f (c := (1 : Int32) = 0) (by decide) g
          rw [← Option.some.inj g, Option.some.inj h]
        · exact absurd q (by decide)
      · have g := wb_f c g
        have c : ¬ _ := fun z => c ((le32 m36 ty).mpr z)
        have g := wb_f (c := (1 : Int32) = 0) (by decide) g
        obtain ⟨r1, f1, h⟩ := wb_b h
        obtain ⟨s1, d1, g⟩ := wb_b g
        have yl : y < 2520 := by omega
        obtain ⟨p1, p2⟩ := cdv yl
        obtain ⟨e, e2⟩ := hr_eq (hc (y / 360) (by omega)) p1 ⟨by omega, by omega⟩ hs g0 g7 f1 d1
        rw [← e] at g
        rcases ifr h with ⟨c1, h⟩ | ⟨c1, h⟩
        · have g := wb_t c1 g
          obtain ⟨v1', e1, h⟩ := wb_v h
          obtain ⟨w1, d1, g⟩ := wb_v g
          rw [e1, nI_1] at h
          rw [d1, nI_1] at g
          exact ih fv (y + 1) v a S h g v0 (by omega) (by omega)
        · have g := wb_f c1 g
          have nv : ¬ v = -1 := by
            intro z
            rw [z, show (-1 : Int32).toInt = -1 from by decide] at v0
            omega
          have g := wb_f nv g
          obtain ⟨v1', e1, h⟩ := wb_v h
          obtain ⟨v2', e2, h⟩ := wb_v h
          obtain ⟨w1, d1, g⟩ := wb_v g
          obtain ⟨w2, d2, g⟩ := wb_v g
          rw [e1, e2, nI_1] at h
          rw [d1, d2, nI_1] at g
          have tv := ia_add v 1 (by rw [show (1 : Int32).toInt = 1 from by decide]; omega) (by rw [show (1 : Int32).toInt = 1 from by decide]; omega)
          rw [show (1 : Int32).toInt = 1 from by decide] at tv
          exact ih fv (y + 1) (v + 1) a S h g (by omega) (by omega) (by omega)
/-- the i-th of them -/
theorem hn_l {N N2 : Nat} {I J : Nat → Int32} {L : Int64} {m K : Nat → Nat → Int32} {n sun rise x1 x2 i xx : Int32} (hI : I 0 = J 1) (h7 : (J 1).toInt ≤ 7) (h70 : 0 ≤ (J 1).toInt) (hc : ∀ c : Nat, (c : Int) < (J 1).toInt → CL (m 0) (K 4) c) (hs : 0 ≤ sun.toInt ∧ sun.toInt ≤ 359) (g0 : fX12_at N2 J L K n 0 = some sun) (g7 : fX12_at N2 J L K n 7 = some rise) (j0 : J 0 = 0) (hi : 0 ≤ i.toInt) : ∀ (fu fv y : Nat) (l v a : Int32) S, fX2_nthHour_L6 N I m sun rise xx fu l (nI y) = some a → fX12_hour_L67 N2 x1 x2 i n 1 fv J L K v (nI y) = some S → 0 ≤ v.toInt → v.toInt ≤ (y : Int) → (y : Int) ≤ 360 * (J 1).toInt → 0 ≤ l.toInt → l.toInt = i.toInt - v.toInt → (a = -1 ∧ S.2.1 0 = 1) ∨ (0 ≤ a.toInt ∧ S = (a, J, L, K)) := by
  have m36 := ia_mul 360 360 n360 (J 1) (by omega) (by omega)
  have n1 : (1 : Int32).toInt = 1 := by decide
  have n0 : (0 : Int32).toInt = 0 := by decide
  have nm : (-1 : Int32).toInt = -1 := by decide
  have ni : ¬ i = -1 := by
    intro z
    rw [z, nm] at hi
    omega
  intro fu
  induction fu with
  | zero => intro fv y l v a S h; cases (show none = some a from h)
  | succ fu ih =>
    intro fv y l v a S h g v0 v1 yb l0 l1
    cases fv with
    | zero => cases (show none = some S from g)
    | succ fv =>
      rw [fX2_nthHour_L6.eq_2, hI] at h
      rw [fX12_hour_L67.eq_2] at g
      have ty : (nI y).toInt = (y : Int) := nI_toInt (by omega)
      rcases ifr h with ⟨c, h⟩ | ⟨c, h⟩
      · have g := wb_t c g
        unfold fX12_hour_J127 at g
        have g := wb_f ni g
        obtain ⟨r2, e2, g⟩ := wb_b g
        rcases rt12 j0 (by decide) e2 with ⟨q, -⟩ | ⟨-, q⟩
        · exact absurd rfl q
        · subst q
          have g := wb_t (c := (0 : Int32) = 0) rfl g
          rw [← Option.some.inj g]
          exact Or.inl ⟨(Option.some.inj h).symm, rfl⟩
      · have g := wb_f c g
        have c : ¬ _ := fun z => c ((le32 m36 ty).mpr z)
        have g := wb_f (c := (1 : Int32) = 0) (by decide) g
        have h := wb_f (fun z => by have := (lt32 rfl n0).mp z; omega) h
        obtain ⟨r1, f1, h⟩ := wb_b h
        obtain ⟨s1, d1, g⟩ := wb_b g
        have yl : y < 2520 := by omega
        obtain ⟨p1, p2⟩ := cdv yl
        obtain ⟨e, e2⟩ := hr_eq (hc (y / 360) (by omega)) p1 ⟨by omega, by omega⟩ hs g0 g7 f1 d1
        rw [← e] at g
        rcases ifr h with ⟨c1, h⟩ | ⟨c1, h⟩
        · have g := wb_t c1 g
          obtain ⟨v1', e1, h⟩ := wb_v h
          obtain ⟨w1, d1, g⟩ := wb_v g
          rw [e1, nI_1] at h
          rw [d1, nI_1] at g
          exact ih fv (y + 1) l v a S h g v0 (by omega) (by omega) l0 l1
        · have g := wb_f c1 g
          rcases ifr h with ⟨c2, h⟩ | ⟨c2, h⟩
          · have c2 := (eq32 rfl n0).mp c2
            have g := wb_t ((eq32 rfl rfl).mpr (show v.toInt = i.toInt by omega)) g
            rw [← Option.some.inj g, ← Option.some.inj h]
            exact Or.inr ⟨by omega, rfl⟩
          · have c2 : ¬ _ := fun z => c2 ((eq32 rfl n0).mpr z)
            have g := wb_f (fun z => by have := (eq32 rfl rfl).mp z; omega) g
            obtain ⟨v1', e1, h⟩ := wb_v h
            obtain ⟨v2', e2, h⟩ := wb_v h
            obtain ⟨w1, d1, g⟩ := wb_v g
            obtain ⟨w2, d2, g⟩ := wb_v g
            rw [e2, nI_1] at h
            rw [d2, nI_1] at g
            have tv := ia_add v 1 (by omega) (by omega)
            have hlt := Int32.toInt_lt l
            have tl := ia_add l (-1) (by omega) (by omega)
            rw [← d1] at tv
            rw [← e1] at tl
            exact ih fv (y + 1) v1' w1 a S h g (by omega) (by omega) (by omega) (by omega) (by omega)
/-- the reference looks for none below 0 -/
theorem hn_neg {N : Nat} {J : Nat → Int32} {L : Int64} {K : Nat → Nat → Int32} {n x1 x2 i b : Int32} (h7 : (J 1).toInt ≤ 7) (h70 : 0 ≤ (J 1).toInt) (j0 : J 0 = 0) (hi : i.toInt < -1) : ∀ (fv y : Nat) (v : Int32) S, fX12_hour_L67 N x1 x2 i n b fv J L K v (nI y) = some S → 0 ≤ v.toInt → v.toInt ≤ (y : Int) → (y : Int) ≤ 360 * (J 1).toInt → S.2.1 0 = 1 := by
  have m36 := ia_mul 360 360 n360 (J 1) (by omega) (by omega)
  have n1 : (1 : Int32).toInt = 1 := by decide
  have nm : (-1 : Int32).toInt = -1 := by decide
  have ni : ¬ i = -1 := by
    intro z
    rw [z, nm] at hi
    omega
  intro fv
  induction fv with
  | zero => intro y v S g; cases (show none = some S from g)
  | succ fv ih =>
    intro y v S g v0 v1 yb
    rw [fX12_hour_L67.eq_2] at g
    have ty : (nI y).toInt = (y : Int) := nI_toInt (by omega)
    have fin : fX12_hour_J127 N x1 x2 i J L K v = some S → S.2.1 0 = 1 := by
      intro g
      unfold fX12_hour_J127 at g
      have g := wb_f ni g
      obtain ⟨r2, e2, g⟩ := wb_b g
      rcases rt12 j0 (by decide) e2 with ⟨q, -⟩ | ⟨-, q⟩
      · exact absurd rfl q
      · subst q
        have g := wb_t (c := (0 : Int32) = 0) rfl g
        rw [← Option.some.inj g]
        rfl
    rcases ifr g with ⟨c, g⟩ | ⟨c, g⟩
    · exact fin g
    · have c : ¬ _ := fun z => c ((le32 m36 ty).mpr z)
      rcases ifr g with ⟨c1, g⟩ | ⟨c1, g⟩
      · exact fin g
      · obtain ⟨s1, d1, g⟩ := wb_b g
        rcases ifr g with ⟨c2, g⟩ | ⟨c2, g⟩
        · obtain ⟨w1, d1, g⟩ := wb_v g
          rw [d1, nI_1] at g
          exact ih (y + 1) v S g v0 (by omega) (by omega)
        · have g := wb_f (fun z => by have := (eq32 rfl rfl).mp z; omega) g
          obtain ⟨w1, d1, g⟩ := wb_v g
          obtain ⟨w2, d2, g⟩ := wb_v g
          rw [d2, nI_1] at g
          have tv := ia_add v 1 (by omega) (by omega)
          rw [← d1] at tv
          exact ih (y + 1) w1 S g (by omega) (by omega) (by omega)
/-- with nothing told it looks for none -/
theorem hn_no {N : Nat} {J : Nat → Int32} {L : Int64} {K : Nat → Nat → Int32} {n x1 x2 i : Int32} (j0 : J 0 = 0) (ni : ¬ i = -1) {fv : Nat} {v y : Int32} {S : Int32 × (Nat → Int32) × Int64 × (Nat → Nat → Int32)} (g : fX12_hour_L67 N x1 x2 i n 0 fv J L K v y = some S) : S.2.1 0 = 1 := by
  cases fv with
  | zero => cases (show none = some S from g)
  | succ fv =>
    rw [fX12_hour_L67.eq_2] at g
    have fin : fX12_hour_J127 N x1 x2 i J L K v = some S → S.2.1 0 = 1 := by
      intro g
      unfold fX12_hour_J127 at g
      have g := wb_f ni g
      obtain ⟨r2, e2, g⟩ := wb_b g
      rcases rt12 j0 (by decide) e2 with ⟨q, -⟩ | ⟨-, q⟩
      · exact absurd rfl q
      · subst q
        have g := wb_t (c := (0 : Int32) = 0) rfl g
        rw [← Option.some.inj g]
        rfl
    rcases ifr g with ⟨c, g⟩ | ⟨c, g⟩
    · exact fin g
    · exact fin (wb_t (c := (0 : Int32) = 0) rfl g)
/-! AGREE alike -/
