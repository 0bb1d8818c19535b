def wWX0 (cB cI cZ : ClassId) (a : Nat → Nat) (I : Nat → Int32) (M : Nat → Nat → Int32) : va_W := [(a 0, .inr (0, [.ref (a 1)])), (a 1, .inl (cI, 120, .inl (M 0)))]
def wWX1 (cB cI cZ : ClassId) (a : Nat → Nat) (I : Nat → Int32) (M : Nat → Nat → Int32) : va_W := [(a 0, .inr (1, [.ref (a 1), .ref (a 2)])), (a 1, .inl (cI, 2640, .inl (M 0))), (a 2, .inl (cI, 22, .inl (M 1)))]
def wWX2 (cB cI cZ : ClassId) (a : Nat → Nat) (I : Nat → Int32) (M : Nat → Nat → Int32) : va_W := [(a 0, .inr (2, [.ref (a 1), .int (I 0)])), (a 1, .inl (cI, 91, .inl (M 0)))]
def wWX3 (cB cI cZ : ClassId) (a : Nat → Nat) (I : Nat → Int32) (M : Nat → Nat → Int32) : va_W := [(a 0, .inr (3, [.ref (a 1)])), (a 1, .inl (cI, 7, .inl (M 0)))]
def wWX4 (cB cI cZ : ClassId) (a : Nat → Nat) (I : Nat → Int32) (M : Nat → Nat → Int32) : va_W := [(a 0, .inr (4, [.ref (a 1), .int (I 0)])), (a 1, .inl (cI, 30, .inl (M 0)))]
def wWX5 (cB cI cZ : ClassId) (a : Nat → Nat) (I : Nat → Int32) (M : Nat → Nat → Int32) : va_W := [(a 0, .inr (5, [.ref (a 1), .ref (a 2), .ref (a 3), .ref (a 4), .ref (a 5), .ref (a 7)])), (a 1, .inl (cI, 28, .inl (M 0))), (a 2, .inl (cI, 28, .inl (M 1))), (a 3, .inl (cI, 28, .inl (M 2))), (a 4, .inl (cI, 28, .inl (M 3))), (a 5, .inr (2, [.ref (a 6), .int (I 0)])), (a 6, .inl (cI, 91, .inl (M 4))), (a 7, .inr (4, [.ref (a 8), .int (I 1)])), (a 8, .inl (cI, 30, .inl (M 5)))]
def wWX6 (cB cI cZ : ClassId) (a : Nat → Nat) (I : Nat → Int32) (M : Nat → Nat → Int32) : va_W := [(a 0, .inr (6, [.ref (a 1), .ref (a 2), .ref (a 3), .ref (a 4)])), (a 1, .inl (cI, 120, .inl (M 0))), (a 2, .inl (cI, 6, .inl (M 1))), (a 3, .inl (cI, 20, .inl (M 2))), (a 4, .inl (cI, 20, .inl (M 3)))]
def wWX7 (cB cI cZ : ClassId) (a : Nat → Nat) (I : Nat → Int32) (M : Nat → Nat → Int32) : va_W := [(a 0, .inr (7, [.ref (a 1), .ref (a 2), .ref (a 3), .ref (a 4), .ref (a 5), .ref (a 6)])), (a 1, .inl (cI, 20, .inl (M 0))), (a 2, .inl (cI, 20, .inl (M 1))), (a 3, .inl (cI, 20, .inl (M 2))), (a 4, .inl (cI, 20, .inl (M 3))), (a 5, .inl (cZ, 64, .inl (M 4))), (a 6, .inl (cI, 2304, .inl (M 5)))]
def wWX8 (cB cI cZ : ClassId) (a : Nat → Nat) (I : Nat → Int32) (M : Nat → Nat → Int32) : va_W := [(a 0, .inr (8, [.int (I 0), .int (I 1), .int (I 2), .int (I 3), .int (I 4), .int (I 5), .int (I 6), .ref (a 1)])), (a 1, .inl (cI, 20, .inl (M 0)))]
def wWX9 (cB cI cZ : ClassId) (a : Nat → Nat) (I : Nat → Int32) (M : Nat → Nat → Int32) : va_W := [(a 0, .inr (9, [.ref (a 1), .int (I 0), .int (I 1), .int (I 2), .int (I 3), .int (I 4), .int (I 5), .int (I 6), .int (I 7), .int (I 8)])), (a 1, .inl (cB, 600, .inl (M 0)))]
def wWX10 (cB cI cZ : ClassId) (a : Nat → Nat) (I : Nat → Int32) (M : Nat → Nat → Int32) : va_W := [(a 0, .inr (10, [.ref (a 1), .ref (a 2), .ref (a 3), .int (I 0), .int (I 1)])), (a 1, .inl (cI, 36, .inl (M 0))), (a 2, .inl (cI, 6, .inl (M 1))), (a 3, .inl (cI, 6, .inl (M 2)))]
def wWX11 (cB cI cZ : ClassId) (a : Nat → Nat) (I : Nat → Int32) (M : Nat → Nat → Int32) : va_W := [(a 0, .inr (11, [.ref (a 1), .ref (a 3), .ref (a 12), .ref (a 21), .ref (a 24), .ref (a 26), .ref (a 28), .ref (a 30), .ref (a 32), .ref (a 34), .ref (a 38), .ref (a 43), .ref (a 45)])), (a 1, .inr (9, [.ref (a 2), .int (I 0), .int (I 1), .int (I 2), .int (I 3), .int (I 4), .int (I 5), .int (I 6), .int (I 7), .int (I 8)])), (a 2, .inl (cB, 600, .inl (M 0))), (a 3, .inr (5, [.ref (a 4), .ref (a 5), .ref (a 6), .ref (a 7), .ref (a 8), .ref (a 10)])), (a 4, .inl (cI, 28, .inl (M 1))), (a 5, .inl (cI, 28, .inl (M 2))), (a 6, .inl (cI, 28, .inl (M 3))), (a 7, .inl (cI, 28, .inl (M 4))), (a 8, .inr (2, [.ref (a 9), .int (I 9)])), (a 9, .inl (cI, 91, .inl (M 5))), (a 10, .inr (4, [.ref (a 11), .int (I 10)])), (a 11, .inl (cI, 30, .inl (M 6))), (a 12, .inr (5, [.ref (a 13), .ref (a 14), .ref (a 15), .ref (a 16), .ref (a 17), .ref (a 19)])), (a 13, .inl (cI, 28, .inl (M 7))), (a 14, .inl (cI, 28, .inl (M 8))), (a 15, .inl (cI, 28, .inl (M 9))), (a 16, .inl (cI, 28, .inl (M 10))), (a 17, .inr (2, [.ref (a 18), .int (I 11)])), (a 18, .inl (cI, 91, .inl (M 11))), (a 19, .inr (4, [.ref (a 20), .int (I 12)])), (a 20, .inl (cI, 30, .inl (M 12))), (a 21, .inr (1, [.ref (a 22), .ref (a 23)])), (a 22, .inl (cI, 2640, .inl (M 13))), (a 23, .inl (cI, 22, .inl (M 14))), (a 24, .inr (3, [.ref (a 25)])), (a 25, .inl (cI, 7, .inl (M 15))), (a 26, .inr (8, [.int (I 13), .int (I 14), .int (I 15), .int (I 16), .int (I 17), .int (I 18), .int (I 19), .ref (a 27)])), (a 27, .inl (cI, 20, .inl (M 16))), (a 28, .inr (8, [.int (I 20), .int (I 21), .int (I 22), .int (I 23), .int (I 24), .int (I 25), .int (I 26), .ref (a 29)])), (a 29, .inl (cI, 20, .inl (M 17))), (a 30, .inr (8, [.int (I 27), .int (I 28), .int (I 29), .int (I 30), .int (I 31), .int (I 32), .int (I 33), .ref (a 31)])), (a 31, .inl (cI, 20, .inl (M 18))), (a 32, .inr (8, [.int (I 34), .int (I 35), .int (I 36), .int (I 37), .int (I 38), .int (I 39), .int (I 40), .ref (a 33)])), (a 33, .inl (cI, 20, .inl (M 19))), (a 34, .inr (10, [.ref (a 35), .ref (a 36), .ref (a 37), .int (I 41), .int (I 42)])), (a 35, .inl (cI, 36, .inl (M 20))), (a 36, .inl (cI, 6, .inl (M 21))), (a 37, .inl (cI, 6, .inl (M 22))), (a 38, .inr (6, [.ref (a 39), .ref (a 40), .ref (a 41), .ref (a 42)])), (a 39, .inl (cI, 120, .inl (M 23))), (a 40, .inl (cI, 6, .inl (M 24))), (a 41, .inl (cI, 20, .inl (M 25))), (a 42, .inl (cI, 20, .inl (M 26))), (a 43, .inr (0, [.ref (a 44)])), (a 44, .inl (cI, 120, .inl (M 27))), (a 45, .inr (7, [.ref (a 46), .ref (a 47), .ref (a 48), .ref (a 49), .ref (a 50), .ref (a 51)])), (a 46, .inl (cI, 20, .inl (M 28))), (a 47, .inl (cI, 20, .inl (M 29))), (a 48, .inl (cI, 20, .inl (M 30))), (a 49, .inl (cI, 20, .inl (M 31))), (a 50, .inl (cZ, 64, .inl (M 32))), (a 51, .inl (cI, 2304, .inl (M 33)))]
def wWX12 (cB cI cZ : ClassId) (a : Nat → Nat) (I : Nat → Int32) (L : Int64) (M : Nat → Nat → Int32) : va_W := [(a 0, .inr (12, [.int (I 0), .ref (a 1), .ref (a 2), .ref (a 3), .ref (a 4), .int (I 1), .int (I 2), .ref (a 5), .ref (a 6), .ref (a 7), .ref (a 8), .ref (a 9), .int (I 3), .int (I 4), .int (I 5), .int (I 6), .int (I 7), .int (I 8), .int (I 9), .int (I 10), .int (I 11), .long L, .int (I 12), .int (I 13), .int (I 14), .ref (a 10), .ref (a 11), .ref (a 12), .ref (a 13), .ref (a 14), .ref (a 15), .ref (a 16), .ref (a 17), .int (I 15), .ref (a 18), .int (I 16), .int (I 17), .ref (a 19), .ref (a 20), .ref (a 21), .ref (a 22), .ref (a 23), .int (I 18), .ref (a 24), .ref (a 25), .ref (a 26), .ref (a 27), .ref (a 28), .ref (a 29), .ref (a 30), .ref (a 31), .ref (a 32), .ref (a 33), .ref (a 34), .ref (a 35), .int (I 19), .ref (a 36), .ref (a 37)])), (a 1, .inl (cI, 28, .inl (M 0))), (a 2, .inl (cI, 28, .inl (M 1))), (a 3, .inl (cI, 28, .inl (M 2))), (a 4, .inl (cI, 28, .inl (M 3))), (a 5, .inl (cI, 84, .inl (M 4))), (a 6, .inl (cI, 30, .inl (M 5))), (a 7, .inl (cI, 30, .inl (M 6))), (a 8, .inl (cI, 2640, .inl (M 7))), (a 9, .inl (cI, 600, .inl (M 8))), (a 10, .inl (cI, 28, .inl (M 9))), (a 11, .inl (cI, 28, .inl (M 10))), (a 12, .inl (cI, 28, .inl (M 11))), (a 13, .inl (cI, 28, .inl (M 12))), (a 14, .inl (cI, 84, .inl (M 13))), (a 15, .inl (cI, 30, .inl (M 14))), (a 16, .inl (cI, 30, .inl (M 15))), (a 17, .inl (cI, 22, .inl (M 16))), (a 18, .inl (cI, 20, .inl (M 17))), (a 19, .inl (cI, 7, .inl (M 18))), (a 20, .inl (cI, 7, .inl (M 19))), (a 21, .inl (cI, 4, .inl (M 20))), (a 22, .inl (cI, 4, .inl (M 21))), (a 23, .inl (cI, 4, .inl (M 22))), (a 24, .inl (cI, 6, .inl (M 23))), (a 25, .inl (cI, 6, .inl (M 24))), (a 26, .inl (cI, 36, .inl (M 25))), (a 27, .inl (cZ, 6, .inl (M 26))), (a 28, .inl (cI, 6, .inl (M 27))), (a 29, .inl (cI, 120, .inl (M 28))), (a 30, .inl (cI, 20, .inl (M 29))), (a 31, .inl (cI, 20, .inl (M 30))), (a 32, .inl (cI, 120, .inl (M 31))), (a 33, .inl (cI, 20, .inl (M 32))), (a 34, .inl (cI, 20, .inl (M 33))), (a 35, .inl (cI, 20, .inl (M 34))), (a 36, .inl (cI, 20, .inl (M 35))), (a 37, .inl (cI, 20, .inl (M 36)))]
theorem wb_sw4 {x : Int32} (h0 : ¬ x = (0 : Int32)) (h1 : ¬ x = (1 : Int32)) (h2 : ¬ x = (2 : Int32)) (h3 : ¬ x = (3 : Int32)) : x.toInt < 0 ∨ 3 < x.toInt := by
  have q0 := wb_ne (0) h0
  rw [show (0 : Int32).toInt = 0 from by decide] at q0
  have q1 := wb_ne (1) h1
  rw [show (1 : Int32).toInt = 1 from by decide] at q1
  have q2 := wb_ne (2) h2
  rw [show (2 : Int32).toInt = 2 from by decide] at q2
  have q3 := wb_ne (3) h3
  rw [show (3 : Int32).toInt = 3 from by decide] at q3
  omega
theorem wb_sw6 {x : Int32} (h0 : ¬ x = (0 : Int32)) (h1 : ¬ x = (1 : Int32)) (h2 : ¬ x = (2 : Int32)) (h3 : ¬ x = (3 : Int32)) (h4 : ¬ x = (4 : Int32)) (h5 : ¬ x = (5 : Int32)) : x.toInt < 0 ∨ 5 < x.toInt := by
  have q0 := wb_ne (0) h0
  rw [show (0 : Int32).toInt = 0 from by decide] at q0
  have q1 := wb_ne (1) h1
  rw [show (1 : Int32).toInt = 1 from by decide] at q1
  have q2 := wb_ne (2) h2
  rw [show (2 : Int32).toInt = 2 from by decide] at q2
  have q3 := wb_ne (3) h3
  rw [show (3 : Int32).toInt = 3 from by decide] at q3
  have q4 := wb_ne (4) h4
  rw [show (4 : Int32).toInt = 4 from by decide] at q4
  have q5 := wb_ne (5) h5
  rw [show (5 : Int32).toInt = 5 from by decide] at q5
  omega
theorem wb_sw8 {x : Int32} (h0 : ¬ x = (0 : Int32)) (h1 : ¬ x = (1 : Int32)) (h2 : ¬ x = (2 : Int32)) (h3 : ¬ x = (3 : Int32)) (h4 : ¬ x = (4 : Int32)) (h5 : ¬ x = (5 : Int32)) (h6 : ¬ x = (6 : Int32)) (h7 : ¬ x = (7 : Int32)) : x.toInt < 0 ∨ 7 < x.toInt := by
  have q0 := wb_ne (0) h0
  rw [show (0 : Int32).toInt = 0 from by decide] at q0
  have q1 := wb_ne (1) h1
  rw [show (1 : Int32).toInt = 1 from by decide] at q1
  have q2 := wb_ne (2) h2
  rw [show (2 : Int32).toInt = 2 from by decide] at q2
  have q3 := wb_ne (3) h3
  rw [show (3 : Int32).toInt = 3 from by decide] at q3
  have q4 := wb_ne (4) h4
  rw [show (4 : Int32).toInt = 4 from by decide] at q4
  have q5 := wb_ne (5) h5
  rw [show (5 : Int32).toInt = 5 from by decide] at q5
  have q6 := wb_ne (6) h6
  rw [show (6 : Int32).toInt = 6 from by decide] at q6
  have q7 := wb_ne (7) h7
  rw [show (7 : Int32).toInt = 7 from by decide] at q7
  omega
theorem wb_sw18 {x : Int32} (h0 : ¬ x = (0 : Int32)) (h1 : ¬ x = (1 : Int32)) (h2 : ¬ x = (2 : Int32)) (h3 : ¬ x = (3 : Int32)) (h4 : ¬ x = (4 : Int32)) (h5 : ¬ x = (5 : Int32)) (h6 : ¬ x = (6 : Int32)) (h7 : ¬ x = (7 : Int32)) (h8 : ¬ x = (8 : Int32)) (h9 : ¬ x = (9 : Int32)) (h10 : ¬ x = (10 : Int32)) (h11 : ¬ x = (11 : Int32)) (h12 : ¬ x = (12 : Int32)) (h13 : ¬ x = (13 : Int32)) (h14 : ¬ x = (14 : Int32)) (h15 : ¬ x = (15 : Int32)) (h16 : ¬ x = (16 : Int32)) (h17 : ¬ x = (17 : Int32)) : x.toInt < 0 ∨ 17 < x.toInt := by
  have q0 := wb_ne (0) h0
  rw [show (0 : Int32).toInt = 0 from by decide] at q0
  have q1 := wb_ne (1) h1
  rw [show (1 : Int32).toInt = 1 from by decide] at q1
  have q2 := wb_ne (2) h2
  rw [show (2 : Int32).toInt = 2 from by decide] at q2
  have q3 := wb_ne (3) h3
  rw [show (3 : Int32).toInt = 3 from by decide] at q3
  have q4 := wb_ne (4) h4
  rw [show (4 : Int32).toInt = 4 from by decide] at q4
  have q5 := wb_ne (5) h5
  rw [show (5 : Int32).toInt = 5 from by decide] at q5
  have q6 := wb_ne (6) h6
  rw [show (6 : Int32).toInt = 6 from by decide] at q6
  have q7 := wb_ne (7) h7
  rw [show (7 : Int32).toInt = 7 from by decide] at q7
  have q8 := wb_ne (8) h8
  rw [show (8 : Int32).toInt = 8 from by decide] at q8
  have q9 := wb_ne (9) h9
  rw [show (9 : Int32).toInt = 9 from by decide] at q9
  have q10 := wb_ne (10) h10
  rw [show (10 : Int32).toInt = 10 from by decide] at q10
  have q11 := wb_ne (11) h11
  rw [show (11 : Int32).toInt = 11 from by decide] at q11
  have q12 := wb_ne (12) h12
  rw [show (12 : Int32).toInt = 12 from by decide] at q12
  have q13 := wb_ne (13) h13
  rw [show (13 : Int32).toInt = 13 from by decide] at q13
  have q14 := wb_ne (14) h14
  rw [show (14 : Int32).toInt = 14 from by decide] at q14
  have q15 := wb_ne (15) h15
  rw [show (15 : Int32).toInt = 15 from by decide] at q15
  have q16 := wb_ne (16) h16
  rw [show (16 : Int32).toInt = 16 from by decide] at q16
  have q17 := wb_ne (17) h17
  rw [show (17 : Int32).toInt = 17 from by decide] at q17
  omega
theorem wb_df1 {f g : Nat → Value} (h0 : f 0 = g 0) (j : Nat) (hj : j < 1) : f j = g j := by
  match j, hj with
  | 0, _ => exact h0
theorem wb_df2 {f g : Nat → Value} (h0 : f 0 = g 0) (h1 : f 1 = g 1) (j : Nat) (hj : j < 2) : f j = g j := by
  match j, hj with
  | 0, _ => exact h0
  | 1, _ => exact h1
theorem wb_df4 {f g : Nat → Value} (h0 : f 0 = g 0) (h1 : f 1 = g 1) (h2 : f 2 = g 2) (h3 : f 3 = g 3) (j : Nat) (hj : j < 4) : f j = g j := by
  match j, hj with
  | 0, _ => exact h0
  | 1, _ => exact h1
  | 2, _ => exact h2
  | 3, _ => exact h3
theorem wb_df5 {f g : Nat → Value} (h0 : f 0 = g 0) (h1 : f 1 = g 1) (h2 : f 2 = g 2) (h3 : f 3 = g 3) (h4 : f 4 = g 4) (j : Nat) (hj : j < 5) : f j = g j := by
  match j, hj with
  | 0, _ => exact h0
  | 1, _ => exact h1
  | 2, _ => exact h2
  | 3, _ => exact h3
  | 4, _ => exact h4
theorem wb_df6 {f g : Nat → Value} (h0 : f 0 = g 0) (h1 : f 1 = g 1) (h2 : f 2 = g 2) (h3 : f 3 = g 3) (h4 : f 4 = g 4) (h5 : f 5 = g 5) (j : Nat) (hj : j < 6) : f j = g j := by
  match j, hj with
  | 0, _ => exact h0
  | 1, _ => exact h1
  | 2, _ => exact h2
  | 3, _ => exact h3
  | 4, _ => exact h4
  | 5, _ => exact h5
theorem wb_df8 {f g : Nat → Value} (h0 : f 0 = g 0) (h1 : f 1 = g 1) (h2 : f 2 = g 2) (h3 : f 3 = g 3) (h4 : f 4 = g 4) (h5 : f 5 = g 5) (h6 : f 6 = g 6) (h7 : f 7 = g 7) (j : Nat) (hj : j < 8) : f j = g j := by
  match j, hj with
  | 0, _ => exact h0
  | 1, _ => exact h1
  | 2, _ => exact h2
  | 3, _ => exact h3
  | 4, _ => exact h4
  | 5, _ => exact h5
  | 6, _ => exact h6
  | 7, _ => exact h7
theorem wb_df10 {f g : Nat → Value} (h0 : f 0 = g 0) (h1 : f 1 = g 1) (h2 : f 2 = g 2) (h3 : f 3 = g 3) (h4 : f 4 = g 4) (h5 : f 5 = g 5) (h6 : f 6 = g 6) (h7 : f 7 = g 7) (h8 : f 8 = g 8) (h9 : f 9 = g 9) (j : Nat) (hj : j < 10) : f j = g j := by
  match j, hj with
  | 0, _ => exact h0
  | 1, _ => exact h1
  | 2, _ => exact h2
  | 3, _ => exact h3
  | 4, _ => exact h4
  | 5, _ => exact h5
  | 6, _ => exact h6
  | 7, _ => exact h7
  | 8, _ => exact h8
  | 9, _ => exact h9
theorem cdJ0_charAt_5068e : yJ0_charAt_5068e.cls = RJ0 ∧ yJ0_charAt_5068e.cls ≠ "java/lang/invoke/MethodHandle" ∧ yJ0_charAt_5068e.cls ≠ "java/lang/invoke/VarHandle" ∧ (parseMethodDescriptor yJ0_charAt_5068e.desc).map (fun d => d.parameters.length) = some 1 := by decide +kernel
theorem cdJ0_length_8abf5 : yJ0_length_8abf5.cls = RJ0 ∧ yJ0_length_8abf5.cls ≠ "java/lang/invoke/MethodHandle" ∧ yJ0_length_8abf5.cls ≠ "java/lang/invoke/VarHandle" ∧ (parseMethodDescriptor yJ0_length_8abf5.desc).map (fun d => d.parameters.length) = some 0 := by decide +kernel
theorem csJ6_bitCount_0f7a4 : yJ6_bitCount_0f7a4.cls ≠ "java/lang/invoke/MethodHandle" ∧ yJ6_bitCount_0f7a4.cls ≠ "java/lang/invoke/VarHandle" ∧ (parseMethodDescriptor yJ6_bitCount_0f7a4.desc).map (fun d => d.parameters.length) = some 1 := by decide +kernel
theorem csJ7_fill_53178 : yJ7_fill_53178.cls ≠ "java/lang/invoke/MethodHandle" ∧ yJ7_fill_53178.cls ≠ "java/lang/invoke/VarHandle" ∧ (parseMethodDescriptor yJ7_fill_53178.desc).map (fun d => d.parameters.length) = some 2 := by decide +kernel
theorem csJ9_floorDiv_f86c9 : yJ9_floorDiv_f86c9.cls ≠ "java/lang/invoke/MethodHandle" ∧ yJ9_floorDiv_f86c9.cls ≠ "java/lang/invoke/VarHandle" ∧ (parseMethodDescriptor yJ9_floorDiv_f86c9.desc).map (fun d => d.parameters.length) = some 2 := by decide +kernel
theorem csJ9_floorMod_7cf53 : yJ9_floorMod_7cf53.cls ≠ "java/lang/invoke/MethodHandle" ∧ yJ9_floorMod_7cf53.cls ≠ "java/lang/invoke/VarHandle" ∧ (parseMethodDescriptor yJ9_floorMod_7cf53.desc).map (fun d => d.parameters.length) = some 2 := by decide +kernel
theorem csJ9_floorMod_f86c9 : yJ9_floorMod_f86c9.cls ≠ "java/lang/invoke/MethodHandle" ∧ yJ9_floorMod_f86c9.cls ≠ "java/lang/invoke/VarHandle" ∧ (parseMethodDescriptor yJ9_floorMod_f86c9.desc).map (fun d => d.parameters.length) = some 2 := by decide +kernel
theorem csX0_areOne : yX0_areOne.cls ≠ "java/lang/invoke/MethodHandle" ∧ yX0_areOne.cls ≠ "java/lang/invoke/VarHandle" ∧ (parseMethodDescriptor yX0_areOne.desc).map (fun d => d.parameters.length) = some 5 := by decide +kernel
theorem cdX0_howManyParts : yX0_howManyParts.cls = RX0 ∧ yX0_howManyParts.cls ≠ "java/lang/invoke/MethodHandle" ∧ yX0_howManyParts.cls ≠ "java/lang/invoke/VarHandle" ∧ (parseMethodDescriptor yX0_howManyParts.desc).map (fun d => d.parameters.length) = some 1 := by decide +kernel
theorem csX0_init : yX0_init.cls ≠ "java/lang/invoke/MethodHandle" ∧ yX0_init.cls ≠ "java/lang/invoke/VarHandle" ∧ (parseMethodDescriptor yX0_init.desc).map (fun d => d.parameters.length) = some 0 := by decide +kernel
theorem cdX0_join : yX0_join.cls = RX0 ∧ yX0_join.cls ≠ "java/lang/invoke/MethodHandle" ∧ yX0_join.cls ≠ "java/lang/invoke/VarHandle" ∧ (parseMethodDescriptor yX0_join.desc).map (fun d => d.parameters.length) = some 3 := by decide +kernel
theorem cdX0_leastOf : yX0_leastOf.cls = RX0 ∧ yX0_leastOf.cls ≠ "java/lang/invoke/MethodHandle" ∧ yX0_leastOf.cls ≠ "java/lang/invoke/VarHandle" ∧ (parseMethodDescriptor yX0_leastOf.desc).map (fun d => d.parameters.length) = some 1 := by decide +kernel
theorem cdX0_partBy : yX0_partBy.cls = RX0 ∧ yX0_partBy.cls ≠ "java/lang/invoke/MethodHandle" ∧ yX0_partBy.cls ≠ "java/lang/invoke/VarHandle" ∧ (parseMethodDescriptor yX0_partBy.desc).map (fun d => d.parameters.length) = some 3 := by decide +kernel
theorem cdX10_choose : yX10_choose.cls = RX10 ∧ yX10_choose.cls ≠ "java/lang/invoke/MethodHandle" ∧ yX10_choose.cls ≠ "java/lang/invoke/VarHandle" ∧ (parseMethodDescriptor yX10_choose.desc).map (fun d => d.parameters.length) = some 3 := by decide +kernel
theorem cdX10_comesFrom : yX10_comesFrom.cls = RX10 ∧ yX10_comesFrom.cls ≠ "java/lang/invoke/MethodHandle" ∧ yX10_comesFrom.cls ≠ "java/lang/invoke/VarHandle" ∧ (parseMethodDescriptor yX10_comesFrom.desc).map (fun d => d.parameters.length) = some 2 := by decide +kernel
theorem cdX10_grow : yX10_grow.cls = RX10 ∧ yX10_grow.cls ≠ "java/lang/invoke/MethodHandle" ∧ yX10_grow.cls ≠ "java/lang/invoke/VarHandle" ∧ (parseMethodDescriptor yX10_grow.desc).map (fun d => d.parameters.length) = some 0 := by decide +kernel
theorem cdX10_holds : yX10_holds.cls = RX10 ∧ yX10_holds.cls ≠ "java/lang/invoke/MethodHandle" ∧ yX10_holds.cls ≠ "java/lang/invoke/VarHandle" ∧ (parseMethodDescriptor yX10_holds.desc).map (fun d => d.parameters.length) = some 1 := by decide +kernel
theorem cdX10_howManySlips : yX10_howManySlips.cls = RX10 ∧ yX10_howManySlips.cls ≠ "java/lang/invoke/MethodHandle" ∧ yX10_howManySlips.cls ≠ "java/lang/invoke/VarHandle" ∧ (parseMethodDescriptor yX10_howManySlips.desc).map (fun d => d.parameters.length) = some 4 := by decide +kernel
theorem csX10_init : yX10_init.cls ≠ "java/lang/invoke/MethodHandle" ∧ yX10_init.cls ≠ "java/lang/invoke/VarHandle" ∧ (parseMethodDescriptor yX10_init.desc).map (fun d => d.parameters.length) = some 0 := by decide +kernel
theorem csX10_isSlip : yX10_isSlip.cls ≠ "java/lang/invoke/MethodHandle" ∧ yX10_isSlip.cls ≠ "java/lang/invoke/VarHandle" ∧ (parseMethodDescriptor yX10_isSlip.desc).map (fun d => d.parameters.length) = some 5 := by decide +kernel
theorem cdX10_parentOf : yX10_parentOf.cls = RX10 ∧ yX10_parentOf.cls ≠ "java/lang/invoke/MethodHandle" ∧ yX10_parentOf.cls ≠ "java/lang/invoke/VarHandle" ∧ (parseMethodDescriptor yX10_parentOf.desc).map (fun d => d.parameters.length) = some 1 := by decide +kernel
theorem csX10_priceOf : yX10_priceOf.cls ≠ "java/lang/invoke/MethodHandle" ∧ yX10_priceOf.cls ≠ "java/lang/invoke/VarHandle" ∧ (parseMethodDescriptor yX10_priceOf.desc).map (fun d => d.parameters.length) = some 4 := by decide +kernel
theorem csX10_priceOfEntry : yX10_priceOfEntry.cls ≠ "java/lang/invoke/MethodHandle" ∧ yX10_priceOfEntry.cls ≠ "java/lang/invoke/VarHandle" ∧ (parseMethodDescriptor yX10_priceOfEntry.desc).map (fun d => d.parameters.length) = some 4 := by decide +kernel
theorem cdX10_setBooks : yX10_setBooks.cls = RX10 ∧ yX10_setBooks.cls ≠ "java/lang/invoke/MethodHandle" ∧ yX10_setBooks.cls ≠ "java/lang/invoke/VarHandle" ∧ (parseMethodDescriptor yX10_setBooks.desc).map (fun d => d.parameters.length) = some 1 := by decide +kernel
theorem cdX10_setPrices : yX10_setPrices.cls = RX10 ∧ yX10_setPrices.cls ≠ "java/lang/invoke/MethodHandle" ∧ yX10_setPrices.cls ≠ "java/lang/invoke/VarHandle" ∧ (parseMethodDescriptor yX10_setPrices.desc).map (fun d => d.parameters.length) = some 2 := by decide +kernel
theorem cdX10_slipsOf : yX10_slipsOf.cls = RX10 ∧ yX10_slipsOf.cls ≠ "java/lang/invoke/MethodHandle" ∧ yX10_slipsOf.cls ≠ "java/lang/invoke/VarHandle" ∧ (parseMethodDescriptor yX10_slipsOf.desc).map (fun d => d.parameters.length) = some 5 := by decide +kernel
theorem csX11_allow : yX11_allow.cls ≠ "java/lang/invoke/MethodHandle" ∧ yX11_allow.cls ≠ "java/lang/invoke/VarHandle" ∧ (parseMethodDescriptor yX11_allow.desc).map (fun d => d.parameters.length) = some 1 := by decide +kernel
theorem cdX11_climatesThatCanBe : yX11_climatesThatCanBe.cls = RX11 ∧ yX11_climatesThatCanBe.cls ≠ "java/lang/invoke/MethodHandle" ∧ yX11_climatesThatCanBe.cls ≠ "java/lang/invoke/VarHandle" ∧ (parseMethodDescriptor yX11_climatesThatCanBe.desc).map (fun d => d.parameters.length) = some 1 := by decide +kernel
theorem csX11_isBook : yX11_isBook.cls ≠ "java/lang/invoke/MethodHandle" ∧ yX11_isBook.cls ≠ "java/lang/invoke/VarHandle" ∧ (parseMethodDescriptor yX11_isBook.desc).map (fun d => d.parameters.length) = some 1 := by decide +kernel
theorem cdX11_isClimate : yX11_isClimate.cls = RX11 ∧ yX11_isClimate.cls ≠ "java/lang/invoke/MethodHandle" ∧ yX11_isClimate.cls ≠ "java/lang/invoke/VarHandle" ∧ (parseMethodDescriptor yX11_isClimate.desc).map (fun d => d.parameters.length) = some 1 := by decide +kernel
theorem csX11_isDay : yX11_isDay.cls ≠ "java/lang/invoke/MethodHandle" ∧ yX11_isDay.cls ≠ "java/lang/invoke/VarHandle" ∧ (parseMethodDescriptor yX11_isDay.desc).map (fun d => d.parameters.length) = some 1 := by decide +kernel
theorem csX11_isNumber : yX11_isNumber.cls ≠ "java/lang/invoke/MethodHandle" ∧ yX11_isNumber.cls ≠ "java/lang/invoke/VarHandle" ∧ (parseMethodDescriptor yX11_isNumber.desc).map (fun d => d.parameters.length) = some 1 := by decide +kernel
theorem csX11_isSpan : yX11_isSpan.cls ≠ "java/lang/invoke/MethodHandle" ∧ yX11_isSpan.cls ≠ "java/lang/invoke/VarHandle" ∧ (parseMethodDescriptor yX11_isSpan.desc).map (fun d => d.parameters.length) = some 2 := by decide +kernel
theorem cdX11_isWay : yX11_isWay.cls = RX11 ∧ yX11_isWay.cls ≠ "java/lang/invoke/MethodHandle" ∧ yX11_isWay.cls ≠ "java/lang/invoke/VarHandle" ∧ (parseMethodDescriptor yX11_isWay.desc).map (fun d => d.parameters.length) = some 2 := by decide +kernel
theorem csX11_need : yX11_need.cls ≠ "java/lang/invoke/MethodHandle" ∧ yX11_need.cls ≠ "java/lang/invoke/VarHandle" ∧ (parseMethodDescriptor yX11_need.desc).map (fun d => d.parameters.length) = some 1 := by decide +kernel
theorem csX11_numberOf : yX11_numberOf.cls ≠ "java/lang/invoke/MethodHandle" ∧ yX11_numberOf.cls ≠ "java/lang/invoke/VarHandle" ∧ (parseMethodDescriptor yX11_numberOf.desc).map (fun d => d.parameters.length) = some 2 := by decide +kernel
theorem cdX11_waysThatCanBe : yX11_waysThatCanBe.cls = RX11 ∧ yX11_waysThatCanBe.cls ≠ "java/lang/invoke/MethodHandle" ∧ yX11_waysThatCanBe.cls ≠ "java/lang/invoke/VarHandle" ∧ (parseMethodDescriptor yX11_waysThatCanBe.desc).map (fun d => d.parameters.length) = some 1 := by decide +kernel
theorem csX11_within : yX11_within.cls ≠ "java/lang/invoke/MethodHandle" ∧ yX11_within.cls ≠ "java/lang/invoke/VarHandle" ∧ (parseMethodDescriptor yX11_within.desc).map (fun d => d.parameters.length) = some 3 := by decide +kernel
theorem cdX12_agrees : yX12_agrees.cls = RX12 ∧ yX12_agrees.cls ≠ "java/lang/invoke/MethodHandle" ∧ yX12_agrees.cls ≠ "java/lang/invoke/VarHandle" ∧ (parseMethodDescriptor yX12_agrees.desc).map (fun d => d.parameters.length) = some 3 := by decide +kernel
theorem cdX12_areSame : yX12_areSame.cls = RX12 ∧ yX12_areSame.cls ≠ "java/lang/invoke/MethodHandle" ∧ yX12_areSame.cls ≠ "java/lang/invoke/VarHandle" ∧ (parseMethodDescriptor yX12_areSame.desc).map (fun d => d.parameters.length) = some 3 := by decide +kernel
theorem cdX12_asks : yX12_asks.cls = RX12 ∧ yX12_asks.cls ≠ "java/lang/invoke/MethodHandle" ∧ yX12_asks.cls ≠ "java/lang/invoke/VarHandle" ∧ (parseMethodDescriptor yX12_asks.desc).map (fun d => d.parameters.length) = some 3 := by decide +kernel
theorem cdX12_at : yX12_at.cls = RX12 ∧ yX12_at.cls ≠ "java/lang/invoke/MethodHandle" ∧ yX12_at.cls ≠ "java/lang/invoke/VarHandle" ∧ (parseMethodDescriptor yX12_at.desc).map (fun d => d.parameters.length) = some 2 := by decide +kernel
theorem cdX12_begins : yX12_begins.cls = RX12 ∧ yX12_begins.cls ≠ "java/lang/invoke/MethodHandle" ∧ yX12_begins.cls ≠ "java/lang/invoke/VarHandle" ∧ (parseMethodDescriptor yX12_begins.desc).map (fun d => d.parameters.length) = some 1 := by decide +kernel
theorem cdX12_beside : yX12_beside.cls = RX12 ∧ yX12_beside.cls ≠ "java/lang/invoke/MethodHandle" ∧ yX12_beside.cls ≠ "java/lang/invoke/VarHandle" ∧ (parseMethodDescriptor yX12_beside.desc).map (fun d => d.parameters.length) = some 2 := by decide +kernel
theorem cdX12_bookTells : yX12_bookTells.cls = RX12 ∧ yX12_bookTells.cls ≠ "java/lang/invoke/MethodHandle" ∧ yX12_bookTells.cls ≠ "java/lang/invoke/VarHandle" ∧ (parseMethodDescriptor yX12_bookTells.desc).map (fun d => d.parameters.length) = some 1 := by decide +kernel
theorem cdX12_byteAt : yX12_byteAt.cls = RX12 ∧ yX12_byteAt.cls ≠ "java/lang/invoke/MethodHandle" ∧ yX12_byteAt.cls ≠ "java/lang/invoke/VarHandle" ∧ (parseMethodDescriptor yX12_byteAt.desc).map (fun d => d.parameters.length) = some 1 := by decide +kernel
theorem cdX12_climbOf : yX12_climbOf.cls = RX12 ∧ yX12_climbOf.cls ≠ "java/lang/invoke/MethodHandle" ∧ yX12_climbOf.cls ≠ "java/lang/invoke/VarHandle" ∧ (parseMethodDescriptor yX12_climbOf.desc).map (fun d => d.parameters.length) = some 2 := by decide +kernel
theorem cdX12_copies : yX12_copies.cls = RX12 ∧ yX12_copies.cls ≠ "java/lang/invoke/MethodHandle" ∧ yX12_copies.cls ≠ "java/lang/invoke/VarHandle" ∧ (parseMethodDescriptor yX12_copies.desc).map (fun d => d.parameters.length) = some 2 := by decide +kernel
theorem cdX12_costOf : yX12_costOf.cls = RX12 ∧ yX12_costOf.cls ≠ "java/lang/invoke/MethodHandle" ∧ yX12_costOf.cls ≠ "java/lang/invoke/VarHandle" ∧ (parseMethodDescriptor yX12_costOf.desc).map (fun d => d.parameters.length) = some 2 := by decide +kernel
theorem cdX12_costOn : yX12_costOn.cls = RX12 ∧ yX12_costOn.cls ≠ "java/lang/invoke/MethodHandle" ∧ yX12_costOn.cls ≠ "java/lang/invoke/VarHandle" ∧ (parseMethodDescriptor yX12_costOn.desc).map (fun d => d.parameters.length) = some 4 := by decide +kernel
theorem csX12_floor : yX12_floor.cls ≠ "java/lang/invoke/MethodHandle" ∧ yX12_floor.cls ≠ "java/lang/invoke/VarHandle" ∧ (parseMethodDescriptor yX12_floor.desc).map (fun d => d.parameters.length) = some 2 := by decide +kernel
theorem cdX12_hitsBy : yX12_hitsBy.cls = RX12 ∧ yX12_hitsBy.cls ≠ "java/lang/invoke/MethodHandle" ∧ yX12_hitsBy.cls ≠ "java/lang/invoke/VarHandle" ∧ (parseMethodDescriptor yX12_hitsBy.desc).map (fun d => d.parameters.length) = some 1 := by decide +kernel
theorem cdX12_houseAt : yX12_houseAt.cls = RX12 ∧ yX12_houseAt.cls ≠ "java/lang/invoke/MethodHandle" ∧ yX12_houseAt.cls ≠ "java/lang/invoke/VarHandle" ∧ (parseMethodDescriptor yX12_houseAt.desc).map (fun d => d.parameters.length) = some 4 := by decide +kernel
theorem cdX12_housesTold : yX12_housesTold.cls = RX12 ∧ yX12_housesTold.cls ≠ "java/lang/invoke/MethodHandle" ∧ yX12_housesTold.cls ≠ "java/lang/invoke/VarHandle" ∧ (parseMethodDescriptor yX12_housesTold.desc).map (fun d => d.parameters.length) = some 1 := by decide +kernel
theorem cdX12_isBook : yX12_isBook.cls = RX12 ∧ yX12_isBook.cls ≠ "java/lang/invoke/MethodHandle" ∧ yX12_isBook.cls ≠ "java/lang/invoke/VarHandle" ∧ (parseMethodDescriptor yX12_isBook.desc).map (fun d => d.parameters.length) = some 1 := by decide +kernel
theorem cdX12_isClimate : yX12_isClimate.cls = RX12 ∧ yX12_isClimate.cls ≠ "java/lang/invoke/MethodHandle" ∧ yX12_isClimate.cls ≠ "java/lang/invoke/VarHandle" ∧ (parseMethodDescriptor yX12_isClimate.desc).map (fun d => d.parameters.length) = some 2 := by decide +kernel
theorem csX12_isDigit : yX12_isDigit.cls ≠ "java/lang/invoke/MethodHandle" ∧ yX12_isDigit.cls ≠ "java/lang/invoke/VarHandle" ∧ (parseMethodDescriptor yX12_isDigit.desc).map (fun d => d.parameters.length) = some 1 := by decide +kernel
theorem cdX12_isGood : yX12_isGood.cls = RX12 ∧ yX12_isGood.cls ≠ "java/lang/invoke/MethodHandle" ∧ yX12_isGood.cls ≠ "java/lang/invoke/VarHandle" ∧ (parseMethodDescriptor yX12_isGood.desc).map (fun d => d.parameters.length) = some 0 := by decide +kernel
theorem cdX12_isHand : yX12_isHand.cls = RX12 ∧ yX12_isHand.cls ≠ "java/lang/invoke/MethodHandle" ∧ yX12_isHand.cls ≠ "java/lang/invoke/VarHandle" ∧ (parseMethodDescriptor yX12_isHand.desc).map (fun d => d.parameters.length) = some 2 := by decide +kernel
theorem cdX12_isHit : yX12_isHit.cls = RX12 ∧ yX12_isHit.cls ≠ "java/lang/invoke/MethodHandle" ∧ yX12_isHit.cls ≠ "java/lang/invoke/VarHandle" ∧ (parseMethodDescriptor yX12_isHit.desc).map (fun d => d.parameters.length) = some 3 := by decide +kernel
theorem cdX12_isHour : yX12_isHour.cls = RX12 ∧ yX12_isHour.cls ≠ "java/lang/invoke/MethodHandle" ∧ yX12_isHour.cls ≠ "java/lang/invoke/VarHandle" ∧ (parseMethodDescriptor yX12_isHour.desc).map (fun d => d.parameters.length) = some 3 := by decide +kernel
theorem csX12_isLetter : yX12_isLetter.cls ≠ "java/lang/invoke/MethodHandle" ∧ yX12_isLetter.cls ≠ "java/lang/invoke/VarHandle" ∧ (parseMethodDescriptor yX12_isLetter.desc).map (fun d => d.parameters.length) = some 1 := by decide +kernel
theorem cdX12_isMixed : yX12_isMixed.cls = RX12 ∧ yX12_isMixed.cls ≠ "java/lang/invoke/MethodHandle" ∧ yX12_isMixed.cls ≠ "java/lang/invoke/VarHandle" ∧ (parseMethodDescriptor yX12_isMixed.desc).map (fun d => d.parameters.length) = some 2 := by decide +kernel
theorem cdX12_isNumber : yX12_isNumber.cls = RX12 ∧ yX12_isNumber.cls ≠ "java/lang/invoke/MethodHandle" ∧ yX12_isNumber.cls ≠ "java/lang/invoke/VarHandle" ∧ (parseMethodDescriptor yX12_isNumber.desc).map (fun d => d.parameters.length) = some 1 := by decide +kernel
theorem cdX12_isSpan : yX12_isSpan.cls = RX12 ∧ yX12_isSpan.cls ≠ "java/lang/invoke/MethodHandle" ∧ yX12_isSpan.cls ≠ "java/lang/invoke/VarHandle" ∧ (parseMethodDescriptor yX12_isSpan.desc).map (fun d => d.parameters.length) = some 2 := by decide +kernel
theorem cdX12_isTold : yX12_isTold.cls = RX12 ∧ yX12_isTold.cls ≠ "java/lang/invoke/MethodHandle" ∧ yX12_isTold.cls ≠ "java/lang/invoke/VarHandle" ∧ (parseMethodDescriptor yX12_isTold.desc).map (fun d => d.parameters.length) = some 2 := by decide +kernel
theorem cdX12_isTree : yX12_isTree.cls = RX12 ∧ yX12_isTree.cls ≠ "java/lang/invoke/MethodHandle" ∧ yX12_isTree.cls ≠ "java/lang/invoke/VarHandle" ∧ (parseMethodDescriptor yX12_isTree.desc).map (fun d => d.parameters.length) = some 0 := by decide +kernel
theorem cdX12_isWay : yX12_isWay.cls = RX12 ∧ yX12_isWay.cls ≠ "java/lang/invoke/MethodHandle" ∧ yX12_isWay.cls ≠ "java/lang/invoke/VarHandle" ∧ (parseMethodDescriptor yX12_isWay.desc).map (fun d => d.parameters.length) = some 2 := by decide +kernel
theorem cdX12_isWheel : yX12_isWheel.cls = RX12 ∧ yX12_isWheel.cls ≠ "java/lang/invoke/MethodHandle" ∧ yX12_isWheel.cls ≠ "java/lang/invoke/VarHandle" ∧ (parseMethodDescriptor yX12_isWheel.desc).map (fun d => d.parameters.length) = some 2 := by decide +kernel
theorem cdX12_knownWord : yX12_knownWord.cls = RX12 ∧ yX12_knownWord.cls ≠ "java/lang/invoke/MethodHandle" ∧ yX12_knownWord.cls ≠ "java/lang/invoke/VarHandle" ∧ (parseMethodDescriptor yX12_knownWord.desc).map (fun d => d.parameters.length) = some 0 := by decide +kernel
theorem cdX12_lays : yX12_lays.cls = RX12 ∧ yX12_lays.cls ≠ "java/lang/invoke/MethodHandle" ∧ yX12_lays.cls ≠ "java/lang/invoke/VarHandle" ∧ (parseMethodDescriptor yX12_lays.desc).map (fun d => d.parameters.length) = some 1 := by decide +kernel
theorem cdX12_leafAt : yX12_leafAt.cls = RX12 ∧ yX12_leafAt.cls ≠ "java/lang/invoke/MethodHandle" ∧ yX12_leafAt.cls ≠ "java/lang/invoke/VarHandle" ∧ (parseMethodDescriptor yX12_leafAt.desc).map (fun d => d.parameters.length) = some 2 := by decide +kernel
theorem csX12_letters : yX12_letters.cls ≠ "java/lang/invoke/MethodHandle" ∧ yX12_letters.cls ≠ "java/lang/invoke/VarHandle" ∧ (parseMethodDescriptor yX12_letters.desc).map (fun d => d.parameters.length) = some 1 := by decide +kernel
theorem cdX12_middleOf : yX12_middleOf.cls = RX12 ∧ yX12_middleOf.cls ≠ "java/lang/invoke/MethodHandle" ∧ yX12_middleOf.cls ≠ "java/lang/invoke/VarHandle" ∧ (parseMethodDescriptor yX12_middleOf.desc).map (fun d => d.parameters.length) = some 2 := by decide +kernel
theorem cdX12_named : yX12_named.cls = RX12 ∧ yX12_named.cls ≠ "java/lang/invoke/MethodHandle" ∧ yX12_named.cls ≠ "java/lang/invoke/VarHandle" ∧ (parseMethodDescriptor yX12_named.desc).map (fun d => d.parameters.length) = some 3 := by decide +kernel
theorem cdX12_need : yX12_need.cls = RX12 ∧ yX12_need.cls ≠ "java/lang/invoke/MethodHandle" ∧ yX12_need.cls ≠ "java/lang/invoke/VarHandle" ∧ (parseMethodDescriptor yX12_need.desc).map (fun d => d.parameters.length) = some 1 := by decide +kernel
theorem cdX12_number : yX12_number.cls = RX12 ∧ yX12_number.cls ≠ "java/lang/invoke/MethodHandle" ∧ yX12_number.cls ≠ "java/lang/invoke/VarHandle" ∧ (parseMethodDescriptor yX12_number.desc).map (fun d => d.parameters.length) = some 2 := by decide +kernel
theorem cdX12_placeOf : yX12_placeOf.cls = RX12 ∧ yX12_placeOf.cls ≠ "java/lang/invoke/MethodHandle" ∧ yX12_placeOf.cls ≠ "java/lang/invoke/VarHandle" ∧ (parseMethodDescriptor yX12_placeOf.desc).map (fun d => d.parameters.length) = some 2 := by decide +kernel
theorem cdX12_placeOn : yX12_placeOn.cls = RX12 ∧ yX12_placeOn.cls ≠ "java/lang/invoke/MethodHandle" ∧ yX12_placeOn.cls ≠ "java/lang/invoke/VarHandle" ∧ (parseMethodDescriptor yX12_placeOn.desc).map (fun d => d.parameters.length) = some 3 := by decide +kernel
theorem cdX12_priceAll : yX12_priceAll.cls = RX12 ∧ yX12_priceAll.cls ≠ "java/lang/invoke/MethodHandle" ∧ yX12_priceAll.cls ≠ "java/lang/invoke/VarHandle" ∧ (parseMethodDescriptor yX12_priceAll.desc).map (fun d => d.parameters.length) = some 2 := by decide +kernel
theorem cdX12_priceOf : yX12_priceOf.cls = RX12 ∧ yX12_priceOf.cls ≠ "java/lang/invoke/MethodHandle" ∧ yX12_priceOf.cls ≠ "java/lang/invoke/VarHandle" ∧ (parseMethodDescriptor yX12_priceOf.desc).map (fun d => d.parameters.length) = some 3 := by decide +kernel
theorem cdX12_readsClimate : yX12_readsClimate.cls = RX12 ∧ yX12_readsClimate.cls ≠ "java/lang/invoke/MethodHandle" ∧ yX12_readsClimate.cls ≠ "java/lang/invoke/VarHandle" ∧ (parseMethodDescriptor yX12_readsClimate.desc).map (fun d => d.parameters.length) = some 0 := by decide +kernel
theorem cdX12_readsEntry : yX12_readsEntry.cls = RX12 ∧ yX12_readsEntry.cls ≠ "java/lang/invoke/MethodHandle" ∧ yX12_readsEntry.cls ≠ "java/lang/invoke/VarHandle" ∧ (parseMethodDescriptor yX12_readsEntry.desc).map (fun d => d.parameters.length) = some 0 := by decide +kernel
theorem cdX12_readsHand : yX12_readsHand.cls = RX12 ∧ yX12_readsHand.cls ≠ "java/lang/invoke/MethodHandle" ∧ yX12_readsHand.cls ≠ "java/lang/invoke/VarHandle" ∧ (parseMethodDescriptor yX12_readsHand.desc).map (fun d => d.parameters.length) = some 0 := by decide +kernel
theorem cdX12_readsSet : yX12_readsSet.cls = RX12 ∧ yX12_readsSet.cls ≠ "java/lang/invoke/MethodHandle" ∧ yX12_readsSet.cls ≠ "java/lang/invoke/VarHandle" ∧ (parseMethodDescriptor yX12_readsSet.desc).map (fun d => d.parameters.length) = some 0 := by decide +kernel
theorem cdX12_right : yX12_right.cls = RX12 ∧ yX12_right.cls ≠ "java/lang/invoke/MethodHandle" ∧ yX12_right.cls ≠ "java/lang/invoke/VarHandle" ∧ (parseMethodDescriptor yX12_right.desc).map (fun d => d.parameters.length) = some 2 := by decide +kernel
theorem cdX12_riseOf : yX12_riseOf.cls = RX12 ∧ yX12_riseOf.cls ≠ "java/lang/invoke/MethodHandle" ∧ yX12_riseOf.cls ≠ "java/lang/invoke/VarHandle" ∧ (parseMethodDescriptor yX12_riseOf.desc).map (fun d => d.parameters.length) = some 3 := by decide +kernel
theorem csX12_spelled : yX12_spelled.cls ≠ "java/lang/invoke/MethodHandle" ∧ yX12_spelled.cls ≠ "java/lang/invoke/VarHandle" ∧ (parseMethodDescriptor yX12_spelled.desc).map (fun d => d.parameters.length) = some 7 := by decide +kernel
theorem cdX12_steps : yX12_steps.cls = RX12 ∧ yX12_steps.cls ≠ "java/lang/invoke/MethodHandle" ∧ yX12_steps.cls ≠ "java/lang/invoke/VarHandle" ∧ (parseMethodDescriptor yX12_steps.desc).map (fun d => d.parameters.length) = some 0 := by decide +kernel
theorem cdX12_swaps : yX12_swaps.cls = RX12 ∧ yX12_swaps.cls ≠ "java/lang/invoke/MethodHandle" ∧ yX12_swaps.cls ≠ "java/lang/invoke/VarHandle" ∧ (parseMethodDescriptor yX12_swaps.desc).map (fun d => d.parameters.length) = some 2 := by decide +kernel
theorem cdX12_tells : yX12_tells.cls = RX12 ∧ yX12_tells.cls ≠ "java/lang/invoke/MethodHandle" ∧ yX12_tells.cls ≠ "java/lang/invoke/VarHandle" ∧ (parseMethodDescriptor yX12_tells.desc).map (fun d => d.parameters.length) = some 1 := by decide +kernel
theorem cdX12_turns : yX12_turns.cls = RX12 ∧ yX12_turns.cls ≠ "java/lang/invoke/MethodHandle" ∧ yX12_turns.cls ≠ "java/lang/invoke/VarHandle" ∧ (parseMethodDescriptor yX12_turns.desc).map (fun d => d.parameters.length) = some 0 := by decide +kernel
theorem csX12_within : yX12_within.cls ≠ "java/lang/invoke/MethodHandle" ∧ yX12_within.cls ≠ "java/lang/invoke/VarHandle" ∧ (parseMethodDescriptor yX12_within.desc).map (fun d => d.parameters.length) = some 3 := by decide +kernel
theorem cdX12_wrong : yX12_wrong.cls = RX12 ∧ yX12_wrong.cls ≠ "java/lang/invoke/MethodHandle" ∧ yX12_wrong.cls ≠ "java/lang/invoke/VarHandle" ∧ (parseMethodDescriptor yX12_wrong.desc).map (fun d => d.parameters.length) = some 1 := by decide +kernel
theorem cdX1_bookTells : yX1_bookTells.cls = RX1 ∧ yX1_bookTells.cls ≠ "java/lang/invoke/MethodHandle" ∧ yX1_bookTells.cls ≠ "java/lang/invoke/VarHandle" ∧ (parseMethodDescriptor yX1_bookTells.desc).map (fun d => d.parameters.length) = some 1 := by decide +kernel
theorem cdX1_degreeOf : yX1_degreeOf.cls = RX1 ∧ yX1_degreeOf.cls ≠ "java/lang/invoke/MethodHandle" ∧ yX1_degreeOf.cls ≠ "java/lang/invoke/VarHandle" ∧ (parseMethodDescriptor yX1_degreeOf.desc).map (fun d => d.parameters.length) = some 2 := by decide +kernel
theorem cdX1_howManyDiffer : yX1_howManyDiffer.cls = RX1 ∧ yX1_howManyDiffer.cls ≠ "java/lang/invoke/MethodHandle" ∧ yX1_howManyDiffer.cls ≠ "java/lang/invoke/VarHandle" ∧ (parseMethodDescriptor yX1_howManyDiffer.desc).map (fun d => d.parameters.length) = some 4 := by decide +kernel
theorem cdX1_howManyHanded : yX1_howManyHanded.cls = RX1 ∧ yX1_howManyHanded.cls ≠ "java/lang/invoke/MethodHandle" ∧ yX1_howManyHanded.cls ≠ "java/lang/invoke/VarHandle" ∧ (parseMethodDescriptor yX1_howManyHanded.desc).map (fun d => d.parameters.length) = some 3 := by decide +kernel
theorem cdX1_howManyHouses : yX1_howManyHouses.cls = RX1 ∧ yX1_howManyHouses.cls ≠ "java/lang/invoke/MethodHandle" ∧ yX1_howManyHouses.cls ≠ "java/lang/invoke/VarHandle" ∧ (parseMethodDescriptor yX1_howManyHouses.desc).map (fun d => d.parameters.length) = some 1 := by decide +kernel
theorem cdX1_howManyTell : yX1_howManyTell.cls = RX1 ∧ yX1_howManyTell.cls ≠ "java/lang/invoke/MethodHandle" ∧ yX1_howManyTell.cls ≠ "java/lang/invoke/VarHandle" ∧ (parseMethodDescriptor yX1_howManyTell.desc).map (fun d => d.parameters.length) = some 0 := by decide +kernel
theorem csX1_init : yX1_init.cls ≠ "java/lang/invoke/MethodHandle" ∧ yX1_init.cls ≠ "java/lang/invoke/VarHandle" ∧ (parseMethodDescriptor yX1_init.desc).map (fun d => d.parameters.length) = some 0 := by decide +kernel
theorem cdX1_isNew : yX1_isNew.cls = RX1 ∧ yX1_isNew.cls ≠ "java/lang/invoke/MethodHandle" ∧ yX1_isNew.cls ≠ "java/lang/invoke/VarHandle" ∧ (parseMethodDescriptor yX1_isNew.desc).map (fun d => d.parameters.length) = some 2 := by decide +kernel
theorem cdX1_keepDraft : yX1_keepDraft.cls = RX1 ∧ yX1_keepDraft.cls ≠ "java/lang/invoke/MethodHandle" ∧ yX1_keepDraft.cls ≠ "java/lang/invoke/VarHandle" ∧ (parseMethodDescriptor yX1_keepDraft.desc).map (fun d => d.parameters.length) = some 1 := by decide +kernel
theorem cdX1_lotOf : yX1_lotOf.cls = RX1 ∧ yX1_lotOf.cls ≠ "java/lang/invoke/MethodHandle" ∧ yX1_lotOf.cls ≠ "java/lang/invoke/VarHandle" ∧ (parseMethodDescriptor yX1_lotOf.desc).map (fun d => d.parameters.length) = some 1 := by decide +kernel
theorem cdX1_readDate : yX1_readDate.cls = RX1 ∧ yX1_readDate.cls ≠ "java/lang/invoke/MethodHandle" ∧ yX1_readDate.cls ≠ "java/lang/invoke/VarHandle" ∧ (parseMethodDescriptor yX1_readDate.desc).map (fun d => d.parameters.length) = some 1 := by decide +kernel
theorem cdX1_readDegree : yX1_readDegree.cls = RX1 ∧ yX1_readDegree.cls ≠ "java/lang/invoke/MethodHandle" ∧ yX1_readDegree.cls ≠ "java/lang/invoke/VarHandle" ∧ (parseMethodDescriptor yX1_readDegree.desc).map (fun d => d.parameters.length) = some 2 := by decide +kernel
theorem cdX1_readEntries : yX1_readEntries.cls = RX1 ∧ yX1_readEntries.cls ≠ "java/lang/invoke/MethodHandle" ∧ yX1_readEntries.cls ≠ "java/lang/invoke/VarHandle" ∧ (parseMethodDescriptor yX1_readEntries.desc).map (fun d => d.parameters.length) = some 1 := by decide +kernel
theorem cdX1_readEntry : yX1_readEntry.cls = RX1 ∧ yX1_readEntry.cls ≠ "java/lang/invoke/MethodHandle" ∧ yX1_readEntry.cls ≠ "java/lang/invoke/VarHandle" ∧ (parseMethodDescriptor yX1_readEntry.desc).map (fun d => d.parameters.length) = some 1 := by decide +kernel
theorem cdX1_tellsSomething : yX1_tellsSomething.cls = RX1 ∧ yX1_tellsSomething.cls ≠ "java/lang/invoke/MethodHandle" ∧ yX1_tellsSomething.cls ≠ "java/lang/invoke/VarHandle" ∧ (parseMethodDescriptor yX1_tellsSomething.desc).map (fun d => d.parameters.length) = some 1 := by decide +kernel
theorem cdX2_climbOf : yX2_climbOf.cls = RX2 ∧ yX2_climbOf.cls ≠ "java/lang/invoke/MethodHandle" ∧ yX2_climbOf.cls ≠ "java/lang/invoke/VarHandle" ∧ (parseMethodDescriptor yX2_climbOf.desc).map (fun d => d.parameters.length) = some 2 := by decide +kernel
theorem cdX2_copyFrom : yX2_copyFrom.cls = RX2 ∧ yX2_copyFrom.cls ≠ "java/lang/invoke/MethodHandle" ∧ yX2_copyFrom.cls ≠ "java/lang/invoke/VarHandle" ∧ (parseMethodDescriptor yX2_copyFrom.desc).map (fun d => d.parameters.length) = some 1 := by decide +kernel
theorem cdX2_hasHour : yX2_hasHour.cls = RX2 ∧ yX2_hasHour.cls ≠ "java/lang/invoke/MethodHandle" ∧ yX2_hasHour.cls ≠ "java/lang/invoke/VarHandle" ∧ (parseMethodDescriptor yX2_hasHour.desc).map (fun d => d.parameters.length) = some 3 := by decide +kernel
theorem cdX2_houseByMiddle : yX2_houseByMiddle.cls = RX2 ∧ yX2_houseByMiddle.cls ≠ "java/lang/invoke/MethodHandle" ∧ yX2_houseByMiddle.cls ≠ "java/lang/invoke/VarHandle" ∧ (parseMethodDescriptor yX2_houseByMiddle.desc).map (fun d => d.parameters.length) = some 3 := by decide +kernel
theorem cdX2_houseDegree : yX2_houseDegree.cls = RX2 ∧ yX2_houseDegree.cls ≠ "java/lang/invoke/MethodHandle" ∧ yX2_houseDegree.cls ≠ "java/lang/invoke/VarHandle" ∧ (parseMethodDescriptor yX2_houseDegree.desc).map (fun d => d.parameters.length) = some 4 := by decide +kernel
theorem cdX2_howManyHours : yX2_howManyHours.cls = RX2 ∧ yX2_howManyHours.cls ≠ "java/lang/invoke/MethodHandle" ∧ yX2_howManyHours.cls ≠ "java/lang/invoke/VarHandle" ∧ (parseMethodDescriptor yX2_howManyHours.desc).map (fun d => d.parameters.length) = some 2 := by decide +kernel
theorem csX2_init : yX2_init.cls ≠ "java/lang/invoke/MethodHandle" ∧ yX2_init.cls ≠ "java/lang/invoke/VarHandle" ∧ (parseMethodDescriptor yX2_init.desc).map (fun d => d.parameters.length) = some 0 := by decide +kernel
theorem cdX2_isHour : yX2_isHour.cls = RX2 ∧ yX2_isHour.cls ≠ "java/lang/invoke/MethodHandle" ∧ yX2_isHour.cls ≠ "java/lang/invoke/VarHandle" ∧ (parseMethodDescriptor yX2_isHour.desc).map (fun d => d.parameters.length) = some 4 := by decide +kernel
theorem cdX2_middleOf : yX2_middleOf.cls = RX2 ∧ yX2_middleOf.cls ≠ "java/lang/invoke/MethodHandle" ∧ yX2_middleOf.cls ≠ "java/lang/invoke/VarHandle" ∧ (parseMethodDescriptor yX2_middleOf.desc).map (fun d => d.parameters.length) = some 2 := by decide +kernel
theorem cdX2_nthHour : yX2_nthHour.cls = RX2 ∧ yX2_nthHour.cls ≠ "java/lang/invoke/MethodHandle" ∧ yX2_nthHour.cls ≠ "java/lang/invoke/VarHandle" ∧ (parseMethodDescriptor yX2_nthHour.desc).map (fun d => d.parameters.length) = some 3 := by decide +kernel
theorem cdX2_placeOf : yX2_placeOf.cls = RX2 ∧ yX2_placeOf.cls ≠ "java/lang/invoke/MethodHandle" ∧ yX2_placeOf.cls ≠ "java/lang/invoke/VarHandle" ∧ (parseMethodDescriptor yX2_placeOf.desc).map (fun d => d.parameters.length) = some 2 := by decide +kernel
theorem cdX2_readClimate : yX2_readClimate.cls = RX2 ∧ yX2_readClimate.cls ≠ "java/lang/invoke/MethodHandle" ∧ yX2_readClimate.cls ≠ "java/lang/invoke/VarHandle" ∧ (parseMethodDescriptor yX2_readClimate.desc).map (fun d => d.parameters.length) = some 1 := by decide +kernel
theorem cdX2_readRising : yX2_readRising.cls = RX2 ∧ yX2_readRising.cls ≠ "java/lang/invoke/MethodHandle" ∧ yX2_readRising.cls ≠ "java/lang/invoke/VarHandle" ∧ (parseMethodDescriptor yX2_readRising.desc).map (fun d => d.parameters.length) = some 1 := by decide +kernel
theorem cdX2_risingAt : yX2_risingAt.cls = RX2 ∧ yX2_risingAt.cls ≠ "java/lang/invoke/MethodHandle" ∧ yX2_risingAt.cls ≠ "java/lang/invoke/VarHandle" ∧ (parseMethodDescriptor yX2_risingAt.desc).map (fun d => d.parameters.length) = some 3 := by decide +kernel
theorem csX3_costOn : yX3_costOn.cls ≠ "java/lang/invoke/MethodHandle" ∧ yX3_costOn.cls ≠ "java/lang/invoke/VarHandle" ∧ (parseMethodDescriptor yX3_costOn.desc).map (fun d => d.parameters.length) = some 6 := by decide +kernel
theorem cdX3_howManyAlone : yX3_howManyAlone.cls = RX3 ∧ yX3_howManyAlone.cls ≠ "java/lang/invoke/MethodHandle" ∧ yX3_howManyAlone.cls ≠ "java/lang/invoke/VarHandle" ∧ (parseMethodDescriptor yX3_howManyAlone.desc).map (fun d => d.parameters.length) = some 1 := by decide +kernel
theorem cdX3_howManyErrors : yX3_howManyErrors.cls = RX3 ∧ yX3_howManyErrors.cls ≠ "java/lang/invoke/MethodHandle" ∧ yX3_howManyErrors.cls ≠ "java/lang/invoke/VarHandle" ∧ (parseMethodDescriptor yX3_howManyErrors.desc).map (fun d => d.parameters.length) = some 0 := by decide +kernel
theorem cdX3_howManyShared : yX3_howManyShared.cls = RX3 ∧ yX3_howManyShared.cls ≠ "java/lang/invoke/MethodHandle" ∧ yX3_howManyShared.cls ≠ "java/lang/invoke/VarHandle" ∧ (parseMethodDescriptor yX3_howManyShared.desc).map (fun d => d.parameters.length) = some 1 := by decide +kernel
theorem csX3_init : yX3_init.cls ≠ "java/lang/invoke/MethodHandle" ∧ yX3_init.cls ≠ "java/lang/invoke/VarHandle" ∧ (parseMethodDescriptor yX3_init.desc).map (fun d => d.parameters.length) = some 0 := by decide +kernel
theorem csX3_isMixed : yX3_isMixed.cls ≠ "java/lang/invoke/MethodHandle" ∧ yX3_isMixed.cls ≠ "java/lang/invoke/VarHandle" ∧ (parseMethodDescriptor yX3_isMixed.desc).map (fun d => d.parameters.length) = some 4 := by decide +kernel
theorem cdX3_isShared : yX3_isShared.cls = RX3 ∧ yX3_isShared.cls ≠ "java/lang/invoke/MethodHandle" ∧ yX3_isShared.cls ≠ "java/lang/invoke/VarHandle" ∧ (parseMethodDescriptor yX3_isShared.desc).map (fun d => d.parameters.length) = some 2 := by decide +kernel
theorem cdX3_setFollowed : yX3_setFollowed.cls = RX3 ∧ yX3_setFollowed.cls ≠ "java/lang/invoke/MethodHandle" ∧ yX3_setFollowed.cls ≠ "java/lang/invoke/VarHandle" ∧ (parseMethodDescriptor yX3_setFollowed.desc).map (fun d => d.parameters.length) = some 0 := by decide +kernel
theorem cdX3_setSharers : yX3_setSharers.cls = RX3 ∧ yX3_setSharers.cls ≠ "java/lang/invoke/MethodHandle" ∧ yX3_setSharers.cls ≠ "java/lang/invoke/VarHandle" ∧ (parseMethodDescriptor yX3_setSharers.desc).map (fun d => d.parameters.length) = some 4 := by decide +kernel
theorem csX3_setsAt : yX3_setsAt.cls ≠ "java/lang/invoke/MethodHandle" ∧ yX3_setsAt.cls ≠ "java/lang/invoke/VarHandle" ∧ (parseMethodDescriptor yX3_setsAt.desc).map (fun d => d.parameters.length) = some 4 := by decide +kernel
theorem cdX3_weightOf : yX3_weightOf.cls = RX3 ∧ yX3_weightOf.cls ≠ "java/lang/invoke/MethodHandle" ∧ yX3_weightOf.cls ≠ "java/lang/invoke/VarHandle" ∧ (parseMethodDescriptor yX3_weightOf.desc).map (fun d => d.parameters.length) = some 1 := by decide +kernel
theorem cdX4_copyFrom : yX4_copyFrom.cls = RX4 ∧ yX4_copyFrom.cls ≠ "java/lang/invoke/MethodHandle" ∧ yX4_copyFrom.cls ≠ "java/lang/invoke/VarHandle" ∧ (parseMethodDescriptor yX4_copyFrom.desc).map (fun d => d.parameters.length) = some 1 := by decide +kernel
theorem cdX4_costBeside : yX4_costBeside.cls = RX4 ∧ yX4_costBeside.cls ≠ "java/lang/invoke/MethodHandle" ∧ yX4_costBeside.cls ≠ "java/lang/invoke/VarHandle" ∧ (parseMethodDescriptor yX4_costBeside.desc).map (fun d => d.parameters.length) = some 2 := by decide +kernel
theorem csX4_init : yX4_init.cls ≠ "java/lang/invoke/MethodHandle" ∧ yX4_init.cls ≠ "java/lang/invoke/VarHandle" ∧ (parseMethodDescriptor yX4_init.desc).map (fun d => d.parameters.length) = some 0 := by decide +kernel
theorem cdX4_isRead : yX4_isRead.cls = RX4 ∧ yX4_isRead.cls ≠ "java/lang/invoke/MethodHandle" ∧ yX4_isRead.cls ≠ "java/lang/invoke/VarHandle" ∧ (parseMethodDescriptor yX4_isRead.desc).map (fun d => d.parameters.length) = some 2 := by decide +kernel
theorem cdX4_misreading : yX4_misreading.cls = RX4 ∧ yX4_misreading.cls ≠ "java/lang/invoke/MethodHandle" ∧ yX4_misreading.cls ≠ "java/lang/invoke/VarHandle" ∧ (parseMethodDescriptor yX4_misreading.desc).map (fun d => d.parameters.length) = some 2 := by decide +kernel
theorem cdX4_readHand : yX4_readHand.cls = RX4 ∧ yX4_readHand.cls ≠ "java/lang/invoke/MethodHandle" ∧ yX4_readHand.cls ≠ "java/lang/invoke/VarHandle" ∧ (parseMethodDescriptor yX4_readHand.desc).map (fun d => d.parameters.length) = some 1 := by decide +kernel
theorem cdX5_copyFrom : yX5_copyFrom.cls = RX5 ∧ yX5_copyFrom.cls ≠ "java/lang/invoke/MethodHandle" ∧ yX5_copyFrom.cls ≠ "java/lang/invoke/VarHandle" ∧ (parseMethodDescriptor yX5_copyFrom.desc).map (fun d => d.parameters.length) = some 1 := by decide +kernel
theorem cdX5_degreeOn : yX5_degreeOn.cls = RX5 ∧ yX5_degreeOn.cls ≠ "java/lang/invoke/MethodHandle" ∧ yX5_degreeOn.cls ≠ "java/lang/invoke/VarHandle" ∧ (parseMethodDescriptor yX5_degreeOn.desc).map (fun d => d.parameters.length) = some 3 := by decide +kernel
theorem csX5_init : yX5_init.cls ≠ "java/lang/invoke/MethodHandle" ∧ yX5_init.cls ≠ "java/lang/invoke/VarHandle" ∧ (parseMethodDescriptor yX5_init.desc).map (fun d => d.parameters.length) = some 0 := by decide +kernel
theorem cdX5_placeOn : yX5_placeOn.cls = RX5 ∧ yX5_placeOn.cls ≠ "java/lang/invoke/MethodHandle" ∧ yX5_placeOn.cls ≠ "java/lang/invoke/VarHandle" ∧ (parseMethodDescriptor yX5_placeOn.desc).map (fun d => d.parameters.length) = some 3 := by decide +kernel
theorem cdX5_readLines : yX5_readLines.cls = RX5 ∧ yX5_readLines.cls ≠ "java/lang/invoke/MethodHandle" ∧ yX5_readLines.cls ≠ "java/lang/invoke/VarHandle" ∧ (parseMethodDescriptor yX5_readLines.desc).map (fun d => d.parameters.length) = some 1 := by decide +kernel
theorem cdX5_readSet : yX5_readSet.cls = RX5 ∧ yX5_readSet.cls ≠ "java/lang/invoke/MethodHandle" ∧ yX5_readSet.cls ≠ "java/lang/invoke/VarHandle" ∧ (parseMethodDescriptor yX5_readSet.desc).map (fun d => d.parameters.length) = some 1 := by decide +kernel
theorem cdX5_readTable : yX5_readTable.cls = RX5 ∧ yX5_readTable.cls ≠ "java/lang/invoke/MethodHandle" ∧ yX5_readTable.cls ≠ "java/lang/invoke/VarHandle" ∧ (parseMethodDescriptor yX5_readTable.desc).map (fun d => d.parameters.length) = some 2 := by decide +kernel
theorem cdX5_swingOn : yX5_swingOn.cls = RX5 ∧ yX5_swingOn.cls ≠ "java/lang/invoke/MethodHandle" ∧ yX5_swingOn.cls ≠ "java/lang/invoke/VarHandle" ∧ (parseMethodDescriptor yX5_swingOn.desc).map (fun d => d.parameters.length) = some 2 := by decide +kernel
theorem cdX6_addTo : yX6_addTo.cls = RX6 ∧ yX6_addTo.cls ≠ "java/lang/invoke/MethodHandle" ∧ yX6_addTo.cls ≠ "java/lang/invoke/VarHandle" ∧ (parseMethodDescriptor yX6_addTo.desc).map (fun d => d.parameters.length) = some 2 := by decide +kernel
theorem cdX6_howManyInOrder : yX6_howManyInOrder.cls = RX6 ∧ yX6_howManyInOrder.cls ≠ "java/lang/invoke/MethodHandle" ∧ yX6_howManyInOrder.cls ≠ "java/lang/invoke/VarHandle" ∧ (parseMethodDescriptor yX6_howManyInOrder.desc).map (fun d => d.parameters.length) = some 2 := by decide +kernel
theorem cdX6_howManyTurned : yX6_howManyTurned.cls = RX6 ∧ yX6_howManyTurned.cls ≠ "java/lang/invoke/MethodHandle" ∧ yX6_howManyTurned.cls ≠ "java/lang/invoke/VarHandle" ∧ (parseMethodDescriptor yX6_howManyTurned.desc).map (fun d => d.parameters.length) = some 2 := by decide +kernel
theorem csX6_init : yX6_init.cls ≠ "java/lang/invoke/MethodHandle" ∧ yX6_init.cls ≠ "java/lang/invoke/VarHandle" ∧ (parseMethodDescriptor yX6_init.desc).map (fun d => d.parameters.length) = some 0 := by decide +kernel
theorem cdX6_placeOf : yX6_placeOf.cls = RX6 ∧ yX6_placeOf.cls ≠ "java/lang/invoke/MethodHandle" ∧ yX6_placeOf.cls ≠ "java/lang/invoke/VarHandle" ∧ (parseMethodDescriptor yX6_placeOf.desc).map (fun d => d.parameters.length) = some 2 := by decide +kernel
theorem cdX6_setPlaces : yX6_setPlaces.cls = RX6 ∧ yX6_setPlaces.cls ≠ "java/lang/invoke/MethodHandle" ∧ yX6_setPlaces.cls ≠ "java/lang/invoke/VarHandle" ∧ (parseMethodDescriptor yX6_setPlaces.desc).map (fun d => d.parameters.length) = some 2 := by decide +kernel
theorem cdX7_chanceOfFates : yX7_chanceOfFates.cls = RX7 ∧ yX7_chanceOfFates.cls ≠ "java/lang/invoke/MethodHandle" ∧ yX7_chanceOfFates.cls ≠ "java/lang/invoke/VarHandle" ∧ (parseMethodDescriptor yX7_chanceOfFates.desc).map (fun d => d.parameters.length) = some 1 := by decide +kernel
theorem cdX7_chanceOfLives : yX7_chanceOfLives.cls = RX7 ∧ yX7_chanceOfLives.cls ≠ "java/lang/invoke/MethodHandle" ∧ yX7_chanceOfLives.cls ≠ "java/lang/invoke/VarHandle" ∧ (parseMethodDescriptor yX7_chanceOfLives.desc).map (fun d => d.parameters.length) = some 1 := by decide +kernel
theorem cdX7_howManyFates : yX7_howManyFates.cls = RX7 ∧ yX7_howManyFates.cls ≠ "java/lang/invoke/MethodHandle" ∧ yX7_howManyFates.cls ≠ "java/lang/invoke/VarHandle" ∧ (parseMethodDescriptor yX7_howManyFates.desc).map (fun d => d.parameters.length) = some 0 := by decide +kernel
theorem cdX7_howManyHits : yX7_howManyHits.cls = RX7 ∧ yX7_howManyHits.cls ≠ "java/lang/invoke/MethodHandle" ∧ yX7_howManyHits.cls ≠ "java/lang/invoke/VarHandle" ∧ (parseMethodDescriptor yX7_howManyHits.desc).map (fun d => d.parameters.length) = some 1 := by decide +kernel
theorem cdX7_howManyLives : yX7_howManyLives.cls = RX7 ∧ yX7_howManyLives.cls ≠ "java/lang/invoke/MethodHandle" ∧ yX7_howManyLives.cls ≠ "java/lang/invoke/VarHandle" ∧ (parseMethodDescriptor yX7_howManyLives.desc).map (fun d => d.parameters.length) = some 0 := by decide +kernel
theorem cdX7_howManyToldByLot : yX7_howManyToldByLot.cls = RX7 ∧ yX7_howManyToldByLot.cls ≠ "java/lang/invoke/MethodHandle" ∧ yX7_howManyToldByLot.cls ≠ "java/lang/invoke/VarHandle" ∧ (parseMethodDescriptor yX7_howManyToldByLot.desc).map (fun d => d.parameters.length) = some 1 := by decide +kernel
theorem csX7_init : yX7_init.cls ≠ "java/lang/invoke/MethodHandle" ∧ yX7_init.cls ≠ "java/lang/invoke/VarHandle" ∧ (parseMethodDescriptor yX7_init.desc).map (fun d => d.parameters.length) = some 0 := by decide +kernel
theorem cdX7_isHit : yX7_isHit.cls = RX7 ∧ yX7_isHit.cls ≠ "java/lang/invoke/MethodHandle" ∧ yX7_isHit.cls ≠ "java/lang/invoke/VarHandle" ∧ (parseMethodDescriptor yX7_isHit.desc).map (fun d => d.parameters.length) = some 3 := by decide +kernel
theorem csX7_isToldByLot : yX7_isToldByLot.cls ≠ "java/lang/invoke/MethodHandle" ∧ yX7_isToldByLot.cls ≠ "java/lang/invoke/VarHandle" ∧ (parseMethodDescriptor yX7_isToldByLot.desc).map (fun d => d.parameters.length) = some 3 := by decide +kernel
theorem cdX7_layNext : yX7_layNext.cls = RX7 ∧ yX7_layNext.cls ≠ "java/lang/invoke/MethodHandle" ∧ yX7_layNext.cls ≠ "java/lang/invoke/VarHandle" ∧ (parseMethodDescriptor yX7_layNext.desc).map (fun d => d.parameters.length) = some 2 := by decide +kernel
theorem cdX7_setRows : yX7_setRows.cls = RX7 ∧ yX7_setRows.cls ≠ "java/lang/invoke/MethodHandle" ∧ yX7_setRows.cls ≠ "java/lang/invoke/VarHandle" ∧ (parseMethodDescriptor yX7_setRows.desc).map (fun d => d.parameters.length) = some 1 := by decide +kernel
theorem cdX7_tellFate : yX7_tellFate.cls = RX7 ∧ yX7_tellFate.cls ≠ "java/lang/invoke/MethodHandle" ∧ yX7_tellFate.cls ≠ "java/lang/invoke/VarHandle" ∧ (parseMethodDescriptor yX7_tellFate.desc).map (fun d => d.parameters.length) = some 2 := by decide +kernel
theorem cdX7_tellLife : yX7_tellLife.cls = RX7 ∧ yX7_tellLife.cls ≠ "java/lang/invoke/MethodHandle" ∧ yX7_tellLife.cls ≠ "java/lang/invoke/VarHandle" ∧ (parseMethodDescriptor yX7_tellLife.desc).map (fun d => d.parameters.length) = some 3 := by decide +kernel
theorem cdX7_waysToHit : yX7_waysToHit.cls = RX7 ∧ yX7_waysToHit.cls ≠ "java/lang/invoke/MethodHandle" ∧ yX7_waysToHit.cls ≠ "java/lang/invoke/VarHandle" ∧ (parseMethodDescriptor yX7_waysToHit.desc).map (fun d => d.parameters.length) = some 2 := by decide +kernel
theorem cdX8_begin : yX8_begin.cls = RX8 ∧ yX8_begin.cls ≠ "java/lang/invoke/MethodHandle" ∧ yX8_begin.cls ≠ "java/lang/invoke/VarHandle" ∧ (parseMethodDescriptor yX8_begin.desc).map (fun d => d.parameters.length) = some 3 := by decide +kernel
theorem cdX8_copyFrom : yX8_copyFrom.cls = RX8 ∧ yX8_copyFrom.cls ≠ "java/lang/invoke/MethodHandle" ∧ yX8_copyFrom.cls ≠ "java/lang/invoke/VarHandle" ∧ (parseMethodDescriptor yX8_copyFrom.desc).map (fun d => d.parameters.length) = some 1 := by decide +kernel
theorem cdX8_goOn : yX8_goOn.cls = RX8 ∧ yX8_goOn.cls ≠ "java/lang/invoke/MethodHandle" ∧ yX8_goOn.cls ≠ "java/lang/invoke/VarHandle" ∧ (parseMethodDescriptor yX8_goOn.desc).map (fun d => d.parameters.length) = some 3 := by decide +kernel
theorem cdX8_howManyKept : yX8_howManyKept.cls = RX8 ∧ yX8_howManyKept.cls ≠ "java/lang/invoke/MethodHandle" ∧ yX8_howManyKept.cls ≠ "java/lang/invoke/VarHandle" ∧ (parseMethodDescriptor yX8_howManyKept.desc).map (fun d => d.parameters.length) = some 0 := by decide +kernel
theorem csX8_init : yX8_init.cls ≠ "java/lang/invoke/MethodHandle" ∧ yX8_init.cls ≠ "java/lang/invoke/VarHandle" ∧ (parseMethodDescriptor yX8_init.desc).map (fun d => d.parameters.length) = some 0 := by decide +kernel
theorem cdX8_keptDay : yX8_keptDay.cls = RX8 ∧ yX8_keptDay.cls ≠ "java/lang/invoke/MethodHandle" ∧ yX8_keptDay.cls ≠ "java/lang/invoke/VarHandle" ∧ (parseMethodDescriptor yX8_keptDay.desc).map (fun d => d.parameters.length) = some 1 := by decide +kernel
theorem cdX8_lookAt : yX8_lookAt.cls = RX8 ∧ yX8_lookAt.cls ≠ "java/lang/invoke/MethodHandle" ∧ yX8_lookAt.cls ≠ "java/lang/invoke/VarHandle" ∧ (parseMethodDescriptor yX8_lookAt.desc).map (fun d => d.parameters.length) = some 1 := by decide +kernel
theorem cdX9_begin : yX9_begin.cls = RX9 ∧ yX9_begin.cls ≠ "java/lang/invoke/MethodHandle" ∧ yX9_begin.cls ≠ "java/lang/invoke/VarHandle" ∧ (parseMethodDescriptor yX9_begin.desc).map (fun d => d.parameters.length) = some 1 := by decide +kernel
theorem cdX9_hasRoom : yX9_hasRoom.cls = RX9 ∧ yX9_hasRoom.cls ≠ "java/lang/invoke/MethodHandle" ∧ yX9_hasRoom.cls ≠ "java/lang/invoke/VarHandle" ∧ (parseMethodDescriptor yX9_hasRoom.desc).map (fun d => d.parameters.length) = some 0 := by decide +kernel
theorem cdX9_holdsNumber : yX9_holdsNumber.cls = RX9 ∧ yX9_holdsNumber.cls ≠ "java/lang/invoke/MethodHandle" ∧ yX9_holdsNumber.cls ≠ "java/lang/invoke/VarHandle" ∧ (parseMethodDescriptor yX9_holdsNumber.desc).map (fun d => d.parameters.length) = some 2 := by decide +kernel
theorem csX9_init : yX9_init.cls ≠ "java/lang/invoke/MethodHandle" ∧ yX9_init.cls ≠ "java/lang/invoke/VarHandle" ∧ (parseMethodDescriptor yX9_init.desc).map (fun d => d.parameters.length) = some 0 := by decide +kernel
theorem cdX9_isAtEnd : yX9_isAtEnd.cls = RX9 ∧ yX9_isAtEnd.cls ≠ "java/lang/invoke/MethodHandle" ∧ yX9_isAtEnd.cls ≠ "java/lang/invoke/VarHandle" ∧ (parseMethodDescriptor yX9_isAtEnd.desc).map (fun d => d.parameters.length) = some 0 := by decide +kernel
theorem csX9_isBlank : yX9_isBlank.cls ≠ "java/lang/invoke/MethodHandle" ∧ yX9_isBlank.cls ≠ "java/lang/invoke/VarHandle" ∧ (parseMethodDescriptor yX9_isBlank.desc).map (fun d => d.parameters.length) = some 1 := by decide +kernel
theorem csX9_isDigit : yX9_isDigit.cls ≠ "java/lang/invoke/MethodHandle" ∧ yX9_isDigit.cls ≠ "java/lang/invoke/VarHandle" ∧ (parseMethodDescriptor yX9_isDigit.desc).map (fun d => d.parameters.length) = some 1 := by decide +kernel
theorem csX9_isLetter : yX9_isLetter.cls ≠ "java/lang/invoke/MethodHandle" ∧ yX9_isLetter.cls ≠ "java/lang/invoke/VarHandle" ∧ (parseMethodDescriptor yX9_isLetter.desc).map (fun d => d.parameters.length) = some 1 := by decide +kernel
theorem cdX9_isWord : yX9_isWord.cls = RX9 ∧ yX9_isWord.cls ≠ "java/lang/invoke/MethodHandle" ∧ yX9_isWord.cls ≠ "java/lang/invoke/VarHandle" ∧ (parseMethodDescriptor yX9_isWord.desc).map (fun d => d.parameters.length) = some 1 := by decide +kernel
theorem csX9_nameOf : yX9_nameOf.cls ≠ "java/lang/invoke/MethodHandle" ∧ yX9_nameOf.cls ≠ "java/lang/invoke/VarHandle" ∧ (parseMethodDescriptor yX9_nameOf.desc).map (fun d => d.parameters.length) = some 1 := by decide +kernel
theorem cdX9_namedOf : yX9_namedOf.cls = RX9 ∧ yX9_namedOf.cls ≠ "java/lang/invoke/MethodHandle" ∧ yX9_namedOf.cls ≠ "java/lang/invoke/VarHandle" ∧ (parseMethodDescriptor yX9_namedOf.desc).map (fun d => d.parameters.length) = some 1 := by decide +kernel
theorem cdX9_put : yX9_put.cls = RX9 ∧ yX9_put.cls ≠ "java/lang/invoke/MethodHandle" ∧ yX9_put.cls ≠ "java/lang/invoke/VarHandle" ∧ (parseMethodDescriptor yX9_put.desc).map (fun d => d.parameters.length) = some 1 := by decide +kernel
theorem cdX9_refuse : yX9_refuse.cls = RX9 ∧ yX9_refuse.cls ≠ "java/lang/invoke/MethodHandle" ∧ yX9_refuse.cls ≠ "java/lang/invoke/VarHandle" ∧ (parseMethodDescriptor yX9_refuse.desc).map (fun d => d.parameters.length) = some 1 := by decide +kernel
theorem cdX9_step : yX9_step.cls = RX9 ∧ yX9_step.cls ≠ "java/lang/invoke/MethodHandle" ∧ yX9_step.cls ≠ "java/lang/invoke/VarHandle" ∧ (parseMethodDescriptor yX9_step.desc).map (fun d => d.parameters.length) = some 0 := by decide +kernel
theorem cdX9_takeNumber : yX9_takeNumber.cls = RX9 ∧ yX9_takeNumber.cls ≠ "java/lang/invoke/MethodHandle" ∧ yX9_takeNumber.cls ≠ "java/lang/invoke/VarHandle" ∧ (parseMethodDescriptor yX9_takeNumber.desc).map (fun d => d.parameters.length) = some 2 := by decide +kernel
theorem cdX9_takeStop : yX9_takeStop.cls = RX9 ∧ yX9_takeStop.cls ≠ "java/lang/invoke/MethodHandle" ∧ yX9_takeStop.cls ≠ "java/lang/invoke/VarHandle" ∧ (parseMethodDescriptor yX9_takeStop.desc).map (fun d => d.parameters.length) = some 0 := by decide +kernel
theorem cdX9_takeWord : yX9_takeWord.cls = RX9 ∧ yX9_takeWord.cls ≠ "java/lang/invoke/MethodHandle" ∧ yX9_takeWord.cls ≠ "java/lang/invoke/VarHandle" ∧ (parseMethodDescriptor yX9_takeWord.desc).map (fun d => d.parameters.length) = some 1 := by decide +kernel
