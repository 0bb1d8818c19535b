def wWX9 (cB cI cZ : ClassId) (a : Nat → Nat) (I : Nat → Int32) (M : Nat → Nat → Int32) : va_W := [(a 0, .inr (9, [.ref (a 1), .int (I 0), .int (I 1), .int (I 2), .int (I 3), .int (I 4), .int (I 5), .int (I 6), .int (I 7), .int (I 8)])), (a 1, .inl (cB, 600, .inl (M 0)))]
def wWX1 (cB cI cZ : ClassId) (a : Nat → Nat) (I : Nat → Int32) (M : Nat → Nat → Int32) : va_W := [(a 0, .inr (1, [.ref (a 1), .ref (a 2)])), (a 1, .inl (cI, 2640, .inl (M 0))), (a 2, .inl (cI, 22, .inl (M 1)))]
def wWX2 (cB cI cZ : ClassId) (a : Nat → Nat) (I : Nat → Int32) (M : Nat → Nat → Int32) : va_W := [(a 0, .inr (2, [.ref (a 1), .int (I 0)])), (a 1, .inl (cI, 91, .inl (M 0)))]
def wWX4 (cB cI cZ : ClassId) (a : Nat → Nat) (I : Nat → Int32) (M : Nat → Nat → Int32) : va_W := [(a 0, .inr (4, [.ref (a 1), .int (I 0)])), (a 1, .inl (cI, 30, .inl (M 0)))]
def wWX5 (cB cI cZ : ClassId) (a : Nat → Nat) (I : Nat → Int32) (M : Nat → Nat → Int32) : va_W := [(a 0, .inr (5, [.ref (a 1), .ref (a 2), .ref (a 3), .ref (a 4), .ref (a 5), .ref (a 7)])), (a 1, .inl (cI, 28, .inl (M 0))), (a 2, .inl (cI, 28, .inl (M 1))), (a 3, .inl (cI, 28, .inl (M 2))), (a 4, .inl (cI, 28, .inl (M 3))), (a 5, .inr (2, [.ref (a 6), .int (I 0)])), (a 6, .inl (cI, 91, .inl (M 4))), (a 7, .inr (4, [.ref (a 8), .int (I 1)])), (a 8, .inl (cI, 30, .inl (M 5)))]
theorem wb_sw8 {x : Int32} (h0 : ¬ x = (0 : Int32)) (h1 : ¬ x = (1 : Int32)) (h2 : ¬ x = (2 : Int32)) (h3 : ¬ x = (3 : Int32)) (h4 : ¬ x = (4 : Int32)) (h5 : ¬ x = (5 : Int32)) (h6 : ¬ x = (6 : Int32)) (h7 : ¬ x = (7 : Int32)) : x.toInt < 0 ∨ 7 < x.toInt := by
  have q0 := wb_ne (0) h0
  rw [show (0 : Int32).toInt = 0 from by decide] at q0
  have q1 := wb_ne (1) h1
  rw [show (1 : Int32).toInt = 1 from by decide] at q1
  have q2 := wb_ne (2) h2
  rw [show (2 : Int32).toInt = 2 from by decide] at q2
  have q3 := wb_ne (3) h3
  rw [show (3 : Int32).toInt = 3 from by decide] at q3
  have q4 := wb_ne (4) h4
  rw [show (4 : Int32).toInt = 4 from by decide] at q4
  have q5 := wb_ne (5) h5
  rw [show (5 : Int32).toInt = 5 from by decide] at q5
  have q6 := wb_ne (6) h6
  rw [show (6 : Int32).toInt = 6 from by decide] at q6
  have q7 := wb_ne (7) h7
  rw [show (7 : Int32).toInt = 7 from by decide] at q7
  omega
theorem cdJ0_charAt_5068e : yJ0_charAt_5068e.cls = RJ0 ∧ yJ0_charAt_5068e.cls ≠ "java/lang/invoke/MethodHandle" ∧ yJ0_charAt_5068e.cls ≠ "java/lang/invoke/VarHandle" ∧ (parseMethodDescriptor yJ0_charAt_5068e.desc).map (fun d => d.parameters.length) = some 1 := by decide +kernel
theorem cdJ0_length_8abf5 : yJ0_length_8abf5.cls = RJ0 ∧ yJ0_length_8abf5.cls ≠ "java/lang/invoke/MethodHandle" ∧ yJ0_length_8abf5.cls ≠ "java/lang/invoke/VarHandle" ∧ (parseMethodDescriptor yJ0_length_8abf5.desc).map (fun d => d.parameters.length) = some 0 := by decide +kernel
theorem csJ7_fill_53178 : yJ7_fill_53178.cls ≠ "java/lang/invoke/MethodHandle" ∧ yJ7_fill_53178.cls ≠ "java/lang/invoke/VarHandle" ∧ (parseMethodDescriptor yJ7_fill_53178.desc).map (fun d => d.parameters.length) = some 2 := by decide +kernel
theorem cdX1_isNew : yX1_isNew.cls = RX1 ∧ yX1_isNew.cls ≠ "java/lang/invoke/MethodHandle" ∧ yX1_isNew.cls ≠ "java/lang/invoke/VarHandle" ∧ (parseMethodDescriptor yX1_isNew.desc).map (fun d => d.parameters.length) = some 2 := by decide +kernel
theorem cdX1_readDate : yX1_readDate.cls = RX1 ∧ yX1_readDate.cls ≠ "java/lang/invoke/MethodHandle" ∧ yX1_readDate.cls ≠ "java/lang/invoke/VarHandle" ∧ (parseMethodDescriptor yX1_readDate.desc).map (fun d => d.parameters.length) = some 1 := by decide +kernel
theorem cdX1_readDegree : yX1_readDegree.cls = RX1 ∧ yX1_readDegree.cls ≠ "java/lang/invoke/MethodHandle" ∧ yX1_readDegree.cls ≠ "java/lang/invoke/VarHandle" ∧ (parseMethodDescriptor yX1_readDegree.desc).map (fun d => d.parameters.length) = some 2 := by decide +kernel
theorem cdX1_readEntry : yX1_readEntry.cls = RX1 ∧ yX1_readEntry.cls ≠ "java/lang/invoke/MethodHandle" ∧ yX1_readEntry.cls ≠ "java/lang/invoke/VarHandle" ∧ (parseMethodDescriptor yX1_readEntry.desc).map (fun d => d.parameters.length) = some 1 := by decide +kernel
theorem cdX2_readClimate : yX2_readClimate.cls = RX2 ∧ yX2_readClimate.cls ≠ "java/lang/invoke/MethodHandle" ∧ yX2_readClimate.cls ≠ "java/lang/invoke/VarHandle" ∧ (parseMethodDescriptor yX2_readClimate.desc).map (fun d => d.parameters.length) = some 1 := by decide +kernel
theorem cdX2_readRising : yX2_readRising.cls = RX2 ∧ yX2_readRising.cls ≠ "java/lang/invoke/MethodHandle" ∧ yX2_readRising.cls ≠ "java/lang/invoke/VarHandle" ∧ (parseMethodDescriptor yX2_readRising.desc).map (fun d => d.parameters.length) = some 1 := by decide +kernel
theorem cdX4_readHand : yX4_readHand.cls = RX4 ∧ yX4_readHand.cls ≠ "java/lang/invoke/MethodHandle" ∧ yX4_readHand.cls ≠ "java/lang/invoke/VarHandle" ∧ (parseMethodDescriptor yX4_readHand.desc).map (fun d => d.parameters.length) = some 1 := by decide +kernel
theorem cdX5_readSet : yX5_readSet.cls = RX5 ∧ yX5_readSet.cls ≠ "java/lang/invoke/MethodHandle" ∧ yX5_readSet.cls ≠ "java/lang/invoke/VarHandle" ∧ (parseMethodDescriptor yX5_readSet.desc).map (fun d => d.parameters.length) = some 1 := by decide +kernel
theorem cdX5_readTable : yX5_readTable.cls = RX5 ∧ yX5_readTable.cls ≠ "java/lang/invoke/MethodHandle" ∧ yX5_readTable.cls ≠ "java/lang/invoke/VarHandle" ∧ (parseMethodDescriptor yX5_readTable.desc).map (fun d => d.parameters.length) = some 2 := by decide +kernel
theorem cdX9_holdsNumber : yX9_holdsNumber.cls = RX9 ∧ yX9_holdsNumber.cls ≠ "java/lang/invoke/MethodHandle" ∧ yX9_holdsNumber.cls ≠ "java/lang/invoke/VarHandle" ∧ (parseMethodDescriptor yX9_holdsNumber.desc).map (fun d => d.parameters.length) = some 2 := by decide +kernel
theorem cdX9_isAtEnd : yX9_isAtEnd.cls = RX9 ∧ yX9_isAtEnd.cls ≠ "java/lang/invoke/MethodHandle" ∧ yX9_isAtEnd.cls ≠ "java/lang/invoke/VarHandle" ∧ (parseMethodDescriptor yX9_isAtEnd.desc).map (fun d => d.parameters.length) = some 0 := by decide +kernel
theorem csX9_isBlank : yX9_isBlank.cls ≠ "java/lang/invoke/MethodHandle" ∧ yX9_isBlank.cls ≠ "java/lang/invoke/VarHandle" ∧ (parseMethodDescriptor yX9_isBlank.desc).map (fun d => d.parameters.length) = some 1 := by decide +kernel
theorem csX9_isDigit : yX9_isDigit.cls ≠ "java/lang/invoke/MethodHandle" ∧ yX9_isDigit.cls ≠ "java/lang/invoke/VarHandle" ∧ (parseMethodDescriptor yX9_isDigit.desc).map (fun d => d.parameters.length) = some 1 := by decide +kernel
theorem csX9_isLetter : yX9_isLetter.cls ≠ "java/lang/invoke/MethodHandle" ∧ yX9_isLetter.cls ≠ "java/lang/invoke/VarHandle" ∧ (parseMethodDescriptor yX9_isLetter.desc).map (fun d => d.parameters.length) = some 1 := by decide +kernel
theorem cdX9_isWord : yX9_isWord.cls = RX9 ∧ yX9_isWord.cls ≠ "java/lang/invoke/MethodHandle" ∧ yX9_isWord.cls ≠ "java/lang/invoke/VarHandle" ∧ (parseMethodDescriptor yX9_isWord.desc).map (fun d => d.parameters.length) = some 1 := by decide +kernel
theorem csX9_nameOf : yX9_nameOf.cls ≠ "java/lang/invoke/MethodHandle" ∧ yX9_nameOf.cls ≠ "java/lang/invoke/VarHandle" ∧ (parseMethodDescriptor yX9_nameOf.desc).map (fun d => d.parameters.length) = some 1 := by decide +kernel
theorem cdX9_namedOf : yX9_namedOf.cls = RX9 ∧ yX9_namedOf.cls ≠ "java/lang/invoke/MethodHandle" ∧ yX9_namedOf.cls ≠ "java/lang/invoke/VarHandle" ∧ (parseMethodDescriptor yX9_namedOf.desc).map (fun d => d.parameters.length) = some 1 := by decide +kernel
theorem cdX9_refuse : yX9_refuse.cls = RX9 ∧ yX9_refuse.cls ≠ "java/lang/invoke/MethodHandle" ∧ yX9_refuse.cls ≠ "java/lang/invoke/VarHandle" ∧ (parseMethodDescriptor yX9_refuse.desc).map (fun d => d.parameters.length) = some 1 := by decide +kernel
theorem cdX9_step : yX9_step.cls = RX9 ∧ yX9_step.cls ≠ "java/lang/invoke/MethodHandle" ∧ yX9_step.cls ≠ "java/lang/invoke/VarHandle" ∧ (parseMethodDescriptor yX9_step.desc).map (fun d => d.parameters.length) = some 0 := by decide +kernel
theorem cdX9_takeNumber : yX9_takeNumber.cls = RX9 ∧ yX9_takeNumber.cls ≠ "java/lang/invoke/MethodHandle" ∧ yX9_takeNumber.cls ≠ "java/lang/invoke/VarHandle" ∧ (parseMethodDescriptor yX9_takeNumber.desc).map (fun d => d.parameters.length) = some 2 := by decide +kernel
theorem cdX9_takeStop : yX9_takeStop.cls = RX9 ∧ yX9_takeStop.cls ≠ "java/lang/invoke/MethodHandle" ∧ yX9_takeStop.cls ≠ "java/lang/invoke/VarHandle" ∧ (parseMethodDescriptor yX9_takeStop.desc).map (fun d => d.parameters.length) = some 0 := by decide +kernel
theorem cdX9_takeWord : yX9_takeWord.cls = RX9 ∧ yX9_takeWord.cls ≠ "java/lang/invoke/MethodHandle" ∧ yX9_takeWord.cls ≠ "java/lang/invoke/VarHandle" ∧ (parseMethodDescriptor yX9_takeWord.desc).map (fun d => d.parameters.length) = some 1 := by decide +kernel
