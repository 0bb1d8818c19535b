-- ===== PART A: goes FIRST, ahead of the names: the tables' words, and 'selects' of the private methods out of them =====
/-- a private method of a class that the tables say can be made, by its rows of tables_1 -/
def lw_okq (q : MethodName × Nat) : Prop := (q.1.cls ≠ "java/lang/invoke/MethodHandle" ∧ q.1.cls ≠ "java/lang/invoke/VarHandle") ∧ Cond.instantiable q.1.cls q.2 ∈ tables_1 ∧ Cond.privateMethod q.1 ∈ tables_1 ∧ Cond.instanceMethod q.1 ∈ tables_1
theorem lt_1 {w : Cond} (i : Nat) (h9 : tables_1_1[i]? = some w) : w ∈ tables_1 := by
  have h := List.mem_of_getElem? h9
  exact (List.mem_append_left _ h)
theorem lt_2 {w : Cond} (i : Nat) (h9 : tables_1_2[i]? = some w) : w ∈ tables_1 := by
  have h := List.mem_of_getElem? h9
  exact (List.mem_append_right _ (List.mem_append_left _ h))
theorem lt_3 {w : Cond} (i : Nat) (h9 : tables_1_3[i]? = some w) : w ∈ tables_1 := by
  have h := List.mem_of_getElem? h9
  exact (List.mem_append_right _ (List.mem_append_right _ (List.mem_append_left _ h)))
theorem lt_4 {w : Cond} (i : Nat) (h9 : tables_1_4[i]? = some w) : w ∈ tables_1 := by
  have h := List.mem_of_getElem? h9
  exact (List.mem_append_right _ (List.mem_append_right _ (List.mem_append_right _ (List.mem_append_left _ h))))
theorem lt_5 {w : Cond} (i : Nat) (h9 : tables_1_5[i]? = some w) : w ∈ tables_1 := by
  have h := List.mem_of_getElem? h9
  exact (List.mem_append_right _ (List.mem_append_right _ (List.mem_append_right _ (List.mem_append_right _ (List.mem_append_left _ h)))))
theorem lt_6 {w : Cond} (i : Nat) (h9 : tables_1_6[i]? = some w) : w ∈ tables_1 := by
  have h := List.mem_of_getElem? h9
  exact (List.mem_append_right _ (List.mem_append_right _ (List.mem_append_right _ (List.mem_append_right _ (List.mem_append_right _ (List.mem_append_left _ h))))))
theorem lt_7 {w : Cond} (i : Nat) (h9 : tables_1_7[i]? = some w) : w ∈ tables_1 := by
  have h := List.mem_of_getElem? h9
  exact (List.mem_append_right _ (List.mem_append_right _ (List.mem_append_right _ (List.mem_append_right _ (List.mem_append_right _ (List.mem_append_right _ (List.mem_append_left _ h)))))))
theorem lt_8 {w : Cond} (i : Nat) (h9 : tables_1_8[i]? = some w) : w ∈ tables_1 := by
  have h := List.mem_of_getElem? h9
  exact (List.mem_append_right _ (List.mem_append_right _ (List.mem_append_right _ (List.mem_append_right _ (List.mem_append_right _ (List.mem_append_right _ (List.mem_append_right _ h)))))))
theorem lh_0 : "WheelBook" ≠ "java/lang/invoke/MethodHandle" ∧ "WheelBook" ≠ "java/lang/invoke/VarHandle" := ⟨by decide +kernel, by decide +kernel⟩
theorem lh_1 : "WheelBook$Births" ≠ "java/lang/invoke/MethodHandle" ∧ "WheelBook$Births" ≠ "java/lang/invoke/VarHandle" := ⟨by decide +kernel, by decide +kernel⟩
theorem lh_2 : "WheelBook$Books" ≠ "java/lang/invoke/MethodHandle" ∧ "WheelBook$Books" ≠ "java/lang/invoke/VarHandle" := ⟨by decide +kernel, by decide +kernel⟩
theorem lh_3 : "WheelBook$Climates" ≠ "java/lang/invoke/MethodHandle" ∧ "WheelBook$Climates" ≠ "java/lang/invoke/VarHandle" := ⟨by decide +kernel, by decide +kernel⟩
theorem lh_4 : "WheelBook$Fit" ≠ "java/lang/invoke/MethodHandle" ∧ "WheelBook$Fit" ≠ "java/lang/invoke/VarHandle" := ⟨by decide +kernel, by decide +kernel⟩
theorem lh_5 : "WheelBook$Hands" ≠ "java/lang/invoke/MethodHandle" ∧ "WheelBook$Hands" ≠ "java/lang/invoke/VarHandle" := ⟨by decide +kernel, by decide +kernel⟩
theorem lh_6 : "WheelBook$House" ≠ "java/lang/invoke/MethodHandle" ∧ "WheelBook$House" ≠ "java/lang/invoke/VarHandle" := ⟨by decide +kernel, by decide +kernel⟩
theorem lh_7 : "WheelBook$Leaves" ≠ "java/lang/invoke/MethodHandle" ∧ "WheelBook$Leaves" ≠ "java/lang/invoke/VarHandle" := ⟨by decide +kernel, by decide +kernel⟩
theorem lh_8 : "WheelBook$Outcomes" ≠ "java/lang/invoke/MethodHandle" ∧ "WheelBook$Outcomes" ≠ "java/lang/invoke/VarHandle" := ⟨by decide +kernel, by decide +kernel⟩
theorem lh_9 : "WheelBook$Search" ≠ "java/lang/invoke/MethodHandle" ∧ "WheelBook$Search" ≠ "java/lang/invoke/VarHandle" := ⟨by decide +kernel, by decide +kernel⟩
theorem lh_10 : "WheelBook$Tree" ≠ "java/lang/invoke/MethodHandle" ∧ "WheelBook$Tree" ≠ "java/lang/invoke/VarHandle" := ⟨by decide +kernel, by decide +kernel⟩
theorem lh_11 : "WheelBookModel" ≠ "java/lang/invoke/MethodHandle" ∧ "WheelBookModel" ≠ "java/lang/invoke/VarHandle" := ⟨by decide +kernel, by decide +kernel⟩
theorem lh_12 : "java/lang/Throwable" ≠ "java/lang/invoke/MethodHandle" ∧ "java/lang/Throwable" ≠ "java/lang/invoke/VarHandle" := ⟨by decide +kernel, by decide +kernel⟩
theorem lw_p0 : lw_okq (⟨"WheelBook$Hands", "isRead", "(II)Z"⟩, 2) := ⟨lh_5, (lt_1 102 rfl), (lt_2 150 rfl), (lt_2 151 rfl)⟩
theorem lw_p1 : lw_okq (⟨"WheelBook$Tree", "choose", "(IIZ)V"⟩, 5) := ⟨lh_10, (lt_1 201 rfl), (lt_2 159 rfl), (lt_2 160 rfl)⟩
theorem lw_p2 : lw_okq (⟨"WheelBook$Tree", "comesFrom", "(II)Z"⟩, 5) := ⟨lh_10, (lt_1 201 rfl), (lt_2 164 rfl), (lt_2 165 rfl)⟩
theorem lw_p3 : lw_okq (⟨"java/lang/Throwable", "fillInStackTrace", "(I)Ljava/lang/Throwable;"⟩, 6) := ⟨lh_12, (lt_2 219 rfl), (lt_2 217 rfl), (lt_2 218 rfl)⟩
theorem lw_p4 : lw_okq (⟨"WheelBook$House", "readSet", "(LWheelBook$Text;)Z"⟩, 6) := ⟨lh_6, (lt_1 81 rfl), (lt_3 104 rfl), (lt_3 105 rfl)⟩
theorem lw_p5 : lw_okq (⟨"WheelBook$House", "readTable", "(LWheelBook$Text;I)Z"⟩, 6) := ⟨lh_6, (lt_1 81 rfl), (lt_3 139 rfl), (lt_3 140 rfl)⟩
theorem lw_p6 : lw_okq (⟨"WheelBook$Climates", "readRising", "(LWheelBook$Text;)Z"⟩, 2) := ⟨lh_3, (lt_1 87 rfl), (lt_3 165 rfl), (lt_3 166 rfl)⟩
theorem lw_p7 : lw_okq (⟨"WheelBook$Books", "readEntry", "(LWheelBook$Text;)Z"⟩, 2) := ⟨lh_2, (lt_1 141 rfl), (lt_3 223 rfl), (lt_3 224 rfl)⟩
theorem lw_p8 : lw_okq (⟨"WheelBook$Books", "readDegree", "(LWheelBook$Text;I)Z"⟩, 2) := ⟨lh_2, (lt_1 141 rfl), (lt_3 231 rfl), (lt_3 232 rfl)⟩
theorem lw_p9 : lw_okq (⟨"WheelBook$Books", "isNew", "(LWheelBook$Text;I)Z"⟩, 2) := ⟨lh_2, (lt_1 141 rfl), (lt_3 235 rfl), (lt_3 236 rfl)⟩
theorem lw_p10 : lw_okq (⟨"WheelBook$Books", "readDate", "(LWheelBook$Text;)Z"⟩, 2) := ⟨lh_2, (lt_1 141 rfl), (lt_4 3 rfl), (lt_4 4 rfl)⟩
theorem lw_p11 : lw_okq (⟨"WheelBook$Outcomes", "setRows", "([I)I"⟩, 6) := ⟨lh_8, (lt_2 13 rfl), (lt_4 28 rfl), (lt_4 29 rfl)⟩
theorem lw_p12 : lw_okq (⟨"WheelBook$House", "swingOn", "(II)J"⟩, 6) := ⟨lh_6, (lt_1 81 rfl), (lt_4 53 rfl), (lt_4 54 rfl)⟩
theorem lw_p13 : lw_okq (⟨"WheelBook$Search", "lookAt", "(I)V"⟩, 8) := ⟨lh_9, (lt_1 165 rfl), (lt_4 114 rfl), (lt_4 115 rfl)⟩
theorem lw_p14 : lw_okq (⟨"WheelBook", "isClimate", "(I)Z"⟩, 13) := ⟨lh_0, (lt_1 28 rfl), (lt_4 161 rfl), (lt_4 162 rfl)⟩
theorem lw_p15 : lw_okq (⟨"WheelBook$Climates", "placeOf", "(II)I"⟩, 2) := ⟨lh_3, (lt_1 87 rfl), (lt_4 182 rfl), (lt_4 183 rfl)⟩
def lw_privs_1 : List (MethodName × Nat) := [(⟨"WheelBook$Hands", "isRead", "(II)Z"⟩, 2), (⟨"WheelBook$Tree", "choose", "(IIZ)V"⟩, 5), (⟨"WheelBook$Tree", "comesFrom", "(II)Z"⟩, 5), (⟨"java/lang/Throwable", "fillInStackTrace", "(I)Ljava/lang/Throwable;"⟩, 6), (⟨"WheelBook$House", "readSet", "(LWheelBook$Text;)Z"⟩, 6), (⟨"WheelBook$House", "readTable", "(LWheelBook$Text;I)Z"⟩, 6), (⟨"WheelBook$Climates", "readRising", "(LWheelBook$Text;)Z"⟩, 2), (⟨"WheelBook$Books", "readEntry", "(LWheelBook$Text;)Z"⟩, 2), (⟨"WheelBook$Books", "readDegree", "(LWheelBook$Text;I)Z"⟩, 2), (⟨"WheelBook$Books", "isNew", "(LWheelBook$Text;I)Z"⟩, 2), (⟨"WheelBook$Books", "readDate", "(LWheelBook$Text;)Z"⟩, 2), (⟨"WheelBook$Outcomes", "setRows", "([I)I"⟩, 6), (⟨"WheelBook$House", "swingOn", "(II)J"⟩, 6), (⟨"WheelBook$Search", "lookAt", "(I)V"⟩, 8), (⟨"WheelBook", "isClimate", "(I)Z"⟩, 13), (⟨"WheelBook$Climates", "placeOf", "(II)I"⟩, 2)]
theorem lw_r1 : ∀ q ∈ lw_privs_1, lw_okq q := List.forall_mem_cons.mpr ⟨lw_p0, List.forall_mem_cons.mpr ⟨lw_p1, List.forall_mem_cons.mpr ⟨lw_p2, List.forall_mem_cons.mpr ⟨lw_p3, List.forall_mem_cons.mpr ⟨lw_p4, List.forall_mem_cons.mpr ⟨lw_p5, List.forall_mem_cons.mpr ⟨lw_p6, List.forall_mem_cons.mpr ⟨lw_p7, List.forall_mem_cons.mpr ⟨lw_p8, List.forall_mem_cons.mpr ⟨lw_p9, List.forall_mem_cons.mpr ⟨lw_p10, List.forall_mem_cons.mpr ⟨lw_p11, List.forall_mem_cons.mpr ⟨lw_p12, List.forall_mem_cons.mpr ⟨lw_p13, List.forall_mem_cons.mpr ⟨lw_p14, List.forall_mem_cons.mpr ⟨lw_p15, fun _ h => absurd h List.not_mem_nil⟩⟩⟩⟩⟩⟩⟩⟩⟩⟩⟩⟩⟩⟩⟩⟩
theorem lw_p16 : lw_okq (⟨"WheelBook$Climates", "isHour", "(IIII)Z"⟩, 2) := ⟨lh_3, (lt_1 87 rfl), (lt_4 212 rfl), (lt_4 213 rfl)⟩
theorem lw_p17 : lw_okq (⟨"WheelBook", "isWay", "(II)Z"⟩, 13) := ⟨lh_0, (lt_1 28 rfl), (lt_4 228 rfl), (lt_4 229 rfl)⟩
theorem lw_p18 : lw_okq (⟨"WheelBook$Climates", "houseByMiddle", "(III)I"⟩, 2) := ⟨lh_3, (lt_1 87 rfl), (lt_4 236 rfl), (lt_4 237 rfl)⟩
theorem lw_p19 : lw_okq (⟨"WheelBook$Fit", "isShared", "(II)Z"⟩, 1) := ⟨lh_4, (lt_1 155 rfl), (lt_5 97 rfl), (lt_5 98 rfl)⟩
theorem lw_p20 : lw_okq (⟨"WheelBook", "waysThatCanBe", "(I)I"⟩, 13) := ⟨lh_0, (lt_1 28 rfl), (lt_5 117 rfl), (lt_5 118 rfl)⟩
theorem lw_p21 : lw_okq (⟨"WheelBook", "climatesThatCanBe", "(I)I"⟩, 13) := ⟨lh_0, (lt_1 28 rfl), (lt_5 121 rfl), (lt_5 122 rfl)⟩
theorem lw_p22 : lw_okq (⟨"WheelBook$Tree", "slipsOf", "(LWheelBook$Hands;LWheelBook$Books;III)I"⟩, 5) := ⟨lh_10, (lt_1 201 rfl), (lt_5 140 rfl), (lt_5 141 rfl)⟩
theorem lw_p23 : lw_okq (⟨"WheelBook$Leaves", "placeOf", "(II)I"⟩, 4) := ⟨lh_7, (lt_1 224 rfl), (lt_5 170 rfl), (lt_5 171 rfl)⟩
theorem lw_p24 : lw_okq (⟨"WheelBook$Leaves", "setPlaces", "(II)I"⟩, 4) := ⟨lh_7, (lt_1 224 rfl), (lt_5 185 rfl), (lt_5 186 rfl)⟩
theorem lw_p25 : lw_okq (⟨"WheelBook$Births", "join", "(III)V"⟩, 1) := ⟨lh_1, (lt_2 3 rfl), (lt_5 221 rfl), (lt_5 222 rfl)⟩
theorem lw_p26 : lw_okq (⟨"WheelBook$Outcomes", "waysToHit", "(II)I"⟩, 6) := ⟨lh_8, (lt_2 13 rfl), (lt_6 52 rfl), (lt_6 53 rfl)⟩
theorem lw_p27 : lw_okq (⟨"WheelBook$Outcomes", "layNext", "(II)V"⟩, 6) := ⟨lh_8, (lt_2 13 rfl), (lt_6 56 rfl), (lt_6 57 rfl)⟩
theorem lw_p28 : lw_okq (⟨"WheelBook$Outcomes", "isHit", "(III)Z"⟩, 6) := ⟨lh_8, (lt_2 13 rfl), (lt_6 72 rfl), (lt_6 73 rfl)⟩
theorem lw_p29 : lw_okq (⟨"WheelBookModel", "lays", "(I)V"⟩, 58) := ⟨lh_11, (lt_6 82 rfl), (lt_7 31 rfl), (lt_7 32 rfl)⟩
theorem lw_p30 : lw_okq (⟨"WheelBookModel", "begins", "(I)Z"⟩, 58) := ⟨lh_11, (lt_6 82 rfl), (lt_7 39 rfl), (lt_7 40 rfl)⟩
theorem lw_p31 : lw_okq (⟨"WheelBookModel", "right", "(ZI)Z"⟩, 58) := ⟨lh_11, (lt_6 82 rfl), (lt_7 43 rfl), (lt_7 44 rfl)⟩
def lw_privs_2 : List (MethodName × Nat) := [(⟨"WheelBook$Climates", "isHour", "(IIII)Z"⟩, 2), (⟨"WheelBook", "isWay", "(II)Z"⟩, 13), (⟨"WheelBook$Climates", "houseByMiddle", "(III)I"⟩, 2), (⟨"WheelBook$Fit", "isShared", "(II)Z"⟩, 1), (⟨"WheelBook", "waysThatCanBe", "(I)I"⟩, 13), (⟨"WheelBook", "climatesThatCanBe", "(I)I"⟩, 13), (⟨"WheelBook$Tree", "slipsOf", "(LWheelBook$Hands;LWheelBook$Books;III)I"⟩, 5), (⟨"WheelBook$Leaves", "placeOf", "(II)I"⟩, 4), (⟨"WheelBook$Leaves", "setPlaces", "(II)I"⟩, 4), (⟨"WheelBook$Births", "join", "(III)V"⟩, 1), (⟨"WheelBook$Outcomes", "waysToHit", "(II)I"⟩, 6), (⟨"WheelBook$Outcomes", "layNext", "(II)V"⟩, 6), (⟨"WheelBook$Outcomes", "isHit", "(III)Z"⟩, 6), (⟨"WheelBookModel", "lays", "(I)V"⟩, 58), (⟨"WheelBookModel", "begins", "(I)Z"⟩, 58), (⟨"WheelBookModel", "right", "(ZI)Z"⟩, 58)]
theorem lw_r2 : ∀ q ∈ lw_privs_2, lw_okq q := List.forall_mem_cons.mpr ⟨lw_p16, List.forall_mem_cons.mpr ⟨lw_p17, List.forall_mem_cons.mpr ⟨lw_p18, List.forall_mem_cons.mpr ⟨lw_p19, List.forall_mem_cons.mpr ⟨lw_p20, List.forall_mem_cons.mpr ⟨lw_p21, List.forall_mem_cons.mpr ⟨lw_p22, List.forall_mem_cons.mpr ⟨lw_p23, List.forall_mem_cons.mpr ⟨lw_p24, List.forall_mem_cons.mpr ⟨lw_p25, List.forall_mem_cons.mpr ⟨lw_p26, List.forall_mem_cons.mpr ⟨lw_p27, List.forall_mem_cons.mpr ⟨lw_p28, List.forall_mem_cons.mpr ⟨lw_p29, List.forall_mem_cons.mpr ⟨lw_p30, List.forall_mem_cons.mpr ⟨lw_p31, fun _ h => absurd h List.not_mem_nil⟩⟩⟩⟩⟩⟩⟩⟩⟩⟩⟩⟩⟩⟩⟩⟩
theorem lw_p32 : lw_okq (⟨"WheelBookModel", "steps", "()V"⟩, 58) := ⟨lh_11, (lt_6 82 rfl), (lt_7 47 rfl), (lt_7 48 rfl)⟩
theorem lw_p33 : lw_okq (⟨"WheelBookModel", "byteAt", "(I)I"⟩, 58) := ⟨lh_11, (lt_6 82 rfl), (lt_7 51 rfl), (lt_7 52 rfl)⟩
theorem lw_p34 : lw_okq (⟨"WheelBookModel", "copies", "([I[I)V"⟩, 58) := ⟨lh_11, (lt_6 82 rfl), (lt_7 61 rfl), (lt_7 62 rfl)⟩
theorem lw_p35 : lw_okq (⟨"WheelBookModel", "isGood", "()Z"⟩, 58) := ⟨lh_11, (lt_6 82 rfl), (lt_7 65 rfl), (lt_7 66 rfl)⟩
theorem lw_p36 : lw_okq (⟨"WheelBookModel", "knownWord", "()I"⟩, 58) := ⟨lh_11, (lt_6 82 rfl), (lt_7 69 rfl), (lt_7 70 rfl)⟩
theorem lw_p37 : lw_okq (⟨"WheelBookModel", "readsSet", "()V"⟩, 58) := ⟨lh_11, (lt_6 82 rfl), (lt_7 79 rfl), (lt_7 80 rfl)⟩
theorem lw_p38 : lw_okq (⟨"WheelBookModel", "number", "(II)I"⟩, 58) := ⟨lh_11, (lt_6 82 rfl), (lt_7 83 rfl), (lt_7 84 rfl)⟩
theorem lw_p39 : lw_okq (⟨"WheelBookModel", "wrong", "(I)V"⟩, 58) := ⟨lh_11, (lt_6 82 rfl), (lt_7 87 rfl), (lt_7 88 rfl)⟩
theorem lw_p40 : lw_okq (⟨"WheelBookModel", "need", "(Z)V"⟩, 58) := ⟨lh_11, (lt_6 82 rfl), (lt_7 91 rfl), (lt_7 92 rfl)⟩
theorem lw_p41 : lw_okq (⟨"WheelBookModel", "named", "(III)I"⟩, 58) := ⟨lh_11, (lt_6 82 rfl), (lt_7 95 rfl), (lt_7 96 rfl)⟩
theorem lw_p42 : lw_okq (⟨"WheelBookModel", "readsClimate", "()V"⟩, 58) := ⟨lh_11, (lt_6 82 rfl), (lt_7 101 rfl), (lt_7 102 rfl)⟩
theorem lw_p43 : lw_okq (⟨"WheelBookModel", "readsHand", "()V"⟩, 58) := ⟨lh_11, (lt_6 82 rfl), (lt_7 105 rfl), (lt_7 106 rfl)⟩
theorem lw_p44 : lw_okq (⟨"WheelBookModel", "isWheel", "(II)Z"⟩, 58) := ⟨lh_11, (lt_6 82 rfl), (lt_7 113 rfl), (lt_7 114 rfl)⟩
theorem lw_p45 : lw_okq (⟨"WheelBookModel", "readsEntry", "()V"⟩, 58) := ⟨lh_11, (lt_6 82 rfl), (lt_7 117 rfl), (lt_7 118 rfl)⟩
theorem lw_p46 : lw_okq (⟨"WheelBookModel", "placeOn", "(III)I"⟩, 58) := ⟨lh_11, (lt_6 82 rfl), (lt_7 132 rfl), (lt_7 133 rfl)⟩
theorem lw_p47 : lw_okq (⟨"WheelBookModel", "at", "(II)I"⟩, 58) := ⟨lh_11, (lt_6 82 rfl), (lt_7 146 rfl), (lt_7 147 rfl)⟩
def lw_privs_3 : List (MethodName × Nat) := [(⟨"WheelBookModel", "steps", "()V"⟩, 58), (⟨"WheelBookModel", "byteAt", "(I)I"⟩, 58), (⟨"WheelBookModel", "copies", "([I[I)V"⟩, 58), (⟨"WheelBookModel", "isGood", "()Z"⟩, 58), (⟨"WheelBookModel", "knownWord", "()I"⟩, 58), (⟨"WheelBookModel", "readsSet", "()V"⟩, 58), (⟨"WheelBookModel", "number", "(II)I"⟩, 58), (⟨"WheelBookModel", "wrong", "(I)V"⟩, 58), (⟨"WheelBookModel", "need", "(Z)V"⟩, 58), (⟨"WheelBookModel", "named", "(III)I"⟩, 58), (⟨"WheelBookModel", "readsClimate", "()V"⟩, 58), (⟨"WheelBookModel", "readsHand", "()V"⟩, 58), (⟨"WheelBookModel", "isWheel", "(II)Z"⟩, 58), (⟨"WheelBookModel", "readsEntry", "()V"⟩, 58), (⟨"WheelBookModel", "placeOn", "(III)I"⟩, 58), (⟨"WheelBookModel", "at", "(II)I"⟩, 58)]
theorem lw_r3 : ∀ q ∈ lw_privs_3, lw_okq q := List.forall_mem_cons.mpr ⟨lw_p32, List.forall_mem_cons.mpr ⟨lw_p33, List.forall_mem_cons.mpr ⟨lw_p34, List.forall_mem_cons.mpr ⟨lw_p35, List.forall_mem_cons.mpr ⟨lw_p36, List.forall_mem_cons.mpr ⟨lw_p37, List.forall_mem_cons.mpr ⟨lw_p38, List.forall_mem_cons.mpr ⟨lw_p39, List.forall_mem_cons.mpr ⟨lw_p40, List.forall_mem_cons.mpr ⟨lw_p41, List.forall_mem_cons.mpr ⟨lw_p42, List.forall_mem_cons.mpr ⟨lw_p43, List.forall_mem_cons.mpr ⟨lw_p44, List.forall_mem_cons.mpr ⟨lw_p45, List.forall_mem_cons.mpr ⟨lw_p46, List.forall_mem_cons.mpr ⟨lw_p47, fun _ h => absurd h List.not_mem_nil⟩⟩⟩⟩⟩⟩⟩⟩⟩⟩⟩⟩⟩⟩⟩⟩
theorem lw_p48 : lw_okq (⟨"WheelBookModel", "costOn", "(IIII)I"⟩, 58) := ⟨lh_11, (lt_6 82 rfl), (lt_7 154 rfl), (lt_7 155 rfl)⟩
theorem lw_p49 : lw_okq (⟨"WheelBookModel", "costOf", "(II)I"⟩, 58) := ⟨lh_11, (lt_6 82 rfl), (lt_7 158 rfl), (lt_7 159 rfl)⟩
theorem lw_p50 : lw_okq (⟨"WheelBookModel", "beside", "(II)I"⟩, 58) := ⟨lh_11, (lt_6 82 rfl), (lt_7 162 rfl), (lt_7 163 rfl)⟩
theorem lw_p51 : lw_okq (⟨"WheelBookModel", "isHand", "(II)Z"⟩, 58) := ⟨lh_11, (lt_6 82 rfl), (lt_7 166 rfl), (lt_7 167 rfl)⟩
theorem lw_p52 : lw_okq (⟨"WheelBookModel", "isSpan", "(II)Z"⟩, 58) := ⟨lh_11, (lt_6 82 rfl), (lt_7 174 rfl), (lt_7 175 rfl)⟩
theorem lw_p53 : lw_okq (⟨"WheelBookModel", "isMixed", "(II)Z"⟩, 58) := ⟨lh_11, (lt_6 82 rfl), (lt_7 191 rfl), (lt_7 192 rfl)⟩
theorem lw_p54 : lw_okq (⟨"WheelBookModel", "isClimate", "(II)Z"⟩, 58) := ⟨lh_11, (lt_6 82 rfl), (lt_7 227 rfl), (lt_7 228 rfl)⟩
theorem lw_p55 : lw_okq (⟨"WheelBookModel", "climbOf", "(II)I"⟩, 58) := ⟨lh_11, (lt_6 82 rfl), (lt_7 231 rfl), (lt_7 232 rfl)⟩
theorem lw_p56 : lw_okq (⟨"WheelBookModel", "riseOf", "(III)I"⟩, 58) := ⟨lh_11, (lt_6 82 rfl), (lt_7 239 rfl), (lt_8 0 rfl)⟩
theorem lw_p57 : lw_okq (⟨"WheelBookModel", "placeOf", "(II)I"⟩, 58) := ⟨lh_11, (lt_6 82 rfl), (lt_8 4 rfl), (lt_8 5 rfl)⟩
theorem lw_p58 : lw_okq (⟨"WheelBookModel", "middleOf", "(II)I"⟩, 58) := ⟨lh_11, (lt_6 82 rfl), (lt_8 12 rfl), (lt_8 13 rfl)⟩
theorem lw_p59 : lw_okq (⟨"WheelBookModel", "isHour", "(III)Z"⟩, 58) := ⟨lh_11, (lt_6 82 rfl), (lt_8 21 rfl), (lt_8 22 rfl)⟩
theorem lw_p60 : lw_okq (⟨"WheelBookModel", "isWay", "(II)Z"⟩, 58) := ⟨lh_11, (lt_6 82 rfl), (lt_8 29 rfl), (lt_8 30 rfl)⟩
theorem lw_p61 : lw_okq (⟨"WheelBookModel", "houseAt", "(IIII)I"⟩, 58) := ⟨lh_11, (lt_6 82 rfl), (lt_8 33 rfl), (lt_8 34 rfl)⟩
theorem lw_p62 : lw_okq (⟨"WheelBookModel", "agrees", "(III)I"⟩, 58) := ⟨lh_11, (lt_6 82 rfl), (lt_8 41 rfl), (lt_8 42 rfl)⟩
theorem lw_p63 : lw_okq (⟨"WheelBookModel", "housesTold", "(I)I"⟩, 58) := ⟨lh_11, (lt_6 82 rfl), (lt_8 49 rfl), (lt_8 50 rfl)⟩
def lw_privs_4 : List (MethodName × Nat) := [(⟨"WheelBookModel", "costOn", "(IIII)I"⟩, 58), (⟨"WheelBookModel", "costOf", "(II)I"⟩, 58), (⟨"WheelBookModel", "beside", "(II)I"⟩, 58), (⟨"WheelBookModel", "isHand", "(II)Z"⟩, 58), (⟨"WheelBookModel", "isSpan", "(II)Z"⟩, 58), (⟨"WheelBookModel", "isMixed", "(II)Z"⟩, 58), (⟨"WheelBookModel", "isClimate", "(II)Z"⟩, 58), (⟨"WheelBookModel", "climbOf", "(II)I"⟩, 58), (⟨"WheelBookModel", "riseOf", "(III)I"⟩, 58), (⟨"WheelBookModel", "placeOf", "(II)I"⟩, 58), (⟨"WheelBookModel", "middleOf", "(II)I"⟩, 58), (⟨"WheelBookModel", "isHour", "(III)Z"⟩, 58), (⟨"WheelBookModel", "isWay", "(II)Z"⟩, 58), (⟨"WheelBookModel", "houseAt", "(IIII)I"⟩, 58), (⟨"WheelBookModel", "agrees", "(III)I"⟩, 58), (⟨"WheelBookModel", "housesTold", "(I)I"⟩, 58)]
theorem lw_r4 : ∀ q ∈ lw_privs_4, lw_okq q := List.forall_mem_cons.mpr ⟨lw_p48, List.forall_mem_cons.mpr ⟨lw_p49, List.forall_mem_cons.mpr ⟨lw_p50, List.forall_mem_cons.mpr ⟨lw_p51, List.forall_mem_cons.mpr ⟨lw_p52, List.forall_mem_cons.mpr ⟨lw_p53, List.forall_mem_cons.mpr ⟨lw_p54, List.forall_mem_cons.mpr ⟨lw_p55, List.forall_mem_cons.mpr ⟨lw_p56, List.forall_mem_cons.mpr ⟨lw_p57, List.forall_mem_cons.mpr ⟨lw_p58, List.forall_mem_cons.mpr ⟨lw_p59, List.forall_mem_cons.mpr ⟨lw_p60, List.forall_mem_cons.mpr ⟨lw_p61, List.forall_mem_cons.mpr ⟨lw_p62, List.forall_mem_cons.mpr ⟨lw_p63, fun _ h => absurd h List.not_mem_nil⟩⟩⟩⟩⟩⟩⟩⟩⟩⟩⟩⟩⟩⟩⟩⟩
theorem lw_p64 : lw_okq (⟨"WheelBookModel", "isBook", "(I)Z"⟩, 58) := ⟨lh_11, (lt_6 82 rfl), (lt_8 61 rfl), (lt_8 62 rfl)⟩
theorem lw_p65 : lw_okq (⟨"WheelBookModel", "priceAll", "(II)I"⟩, 58) := ⟨lh_11, (lt_6 82 rfl), (lt_8 65 rfl), (lt_8 66 rfl)⟩
theorem lw_p66 : lw_okq (⟨"WheelBookModel", "priceOf", "(III)I"⟩, 58) := ⟨lh_11, (lt_6 82 rfl), (lt_8 69 rfl), (lt_8 70 rfl)⟩
theorem lw_p67 : lw_okq (⟨"WheelBookModel", "bookTells", "(I)Z"⟩, 58) := ⟨lh_11, (lt_6 82 rfl), (lt_8 77 rfl), (lt_8 78 rfl)⟩
theorem lw_p68 : lw_okq (⟨"WheelBookModel", "tells", "(I)Z"⟩, 58) := ⟨lh_11, (lt_6 82 rfl), (lt_8 81 rfl), (lt_8 82 rfl)⟩
theorem lw_p69 : lw_okq (⟨"WheelBookModel", "isTree", "()Z"⟩, 58) := ⟨lh_11, (lt_6 82 rfl), (lt_8 85 rfl), (lt_8 86 rfl)⟩
theorem lw_p70 : lw_okq (⟨"WheelBookModel", "leafAt", "(II)I"⟩, 58) := ⟨lh_11, (lt_6 82 rfl), (lt_8 105 rfl), (lt_8 106 rfl)⟩
theorem lw_p71 : lw_okq (⟨"WheelBookModel", "isNumber", "(I)Z"⟩, 58) := ⟨lh_11, (lt_6 82 rfl), (lt_8 117 rfl), (lt_8 118 rfl)⟩
theorem lw_p72 : lw_okq (⟨"WheelBookModel", "areSame", "(III)Z"⟩, 58) := ⟨lh_11, (lt_6 82 rfl), (lt_8 121 rfl), (lt_8 122 rfl)⟩
theorem lw_p73 : lw_okq (⟨"WheelBookModel", "asks", "([III)I"⟩, 58) := ⟨lh_11, (lt_6 82 rfl), (lt_8 145 rfl), (lt_8 146 rfl)⟩
theorem lw_p74 : lw_okq (⟨"WheelBookModel", "hitsBy", "(I)I"⟩, 58) := ⟨lh_11, (lt_6 82 rfl), (lt_8 149 rfl), (lt_8 150 rfl)⟩
theorem lw_p75 : lw_okq (⟨"WheelBookModel", "isTold", "(II)Z"⟩, 58) := ⟨lh_11, (lt_6 82 rfl), (lt_8 153 rfl), (lt_8 154 rfl)⟩
theorem lw_p76 : lw_okq (⟨"WheelBookModel", "isHit", "(III)Z"⟩, 58) := ⟨lh_11, (lt_6 82 rfl), (lt_8 157 rfl), (lt_8 158 rfl)⟩
theorem lw_p77 : lw_okq (⟨"WheelBookModel", "turns", "()Z"⟩, 58) := ⟨lh_11, (lt_6 82 rfl), (lt_8 161 rfl), (lt_8 162 rfl)⟩
theorem lw_p78 : lw_okq (⟨"WheelBookModel", "swaps", "(II)V"⟩, 58) := ⟨lh_11, (lt_6 82 rfl), (lt_8 165 rfl), (lt_8 166 rfl)⟩
def lw_privs_5 : List (MethodName × Nat) := [(⟨"WheelBookModel", "isBook", "(I)Z"⟩, 58), (⟨"WheelBookModel", "priceAll", "(II)I"⟩, 58), (⟨"WheelBookModel", "priceOf", "(III)I"⟩, 58), (⟨"WheelBookModel", "bookTells", "(I)Z"⟩, 58), (⟨"WheelBookModel", "tells", "(I)Z"⟩, 58), (⟨"WheelBookModel", "isTree", "()Z"⟩, 58), (⟨"WheelBookModel", "leafAt", "(II)I"⟩, 58), (⟨"WheelBookModel", "isNumber", "(I)Z"⟩, 58), (⟨"WheelBookModel", "areSame", "(III)Z"⟩, 58), (⟨"WheelBookModel", "asks", "([III)I"⟩, 58), (⟨"WheelBookModel", "hitsBy", "(I)I"⟩, 58), (⟨"WheelBookModel", "isTold", "(II)Z"⟩, 58), (⟨"WheelBookModel", "isHit", "(III)Z"⟩, 58), (⟨"WheelBookModel", "turns", "()Z"⟩, 58), (⟨"WheelBookModel", "swaps", "(II)V"⟩, 58)]
theorem lw_r5 : ∀ q ∈ lw_privs_5, lw_okq q := List.forall_mem_cons.mpr ⟨lw_p64, List.forall_mem_cons.mpr ⟨lw_p65, List.forall_mem_cons.mpr ⟨lw_p66, List.forall_mem_cons.mpr ⟨lw_p67, List.forall_mem_cons.mpr ⟨lw_p68, List.forall_mem_cons.mpr ⟨lw_p69, List.forall_mem_cons.mpr ⟨lw_p70, List.forall_mem_cons.mpr ⟨lw_p71, List.forall_mem_cons.mpr ⟨lw_p72, List.forall_mem_cons.mpr ⟨lw_p73, List.forall_mem_cons.mpr ⟨lw_p74, List.forall_mem_cons.mpr ⟨lw_p75, List.forall_mem_cons.mpr ⟨lw_p76, List.forall_mem_cons.mpr ⟨lw_p77, List.forall_mem_cons.mpr ⟨lw_p78, fun _ h => absurd h List.not_mem_nil⟩⟩⟩⟩⟩⟩⟩⟩⟩⟩⟩⟩⟩⟩⟩
def lw_privs : List (MethodName × Nat) := lw_privs_1 ++ (lw_privs_2 ++ (lw_privs_3 ++ (lw_privs_4 ++ (lw_privs_5))))
def lw_tbl : List Cond := k2_sels lw_privs ++ tables_1
theorem lw_privs_ok : ∀ q ∈ lw_privs, lw_okq q := by
  show ∀ q ∈ lw_privs_1 ++ (lw_privs_2 ++ (lw_privs_3 ++ (lw_privs_4 ++ (lw_privs_5)))), lw_okq q
  exact List.forall_mem_append.mpr ⟨lw_r1, List.forall_mem_append.mpr ⟨lw_r2, List.forall_mem_append.mpr ⟨lw_r3, List.forall_mem_append.mpr ⟨lw_r4, lw_r5⟩⟩⟩⟩
-- ===== end of PART A; then your names; then what follows =====
