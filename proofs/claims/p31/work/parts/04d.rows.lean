noncomputable def sJ6_bitCount_0f7a4_52 : List Nat := 172 :: []
noncomputable def sJ6_bitCount_0f7a4_51 : List Nat := 126 :: sJ6_bitCount_0f7a4_52
noncomputable def sJ6_bitCount_0f7a4_49 : List Nat := 16 :: 63 :: sJ6_bitCount_0f7a4_51
noncomputable def sJ6_bitCount_0f7a4_48 : List Nat := 26 :: sJ6_bitCount_0f7a4_49
noncomputable def sJ6_bitCount_0f7a4_47 : List Nat := 59 :: sJ6_bitCount_0f7a4_48
noncomputable def sJ6_bitCount_0f7a4_46 : List Nat := 96 :: sJ6_bitCount_0f7a4_47
noncomputable def sJ6_bitCount_0f7a4_45 : List Nat := 124 :: sJ6_bitCount_0f7a4_46
noncomputable def sJ6_bitCount_0f7a4_43 : List Nat := 16 :: 16 :: sJ6_bitCount_0f7a4_45
noncomputable def sJ6_bitCount_0f7a4_42 : List Nat := 26 :: sJ6_bitCount_0f7a4_43
noncomputable def sJ6_bitCount_0f7a4_41 : List Nat := 26 :: sJ6_bitCount_0f7a4_42
noncomputable def sJ6_bitCount_0f7a4_40 : List Nat := 59 :: sJ6_bitCount_0f7a4_41
noncomputable def sJ6_bitCount_0f7a4_39 : List Nat := 96 :: sJ6_bitCount_0f7a4_40
noncomputable def sJ6_bitCount_0f7a4_38 : List Nat := 124 :: sJ6_bitCount_0f7a4_39
noncomputable def sJ6_bitCount_0f7a4_36 : List Nat := 16 :: 8 :: sJ6_bitCount_0f7a4_38
noncomputable def sJ6_bitCount_0f7a4_35 : List Nat := 26 :: sJ6_bitCount_0f7a4_36
noncomputable def sJ6_bitCount_0f7a4_34 : List Nat := 26 :: sJ6_bitCount_0f7a4_35
noncomputable def sJ6_bitCount_0f7a4_33 : List Nat := 59 :: sJ6_bitCount_0f7a4_34
noncomputable def sJ6_bitCount_0f7a4_32 : List Nat := 126 :: sJ6_bitCount_0f7a4_33
noncomputable def sJ6_bitCount_0f7a4_29 : List Nat := 19 :: 1 :: 11 :: sJ6_bitCount_0f7a4_32
noncomputable def sJ6_bitCount_0f7a4_28 : List Nat := 96 :: sJ6_bitCount_0f7a4_29
noncomputable def sJ6_bitCount_0f7a4_27 : List Nat := 124 :: sJ6_bitCount_0f7a4_28
noncomputable def sJ6_bitCount_0f7a4_26 : List Nat := 7 :: sJ6_bitCount_0f7a4_27
noncomputable def sJ6_bitCount_0f7a4_25 : List Nat := 26 :: sJ6_bitCount_0f7a4_26
noncomputable def sJ6_bitCount_0f7a4_24 : List Nat := 26 :: sJ6_bitCount_0f7a4_25
noncomputable def sJ6_bitCount_0f7a4_23 : List Nat := 59 :: sJ6_bitCount_0f7a4_24
noncomputable def sJ6_bitCount_0f7a4_22 : List Nat := 96 :: sJ6_bitCount_0f7a4_23
noncomputable def sJ6_bitCount_0f7a4_21 : List Nat := 126 :: sJ6_bitCount_0f7a4_22
noncomputable def sJ6_bitCount_0f7a4_18 : List Nat := 19 :: 1 :: 10 :: sJ6_bitCount_0f7a4_21
noncomputable def sJ6_bitCount_0f7a4_17 : List Nat := 124 :: sJ6_bitCount_0f7a4_18
noncomputable def sJ6_bitCount_0f7a4_16 : List Nat := 5 :: sJ6_bitCount_0f7a4_17
noncomputable def sJ6_bitCount_0f7a4_15 : List Nat := 26 :: sJ6_bitCount_0f7a4_16
noncomputable def sJ6_bitCount_0f7a4_14 : List Nat := 126 :: sJ6_bitCount_0f7a4_15
noncomputable def sJ6_bitCount_0f7a4_11 : List Nat := 19 :: 1 :: 10 :: sJ6_bitCount_0f7a4_14
noncomputable def sJ6_bitCount_0f7a4_10 : List Nat := 26 :: sJ6_bitCount_0f7a4_11
noncomputable def sJ6_bitCount_0f7a4_9 : List Nat := 59 :: sJ6_bitCount_0f7a4_10
noncomputable def sJ6_bitCount_0f7a4_8 : List Nat := 100 :: sJ6_bitCount_0f7a4_9
noncomputable def sJ6_bitCount_0f7a4_7 : List Nat := 126 :: sJ6_bitCount_0f7a4_8
noncomputable def sJ6_bitCount_0f7a4_4 : List Nat := 19 :: 1 :: 9 :: sJ6_bitCount_0f7a4_7
noncomputable def sJ6_bitCount_0f7a4_3 : List Nat := 124 :: sJ6_bitCount_0f7a4_4
noncomputable def sJ6_bitCount_0f7a4_2 : List Nat := 4 :: sJ6_bitCount_0f7a4_3
noncomputable def sJ6_bitCount_0f7a4_1 : List Nat := 26 :: sJ6_bitCount_0f7a4_2
noncomputable def sJ6_bitCount_0f7a4_0 : List Nat := 26 :: sJ6_bitCount_0f7a4_1
theorem aJ6_bitCount_0f7a4_0 : dc_at cJ6_bitCount_0f7a4 0 sJ6_bitCount_0f7a4_0 := dc_base (by decide +kernel)
theorem aJ6_bitCount_0f7a4_1 : dc_at cJ6_bitCount_0f7a4 1 sJ6_bitCount_0f7a4_1 := dc_n1 aJ6_bitCount_0f7a4_0
theorem aJ6_bitCount_0f7a4_2 : dc_at cJ6_bitCount_0f7a4 2 sJ6_bitCount_0f7a4_2 := dc_n1 aJ6_bitCount_0f7a4_1
theorem aJ6_bitCount_0f7a4_3 : dc_at cJ6_bitCount_0f7a4 3 sJ6_bitCount_0f7a4_3 := dc_n1 aJ6_bitCount_0f7a4_2
theorem aJ6_bitCount_0f7a4_4 : dc_at cJ6_bitCount_0f7a4 4 sJ6_bitCount_0f7a4_4 := dc_n1 aJ6_bitCount_0f7a4_3
theorem aJ6_bitCount_0f7a4_7 : dc_at cJ6_bitCount_0f7a4 7 sJ6_bitCount_0f7a4_7 := dc_n3 aJ6_bitCount_0f7a4_4
theorem aJ6_bitCount_0f7a4_8 : dc_at cJ6_bitCount_0f7a4 8 sJ6_bitCount_0f7a4_8 := dc_n1 aJ6_bitCount_0f7a4_7
theorem aJ6_bitCount_0f7a4_9 : dc_at cJ6_bitCount_0f7a4 9 sJ6_bitCount_0f7a4_9 := dc_n1 aJ6_bitCount_0f7a4_8
theorem aJ6_bitCount_0f7a4_10 : dc_at cJ6_bitCount_0f7a4 10 sJ6_bitCount_0f7a4_10 := dc_n1 aJ6_bitCount_0f7a4_9
theorem aJ6_bitCount_0f7a4_11 : dc_at cJ6_bitCount_0f7a4 11 sJ6_bitCount_0f7a4_11 := dc_n1 aJ6_bitCount_0f7a4_10
theorem aJ6_bitCount_0f7a4_14 : dc_at cJ6_bitCount_0f7a4 14 sJ6_bitCount_0f7a4_14 := dc_n3 aJ6_bitCount_0f7a4_11
theorem aJ6_bitCount_0f7a4_15 : dc_at cJ6_bitCount_0f7a4 15 sJ6_bitCount_0f7a4_15 := dc_n1 aJ6_bitCount_0f7a4_14
theorem aJ6_bitCount_0f7a4_16 : dc_at cJ6_bitCount_0f7a4 16 sJ6_bitCount_0f7a4_16 := dc_n1 aJ6_bitCount_0f7a4_15
theorem aJ6_bitCount_0f7a4_17 : dc_at cJ6_bitCount_0f7a4 17 sJ6_bitCount_0f7a4_17 := dc_n1 aJ6_bitCount_0f7a4_16
theorem aJ6_bitCount_0f7a4_18 : dc_at cJ6_bitCount_0f7a4 18 sJ6_bitCount_0f7a4_18 := dc_n1 aJ6_bitCount_0f7a4_17
theorem aJ6_bitCount_0f7a4_21 : dc_at cJ6_bitCount_0f7a4 21 sJ6_bitCount_0f7a4_21 := dc_n3 aJ6_bitCount_0f7a4_18
theorem aJ6_bitCount_0f7a4_22 : dc_at cJ6_bitCount_0f7a4 22 sJ6_bitCount_0f7a4_22 := dc_n1 aJ6_bitCount_0f7a4_21
theorem aJ6_bitCount_0f7a4_23 : dc_at cJ6_bitCount_0f7a4 23 sJ6_bitCount_0f7a4_23 := dc_n1 aJ6_bitCount_0f7a4_22
theorem aJ6_bitCount_0f7a4_24 : dc_at cJ6_bitCount_0f7a4 24 sJ6_bitCount_0f7a4_24 := dc_n1 aJ6_bitCount_0f7a4_23
theorem aJ6_bitCount_0f7a4_25 : dc_at cJ6_bitCount_0f7a4 25 sJ6_bitCount_0f7a4_25 := dc_n1 aJ6_bitCount_0f7a4_24
theorem aJ6_bitCount_0f7a4_26 : dc_at cJ6_bitCount_0f7a4 26 sJ6_bitCount_0f7a4_26 := dc_n1 aJ6_bitCount_0f7a4_25
theorem aJ6_bitCount_0f7a4_27 : dc_at cJ6_bitCount_0f7a4 27 sJ6_bitCount_0f7a4_27 := dc_n1 aJ6_bitCount_0f7a4_26
theorem aJ6_bitCount_0f7a4_28 : dc_at cJ6_bitCount_0f7a4 28 sJ6_bitCount_0f7a4_28 := dc_n1 aJ6_bitCount_0f7a4_27
theorem aJ6_bitCount_0f7a4_29 : dc_at cJ6_bitCount_0f7a4 29 sJ6_bitCount_0f7a4_29 := dc_n1 aJ6_bitCount_0f7a4_28
theorem aJ6_bitCount_0f7a4_32 : dc_at cJ6_bitCount_0f7a4 32 sJ6_bitCount_0f7a4_32 := dc_n3 aJ6_bitCount_0f7a4_29
theorem aJ6_bitCount_0f7a4_33 : dc_at cJ6_bitCount_0f7a4 33 sJ6_bitCount_0f7a4_33 := dc_n1 aJ6_bitCount_0f7a4_32
theorem aJ6_bitCount_0f7a4_34 : dc_at cJ6_bitCount_0f7a4 34 sJ6_bitCount_0f7a4_34 := dc_n1 aJ6_bitCount_0f7a4_33
theorem aJ6_bitCount_0f7a4_35 : dc_at cJ6_bitCount_0f7a4 35 sJ6_bitCount_0f7a4_35 := dc_n1 aJ6_bitCount_0f7a4_34
theorem aJ6_bitCount_0f7a4_36 : dc_at cJ6_bitCount_0f7a4 36 sJ6_bitCount_0f7a4_36 := dc_n1 aJ6_bitCount_0f7a4_35
theorem aJ6_bitCount_0f7a4_38 : dc_at cJ6_bitCount_0f7a4 38 sJ6_bitCount_0f7a4_38 := dc_n2 aJ6_bitCount_0f7a4_36
theorem aJ6_bitCount_0f7a4_39 : dc_at cJ6_bitCount_0f7a4 39 sJ6_bitCount_0f7a4_39 := dc_n1 aJ6_bitCount_0f7a4_38
theorem aJ6_bitCount_0f7a4_40 : dc_at cJ6_bitCount_0f7a4 40 sJ6_bitCount_0f7a4_40 := dc_n1 aJ6_bitCount_0f7a4_39
theorem aJ6_bitCount_0f7a4_41 : dc_at cJ6_bitCount_0f7a4 41 sJ6_bitCount_0f7a4_41 := dc_n1 aJ6_bitCount_0f7a4_40
theorem aJ6_bitCount_0f7a4_42 : dc_at cJ6_bitCount_0f7a4 42 sJ6_bitCount_0f7a4_42 := dc_n1 aJ6_bitCount_0f7a4_41
theorem aJ6_bitCount_0f7a4_43 : dc_at cJ6_bitCount_0f7a4 43 sJ6_bitCount_0f7a4_43 := dc_n1 aJ6_bitCount_0f7a4_42
theorem aJ6_bitCount_0f7a4_45 : dc_at cJ6_bitCount_0f7a4 45 sJ6_bitCount_0f7a4_45 := dc_n2 aJ6_bitCount_0f7a4_43
theorem aJ6_bitCount_0f7a4_46 : dc_at cJ6_bitCount_0f7a4 46 sJ6_bitCount_0f7a4_46 := dc_n1 aJ6_bitCount_0f7a4_45
theorem aJ6_bitCount_0f7a4_47 : dc_at cJ6_bitCount_0f7a4 47 sJ6_bitCount_0f7a4_47 := dc_n1 aJ6_bitCount_0f7a4_46
theorem aJ6_bitCount_0f7a4_48 : dc_at cJ6_bitCount_0f7a4 48 sJ6_bitCount_0f7a4_48 := dc_n1 aJ6_bitCount_0f7a4_47
theorem aJ6_bitCount_0f7a4_49 : dc_at cJ6_bitCount_0f7a4 49 sJ6_bitCount_0f7a4_49 := dc_n1 aJ6_bitCount_0f7a4_48
theorem aJ6_bitCount_0f7a4_51 : dc_at cJ6_bitCount_0f7a4 51 sJ6_bitCount_0f7a4_51 := dc_n2 aJ6_bitCount_0f7a4_49
theorem aJ6_bitCount_0f7a4_52 : dc_at cJ6_bitCount_0f7a4 52 sJ6_bitCount_0f7a4_52 := dc_n1 aJ6_bitCount_0f7a4_51
theorem dJ6_bitCount_0f7a4_0 : decode cJ6_bitCount_0f7a4 0 = .ok (.iload_n 0, 1) := dc_26 aJ6_bitCount_0f7a4_0
theorem dJ6_bitCount_0f7a4_1 : decode cJ6_bitCount_0f7a4 1 = .ok (.iload_n 0, 1) := dc_26 aJ6_bitCount_0f7a4_1
theorem dJ6_bitCount_0f7a4_2 : decode cJ6_bitCount_0f7a4 2 = .ok (.iconst 1, 1) := dc_4 aJ6_bitCount_0f7a4_2
theorem dJ6_bitCount_0f7a4_3 : decode cJ6_bitCount_0f7a4 3 = .ok (.iushr, 1) := dc_124 aJ6_bitCount_0f7a4_3
theorem dJ6_bitCount_0f7a4_4 : decode cJ6_bitCount_0f7a4 4 = .ok (.ldc_w 265, 3) := dc_19 (a0 := 1) (b0 := 9) aJ6_bitCount_0f7a4_4
theorem dJ6_bitCount_0f7a4_7 : decode cJ6_bitCount_0f7a4 7 = .ok (.iand, 1) := dc_126 aJ6_bitCount_0f7a4_7
theorem dJ6_bitCount_0f7a4_8 : decode cJ6_bitCount_0f7a4 8 = .ok (.isub, 1) := dc_100 aJ6_bitCount_0f7a4_8
theorem dJ6_bitCount_0f7a4_9 : decode cJ6_bitCount_0f7a4 9 = .ok (.istore_n 0, 1) := dc_59 aJ6_bitCount_0f7a4_9
theorem dJ6_bitCount_0f7a4_10 : decode cJ6_bitCount_0f7a4 10 = .ok (.iload_n 0, 1) := dc_26 aJ6_bitCount_0f7a4_10
theorem dJ6_bitCount_0f7a4_11 : decode cJ6_bitCount_0f7a4 11 = .ok (.ldc_w 266, 3) := dc_19 (a0 := 1) (b0 := 10) aJ6_bitCount_0f7a4_11
theorem dJ6_bitCount_0f7a4_14 : decode cJ6_bitCount_0f7a4 14 = .ok (.iand, 1) := dc_126 aJ6_bitCount_0f7a4_14
theorem dJ6_bitCount_0f7a4_15 : decode cJ6_bitCount_0f7a4 15 = .ok (.iload_n 0, 1) := dc_26 aJ6_bitCount_0f7a4_15
theorem dJ6_bitCount_0f7a4_16 : decode cJ6_bitCount_0f7a4 16 = .ok (.iconst 2, 1) := dc_5 aJ6_bitCount_0f7a4_16
theorem dJ6_bitCount_0f7a4_17 : decode cJ6_bitCount_0f7a4 17 = .ok (.iushr, 1) := dc_124 aJ6_bitCount_0f7a4_17
theorem dJ6_bitCount_0f7a4_18 : decode cJ6_bitCount_0f7a4 18 = .ok (.ldc_w 266, 3) := dc_19 (a0 := 1) (b0 := 10) aJ6_bitCount_0f7a4_18
theorem dJ6_bitCount_0f7a4_21 : decode cJ6_bitCount_0f7a4 21 = .ok (.iand, 1) := dc_126 aJ6_bitCount_0f7a4_21
theorem dJ6_bitCount_0f7a4_22 : decode cJ6_bitCount_0f7a4 22 = .ok (.iadd, 1) := dc_96 aJ6_bitCount_0f7a4_22
theorem dJ6_bitCount_0f7a4_23 : decode cJ6_bitCount_0f7a4 23 = .ok (.istore_n 0, 1) := dc_59 aJ6_bitCount_0f7a4_23
theorem dJ6_bitCount_0f7a4_24 : decode cJ6_bitCount_0f7a4 24 = .ok (.iload_n 0, 1) := dc_26 aJ6_bitCount_0f7a4_24
theorem dJ6_bitCount_0f7a4_25 : decode cJ6_bitCount_0f7a4 25 = .ok (.iload_n 0, 1) := dc_26 aJ6_bitCount_0f7a4_25
theorem dJ6_bitCount_0f7a4_26 : decode cJ6_bitCount_0f7a4 26 = .ok (.iconst 4, 1) := dc_7 aJ6_bitCount_0f7a4_26
theorem dJ6_bitCount_0f7a4_27 : decode cJ6_bitCount_0f7a4 27 = .ok (.iushr, 1) := dc_124 aJ6_bitCount_0f7a4_27
theorem dJ6_bitCount_0f7a4_28 : decode cJ6_bitCount_0f7a4 28 = .ok (.iadd, 1) := dc_96 aJ6_bitCount_0f7a4_28
theorem dJ6_bitCount_0f7a4_29 : decode cJ6_bitCount_0f7a4 29 = .ok (.ldc_w 267, 3) := dc_19 (a0 := 1) (b0 := 11) aJ6_bitCount_0f7a4_29
theorem dJ6_bitCount_0f7a4_32 : decode cJ6_bitCount_0f7a4 32 = .ok (.iand, 1) := dc_126 aJ6_bitCount_0f7a4_32
theorem dJ6_bitCount_0f7a4_33 : decode cJ6_bitCount_0f7a4 33 = .ok (.istore_n 0, 1) := dc_59 aJ6_bitCount_0f7a4_33
theorem dJ6_bitCount_0f7a4_34 : decode cJ6_bitCount_0f7a4 34 = .ok (.iload_n 0, 1) := dc_26 aJ6_bitCount_0f7a4_34
theorem dJ6_bitCount_0f7a4_35 : decode cJ6_bitCount_0f7a4 35 = .ok (.iload_n 0, 1) := dc_26 aJ6_bitCount_0f7a4_35
theorem dJ6_bitCount_0f7a4_36 : decode cJ6_bitCount_0f7a4 36 = .ok (.bipush 8, 2) := dc_16 (a0 := 8) aJ6_bitCount_0f7a4_36 (by decide)
theorem dJ6_bitCount_0f7a4_38 : decode cJ6_bitCount_0f7a4 38 = .ok (.iushr, 1) := dc_124 aJ6_bitCount_0f7a4_38
theorem dJ6_bitCount_0f7a4_39 : decode cJ6_bitCount_0f7a4 39 = .ok (.iadd, 1) := dc_96 aJ6_bitCount_0f7a4_39
theorem dJ6_bitCount_0f7a4_40 : decode cJ6_bitCount_0f7a4 40 = .ok (.istore_n 0, 1) := dc_59 aJ6_bitCount_0f7a4_40
theorem dJ6_bitCount_0f7a4_41 : decode cJ6_bitCount_0f7a4 41 = .ok (.iload_n 0, 1) := dc_26 aJ6_bitCount_0f7a4_41
theorem dJ6_bitCount_0f7a4_42 : decode cJ6_bitCount_0f7a4 42 = .ok (.iload_n 0, 1) := dc_26 aJ6_bitCount_0f7a4_42
theorem dJ6_bitCount_0f7a4_43 : decode cJ6_bitCount_0f7a4 43 = .ok (.bipush 16, 2) := dc_16 (a0 := 16) aJ6_bitCount_0f7a4_43 (by decide)
theorem dJ6_bitCount_0f7a4_45 : decode cJ6_bitCount_0f7a4 45 = .ok (.iushr, 1) := dc_124 aJ6_bitCount_0f7a4_45
theorem dJ6_bitCount_0f7a4_46 : decode cJ6_bitCount_0f7a4 46 = .ok (.iadd, 1) := dc_96 aJ6_bitCount_0f7a4_46
theorem dJ6_bitCount_0f7a4_47 : decode cJ6_bitCount_0f7a4 47 = .ok (.istore_n 0, 1) := dc_59 aJ6_bitCount_0f7a4_47
theorem dJ6_bitCount_0f7a4_48 : decode cJ6_bitCount_0f7a4 48 = .ok (.iload_n 0, 1) := dc_26 aJ6_bitCount_0f7a4_48
theorem dJ6_bitCount_0f7a4_49 : decode cJ6_bitCount_0f7a4 49 = .ok (.bipush 63, 2) := dc_16 (a0 := 63) aJ6_bitCount_0f7a4_49 (by decide)
theorem dJ6_bitCount_0f7a4_51 : decode cJ6_bitCount_0f7a4 51 = .ok (.iand, 1) := dc_126 aJ6_bitCount_0f7a4_51
theorem dJ6_bitCount_0f7a4_52 : decode cJ6_bitCount_0f7a4 52 = .ok (.ireturn, 1) := dc_172 aJ6_bitCount_0f7a4_52
noncomputable def sJ9_floorDiv_f86c9_29 : List Nat := 173 :: []
noncomputable def sJ9_floorDiv_f86c9_27 : List Nat := 22 :: 4 :: sJ9_floorDiv_f86c9_29
noncomputable def sJ9_floorDiv_f86c9_26 : List Nat := 173 :: sJ9_floorDiv_f86c9_27
noncomputable def sJ9_floorDiv_f86c9_25 : List Nat := 101 :: sJ9_floorDiv_f86c9_26
noncomputable def sJ9_floorDiv_f86c9_24 : List Nat := 10 :: sJ9_floorDiv_f86c9_25
noncomputable def sJ9_floorDiv_f86c9_22 : List Nat := 22 :: 4 :: sJ9_floorDiv_f86c9_24
noncomputable def sJ9_floorDiv_f86c9_19 : List Nat := 153 :: 0 :: 8 :: sJ9_floorDiv_f86c9_22
noncomputable def sJ9_floorDiv_f86c9_18 : List Nat := 148 :: sJ9_floorDiv_f86c9_19
noncomputable def sJ9_floorDiv_f86c9_17 : List Nat := 30 :: sJ9_floorDiv_f86c9_18
noncomputable def sJ9_floorDiv_f86c9_16 : List Nat := 105 :: sJ9_floorDiv_f86c9_17
noncomputable def sJ9_floorDiv_f86c9_15 : List Nat := 32 :: sJ9_floorDiv_f86c9_16
noncomputable def sJ9_floorDiv_f86c9_13 : List Nat := 22 :: 4 :: sJ9_floorDiv_f86c9_15
noncomputable def sJ9_floorDiv_f86c9_10 : List Nat := 156 :: 0 :: 17 :: sJ9_floorDiv_f86c9_13
noncomputable def sJ9_floorDiv_f86c9_9 : List Nat := 148 :: sJ9_floorDiv_f86c9_10
noncomputable def sJ9_floorDiv_f86c9_8 : List Nat := 9 :: sJ9_floorDiv_f86c9_9
noncomputable def sJ9_floorDiv_f86c9_7 : List Nat := 131 :: sJ9_floorDiv_f86c9_8
noncomputable def sJ9_floorDiv_f86c9_6 : List Nat := 32 :: sJ9_floorDiv_f86c9_7
noncomputable def sJ9_floorDiv_f86c9_5 : List Nat := 30 :: sJ9_floorDiv_f86c9_6
noncomputable def sJ9_floorDiv_f86c9_3 : List Nat := 55 :: 4 :: sJ9_floorDiv_f86c9_5
noncomputable def sJ9_floorDiv_f86c9_2 : List Nat := 109 :: sJ9_floorDiv_f86c9_3
noncomputable def sJ9_floorDiv_f86c9_1 : List Nat := 32 :: sJ9_floorDiv_f86c9_2
noncomputable def sJ9_floorDiv_f86c9_0 : List Nat := 30 :: sJ9_floorDiv_f86c9_1
theorem aJ9_floorDiv_f86c9_0 : dc_at cJ9_floorDiv_f86c9 0 sJ9_floorDiv_f86c9_0 := dc_base (by decide +kernel)
theorem aJ9_floorDiv_f86c9_1 : dc_at cJ9_floorDiv_f86c9 1 sJ9_floorDiv_f86c9_1 := dc_n1 aJ9_floorDiv_f86c9_0
theorem aJ9_floorDiv_f86c9_2 : dc_at cJ9_floorDiv_f86c9 2 sJ9_floorDiv_f86c9_2 := dc_n1 aJ9_floorDiv_f86c9_1
theorem aJ9_floorDiv_f86c9_3 : dc_at cJ9_floorDiv_f86c9 3 sJ9_floorDiv_f86c9_3 := dc_n1 aJ9_floorDiv_f86c9_2
theorem aJ9_floorDiv_f86c9_5 : dc_at cJ9_floorDiv_f86c9 5 sJ9_floorDiv_f86c9_5 := dc_n2 aJ9_floorDiv_f86c9_3
theorem aJ9_floorDiv_f86c9_6 : dc_at cJ9_floorDiv_f86c9 6 sJ9_floorDiv_f86c9_6 := dc_n1 aJ9_floorDiv_f86c9_5
theorem aJ9_floorDiv_f86c9_7 : dc_at cJ9_floorDiv_f86c9 7 sJ9_floorDiv_f86c9_7 := dc_n1 aJ9_floorDiv_f86c9_6
theorem aJ9_floorDiv_f86c9_8 : dc_at cJ9_floorDiv_f86c9 8 sJ9_floorDiv_f86c9_8 := dc_n1 aJ9_floorDiv_f86c9_7
theorem aJ9_floorDiv_f86c9_9 : dc_at cJ9_floorDiv_f86c9 9 sJ9_floorDiv_f86c9_9 := dc_n1 aJ9_floorDiv_f86c9_8
theorem aJ9_floorDiv_f86c9_10 : dc_at cJ9_floorDiv_f86c9 10 sJ9_floorDiv_f86c9_10 := dc_n1 aJ9_floorDiv_f86c9_9
theorem aJ9_floorDiv_f86c9_13 : dc_at cJ9_floorDiv_f86c9 13 sJ9_floorDiv_f86c9_13 := dc_n3 aJ9_floorDiv_f86c9_10
theorem aJ9_floorDiv_f86c9_15 : dc_at cJ9_floorDiv_f86c9 15 sJ9_floorDiv_f86c9_15 := dc_n2 aJ9_floorDiv_f86c9_13
theorem aJ9_floorDiv_f86c9_16 : dc_at cJ9_floorDiv_f86c9 16 sJ9_floorDiv_f86c9_16 := dc_n1 aJ9_floorDiv_f86c9_15
theorem aJ9_floorDiv_f86c9_17 : dc_at cJ9_floorDiv_f86c9 17 sJ9_floorDiv_f86c9_17 := dc_n1 aJ9_floorDiv_f86c9_16
theorem aJ9_floorDiv_f86c9_18 : dc_at cJ9_floorDiv_f86c9 18 sJ9_floorDiv_f86c9_18 := dc_n1 aJ9_floorDiv_f86c9_17
theorem aJ9_floorDiv_f86c9_19 : dc_at cJ9_floorDiv_f86c9 19 sJ9_floorDiv_f86c9_19 := dc_n1 aJ9_floorDiv_f86c9_18
theorem aJ9_floorDiv_f86c9_22 : dc_at cJ9_floorDiv_f86c9 22 sJ9_floorDiv_f86c9_22 := dc_n3 aJ9_floorDiv_f86c9_19
theorem aJ9_floorDiv_f86c9_24 : dc_at cJ9_floorDiv_f86c9 24 sJ9_floorDiv_f86c9_24 := dc_n2 aJ9_floorDiv_f86c9_22
theorem aJ9_floorDiv_f86c9_25 : dc_at cJ9_floorDiv_f86c9 25 sJ9_floorDiv_f86c9_25 := dc_n1 aJ9_floorDiv_f86c9_24
theorem aJ9_floorDiv_f86c9_26 : dc_at cJ9_floorDiv_f86c9 26 sJ9_floorDiv_f86c9_26 := dc_n1 aJ9_floorDiv_f86c9_25
theorem aJ9_floorDiv_f86c9_27 : dc_at cJ9_floorDiv_f86c9 27 sJ9_floorDiv_f86c9_27 := dc_n1 aJ9_floorDiv_f86c9_26
theorem aJ9_floorDiv_f86c9_29 : dc_at cJ9_floorDiv_f86c9 29 sJ9_floorDiv_f86c9_29 := dc_n2 aJ9_floorDiv_f86c9_27
theorem dJ9_floorDiv_f86c9_0 : decode cJ9_floorDiv_f86c9 0 = .ok (.lload_n 0, 1) := dc_30 aJ9_floorDiv_f86c9_0
theorem dJ9_floorDiv_f86c9_1 : decode cJ9_floorDiv_f86c9 1 = .ok (.lload_n 2, 1) := dc_32 aJ9_floorDiv_f86c9_1
theorem dJ9_floorDiv_f86c9_2 : decode cJ9_floorDiv_f86c9 2 = .ok (.ldiv, 1) := dc_109 aJ9_floorDiv_f86c9_2
theorem dJ9_floorDiv_f86c9_3 : decode cJ9_floorDiv_f86c9 3 = .ok (.lstore 4, 2) := dc_55 (a0 := 4) aJ9_floorDiv_f86c9_3
theorem dJ9_floorDiv_f86c9_5 : decode cJ9_floorDiv_f86c9 5 = .ok (.lload_n 0, 1) := dc_30 aJ9_floorDiv_f86c9_5
theorem dJ9_floorDiv_f86c9_6 : decode cJ9_floorDiv_f86c9 6 = .ok (.lload_n 2, 1) := dc_32 aJ9_floorDiv_f86c9_6
theorem dJ9_floorDiv_f86c9_7 : decode cJ9_floorDiv_f86c9 7 = .ok (.lxor, 1) := dc_131 aJ9_floorDiv_f86c9_7
theorem dJ9_floorDiv_f86c9_8 : decode cJ9_floorDiv_f86c9 8 = .ok (.lconst 0, 1) := dc_9 aJ9_floorDiv_f86c9_8
theorem dJ9_floorDiv_f86c9_9 : decode cJ9_floorDiv_f86c9 9 = .ok (.lcmp, 1) := dc_148 aJ9_floorDiv_f86c9_9
theorem dJ9_floorDiv_f86c9_10 : decode cJ9_floorDiv_f86c9 10 = .ok (.ifCond .ge 17, 3) := dc_156 (a0 := 0) (b0 := 17) aJ9_floorDiv_f86c9_10 (by decide)
theorem dJ9_floorDiv_f86c9_13 : decode cJ9_floorDiv_f86c9 13 = .ok (.lload 4, 2) := dc_22 (a0 := 4) aJ9_floorDiv_f86c9_13
theorem dJ9_floorDiv_f86c9_15 : decode cJ9_floorDiv_f86c9 15 = .ok (.lload_n 2, 1) := dc_32 aJ9_floorDiv_f86c9_15
theorem dJ9_floorDiv_f86c9_16 : decode cJ9_floorDiv_f86c9 16 = .ok (.lmul, 1) := dc_105 aJ9_floorDiv_f86c9_16
theorem dJ9_floorDiv_f86c9_17 : decode cJ9_floorDiv_f86c9 17 = .ok (.lload_n 0, 1) := dc_30 aJ9_floorDiv_f86c9_17
theorem dJ9_floorDiv_f86c9_18 : decode cJ9_floorDiv_f86c9 18 = .ok (.lcmp, 1) := dc_148 aJ9_floorDiv_f86c9_18
theorem dJ9_floorDiv_f86c9_19 : decode cJ9_floorDiv_f86c9 19 = .ok (.ifCond .eq 8, 3) := dc_153 (a0 := 0) (b0 := 8) aJ9_floorDiv_f86c9_19 (by decide)
theorem dJ9_floorDiv_f86c9_22 : decode cJ9_floorDiv_f86c9 22 = .ok (.lload 4, 2) := dc_22 (a0 := 4) aJ9_floorDiv_f86c9_22
theorem dJ9_floorDiv_f86c9_24 : decode cJ9_floorDiv_f86c9 24 = .ok (.lconst 1, 1) := dc_10 aJ9_floorDiv_f86c9_24
theorem dJ9_floorDiv_f86c9_25 : decode cJ9_floorDiv_f86c9 25 = .ok (.lsub, 1) := dc_101 aJ9_floorDiv_f86c9_25
theorem dJ9_floorDiv_f86c9_26 : decode cJ9_floorDiv_f86c9 26 = .ok (.lreturn, 1) := dc_173 aJ9_floorDiv_f86c9_26
theorem dJ9_floorDiv_f86c9_27 : decode cJ9_floorDiv_f86c9 27 = .ok (.lload 4, 2) := dc_22 (a0 := 4) aJ9_floorDiv_f86c9_27
theorem dJ9_floorDiv_f86c9_29 : decode cJ9_floorDiv_f86c9 29 = .ok (.lreturn, 1) := dc_173 aJ9_floorDiv_f86c9_29
noncomputable def sJ9_floorMod_7cf53_19 : List Nat := 172 :: []
noncomputable def sJ9_floorMod_7cf53_18 : List Nat := 28 :: sJ9_floorMod_7cf53_19
noncomputable def sJ9_floorMod_7cf53_17 : List Nat := 172 :: sJ9_floorMod_7cf53_18
noncomputable def sJ9_floorMod_7cf53_16 : List Nat := 96 :: sJ9_floorMod_7cf53_17
noncomputable def sJ9_floorMod_7cf53_15 : List Nat := 27 :: sJ9_floorMod_7cf53_16
noncomputable def sJ9_floorMod_7cf53_14 : List Nat := 28 :: sJ9_floorMod_7cf53_15
noncomputable def sJ9_floorMod_7cf53_11 : List Nat := 153 :: 0 :: 7 :: sJ9_floorMod_7cf53_14
noncomputable def sJ9_floorMod_7cf53_10 : List Nat := 28 :: sJ9_floorMod_7cf53_11
noncomputable def sJ9_floorMod_7cf53_7 : List Nat := 156 :: 0 :: 11 :: sJ9_floorMod_7cf53_10
noncomputable def sJ9_floorMod_7cf53_6 : List Nat := 130 :: sJ9_floorMod_7cf53_7
noncomputable def sJ9_floorMod_7cf53_5 : List Nat := 27 :: sJ9_floorMod_7cf53_6
noncomputable def sJ9_floorMod_7cf53_4 : List Nat := 26 :: sJ9_floorMod_7cf53_5
noncomputable def sJ9_floorMod_7cf53_3 : List Nat := 61 :: sJ9_floorMod_7cf53_4
noncomputable def sJ9_floorMod_7cf53_2 : List Nat := 112 :: sJ9_floorMod_7cf53_3
noncomputable def sJ9_floorMod_7cf53_1 : List Nat := 27 :: sJ9_floorMod_7cf53_2
noncomputable def sJ9_floorMod_7cf53_0 : List Nat := 26 :: sJ9_floorMod_7cf53_1
theorem aJ9_floorMod_7cf53_0 : dc_at cJ9_floorMod_7cf53 0 sJ9_floorMod_7cf53_0 := dc_base (by decide +kernel)
theorem aJ9_floorMod_7cf53_1 : dc_at cJ9_floorMod_7cf53 1 sJ9_floorMod_7cf53_1 := dc_n1 aJ9_floorMod_7cf53_0
theorem aJ9_floorMod_7cf53_2 : dc_at cJ9_floorMod_7cf53 2 sJ9_floorMod_7cf53_2 := dc_n1 aJ9_floorMod_7cf53_1
theorem aJ9_floorMod_7cf53_3 : dc_at cJ9_floorMod_7cf53 3 sJ9_floorMod_7cf53_3 := dc_n1 aJ9_floorMod_7cf53_2
theorem aJ9_floorMod_7cf53_4 : dc_at cJ9_floorMod_7cf53 4 sJ9_floorMod_7cf53_4 := dc_n1 aJ9_floorMod_7cf53_3
theorem aJ9_floorMod_7cf53_5 : dc_at cJ9_floorMod_7cf53 5 sJ9_floorMod_7cf53_5 := dc_n1 aJ9_floorMod_7cf53_4
theorem aJ9_floorMod_7cf53_6 : dc_at cJ9_floorMod_7cf53 6 sJ9_floorMod_7cf53_6 := dc_n1 aJ9_floorMod_7cf53_5
theorem aJ9_floorMod_7cf53_7 : dc_at cJ9_floorMod_7cf53 7 sJ9_floorMod_7cf53_7 := dc_n1 aJ9_floorMod_7cf53_6
theorem aJ9_floorMod_7cf53_10 : dc_at cJ9_floorMod_7cf53 10 sJ9_floorMod_7cf53_10 := dc_n3 aJ9_floorMod_7cf53_7
theorem aJ9_floorMod_7cf53_11 : dc_at cJ9_floorMod_7cf53 11 sJ9_floorMod_7cf53_11 := dc_n1 aJ9_floorMod_7cf53_10
theorem aJ9_floorMod_7cf53_14 : dc_at cJ9_floorMod_7cf53 14 sJ9_floorMod_7cf53_14 := dc_n3 aJ9_floorMod_7cf53_11
theorem aJ9_floorMod_7cf53_15 : dc_at cJ9_floorMod_7cf53 15 sJ9_floorMod_7cf53_15 := dc_n1 aJ9_floorMod_7cf53_14
theorem aJ9_floorMod_7cf53_16 : dc_at cJ9_floorMod_7cf53 16 sJ9_floorMod_7cf53_16 := dc_n1 aJ9_floorMod_7cf53_15
theorem aJ9_floorMod_7cf53_17 : dc_at cJ9_floorMod_7cf53 17 sJ9_floorMod_7cf53_17 := dc_n1 aJ9_floorMod_7cf53_16
theorem aJ9_floorMod_7cf53_18 : dc_at cJ9_floorMod_7cf53 18 sJ9_floorMod_7cf53_18 := dc_n1 aJ9_floorMod_7cf53_17
theorem aJ9_floorMod_7cf53_19 : dc_at cJ9_floorMod_7cf53 19 sJ9_floorMod_7cf53_19 := dc_n1 aJ9_floorMod_7cf53_18
theorem dJ9_floorMod_7cf53_0 : decode cJ9_floorMod_7cf53 0 = .ok (.iload_n 0, 1) := dc_26 aJ9_floorMod_7cf53_0
theorem dJ9_floorMod_7cf53_1 : decode cJ9_floorMod_7cf53 1 = .ok (.iload_n 1, 1) := dc_27 aJ9_floorMod_7cf53_1
theorem dJ9_floorMod_7cf53_2 : decode cJ9_floorMod_7cf53 2 = .ok (.irem, 1) := dc_112 aJ9_floorMod_7cf53_2
theorem dJ9_floorMod_7cf53_3 : decode cJ9_floorMod_7cf53 3 = .ok (.istore_n 2, 1) := dc_61 aJ9_floorMod_7cf53_3
theorem dJ9_floorMod_7cf53_4 : decode cJ9_floorMod_7cf53 4 = .ok (.iload_n 0, 1) := dc_26 aJ9_floorMod_7cf53_4
theorem dJ9_floorMod_7cf53_5 : decode cJ9_floorMod_7cf53 5 = .ok (.iload_n 1, 1) := dc_27 aJ9_floorMod_7cf53_5
theorem dJ9_floorMod_7cf53_6 : decode cJ9_floorMod_7cf53 6 = .ok (.ixor, 1) := dc_130 aJ9_floorMod_7cf53_6
theorem dJ9_floorMod_7cf53_7 : decode cJ9_floorMod_7cf53 7 = .ok (.ifCond .ge 11, 3) := dc_156 (a0 := 0) (b0 := 11) aJ9_floorMod_7cf53_7 (by decide)
theorem dJ9_floorMod_7cf53_10 : decode cJ9_floorMod_7cf53 10 = .ok (.iload_n 2, 1) := dc_28 aJ9_floorMod_7cf53_10
theorem dJ9_floorMod_7cf53_11 : decode cJ9_floorMod_7cf53 11 = .ok (.ifCond .eq 7, 3) := dc_153 (a0 := 0) (b0 := 7) aJ9_floorMod_7cf53_11 (by decide)
theorem dJ9_floorMod_7cf53_14 : decode cJ9_floorMod_7cf53 14 = .ok (.iload_n 2, 1) := dc_28 aJ9_floorMod_7cf53_14
theorem dJ9_floorMod_7cf53_15 : decode cJ9_floorMod_7cf53 15 = .ok (.iload_n 1, 1) := dc_27 aJ9_floorMod_7cf53_15
theorem dJ9_floorMod_7cf53_16 : decode cJ9_floorMod_7cf53 16 = .ok (.iadd, 1) := dc_96 aJ9_floorMod_7cf53_16
theorem dJ9_floorMod_7cf53_17 : decode cJ9_floorMod_7cf53 17 = .ok (.ireturn, 1) := dc_172 aJ9_floorMod_7cf53_17
theorem dJ9_floorMod_7cf53_18 : decode cJ9_floorMod_7cf53 18 = .ok (.iload_n 2, 1) := dc_28 aJ9_floorMod_7cf53_18
theorem dJ9_floorMod_7cf53_19 : decode cJ9_floorMod_7cf53 19 = .ok (.ireturn, 1) := dc_172 aJ9_floorMod_7cf53_19
noncomputable def sJ9_floorMod_f86c9_27 : List Nat := 173 :: []
noncomputable def sJ9_floorMod_f86c9_25 : List Nat := 22 :: 4 :: sJ9_floorMod_f86c9_27
noncomputable def sJ9_floorMod_f86c9_24 : List Nat := 173 :: sJ9_floorMod_f86c9_25
noncomputable def sJ9_floorMod_f86c9_23 : List Nat := 97 :: sJ9_floorMod_f86c9_24
noncomputable def sJ9_floorMod_f86c9_22 : List Nat := 32 :: sJ9_floorMod_f86c9_23
noncomputable def sJ9_floorMod_f86c9_20 : List Nat := 22 :: 4 :: sJ9_floorMod_f86c9_22
noncomputable def sJ9_floorMod_f86c9_17 : List Nat := 153 :: 0 :: 8 :: sJ9_floorMod_f86c9_20
noncomputable def sJ9_floorMod_f86c9_16 : List Nat := 148 :: sJ9_floorMod_f86c9_17
noncomputable def sJ9_floorMod_f86c9_15 : List Nat := 9 :: sJ9_floorMod_f86c9_16
noncomputable def sJ9_floorMod_f86c9_13 : List Nat := 22 :: 4 :: sJ9_floorMod_f86c9_15
noncomputable def sJ9_floorMod_f86c9_10 : List Nat := 156 :: 0 :: 15 :: sJ9_floorMod_f86c9_13
noncomputable def sJ9_floorMod_f86c9_9 : List Nat := 148 :: sJ9_floorMod_f86c9_10
noncomputable def sJ9_floorMod_f86c9_8 : List Nat := 9 :: sJ9_floorMod_f86c9_9
noncomputable def sJ9_floorMod_f86c9_7 : List Nat := 131 :: sJ9_floorMod_f86c9_8
noncomputable def sJ9_floorMod_f86c9_6 : List Nat := 32 :: sJ9_floorMod_f86c9_7
noncomputable def sJ9_floorMod_f86c9_5 : List Nat := 30 :: sJ9_floorMod_f86c9_6
noncomputable def sJ9_floorMod_f86c9_3 : List Nat := 55 :: 4 :: sJ9_floorMod_f86c9_5
noncomputable def sJ9_floorMod_f86c9_2 : List Nat := 113 :: sJ9_floorMod_f86c9_3
noncomputable def sJ9_floorMod_f86c9_1 : List Nat := 32 :: sJ9_floorMod_f86c9_2
noncomputable def sJ9_floorMod_f86c9_0 : List Nat := 30 :: sJ9_floorMod_f86c9_1
theorem aJ9_floorMod_f86c9_0 : dc_at cJ9_floorMod_f86c9 0 sJ9_floorMod_f86c9_0 := dc_base (by decide +kernel)
theorem aJ9_floorMod_f86c9_1 : dc_at cJ9_floorMod_f86c9 1 sJ9_floorMod_f86c9_1 := dc_n1 aJ9_floorMod_f86c9_0
theorem aJ9_floorMod_f86c9_2 : dc_at cJ9_floorMod_f86c9 2 sJ9_floorMod_f86c9_2 := dc_n1 aJ9_floorMod_f86c9_1
theorem aJ9_floorMod_f86c9_3 : dc_at cJ9_floorMod_f86c9 3 sJ9_floorMod_f86c9_3 := dc_n1 aJ9_floorMod_f86c9_2
theorem aJ9_floorMod_f86c9_5 : dc_at cJ9_floorMod_f86c9 5 sJ9_floorMod_f86c9_5 := dc_n2 aJ9_floorMod_f86c9_3
theorem aJ9_floorMod_f86c9_6 : dc_at cJ9_floorMod_f86c9 6 sJ9_floorMod_f86c9_6 := dc_n1 aJ9_floorMod_f86c9_5
theorem aJ9_floorMod_f86c9_7 : dc_at cJ9_floorMod_f86c9 7 sJ9_floorMod_f86c9_7 := dc_n1 aJ9_floorMod_f86c9_6
theorem aJ9_floorMod_f86c9_8 : dc_at cJ9_floorMod_f86c9 8 sJ9_floorMod_f86c9_8 := dc_n1 aJ9_floorMod_f86c9_7
theorem aJ9_floorMod_f86c9_9 : dc_at cJ9_floorMod_f86c9 9 sJ9_floorMod_f86c9_9 := dc_n1 aJ9_floorMod_f86c9_8
theorem aJ9_floorMod_f86c9_10 : dc_at cJ9_floorMod_f86c9 10 sJ9_floorMod_f86c9_10 := dc_n1 aJ9_floorMod_f86c9_9
theorem aJ9_floorMod_f86c9_13 : dc_at cJ9_floorMod_f86c9 13 sJ9_floorMod_f86c9_13 := dc_n3 aJ9_floorMod_f86c9_10
theorem aJ9_floorMod_f86c9_15 : dc_at cJ9_floorMod_f86c9 15 sJ9_floorMod_f86c9_15 := dc_n2 aJ9_floorMod_f86c9_13
theorem aJ9_floorMod_f86c9_16 : dc_at cJ9_floorMod_f86c9 16 sJ9_floorMod_f86c9_16 := dc_n1 aJ9_floorMod_f86c9_15
theorem aJ9_floorMod_f86c9_17 : dc_at cJ9_floorMod_f86c9 17 sJ9_floorMod_f86c9_17 := dc_n1 aJ9_floorMod_f86c9_16
theorem aJ9_floorMod_f86c9_20 : dc_at cJ9_floorMod_f86c9 20 sJ9_floorMod_f86c9_20 := dc_n3 aJ9_floorMod_f86c9_17
theorem aJ9_floorMod_f86c9_22 : dc_at cJ9_floorMod_f86c9 22 sJ9_floorMod_f86c9_22 := dc_n2 aJ9_floorMod_f86c9_20
theorem aJ9_floorMod_f86c9_23 : dc_at cJ9_floorMod_f86c9 23 sJ9_floorMod_f86c9_23 := dc_n1 aJ9_floorMod_f86c9_22
theorem aJ9_floorMod_f86c9_24 : dc_at cJ9_floorMod_f86c9 24 sJ9_floorMod_f86c9_24 := dc_n1 aJ9_floorMod_f86c9_23
theorem aJ9_floorMod_f86c9_25 : dc_at cJ9_floorMod_f86c9 25 sJ9_floorMod_f86c9_25 := dc_n1 aJ9_floorMod_f86c9_24
theorem aJ9_floorMod_f86c9_27 : dc_at cJ9_floorMod_f86c9 27 sJ9_floorMod_f86c9_27 := dc_n2 aJ9_floorMod_f86c9_25
theorem dJ9_floorMod_f86c9_0 : decode cJ9_floorMod_f86c9 0 = .ok (.lload_n 0, 1) := dc_30 aJ9_floorMod_f86c9_0
theorem dJ9_floorMod_f86c9_1 : decode cJ9_floorMod_f86c9 1 = .ok (.lload_n 2, 1) := dc_32 aJ9_floorMod_f86c9_1
theorem dJ9_floorMod_f86c9_2 : decode cJ9_floorMod_f86c9 2 = .ok (.lrem, 1) := dc_113 aJ9_floorMod_f86c9_2
theorem dJ9_floorMod_f86c9_3 : decode cJ9_floorMod_f86c9 3 = .ok (.lstore 4, 2) := dc_55 (a0 := 4) aJ9_floorMod_f86c9_3
theorem dJ9_floorMod_f86c9_5 : decode cJ9_floorMod_f86c9 5 = .ok (.lload_n 0, 1) := dc_30 aJ9_floorMod_f86c9_5
theorem dJ9_floorMod_f86c9_6 : decode cJ9_floorMod_f86c9 6 = .ok (.lload_n 2, 1) := dc_32 aJ9_floorMod_f86c9_6
theorem dJ9_floorMod_f86c9_7 : decode cJ9_floorMod_f86c9 7 = .ok (.lxor, 1) := dc_131 aJ9_floorMod_f86c9_7
theorem dJ9_floorMod_f86c9_8 : decode cJ9_floorMod_f86c9 8 = .ok (.lconst 0, 1) := dc_9 aJ9_floorMod_f86c9_8
theorem dJ9_floorMod_f86c9_9 : decode cJ9_floorMod_f86c9 9 = .ok (.lcmp, 1) := dc_148 aJ9_floorMod_f86c9_9
theorem dJ9_floorMod_f86c9_10 : decode cJ9_floorMod_f86c9 10 = .ok (.ifCond .ge 15, 3) := dc_156 (a0 := 0) (b0 := 15) aJ9_floorMod_f86c9_10 (by decide)
theorem dJ9_floorMod_f86c9_13 : decode cJ9_floorMod_f86c9 13 = .ok (.lload 4, 2) := dc_22 (a0 := 4) aJ9_floorMod_f86c9_13
theorem dJ9_floorMod_f86c9_15 : decode cJ9_floorMod_f86c9 15 = .ok (.lconst 0, 1) := dc_9 aJ9_floorMod_f86c9_15
theorem dJ9_floorMod_f86c9_16 : decode cJ9_floorMod_f86c9 16 = .ok (.lcmp, 1) := dc_148 aJ9_floorMod_f86c9_16
theorem dJ9_floorMod_f86c9_17 : decode cJ9_floorMod_f86c9 17 = .ok (.ifCond .eq 8, 3) := dc_153 (a0 := 0) (b0 := 8) aJ9_floorMod_f86c9_17 (by decide)
theorem dJ9_floorMod_f86c9_20 : decode cJ9_floorMod_f86c9 20 = .ok (.lload 4, 2) := dc_22 (a0 := 4) aJ9_floorMod_f86c9_20
theorem dJ9_floorMod_f86c9_22 : decode cJ9_floorMod_f86c9 22 = .ok (.lload_n 2, 1) := dc_32 aJ9_floorMod_f86c9_22
theorem dJ9_floorMod_f86c9_23 : decode cJ9_floorMod_f86c9 23 = .ok (.ladd, 1) := dc_97 aJ9_floorMod_f86c9_23
theorem dJ9_floorMod_f86c9_24 : decode cJ9_floorMod_f86c9 24 = .ok (.lreturn, 1) := dc_173 aJ9_floorMod_f86c9_24
theorem dJ9_floorMod_f86c9_25 : decode cJ9_floorMod_f86c9 25 = .ok (.lload 4, 2) := dc_22 (a0 := 4) aJ9_floorMod_f86c9_25
theorem dJ9_floorMod_f86c9_27 : decode cJ9_floorMod_f86c9 27 = .ok (.lreturn, 1) := dc_173 aJ9_floorMod_f86c9_27
noncomputable def sJ9_abs_0f7a4_10 : List Nat := 172 :: []
noncomputable def sJ9_abs_0f7a4_9 : List Nat := 26 :: sJ9_abs_0f7a4_10
noncomputable def sJ9_abs_0f7a4_6 : List Nat := 167 :: 0 :: 4 :: sJ9_abs_0f7a4_9
noncomputable def sJ9_abs_0f7a4_5 : List Nat := 116 :: sJ9_abs_0f7a4_6
noncomputable def sJ9_abs_0f7a4_4 : List Nat := 26 :: sJ9_abs_0f7a4_5
noncomputable def sJ9_abs_0f7a4_1 : List Nat := 156 :: 0 :: 8 :: sJ9_abs_0f7a4_4
noncomputable def sJ9_abs_0f7a4_0 : List Nat := 26 :: sJ9_abs_0f7a4_1
theorem aJ9_abs_0f7a4_0 : dc_at cJ9_abs_0f7a4 0 sJ9_abs_0f7a4_0 := dc_base (by decide +kernel)
theorem aJ9_abs_0f7a4_1 : dc_at cJ9_abs_0f7a4 1 sJ9_abs_0f7a4_1 := dc_n1 aJ9_abs_0f7a4_0
theorem aJ9_abs_0f7a4_4 : dc_at cJ9_abs_0f7a4 4 sJ9_abs_0f7a4_4 := dc_n3 aJ9_abs_0f7a4_1
theorem aJ9_abs_0f7a4_5 : dc_at cJ9_abs_0f7a4 5 sJ9_abs_0f7a4_5 := dc_n1 aJ9_abs_0f7a4_4
theorem aJ9_abs_0f7a4_6 : dc_at cJ9_abs_0f7a4 6 sJ9_abs_0f7a4_6 := dc_n1 aJ9_abs_0f7a4_5
theorem aJ9_abs_0f7a4_9 : dc_at cJ9_abs_0f7a4 9 sJ9_abs_0f7a4_9 := dc_n3 aJ9_abs_0f7a4_6
theorem aJ9_abs_0f7a4_10 : dc_at cJ9_abs_0f7a4 10 sJ9_abs_0f7a4_10 := dc_n1 aJ9_abs_0f7a4_9
theorem dJ9_abs_0f7a4_0 : decode cJ9_abs_0f7a4 0 = .ok (.iload_n 0, 1) := dc_26 aJ9_abs_0f7a4_0
theorem dJ9_abs_0f7a4_1 : decode cJ9_abs_0f7a4 1 = .ok (.ifCond .ge 8, 3) := dc_156 (a0 := 0) (b0 := 8) aJ9_abs_0f7a4_1 (by decide)
theorem dJ9_abs_0f7a4_4 : decode cJ9_abs_0f7a4 4 = .ok (.iload_n 0, 1) := dc_26 aJ9_abs_0f7a4_4
theorem dJ9_abs_0f7a4_5 : decode cJ9_abs_0f7a4 5 = .ok (.ineg, 1) := dc_116 aJ9_abs_0f7a4_5
theorem dJ9_abs_0f7a4_6 : decode cJ9_abs_0f7a4 6 = .ok (.goto 4, 3) := dc_167 (a0 := 0) (b0 := 4) aJ9_abs_0f7a4_6 (by decide)
theorem dJ9_abs_0f7a4_9 : decode cJ9_abs_0f7a4 9 = .ok (.iload_n 0, 1) := dc_26 aJ9_abs_0f7a4_9
theorem dJ9_abs_0f7a4_10 : decode cJ9_abs_0f7a4 10 = .ok (.ireturn, 1) := dc_172 aJ9_abs_0f7a4_10
noncomputable def sJ9_max_7cf53_10 : List Nat := 172 :: []
noncomputable def sJ9_max_7cf53_9 : List Nat := 27 :: sJ9_max_7cf53_10
noncomputable def sJ9_max_7cf53_6 : List Nat := 167 :: 0 :: 4 :: sJ9_max_7cf53_9
noncomputable def sJ9_max_7cf53_5 : List Nat := 26 :: sJ9_max_7cf53_6
noncomputable def sJ9_max_7cf53_2 : List Nat := 161 :: 0 :: 7 :: sJ9_max_7cf53_5
noncomputable def sJ9_max_7cf53_1 : List Nat := 27 :: sJ9_max_7cf53_2
noncomputable def sJ9_max_7cf53_0 : List Nat := 26 :: sJ9_max_7cf53_1
theorem aJ9_max_7cf53_0 : dc_at cJ9_max_7cf53 0 sJ9_max_7cf53_0 := dc_base (by decide +kernel)
theorem aJ9_max_7cf53_1 : dc_at cJ9_max_7cf53 1 sJ9_max_7cf53_1 := dc_n1 aJ9_max_7cf53_0
theorem aJ9_max_7cf53_2 : dc_at cJ9_max_7cf53 2 sJ9_max_7cf53_2 := dc_n1 aJ9_max_7cf53_1
theorem aJ9_max_7cf53_5 : dc_at cJ9_max_7cf53 5 sJ9_max_7cf53_5 := dc_n3 aJ9_max_7cf53_2
theorem aJ9_max_7cf53_6 : dc_at cJ9_max_7cf53 6 sJ9_max_7cf53_6 := dc_n1 aJ9_max_7cf53_5
theorem aJ9_max_7cf53_9 : dc_at cJ9_max_7cf53 9 sJ9_max_7cf53_9 := dc_n3 aJ9_max_7cf53_6
theorem aJ9_max_7cf53_10 : dc_at cJ9_max_7cf53 10 sJ9_max_7cf53_10 := dc_n1 aJ9_max_7cf53_9
theorem dJ9_max_7cf53_0 : decode cJ9_max_7cf53 0 = .ok (.iload_n 0, 1) := dc_26 aJ9_max_7cf53_0
theorem dJ9_max_7cf53_1 : decode cJ9_max_7cf53 1 = .ok (.iload_n 1, 1) := dc_27 aJ9_max_7cf53_1
theorem dJ9_max_7cf53_2 : decode cJ9_max_7cf53 2 = .ok (.if_icmp .lt 7, 3) := dc_161 (a0 := 0) (b0 := 7) aJ9_max_7cf53_2 (by decide)
theorem dJ9_max_7cf53_5 : decode cJ9_max_7cf53 5 = .ok (.iload_n 0, 1) := dc_26 aJ9_max_7cf53_5
theorem dJ9_max_7cf53_6 : decode cJ9_max_7cf53 6 = .ok (.goto 4, 3) := dc_167 (a0 := 0) (b0 := 4) aJ9_max_7cf53_6 (by decide)
theorem dJ9_max_7cf53_9 : decode cJ9_max_7cf53 9 = .ok (.iload_n 1, 1) := dc_27 aJ9_max_7cf53_9
theorem dJ9_max_7cf53_10 : decode cJ9_max_7cf53 10 = .ok (.ireturn, 1) := dc_172 aJ9_max_7cf53_10
noncomputable def sJ9_min_7cf53_10 : List Nat := 172 :: []
noncomputable def sJ9_min_7cf53_9 : List Nat := 27 :: sJ9_min_7cf53_10
noncomputable def sJ9_min_7cf53_6 : List Nat := 167 :: 0 :: 4 :: sJ9_min_7cf53_9
noncomputable def sJ9_min_7cf53_5 : List Nat := 26 :: sJ9_min_7cf53_6
noncomputable def sJ9_min_7cf53_2 : List Nat := 163 :: 0 :: 7 :: sJ9_min_7cf53_5
noncomputable def sJ9_min_7cf53_1 : List Nat := 27 :: sJ9_min_7cf53_2
noncomputable def sJ9_min_7cf53_0 : List Nat := 26 :: sJ9_min_7cf53_1
theorem aJ9_min_7cf53_0 : dc_at cJ9_min_7cf53 0 sJ9_min_7cf53_0 := dc_base (by decide +kernel)
theorem aJ9_min_7cf53_1 : dc_at cJ9_min_7cf53 1 sJ9_min_7cf53_1 := dc_n1 aJ9_min_7cf53_0
theorem aJ9_min_7cf53_2 : dc_at cJ9_min_7cf53 2 sJ9_min_7cf53_2 := dc_n1 aJ9_min_7cf53_1
theorem aJ9_min_7cf53_5 : dc_at cJ9_min_7cf53 5 sJ9_min_7cf53_5 := dc_n3 aJ9_min_7cf53_2
theorem aJ9_min_7cf53_6 : dc_at cJ9_min_7cf53 6 sJ9_min_7cf53_6 := dc_n1 aJ9_min_7cf53_5
theorem aJ9_min_7cf53_9 : dc_at cJ9_min_7cf53 9 sJ9_min_7cf53_9 := dc_n3 aJ9_min_7cf53_6
theorem aJ9_min_7cf53_10 : dc_at cJ9_min_7cf53 10 sJ9_min_7cf53_10 := dc_n1 aJ9_min_7cf53_9
theorem dJ9_min_7cf53_0 : decode cJ9_min_7cf53 0 = .ok (.iload_n 0, 1) := dc_26 aJ9_min_7cf53_0
theorem dJ9_min_7cf53_1 : decode cJ9_min_7cf53 1 = .ok (.iload_n 1, 1) := dc_27 aJ9_min_7cf53_1
theorem dJ9_min_7cf53_2 : decode cJ9_min_7cf53 2 = .ok (.if_icmp .gt 7, 3) := dc_163 (a0 := 0) (b0 := 7) aJ9_min_7cf53_2 (by decide)
theorem dJ9_min_7cf53_5 : decode cJ9_min_7cf53 5 = .ok (.iload_n 0, 1) := dc_26 aJ9_min_7cf53_5
theorem dJ9_min_7cf53_6 : decode cJ9_min_7cf53 6 = .ok (.goto 4, 3) := dc_167 (a0 := 0) (b0 := 4) aJ9_min_7cf53_6 (by decide)
theorem dJ9_min_7cf53_9 : decode cJ9_min_7cf53 9 = .ok (.iload_n 1, 1) := dc_27 aJ9_min_7cf53_9
theorem dJ9_min_7cf53_10 : decode cJ9_min_7cf53 10 = .ok (.ireturn, 1) := dc_172 aJ9_min_7cf53_10
set_option maxRecDepth 20000 in
theorem ggJ0_length_8abf5_J0_coder_7d493 : GoodIn wsJ0_length_8abf5 wsJ0_coder_7d493 := goodIn_k _ [[6, 0, 0]] (by rfl) (by decide +kernel)
set_option maxRecDepth 20000 in
theorem gJ0_length_8abf5_J0_coder_7d493 : GoodIn wsJ0_length_8abf5 (wsV RJ0 335 RJ0 yJ0_coder_7d493 wsJ0_coder_7d493) := goodIn_app (goodIn_of _ (by decide +kernel)) ggJ0_length_8abf5_J0_coder_7d493
noncomputable def sJ0_length_8abf5_10 : List Nat := 172 :: []
noncomputable def sJ0_length_8abf5_9 : List Nat := 122 :: sJ0_length_8abf5_10
noncomputable def sJ0_length_8abf5_6 : List Nat := 182 :: 1 :: 79 :: sJ0_length_8abf5_9
noncomputable def sJ0_length_8abf5_5 : List Nat := 42 :: sJ0_length_8abf5_6
noncomputable def sJ0_length_8abf5_4 : List Nat := 190 :: sJ0_length_8abf5_5
noncomputable def sJ0_length_8abf5_1 : List Nat := 180 :: 0 :: 9 :: sJ0_length_8abf5_4
noncomputable def sJ0_length_8abf5_0 : List Nat := 42 :: sJ0_length_8abf5_1
theorem aJ0_length_8abf5_0 : dc_at cJ0_length_8abf5 0 sJ0_length_8abf5_0 := dc_base (by decide +kernel)
theorem aJ0_length_8abf5_1 : dc_at cJ0_length_8abf5 1 sJ0_length_8abf5_1 := dc_n1 aJ0_length_8abf5_0
theorem aJ0_length_8abf5_4 : dc_at cJ0_length_8abf5 4 sJ0_length_8abf5_4 := dc_n3 aJ0_length_8abf5_1
theorem aJ0_length_8abf5_5 : dc_at cJ0_length_8abf5 5 sJ0_length_8abf5_5 := dc_n1 aJ0_length_8abf5_4
theorem aJ0_length_8abf5_6 : dc_at cJ0_length_8abf5 6 sJ0_length_8abf5_6 := dc_n1 aJ0_length_8abf5_5
theorem aJ0_length_8abf5_9 : dc_at cJ0_length_8abf5 9 sJ0_length_8abf5_9 := dc_n3 aJ0_length_8abf5_6
theorem aJ0_length_8abf5_10 : dc_at cJ0_length_8abf5 10 sJ0_length_8abf5_10 := dc_n1 aJ0_length_8abf5_9
theorem dJ0_length_8abf5_0 : decode cJ0_length_8abf5 0 = .ok (.aload_n 0, 1) := dc_42 aJ0_length_8abf5_0
theorem dJ0_length_8abf5_1 : decode cJ0_length_8abf5 1 = .ok (.getfield 9, 3) := dc_180 (a0 := 0) (b0 := 9) aJ0_length_8abf5_1
theorem dJ0_length_8abf5_4 : decode cJ0_length_8abf5 4 = .ok (.arraylength, 1) := dc_190 aJ0_length_8abf5_4
theorem dJ0_length_8abf5_5 : decode cJ0_length_8abf5 5 = .ok (.aload_n 0, 1) := dc_42 aJ0_length_8abf5_5
theorem dJ0_length_8abf5_6 : decode cJ0_length_8abf5 6 = .ok (.invokevirtual 335, 3) := dc_182 (a0 := 1) (b0 := 79) aJ0_length_8abf5_6
theorem dJ0_length_8abf5_9 : decode cJ0_length_8abf5 9 = .ok (.ishr, 1) := dc_122 aJ0_length_8abf5_9
theorem dJ0_length_8abf5_10 : decode cJ0_length_8abf5 10 = .ok (.ireturn, 1) := dc_172 aJ0_length_8abf5_10
set_option maxRecDepth 20000 in
theorem ggJ0_charAt_5068e_J0_isLatin1_aae02 : GoodIn wsJ0_charAt_5068e wsJ0_isLatin1_aae02 := goodIn_k _ [[6, 0, 0]] (by rfl) (by decide +kernel)
set_option maxRecDepth 20000 in
theorem gJ0_charAt_5068e_J0_isLatin1_aae02 : GoodIn wsJ0_charAt_5068e (wsV RJ0 492 RJ0 yJ0_isLatin1_aae02 wsJ0_isLatin1_aae02) := goodIn_app (goodIn_of _ (by decide +kernel)) ggJ0_charAt_5068e_J0_isLatin1_aae02
set_option maxRecDepth 20000 in
theorem ggJ0_charAt_5068e_J1_charAt_3b067 : GoodIn wsJ0_charAt_5068e wsJ1_charAt_3b067 := goodIn_k _ [[12, 0, 0], [5, 9, 0, 0, 0, 0, 0]] (by rfl) (by decide +kernel)
set_option maxRecDepth 20000 in
theorem gJ0_charAt_5068e_J1_charAt_3b067 : GoodIn wsJ0_charAt_5068e (va_wsS RJ0 495 yJ1_charAt_3b067 wsJ1_charAt_3b067) := goodIn_app (goodIn_of _ (by decide +kernel)) ggJ0_charAt_5068e_J1_charAt_3b067
set_option maxRecDepth 20000 in
theorem ggJ0_charAt_5068e_J2_charAt_3b067 : GoodIn wsJ0_charAt_5068e wsJ2_charAt_3b067 := goodIn_k _ [[24, 0, 0], [23, 3, 0, 0, 0, 0], [14], [5, 9, 0, 0, 0, 0, 0, 11, 0, 0, 0, 0, 0]] (by rfl) (by decide +kernel)
set_option maxRecDepth 20000 in
theorem gJ0_charAt_5068e_J2_charAt_3b067 : GoodIn wsJ0_charAt_5068e (va_wsS RJ0 498 yJ2_charAt_3b067 wsJ2_charAt_3b067) := goodIn_app (goodIn_of _ (by decide +kernel)) ggJ0_charAt_5068e_J2_charAt_3b067
noncomputable def sJ0_charAt_5068e_24 : List Nat := 172 :: []
noncomputable def sJ0_charAt_5068e_21 : List Nat := 184 :: 1 :: 242 :: sJ0_charAt_5068e_24
noncomputable def sJ0_charAt_5068e_20 : List Nat := 27 :: sJ0_charAt_5068e_21
noncomputable def sJ0_charAt_5068e_17 : List Nat := 180 :: 0 :: 9 :: sJ0_charAt_5068e_20
noncomputable def sJ0_charAt_5068e_16 : List Nat := 42 :: sJ0_charAt_5068e_17
noncomputable def sJ0_charAt_5068e_15 : List Nat := 172 :: sJ0_charAt_5068e_16
noncomputable def sJ0_charAt_5068e_12 : List Nat := 184 :: 1 :: 239 :: sJ0_charAt_5068e_15
noncomputable def sJ0_charAt_5068e_11 : List Nat := 27 :: sJ0_charAt_5068e_12
noncomputable def sJ0_charAt_5068e_8 : List Nat := 180 :: 0 :: 9 :: sJ0_charAt_5068e_11
noncomputable def sJ0_charAt_5068e_7 : List Nat := 42 :: sJ0_charAt_5068e_8
noncomputable def sJ0_charAt_5068e_4 : List Nat := 153 :: 0 :: 12 :: sJ0_charAt_5068e_7
noncomputable def sJ0_charAt_5068e_1 : List Nat := 182 :: 1 :: 236 :: sJ0_charAt_5068e_4
noncomputable def sJ0_charAt_5068e_0 : List Nat := 42 :: sJ0_charAt_5068e_1
theorem aJ0_charAt_5068e_0 : dc_at cJ0_charAt_5068e 0 sJ0_charAt_5068e_0 := dc_base (by decide +kernel)
theorem aJ0_charAt_5068e_1 : dc_at cJ0_charAt_5068e 1 sJ0_charAt_5068e_1 := dc_n1 aJ0_charAt_5068e_0
theorem aJ0_charAt_5068e_4 : dc_at cJ0_charAt_5068e 4 sJ0_charAt_5068e_4 := dc_n3 aJ0_charAt_5068e_1
theorem aJ0_charAt_5068e_7 : dc_at cJ0_charAt_5068e 7 sJ0_charAt_5068e_7 := dc_n3 aJ0_charAt_5068e_4
theorem aJ0_charAt_5068e_8 : dc_at cJ0_charAt_5068e 8 sJ0_charAt_5068e_8 := dc_n1 aJ0_charAt_5068e_7
theorem aJ0_charAt_5068e_11 : dc_at cJ0_charAt_5068e 11 sJ0_charAt_5068e_11 := dc_n3 aJ0_charAt_5068e_8
theorem aJ0_charAt_5068e_12 : dc_at cJ0_charAt_5068e 12 sJ0_charAt_5068e_12 := dc_n1 aJ0_charAt_5068e_11
theorem aJ0_charAt_5068e_15 : dc_at cJ0_charAt_5068e 15 sJ0_charAt_5068e_15 := dc_n3 aJ0_charAt_5068e_12
theorem aJ0_charAt_5068e_16 : dc_at cJ0_charAt_5068e 16 sJ0_charAt_5068e_16 := dc_n1 aJ0_charAt_5068e_15
theorem aJ0_charAt_5068e_17 : dc_at cJ0_charAt_5068e 17 sJ0_charAt_5068e_17 := dc_n1 aJ0_charAt_5068e_16
theorem aJ0_charAt_5068e_20 : dc_at cJ0_charAt_5068e 20 sJ0_charAt_5068e_20 := dc_n3 aJ0_charAt_5068e_17
theorem aJ0_charAt_5068e_21 : dc_at cJ0_charAt_5068e 21 sJ0_charAt_5068e_21 := dc_n1 aJ0_charAt_5068e_20
theorem aJ0_charAt_5068e_24 : dc_at cJ0_charAt_5068e 24 sJ0_charAt_5068e_24 := dc_n3 aJ0_charAt_5068e_21
theorem dJ0_charAt_5068e_0 : decode cJ0_charAt_5068e 0 = .ok (.aload_n 0, 1) := dc_42 aJ0_charAt_5068e_0
theorem dJ0_charAt_5068e_1 : decode cJ0_charAt_5068e 1 = .ok (.invokevirtual 492, 3) := dc_182 (a0 := 1) (b0 := 236) aJ0_charAt_5068e_1
theorem dJ0_charAt_5068e_4 : decode cJ0_charAt_5068e 4 = .ok (.ifCond .eq 12, 3) := dc_153 (a0 := 0) (b0 := 12) aJ0_charAt_5068e_4 (by decide)
theorem dJ0_charAt_5068e_7 : decode cJ0_charAt_5068e 7 = .ok (.aload_n 0, 1) := dc_42 aJ0_charAt_5068e_7
theorem dJ0_charAt_5068e_8 : decode cJ0_charAt_5068e 8 = .ok (.getfield 9, 3) := dc_180 (a0 := 0) (b0 := 9) aJ0_charAt_5068e_8
theorem dJ0_charAt_5068e_11 : decode cJ0_charAt_5068e 11 = .ok (.iload_n 1, 1) := dc_27 aJ0_charAt_5068e_11
theorem dJ0_charAt_5068e_12 : decode cJ0_charAt_5068e 12 = .ok (.invokestatic 495, 3) := dc_184 (a0 := 1) (b0 := 239) aJ0_charAt_5068e_12
theorem dJ0_charAt_5068e_15 : decode cJ0_charAt_5068e 15 = .ok (.ireturn, 1) := dc_172 aJ0_charAt_5068e_15
theorem dJ0_charAt_5068e_16 : decode cJ0_charAt_5068e 16 = .ok (.aload_n 0, 1) := dc_42 aJ0_charAt_5068e_16
theorem dJ0_charAt_5068e_17 : decode cJ0_charAt_5068e 17 = .ok (.getfield 9, 3) := dc_180 (a0 := 0) (b0 := 9) aJ0_charAt_5068e_17
theorem dJ0_charAt_5068e_20 : decode cJ0_charAt_5068e 20 = .ok (.iload_n 1, 1) := dc_27 aJ0_charAt_5068e_20
theorem dJ0_charAt_5068e_21 : decode cJ0_charAt_5068e 21 = .ok (.invokestatic 498, 3) := dc_184 (a0 := 1) (b0 := 242) aJ0_charAt_5068e_21
theorem dJ0_charAt_5068e_24 : decode cJ0_charAt_5068e 24 = .ok (.ireturn, 1) := dc_172 aJ0_charAt_5068e_24
noncomputable def sJ0_coder_7d493_14 : List Nat := 172 :: []
noncomputable def sJ0_coder_7d493_13 : List Nat := 4 :: sJ0_coder_7d493_14
noncomputable def sJ0_coder_7d493_10 : List Nat := 167 :: 0 :: 4 :: sJ0_coder_7d493_13
noncomputable def sJ0_coder_7d493_7 : List Nat := 180 :: 0 :: 15 :: sJ0_coder_7d493_10
noncomputable def sJ0_coder_7d493_6 : List Nat := 42 :: sJ0_coder_7d493_7
noncomputable def sJ0_coder_7d493_3 : List Nat := 153 :: 0 :: 10 :: sJ0_coder_7d493_6
noncomputable def sJ0_coder_7d493_0 : List Nat := 178 :: 0 :: 38 :: sJ0_coder_7d493_3
theorem aJ0_coder_7d493_0 : dc_at cJ0_coder_7d493 0 sJ0_coder_7d493_0 := dc_base (by decide +kernel)
theorem aJ0_coder_7d493_3 : dc_at cJ0_coder_7d493 3 sJ0_coder_7d493_3 := dc_n3 aJ0_coder_7d493_0
theorem aJ0_coder_7d493_6 : dc_at cJ0_coder_7d493 6 sJ0_coder_7d493_6 := dc_n3 aJ0_coder_7d493_3
theorem aJ0_coder_7d493_7 : dc_at cJ0_coder_7d493 7 sJ0_coder_7d493_7 := dc_n1 aJ0_coder_7d493_6
theorem aJ0_coder_7d493_10 : dc_at cJ0_coder_7d493 10 sJ0_coder_7d493_10 := dc_n3 aJ0_coder_7d493_7
theorem aJ0_coder_7d493_13 : dc_at cJ0_coder_7d493 13 sJ0_coder_7d493_13 := dc_n3 aJ0_coder_7d493_10
theorem aJ0_coder_7d493_14 : dc_at cJ0_coder_7d493 14 sJ0_coder_7d493_14 := dc_n1 aJ0_coder_7d493_13
theorem dJ0_coder_7d493_0 : decode cJ0_coder_7d493 0 = .ok (.getstatic 38, 3) := dc_178 (a0 := 0) (b0 := 38) aJ0_coder_7d493_0
theorem dJ0_coder_7d493_3 : decode cJ0_coder_7d493 3 = .ok (.ifCond .eq 10, 3) := dc_153 (a0 := 0) (b0 := 10) aJ0_coder_7d493_3 (by decide)
theorem dJ0_coder_7d493_6 : decode cJ0_coder_7d493 6 = .ok (.aload_n 0, 1) := dc_42 aJ0_coder_7d493_6
theorem dJ0_coder_7d493_7 : decode cJ0_coder_7d493 7 = .ok (.getfield 15, 3) := dc_180 (a0 := 0) (b0 := 15) aJ0_coder_7d493_7
theorem dJ0_coder_7d493_10 : decode cJ0_coder_7d493 10 = .ok (.goto 4, 3) := dc_167 (a0 := 0) (b0 := 4) aJ0_coder_7d493_10 (by decide)
theorem dJ0_coder_7d493_13 : decode cJ0_coder_7d493 13 = .ok (.iconst 1, 1) := dc_4 aJ0_coder_7d493_13
theorem dJ0_coder_7d493_14 : decode cJ0_coder_7d493 14 = .ok (.ireturn, 1) := dc_172 aJ0_coder_7d493_14
noncomputable def sJ0_isLatin1_aae02_18 : List Nat := 172 :: []
noncomputable def sJ0_isLatin1_aae02_17 : List Nat := 3 :: sJ0_isLatin1_aae02_18
noncomputable def sJ0_isLatin1_aae02_14 : List Nat := 167 :: 0 :: 4 :: sJ0_isLatin1_aae02_17
noncomputable def sJ0_isLatin1_aae02_13 : List Nat := 4 :: sJ0_isLatin1_aae02_14
noncomputable def sJ0_isLatin1_aae02_10 : List Nat := 154 :: 0 :: 7 :: sJ0_isLatin1_aae02_13
noncomputable def sJ0_isLatin1_aae02_7 : List Nat := 180 :: 0 :: 15 :: sJ0_isLatin1_aae02_10
noncomputable def sJ0_isLatin1_aae02_6 : List Nat := 42 :: sJ0_isLatin1_aae02_7
noncomputable def sJ0_isLatin1_aae02_3 : List Nat := 153 :: 0 :: 14 :: sJ0_isLatin1_aae02_6
noncomputable def sJ0_isLatin1_aae02_0 : List Nat := 178 :: 0 :: 38 :: sJ0_isLatin1_aae02_3
theorem aJ0_isLatin1_aae02_0 : dc_at cJ0_isLatin1_aae02 0 sJ0_isLatin1_aae02_0 := dc_base (by decide +kernel)
theorem aJ0_isLatin1_aae02_3 : dc_at cJ0_isLatin1_aae02 3 sJ0_isLatin1_aae02_3 := dc_n3 aJ0_isLatin1_aae02_0
theorem aJ0_isLatin1_aae02_6 : dc_at cJ0_isLatin1_aae02 6 sJ0_isLatin1_aae02_6 := dc_n3 aJ0_isLatin1_aae02_3
theorem aJ0_isLatin1_aae02_7 : dc_at cJ0_isLatin1_aae02 7 sJ0_isLatin1_aae02_7 := dc_n1 aJ0_isLatin1_aae02_6
theorem aJ0_isLatin1_aae02_10 : dc_at cJ0_isLatin1_aae02 10 sJ0_isLatin1_aae02_10 := dc_n3 aJ0_isLatin1_aae02_7
theorem aJ0_isLatin1_aae02_13 : dc_at cJ0_isLatin1_aae02 13 sJ0_isLatin1_aae02_13 := dc_n3 aJ0_isLatin1_aae02_10
theorem aJ0_isLatin1_aae02_14 : dc_at cJ0_isLatin1_aae02 14 sJ0_isLatin1_aae02_14 := dc_n1 aJ0_isLatin1_aae02_13
theorem aJ0_isLatin1_aae02_17 : dc_at cJ0_isLatin1_aae02 17 sJ0_isLatin1_aae02_17 := dc_n3 aJ0_isLatin1_aae02_14
theorem aJ0_isLatin1_aae02_18 : dc_at cJ0_isLatin1_aae02 18 sJ0_isLatin1_aae02_18 := dc_n1 aJ0_isLatin1_aae02_17
theorem dJ0_isLatin1_aae02_0 : decode cJ0_isLatin1_aae02 0 = .ok (.getstatic 38, 3) := dc_178 (a0 := 0) (b0 := 38) aJ0_isLatin1_aae02_0
theorem dJ0_isLatin1_aae02_3 : decode cJ0_isLatin1_aae02 3 = .ok (.ifCond .eq 14, 3) := dc_153 (a0 := 0) (b0 := 14) aJ0_isLatin1_aae02_3 (by decide)
theorem dJ0_isLatin1_aae02_6 : decode cJ0_isLatin1_aae02 6 = .ok (.aload_n 0, 1) := dc_42 aJ0_isLatin1_aae02_6
theorem dJ0_isLatin1_aae02_7 : decode cJ0_isLatin1_aae02 7 = .ok (.getfield 15, 3) := dc_180 (a0 := 0) (b0 := 15) aJ0_isLatin1_aae02_7
theorem dJ0_isLatin1_aae02_10 : decode cJ0_isLatin1_aae02 10 = .ok (.ifCond .ne 7, 3) := dc_154 (a0 := 0) (b0 := 7) aJ0_isLatin1_aae02_10 (by decide)
theorem dJ0_isLatin1_aae02_13 : decode cJ0_isLatin1_aae02 13 = .ok (.iconst 1, 1) := dc_4 aJ0_isLatin1_aae02_13
theorem dJ0_isLatin1_aae02_14 : decode cJ0_isLatin1_aae02 14 = .ok (.goto 4, 3) := dc_167 (a0 := 0) (b0 := 4) aJ0_isLatin1_aae02_14 (by decide)
theorem dJ0_isLatin1_aae02_17 : decode cJ0_isLatin1_aae02 17 = .ok (.iconst 0, 1) := dc_3 aJ0_isLatin1_aae02_17
theorem dJ0_isLatin1_aae02_18 : decode cJ0_isLatin1_aae02 18 = .ok (.ireturn, 1) := dc_172 aJ0_isLatin1_aae02_18
set_option maxRecDepth 20000 in
theorem ggJ0_checkIndex_df160_J3_checkIndex_8e157 : GoodIn wsJ0_checkIndex_df160 wsJ3_checkIndex_8e157 := goodIn_k _ [[5]] (by rfl) (by decide +kernel)
set_option maxRecDepth 20000 in
theorem gJ0_checkIndex_df160_J3_checkIndex_8e157 : GoodIn wsJ0_checkIndex_df160 (va_wsS RJ0 1059 yJ3_checkIndex_8e157 wsJ3_checkIndex_8e157) := goodIn_app (goodIn_of _ (by decide +kernel)) ggJ0_checkIndex_df160_J3_checkIndex_8e157
noncomputable def sJ0_checkIndex_df160_9 : List Nat := 177 :: []
noncomputable def sJ0_checkIndex_df160_8 : List Nat := 87 :: sJ0_checkIndex_df160_9
noncomputable def sJ0_checkIndex_df160_5 : List Nat := 184 :: 4 :: 35 :: sJ0_checkIndex_df160_8
noncomputable def sJ0_checkIndex_df160_2 : List Nat := 178 :: 4 :: 29 :: sJ0_checkIndex_df160_5
noncomputable def sJ0_checkIndex_df160_1 : List Nat := 27 :: sJ0_checkIndex_df160_2
noncomputable def sJ0_checkIndex_df160_0 : List Nat := 26 :: sJ0_checkIndex_df160_1
theorem aJ0_checkIndex_df160_0 : dc_at cJ0_checkIndex_df160 0 sJ0_checkIndex_df160_0 := dc_base (by decide +kernel)
theorem aJ0_checkIndex_df160_1 : dc_at cJ0_checkIndex_df160 1 sJ0_checkIndex_df160_1 := dc_n1 aJ0_checkIndex_df160_0
theorem aJ0_checkIndex_df160_2 : dc_at cJ0_checkIndex_df160 2 sJ0_checkIndex_df160_2 := dc_n1 aJ0_checkIndex_df160_1
theorem aJ0_checkIndex_df160_5 : dc_at cJ0_checkIndex_df160 5 sJ0_checkIndex_df160_5 := dc_n3 aJ0_checkIndex_df160_2
theorem aJ0_checkIndex_df160_8 : dc_at cJ0_checkIndex_df160 8 sJ0_checkIndex_df160_8 := dc_n3 aJ0_checkIndex_df160_5
theorem aJ0_checkIndex_df160_9 : dc_at cJ0_checkIndex_df160 9 sJ0_checkIndex_df160_9 := dc_n1 aJ0_checkIndex_df160_8
theorem dJ0_checkIndex_df160_0 : decode cJ0_checkIndex_df160 0 = .ok (.iload_n 0, 1) := dc_26 aJ0_checkIndex_df160_0
theorem dJ0_checkIndex_df160_1 : decode cJ0_checkIndex_df160 1 = .ok (.iload_n 1, 1) := dc_27 aJ0_checkIndex_df160_1
theorem dJ0_checkIndex_df160_2 : decode cJ0_checkIndex_df160 2 = .ok (.getstatic 1053, 3) := dc_178 (a0 := 4) (b0 := 29) aJ0_checkIndex_df160_2
theorem dJ0_checkIndex_df160_5 : decode cJ0_checkIndex_df160 5 = .ok (.invokestatic 1059, 3) := dc_184 (a0 := 4) (b0 := 35) aJ0_checkIndex_df160_5
theorem dJ0_checkIndex_df160_8 : decode cJ0_checkIndex_df160 8 = .ok (.pop, 1) := dc_87 aJ0_checkIndex_df160_8
theorem dJ0_checkIndex_df160_9 : decode cJ0_checkIndex_df160 9 = .ok (.return_, 1) := dc_177 aJ0_checkIndex_df160_9
set_option maxRecDepth 20000 in
theorem ggJ1_charAt_3b067_J0_checkIndex_df160 : GoodIn wsJ1_charAt_3b067 wsJ0_checkIndex_df160 := goodIn_k _ [[4, 0, 0, 0, 0, 0]] (by rfl) (by decide +kernel)
set_option maxRecDepth 20000 in
theorem gJ1_charAt_3b067_J0_checkIndex_df160 : GoodIn wsJ1_charAt_3b067 (va_wsS RJ1 9 yJ0_checkIndex_df160 wsJ0_checkIndex_df160) := goodIn_app (goodIn_of _ (by decide +kernel)) ggJ1_charAt_3b067_J0_checkIndex_df160
noncomputable def sJ1_charAt_3b067_14 : List Nat := 172 :: []
noncomputable def sJ1_charAt_3b067_13 : List Nat := 146 :: sJ1_charAt_3b067_14
noncomputable def sJ1_charAt_3b067_12 : List Nat := 126 :: sJ1_charAt_3b067_13
noncomputable def sJ1_charAt_3b067_9 : List Nat := 17 :: 0 :: 255 :: sJ1_charAt_3b067_12
noncomputable def sJ1_charAt_3b067_8 : List Nat := 51 :: sJ1_charAt_3b067_9
noncomputable def sJ1_charAt_3b067_7 : List Nat := 27 :: sJ1_charAt_3b067_8
noncomputable def sJ1_charAt_3b067_6 : List Nat := 42 :: sJ1_charAt_3b067_7
noncomputable def sJ1_charAt_3b067_3 : List Nat := 184 :: 0 :: 9 :: sJ1_charAt_3b067_6
noncomputable def sJ1_charAt_3b067_2 : List Nat := 190 :: sJ1_charAt_3b067_3
noncomputable def sJ1_charAt_3b067_1 : List Nat := 42 :: sJ1_charAt_3b067_2
noncomputable def sJ1_charAt_3b067_0 : List Nat := 27 :: sJ1_charAt_3b067_1
theorem aJ1_charAt_3b067_0 : dc_at cJ1_charAt_3b067 0 sJ1_charAt_3b067_0 := dc_base (by decide +kernel)
theorem aJ1_charAt_3b067_1 : dc_at cJ1_charAt_3b067 1 sJ1_charAt_3b067_1 := dc_n1 aJ1_charAt_3b067_0
theorem aJ1_charAt_3b067_2 : dc_at cJ1_charAt_3b067 2 sJ1_charAt_3b067_2 := dc_n1 aJ1_charAt_3b067_1
theorem aJ1_charAt_3b067_3 : dc_at cJ1_charAt_3b067 3 sJ1_charAt_3b067_3 := dc_n1 aJ1_charAt_3b067_2
theorem aJ1_charAt_3b067_6 : dc_at cJ1_charAt_3b067 6 sJ1_charAt_3b067_6 := dc_n3 aJ1_charAt_3b067_3
theorem aJ1_charAt_3b067_7 : dc_at cJ1_charAt_3b067 7 sJ1_charAt_3b067_7 := dc_n1 aJ1_charAt_3b067_6
theorem aJ1_charAt_3b067_8 : dc_at cJ1_charAt_3b067 8 sJ1_charAt_3b067_8 := dc_n1 aJ1_charAt_3b067_7
theorem aJ1_charAt_3b067_9 : dc_at cJ1_charAt_3b067 9 sJ1_charAt_3b067_9 := dc_n1 aJ1_charAt_3b067_8
theorem aJ1_charAt_3b067_12 : dc_at cJ1_charAt_3b067 12 sJ1_charAt_3b067_12 := dc_n3 aJ1_charAt_3b067_9
theorem aJ1_charAt_3b067_13 : dc_at cJ1_charAt_3b067 13 sJ1_charAt_3b067_13 := dc_n1 aJ1_charAt_3b067_12
theorem aJ1_charAt_3b067_14 : dc_at cJ1_charAt_3b067 14 sJ1_charAt_3b067_14 := dc_n1 aJ1_charAt_3b067_13
theorem dJ1_charAt_3b067_0 : decode cJ1_charAt_3b067 0 = .ok (.iload_n 1, 1) := dc_27 aJ1_charAt_3b067_0
theorem dJ1_charAt_3b067_1 : decode cJ1_charAt_3b067 1 = .ok (.aload_n 0, 1) := dc_42 aJ1_charAt_3b067_1
theorem dJ1_charAt_3b067_2 : decode cJ1_charAt_3b067 2 = .ok (.arraylength, 1) := dc_190 aJ1_charAt_3b067_2
theorem dJ1_charAt_3b067_3 : decode cJ1_charAt_3b067 3 = .ok (.invokestatic 9, 3) := dc_184 (a0 := 0) (b0 := 9) aJ1_charAt_3b067_3
theorem dJ1_charAt_3b067_6 : decode cJ1_charAt_3b067 6 = .ok (.aload_n 0, 1) := dc_42 aJ1_charAt_3b067_6
theorem dJ1_charAt_3b067_7 : decode cJ1_charAt_3b067 7 = .ok (.iload_n 1, 1) := dc_27 aJ1_charAt_3b067_7
theorem dJ1_charAt_3b067_8 : decode cJ1_charAt_3b067 8 = .ok (.baload, 1) := dc_51 aJ1_charAt_3b067_8
theorem dJ1_charAt_3b067_9 : decode cJ1_charAt_3b067 9 = .ok (.sipush 255, 3) := dc_17 (a0 := 0) (b0 := 255) aJ1_charAt_3b067_9 (by decide)
theorem dJ1_charAt_3b067_12 : decode cJ1_charAt_3b067 12 = .ok (.iand, 1) := dc_126 aJ1_charAt_3b067_12
theorem dJ1_charAt_3b067_13 : decode cJ1_charAt_3b067 13 = .ok (.i2c, 1) := dc_146 aJ1_charAt_3b067_13
theorem dJ1_charAt_3b067_14 : decode cJ1_charAt_3b067 14 = .ok (.ireturn, 1) := dc_172 aJ1_charAt_3b067_14
set_option maxRecDepth 20000 in
theorem ggJ2_getChar_3b067_J2_length_9d52b : GoodIn wsJ2_getChar_3b067 wsJ2_length_9d52b := goodIn_k _ [[7]] (by rfl) (by decide +kernel)
set_option maxRecDepth 20000 in
theorem gJ2_getChar_3b067_J2_length_9d52b : GoodIn wsJ2_getChar_3b067 (va_wsS RJ2 48 yJ2_length_9d52b wsJ2_length_9d52b) := goodIn_app (goodIn_of _ (by decide +kernel)) ggJ2_getChar_3b067_J2_length_9d52b
noncomputable def sJ2_getChar_3b067_59 : List Nat := 172 :: []
noncomputable def sJ2_getChar_3b067_58 : List Nat := 146 :: sJ2_getChar_3b067_59
noncomputable def sJ2_getChar_3b067_57 : List Nat := 128 :: sJ2_getChar_3b067_58
noncomputable def sJ2_getChar_3b067_56 : List Nat := 120 :: sJ2_getChar_3b067_57
noncomputable def sJ2_getChar_3b067_53 : List Nat := 178 :: 0 :: 63 :: sJ2_getChar_3b067_56
noncomputable def sJ2_getChar_3b067_52 : List Nat := 126 :: sJ2_getChar_3b067_53
noncomputable def sJ2_getChar_3b067_49 : List Nat := 17 :: 0 :: 255 :: sJ2_getChar_3b067_52
noncomputable def sJ2_getChar_3b067_48 : List Nat := 51 :: sJ2_getChar_3b067_49
noncomputable def sJ2_getChar_3b067_47 : List Nat := 27 :: sJ2_getChar_3b067_48
noncomputable def sJ2_getChar_3b067_46 : List Nat := 42 :: sJ2_getChar_3b067_47
noncomputable def sJ2_getChar_3b067_45 : List Nat := 120 :: sJ2_getChar_3b067_46
noncomputable def sJ2_getChar_3b067_42 : List Nat := 178 :: 0 :: 59 :: sJ2_getChar_3b067_45
noncomputable def sJ2_getChar_3b067_41 : List Nat := 126 :: sJ2_getChar_3b067_42
noncomputable def sJ2_getChar_3b067_38 : List Nat := 17 :: 0 :: 255 :: sJ2_getChar_3b067_41
noncomputable def sJ2_getChar_3b067_37 : List Nat := 51 :: sJ2_getChar_3b067_38
noncomputable def sJ2_getChar_3b067_34 : List Nat := 132 :: 1 :: 1 :: sJ2_getChar_3b067_37
noncomputable def sJ2_getChar_3b067_33 : List Nat := 27 :: sJ2_getChar_3b067_34
noncomputable def sJ2_getChar_3b067_32 : List Nat := 42 :: sJ2_getChar_3b067_33
noncomputable def sJ2_getChar_3b067_31 : List Nat := 60 :: sJ2_getChar_3b067_32
noncomputable def sJ2_getChar_3b067_30 : List Nat := 120 :: sJ2_getChar_3b067_31
noncomputable def sJ2_getChar_3b067_29 : List Nat := 4 :: sJ2_getChar_3b067_30
noncomputable def sJ2_getChar_3b067_28 : List Nat := 27 :: sJ2_getChar_3b067_29
noncomputable def sJ2_getChar_3b067_27 : List Nat := 191 :: sJ2_getChar_3b067_28
noncomputable def sJ2_getChar_3b067_24 : List Nat := 183 :: 0 :: 56 :: sJ2_getChar_3b067_27
noncomputable def sJ2_getChar_3b067_22 : List Nat := 18 :: 54 :: sJ2_getChar_3b067_24
noncomputable def sJ2_getChar_3b067_21 : List Nat := 89 :: sJ2_getChar_3b067_22
noncomputable def sJ2_getChar_3b067_18 : List Nat := 187 :: 0 :: 52 :: sJ2_getChar_3b067_21
noncomputable def sJ2_getChar_3b067_15 : List Nat := 161 :: 0 :: 13 :: sJ2_getChar_3b067_18
noncomputable def sJ2_getChar_3b067_12 : List Nat := 184 :: 0 :: 48 :: sJ2_getChar_3b067_15
noncomputable def sJ2_getChar_3b067_11 : List Nat := 42 :: sJ2_getChar_3b067_12
noncomputable def sJ2_getChar_3b067_10 : List Nat := 27 :: sJ2_getChar_3b067_11
noncomputable def sJ2_getChar_3b067_7 : List Nat := 155 :: 0 :: 11 :: sJ2_getChar_3b067_10
noncomputable def sJ2_getChar_3b067_6 : List Nat := 27 :: sJ2_getChar_3b067_7
noncomputable def sJ2_getChar_3b067_3 : List Nat := 154 :: 0 :: 25 :: sJ2_getChar_3b067_6
noncomputable def sJ2_getChar_3b067_0 : List Nat := 178 :: 0 :: 44 :: sJ2_getChar_3b067_3
theorem aJ2_getChar_3b067_0 : dc_at cJ2_getChar_3b067 0 sJ2_getChar_3b067_0 := dc_base (by decide +kernel)
theorem aJ2_getChar_3b067_3 : dc_at cJ2_getChar_3b067 3 sJ2_getChar_3b067_3 := dc_n3 aJ2_getChar_3b067_0
theorem aJ2_getChar_3b067_6 : dc_at cJ2_getChar_3b067 6 sJ2_getChar_3b067_6 := dc_n3 aJ2_getChar_3b067_3
theorem aJ2_getChar_3b067_7 : dc_at cJ2_getChar_3b067 7 sJ2_getChar_3b067_7 := dc_n1 aJ2_getChar_3b067_6
theorem aJ2_getChar_3b067_10 : dc_at cJ2_getChar_3b067 10 sJ2_getChar_3b067_10 := dc_n3 aJ2_getChar_3b067_7
theorem aJ2_getChar_3b067_11 : dc_at cJ2_getChar_3b067 11 sJ2_getChar_3b067_11 := dc_n1 aJ2_getChar_3b067_10
theorem aJ2_getChar_3b067_12 : dc_at cJ2_getChar_3b067 12 sJ2_getChar_3b067_12 := dc_n1 aJ2_getChar_3b067_11
theorem aJ2_getChar_3b067_15 : dc_at cJ2_getChar_3b067 15 sJ2_getChar_3b067_15 := dc_n3 aJ2_getChar_3b067_12
theorem aJ2_getChar_3b067_18 : dc_at cJ2_getChar_3b067 18 sJ2_getChar_3b067_18 := dc_n3 aJ2_getChar_3b067_15
theorem aJ2_getChar_3b067_21 : dc_at cJ2_getChar_3b067 21 sJ2_getChar_3b067_21 := dc_n3 aJ2_getChar_3b067_18
theorem aJ2_getChar_3b067_22 : dc_at cJ2_getChar_3b067 22 sJ2_getChar_3b067_22 := dc_n1 aJ2_getChar_3b067_21
theorem aJ2_getChar_3b067_24 : dc_at cJ2_getChar_3b067 24 sJ2_getChar_3b067_24 := dc_n2 aJ2_getChar_3b067_22
theorem aJ2_getChar_3b067_27 : dc_at cJ2_getChar_3b067 27 sJ2_getChar_3b067_27 := dc_n3 aJ2_getChar_3b067_24
theorem aJ2_getChar_3b067_28 : dc_at cJ2_getChar_3b067 28 sJ2_getChar_3b067_28 := dc_n1 aJ2_getChar_3b067_27
theorem aJ2_getChar_3b067_29 : dc_at cJ2_getChar_3b067 29 sJ2_getChar_3b067_29 := dc_n1 aJ2_getChar_3b067_28
theorem aJ2_getChar_3b067_30 : dc_at cJ2_getChar_3b067 30 sJ2_getChar_3b067_30 := dc_n1 aJ2_getChar_3b067_29
theorem aJ2_getChar_3b067_31 : dc_at cJ2_getChar_3b067 31 sJ2_getChar_3b067_31 := dc_n1 aJ2_getChar_3b067_30
theorem aJ2_getChar_3b067_32 : dc_at cJ2_getChar_3b067 32 sJ2_getChar_3b067_32 := dc_n1 aJ2_getChar_3b067_31
theorem aJ2_getChar_3b067_33 : dc_at cJ2_getChar_3b067 33 sJ2_getChar_3b067_33 := dc_n1 aJ2_getChar_3b067_32
theorem aJ2_getChar_3b067_34 : dc_at cJ2_getChar_3b067 34 sJ2_getChar_3b067_34 := dc_n1 aJ2_getChar_3b067_33
theorem aJ2_getChar_3b067_37 : dc_at cJ2_getChar_3b067 37 sJ2_getChar_3b067_37 := dc_n3 aJ2_getChar_3b067_34
theorem aJ2_getChar_3b067_38 : dc_at cJ2_getChar_3b067 38 sJ2_getChar_3b067_38 := dc_n1 aJ2_getChar_3b067_37
theorem aJ2_getChar_3b067_41 : dc_at cJ2_getChar_3b067 41 sJ2_getChar_3b067_41 := dc_n3 aJ2_getChar_3b067_38
theorem aJ2_getChar_3b067_42 : dc_at cJ2_getChar_3b067 42 sJ2_getChar_3b067_42 := dc_n1 aJ2_getChar_3b067_41
theorem aJ2_getChar_3b067_45 : dc_at cJ2_getChar_3b067 45 sJ2_getChar_3b067_45 := dc_n3 aJ2_getChar_3b067_42
theorem aJ2_getChar_3b067_46 : dc_at cJ2_getChar_3b067 46 sJ2_getChar_3b067_46 := dc_n1 aJ2_getChar_3b067_45
theorem aJ2_getChar_3b067_47 : dc_at cJ2_getChar_3b067 47 sJ2_getChar_3b067_47 := dc_n1 aJ2_getChar_3b067_46
theorem aJ2_getChar_3b067_48 : dc_at cJ2_getChar_3b067 48 sJ2_getChar_3b067_48 := dc_n1 aJ2_getChar_3b067_47
theorem aJ2_getChar_3b067_49 : dc_at cJ2_getChar_3b067 49 sJ2_getChar_3b067_49 := dc_n1 aJ2_getChar_3b067_48
theorem aJ2_getChar_3b067_52 : dc_at cJ2_getChar_3b067 52 sJ2_getChar_3b067_52 := dc_n3 aJ2_getChar_3b067_49
theorem aJ2_getChar_3b067_53 : dc_at cJ2_getChar_3b067 53 sJ2_getChar_3b067_53 := dc_n1 aJ2_getChar_3b067_52
theorem aJ2_getChar_3b067_56 : dc_at cJ2_getChar_3b067 56 sJ2_getChar_3b067_56 := dc_n3 aJ2_getChar_3b067_53
theorem aJ2_getChar_3b067_57 : dc_at cJ2_getChar_3b067 57 sJ2_getChar_3b067_57 := dc_n1 aJ2_getChar_3b067_56
theorem aJ2_getChar_3b067_58 : dc_at cJ2_getChar_3b067 58 sJ2_getChar_3b067_58 := dc_n1 aJ2_getChar_3b067_57
theorem aJ2_getChar_3b067_59 : dc_at cJ2_getChar_3b067 59 sJ2_getChar_3b067_59 := dc_n1 aJ2_getChar_3b067_58
theorem dJ2_getChar_3b067_0 : decode cJ2_getChar_3b067 0 = .ok (.getstatic 44, 3) := dc_178 (a0 := 0) (b0 := 44) aJ2_getChar_3b067_0
theorem dJ2_getChar_3b067_3 : decode cJ2_getChar_3b067 3 = .ok (.ifCond .ne 25, 3) := dc_154 (a0 := 0) (b0 := 25) aJ2_getChar_3b067_3 (by decide)
theorem dJ2_getChar_3b067_6 : decode cJ2_getChar_3b067 6 = .ok (.iload_n 1, 1) := dc_27 aJ2_getChar_3b067_6
theorem dJ2_getChar_3b067_7 : decode cJ2_getChar_3b067 7 = .ok (.ifCond .lt 11, 3) := dc_155 (a0 := 0) (b0 := 11) aJ2_getChar_3b067_7 (by decide)
theorem dJ2_getChar_3b067_10 : decode cJ2_getChar_3b067 10 = .ok (.iload_n 1, 1) := dc_27 aJ2_getChar_3b067_10
theorem dJ2_getChar_3b067_11 : decode cJ2_getChar_3b067 11 = .ok (.aload_n 0, 1) := dc_42 aJ2_getChar_3b067_11
theorem dJ2_getChar_3b067_12 : decode cJ2_getChar_3b067 12 = .ok (.invokestatic 48, 3) := dc_184 (a0 := 0) (b0 := 48) aJ2_getChar_3b067_12
theorem dJ2_getChar_3b067_15 : decode cJ2_getChar_3b067 15 = .ok (.if_icmp .lt 13, 3) := dc_161 (a0 := 0) (b0 := 13) aJ2_getChar_3b067_15 (by decide)
theorem dJ2_getChar_3b067_18 : decode cJ2_getChar_3b067 18 = .ok (.new 52, 3) := dc_187 (a0 := 0) (b0 := 52) aJ2_getChar_3b067_18
theorem dJ2_getChar_3b067_21 : decode cJ2_getChar_3b067 21 = .ok (.dup, 1) := dc_89 aJ2_getChar_3b067_21
theorem dJ2_getChar_3b067_22 : decode cJ2_getChar_3b067 22 = .ok (.ldc 54, 2) := dc_18 (a0 := 54) aJ2_getChar_3b067_22
theorem dJ2_getChar_3b067_24 : decode cJ2_getChar_3b067 24 = .ok (.invokespecial 56, 3) := dc_183 (a0 := 0) (b0 := 56) aJ2_getChar_3b067_24
theorem dJ2_getChar_3b067_27 : decode cJ2_getChar_3b067 27 = .ok (.athrow, 1) := dc_191 aJ2_getChar_3b067_27
theorem dJ2_getChar_3b067_28 : decode cJ2_getChar_3b067 28 = .ok (.iload_n 1, 1) := dc_27 aJ2_getChar_3b067_28
theorem dJ2_getChar_3b067_29 : decode cJ2_getChar_3b067 29 = .ok (.iconst 1, 1) := dc_4 aJ2_getChar_3b067_29
theorem dJ2_getChar_3b067_30 : decode cJ2_getChar_3b067 30 = .ok (.ishl, 1) := dc_120 aJ2_getChar_3b067_30
theorem dJ2_getChar_3b067_31 : decode cJ2_getChar_3b067 31 = .ok (.istore_n 1, 1) := dc_60 aJ2_getChar_3b067_31
theorem dJ2_getChar_3b067_32 : decode cJ2_getChar_3b067 32 = .ok (.aload_n 0, 1) := dc_42 aJ2_getChar_3b067_32
theorem dJ2_getChar_3b067_33 : decode cJ2_getChar_3b067 33 = .ok (.iload_n 1, 1) := dc_27 aJ2_getChar_3b067_33
theorem dJ2_getChar_3b067_34 : decode cJ2_getChar_3b067 34 = .ok (.iinc 1 1, 3) := dc_132 (a0 := 1) (a1 := 1) aJ2_getChar_3b067_34 (by decide)
theorem dJ2_getChar_3b067_37 : decode cJ2_getChar_3b067 37 = .ok (.baload, 1) := dc_51 aJ2_getChar_3b067_37
theorem dJ2_getChar_3b067_38 : decode cJ2_getChar_3b067 38 = .ok (.sipush 255, 3) := dc_17 (a0 := 0) (b0 := 255) aJ2_getChar_3b067_38 (by decide)
theorem dJ2_getChar_3b067_41 : decode cJ2_getChar_3b067 41 = .ok (.iand, 1) := dc_126 aJ2_getChar_3b067_41
theorem dJ2_getChar_3b067_42 : decode cJ2_getChar_3b067 42 = .ok (.getstatic 59, 3) := dc_178 (a0 := 0) (b0 := 59) aJ2_getChar_3b067_42
theorem dJ2_getChar_3b067_45 : decode cJ2_getChar_3b067 45 = .ok (.ishl, 1) := dc_120 aJ2_getChar_3b067_45
theorem dJ2_getChar_3b067_46 : decode cJ2_getChar_3b067 46 = .ok (.aload_n 0, 1) := dc_42 aJ2_getChar_3b067_46
theorem dJ2_getChar_3b067_47 : decode cJ2_getChar_3b067 47 = .ok (.iload_n 1, 1) := dc_27 aJ2_getChar_3b067_47
theorem dJ2_getChar_3b067_48 : decode cJ2_getChar_3b067 48 = .ok (.baload, 1) := dc_51 aJ2_getChar_3b067_48
theorem dJ2_getChar_3b067_49 : decode cJ2_getChar_3b067 49 = .ok (.sipush 255, 3) := dc_17 (a0 := 0) (b0 := 255) aJ2_getChar_3b067_49 (by decide)
theorem dJ2_getChar_3b067_52 : decode cJ2_getChar_3b067 52 = .ok (.iand, 1) := dc_126 aJ2_getChar_3b067_52
theorem dJ2_getChar_3b067_53 : decode cJ2_getChar_3b067 53 = .ok (.getstatic 63, 3) := dc_178 (a0 := 0) (b0 := 63) aJ2_getChar_3b067_53
theorem dJ2_getChar_3b067_56 : decode cJ2_getChar_3b067 56 = .ok (.ishl, 1) := dc_120 aJ2_getChar_3b067_56
theorem dJ2_getChar_3b067_57 : decode cJ2_getChar_3b067 57 = .ok (.ior, 1) := dc_128 aJ2_getChar_3b067_57
theorem dJ2_getChar_3b067_58 : decode cJ2_getChar_3b067 58 = .ok (.i2c, 1) := dc_146 aJ2_getChar_3b067_58
theorem dJ2_getChar_3b067_59 : decode cJ2_getChar_3b067 59 = .ok (.ireturn, 1) := dc_172 aJ2_getChar_3b067_59
noncomputable def sJ2_length_9d52b_4 : List Nat := 172 :: []
noncomputable def sJ2_length_9d52b_3 : List Nat := 122 :: sJ2_length_9d52b_4
noncomputable def sJ2_length_9d52b_2 : List Nat := 4 :: sJ2_length_9d52b_3
noncomputable def sJ2_length_9d52b_1 : List Nat := 190 :: sJ2_length_9d52b_2
noncomputable def sJ2_length_9d52b_0 : List Nat := 42 :: sJ2_length_9d52b_1
theorem aJ2_length_9d52b_0 : dc_at cJ2_length_9d52b 0 sJ2_length_9d52b_0 := dc_base (by decide +kernel)
theorem aJ2_length_9d52b_1 : dc_at cJ2_length_9d52b 1 sJ2_length_9d52b_1 := dc_n1 aJ2_length_9d52b_0
theorem aJ2_length_9d52b_2 : dc_at cJ2_length_9d52b 2 sJ2_length_9d52b_2 := dc_n1 aJ2_length_9d52b_1
theorem aJ2_length_9d52b_3 : dc_at cJ2_length_9d52b 3 sJ2_length_9d52b_3 := dc_n1 aJ2_length_9d52b_2
theorem aJ2_length_9d52b_4 : dc_at cJ2_length_9d52b 4 sJ2_length_9d52b_4 := dc_n1 aJ2_length_9d52b_3
theorem dJ2_length_9d52b_0 : decode cJ2_length_9d52b 0 = .ok (.aload_n 0, 1) := dc_42 aJ2_length_9d52b_0
theorem dJ2_length_9d52b_1 : decode cJ2_length_9d52b 1 = .ok (.arraylength, 1) := dc_190 aJ2_length_9d52b_1
theorem dJ2_length_9d52b_2 : decode cJ2_length_9d52b 2 = .ok (.iconst 1, 1) := dc_4 aJ2_length_9d52b_2
theorem dJ2_length_9d52b_3 : decode cJ2_length_9d52b 3 = .ok (.ishr, 1) := dc_122 aJ2_length_9d52b_3
theorem dJ2_length_9d52b_4 : decode cJ2_length_9d52b 4 = .ok (.ireturn, 1) := dc_172 aJ2_length_9d52b_4
set_option maxRecDepth 20000 in
theorem ggJ2_charAt_3b067_J2_checkIndex_2214a : GoodIn wsJ2_charAt_3b067 wsJ2_checkIndex_2214a := goodIn_k _ [[4, 0, 0], [3, 3, 0, 0, 0, 0, 0, 0, 0, 0, 0]] (by rfl) (by decide +kernel)
set_option maxRecDepth 20000 in
theorem gJ2_charAt_3b067_J2_checkIndex_2214a : GoodIn wsJ2_charAt_3b067 (va_wsS RJ2 67 yJ2_checkIndex_2214a wsJ2_checkIndex_2214a) := goodIn_app (goodIn_of _ (by decide +kernel)) ggJ2_charAt_3b067_J2_checkIndex_2214a
set_option maxRecDepth 20000 in
theorem ggJ2_charAt_3b067_J2_getChar_3b067 : GoodIn wsJ2_charAt_3b067 wsJ2_getChar_3b067 := goodIn_k _ [[19, 0, 0, 0], [5, 0], [3, 3]] (by rfl) (by decide +kernel)
set_option maxRecDepth 20000 in
theorem gJ2_charAt_3b067_J2_getChar_3b067 : GoodIn wsJ2_charAt_3b067 (va_wsS RJ2 71 yJ2_getChar_3b067 wsJ2_getChar_3b067) := goodIn_app (goodIn_of _ (by decide +kernel)) ggJ2_charAt_3b067_J2_getChar_3b067
noncomputable def sJ2_charAt_3b067_10 : List Nat := 172 :: []
noncomputable def sJ2_charAt_3b067_7 : List Nat := 184 :: 0 :: 71 :: sJ2_charAt_3b067_10
noncomputable def sJ2_charAt_3b067_6 : List Nat := 27 :: sJ2_charAt_3b067_7
noncomputable def sJ2_charAt_3b067_5 : List Nat := 42 :: sJ2_charAt_3b067_6
noncomputable def sJ2_charAt_3b067_2 : List Nat := 184 :: 0 :: 67 :: sJ2_charAt_3b067_5
noncomputable def sJ2_charAt_3b067_1 : List Nat := 42 :: sJ2_charAt_3b067_2
noncomputable def sJ2_charAt_3b067_0 : List Nat := 27 :: sJ2_charAt_3b067_1
theorem aJ2_charAt_3b067_0 : dc_at cJ2_charAt_3b067 0 sJ2_charAt_3b067_0 := dc_base (by decide +kernel)
theorem aJ2_charAt_3b067_1 : dc_at cJ2_charAt_3b067 1 sJ2_charAt_3b067_1 := dc_n1 aJ2_charAt_3b067_0
theorem aJ2_charAt_3b067_2 : dc_at cJ2_charAt_3b067 2 sJ2_charAt_3b067_2 := dc_n1 aJ2_charAt_3b067_1
theorem aJ2_charAt_3b067_5 : dc_at cJ2_charAt_3b067 5 sJ2_charAt_3b067_5 := dc_n3 aJ2_charAt_3b067_2
theorem aJ2_charAt_3b067_6 : dc_at cJ2_charAt_3b067 6 sJ2_charAt_3b067_6 := dc_n1 aJ2_charAt_3b067_5
theorem aJ2_charAt_3b067_7 : dc_at cJ2_charAt_3b067 7 sJ2_charAt_3b067_7 := dc_n1 aJ2_charAt_3b067_6
theorem aJ2_charAt_3b067_10 : dc_at cJ2_charAt_3b067 10 sJ2_charAt_3b067_10 := dc_n3 aJ2_charAt_3b067_7
theorem dJ2_charAt_3b067_0 : decode cJ2_charAt_3b067 0 = .ok (.iload_n 1, 1) := dc_27 aJ2_charAt_3b067_0
theorem dJ2_charAt_3b067_1 : decode cJ2_charAt_3b067 1 = .ok (.aload_n 0, 1) := dc_42 aJ2_charAt_3b067_1
theorem dJ2_charAt_3b067_2 : decode cJ2_charAt_3b067 2 = .ok (.invokestatic 67, 3) := dc_184 (a0 := 0) (b0 := 67) aJ2_charAt_3b067_2
theorem dJ2_charAt_3b067_5 : decode cJ2_charAt_3b067 5 = .ok (.aload_n 0, 1) := dc_42 aJ2_charAt_3b067_5
theorem dJ2_charAt_3b067_6 : decode cJ2_charAt_3b067 6 = .ok (.iload_n 1, 1) := dc_27 aJ2_charAt_3b067_6
theorem dJ2_charAt_3b067_7 : decode cJ2_charAt_3b067 7 = .ok (.invokestatic 71, 3) := dc_184 (a0 := 0) (b0 := 71) aJ2_charAt_3b067_7
theorem dJ2_charAt_3b067_10 : decode cJ2_charAt_3b067 10 = .ok (.ireturn, 1) := dc_172 aJ2_charAt_3b067_10
set_option maxRecDepth 20000 in
theorem ggJ2_checkIndex_2214a_J2_length_9d52b : GoodIn wsJ2_checkIndex_2214a wsJ2_length_9d52b := goodIn_k _ [[4]] (by rfl) (by decide +kernel)
set_option maxRecDepth 20000 in
theorem gJ2_checkIndex_2214a_J2_length_9d52b : GoodIn wsJ2_checkIndex_2214a (va_wsS RJ2 48 yJ2_length_9d52b wsJ2_length_9d52b) := goodIn_app (goodIn_of _ (by decide +kernel)) ggJ2_checkIndex_2214a_J2_length_9d52b
set_option maxRecDepth 20000 in
theorem ggJ2_checkIndex_2214a_J0_checkIndex_df160 : GoodIn wsJ2_checkIndex_2214a wsJ0_checkIndex_df160 := goodIn_k _ [[8, 0, 0, 0, 0, 0]] (by rfl) (by decide +kernel)
set_option maxRecDepth 20000 in
theorem gJ2_checkIndex_2214a_J0_checkIndex_df160 : GoodIn wsJ2_checkIndex_2214a (va_wsS RJ2 414 yJ0_checkIndex_df160 wsJ0_checkIndex_df160) := goodIn_app (goodIn_of _ (by decide +kernel)) ggJ2_checkIndex_2214a_J0_checkIndex_df160
noncomputable def sJ2_checkIndex_2214a_8 : List Nat := 177 :: []
noncomputable def sJ2_checkIndex_2214a_5 : List Nat := 184 :: 1 :: 158 :: sJ2_checkIndex_2214a_8
noncomputable def sJ2_checkIndex_2214a_2 : List Nat := 184 :: 0 :: 48 :: sJ2_checkIndex_2214a_5
noncomputable def sJ2_checkIndex_2214a_1 : List Nat := 43 :: sJ2_checkIndex_2214a_2
noncomputable def sJ2_checkIndex_2214a_0 : List Nat := 26 :: sJ2_checkIndex_2214a_1
theorem aJ2_checkIndex_2214a_0 : dc_at cJ2_checkIndex_2214a 0 sJ2_checkIndex_2214a_0 := dc_base (by decide +kernel)
theorem aJ2_checkIndex_2214a_1 : dc_at cJ2_checkIndex_2214a 1 sJ2_checkIndex_2214a_1 := dc_n1 aJ2_checkIndex_2214a_0
theorem aJ2_checkIndex_2214a_2 : dc_at cJ2_checkIndex_2214a 2 sJ2_checkIndex_2214a_2 := dc_n1 aJ2_checkIndex_2214a_1
theorem aJ2_checkIndex_2214a_5 : dc_at cJ2_checkIndex_2214a 5 sJ2_checkIndex_2214a_5 := dc_n3 aJ2_checkIndex_2214a_2
theorem aJ2_checkIndex_2214a_8 : dc_at cJ2_checkIndex_2214a 8 sJ2_checkIndex_2214a_8 := dc_n3 aJ2_checkIndex_2214a_5
theorem dJ2_checkIndex_2214a_0 : decode cJ2_checkIndex_2214a 0 = .ok (.iload_n 0, 1) := dc_26 aJ2_checkIndex_2214a_0
theorem dJ2_checkIndex_2214a_1 : decode cJ2_checkIndex_2214a 1 = .ok (.aload_n 1, 1) := dc_43 aJ2_checkIndex_2214a_1
theorem dJ2_checkIndex_2214a_2 : decode cJ2_checkIndex_2214a 2 = .ok (.invokestatic 48, 3) := dc_184 (a0 := 0) (b0 := 48) aJ2_checkIndex_2214a_2
theorem dJ2_checkIndex_2214a_5 : decode cJ2_checkIndex_2214a 5 = .ok (.invokestatic 414, 3) := dc_184 (a0 := 1) (b0 := 158) aJ2_checkIndex_2214a_5
theorem dJ2_checkIndex_2214a_8 : decode cJ2_checkIndex_2214a 8 = .ok (.return_, 1) := dc_177 aJ2_checkIndex_2214a_8
noncomputable def sJ7_fill_53178_20 : List Nat := 177 :: []
noncomputable def sJ7_fill_53178_17 : List Nat := 167 :: 255 :: 244 :: sJ7_fill_53178_20
noncomputable def sJ7_fill_53178_14 : List Nat := 132 :: 2 :: 1 :: sJ7_fill_53178_17
noncomputable def sJ7_fill_53178_13 : List Nat := 79 :: sJ7_fill_53178_14
noncomputable def sJ7_fill_53178_12 : List Nat := 27 :: sJ7_fill_53178_13
noncomputable def sJ7_fill_53178_11 : List Nat := 28 :: sJ7_fill_53178_12
noncomputable def sJ7_fill_53178_10 : List Nat := 42 :: sJ7_fill_53178_11
noncomputable def sJ7_fill_53178_7 : List Nat := 162 :: 0 :: 13 :: sJ7_fill_53178_10
noncomputable def sJ7_fill_53178_6 : List Nat := 29 :: sJ7_fill_53178_7
noncomputable def sJ7_fill_53178_5 : List Nat := 28 :: sJ7_fill_53178_6
noncomputable def sJ7_fill_53178_4 : List Nat := 62 :: sJ7_fill_53178_5
noncomputable def sJ7_fill_53178_3 : List Nat := 190 :: sJ7_fill_53178_4
noncomputable def sJ7_fill_53178_2 : List Nat := 42 :: sJ7_fill_53178_3
noncomputable def sJ7_fill_53178_1 : List Nat := 61 :: sJ7_fill_53178_2
noncomputable def sJ7_fill_53178_0 : List Nat := 3 :: sJ7_fill_53178_1
theorem aJ7_fill_53178_0 : dc_at cJ7_fill_53178 0 sJ7_fill_53178_0 := dc_base (by decide +kernel)
theorem aJ7_fill_53178_1 : dc_at cJ7_fill_53178 1 sJ7_fill_53178_1 := dc_n1 aJ7_fill_53178_0
theorem aJ7_fill_53178_2 : dc_at cJ7_fill_53178 2 sJ7_fill_53178_2 := dc_n1 aJ7_fill_53178_1
theorem aJ7_fill_53178_3 : dc_at cJ7_fill_53178 3 sJ7_fill_53178_3 := dc_n1 aJ7_fill_53178_2
theorem aJ7_fill_53178_4 : dc_at cJ7_fill_53178 4 sJ7_fill_53178_4 := dc_n1 aJ7_fill_53178_3
theorem aJ7_fill_53178_5 : dc_at cJ7_fill_53178 5 sJ7_fill_53178_5 := dc_n1 aJ7_fill_53178_4
theorem aJ7_fill_53178_6 : dc_at cJ7_fill_53178 6 sJ7_fill_53178_6 := dc_n1 aJ7_fill_53178_5
theorem aJ7_fill_53178_7 : dc_at cJ7_fill_53178 7 sJ7_fill_53178_7 := dc_n1 aJ7_fill_53178_6
theorem aJ7_fill_53178_10 : dc_at cJ7_fill_53178 10 sJ7_fill_53178_10 := dc_n3 aJ7_fill_53178_7
theorem aJ7_fill_53178_11 : dc_at cJ7_fill_53178 11 sJ7_fill_53178_11 := dc_n1 aJ7_fill_53178_10
theorem aJ7_fill_53178_12 : dc_at cJ7_fill_53178 12 sJ7_fill_53178_12 := dc_n1 aJ7_fill_53178_11
theorem aJ7_fill_53178_13 : dc_at cJ7_fill_53178 13 sJ7_fill_53178_13 := dc_n1 aJ7_fill_53178_12
theorem aJ7_fill_53178_14 : dc_at cJ7_fill_53178 14 sJ7_fill_53178_14 := dc_n1 aJ7_fill_53178_13
theorem aJ7_fill_53178_17 : dc_at cJ7_fill_53178 17 sJ7_fill_53178_17 := dc_n3 aJ7_fill_53178_14
theorem aJ7_fill_53178_20 : dc_at cJ7_fill_53178 20 sJ7_fill_53178_20 := dc_n3 aJ7_fill_53178_17
theorem dJ7_fill_53178_0 : decode cJ7_fill_53178 0 = .ok (.iconst 0, 1) := dc_3 aJ7_fill_53178_0
theorem dJ7_fill_53178_1 : decode cJ7_fill_53178 1 = .ok (.istore_n 2, 1) := dc_61 aJ7_fill_53178_1
theorem dJ7_fill_53178_2 : decode cJ7_fill_53178 2 = .ok (.aload_n 0, 1) := dc_42 aJ7_fill_53178_2
theorem dJ7_fill_53178_3 : decode cJ7_fill_53178 3 = .ok (.arraylength, 1) := dc_190 aJ7_fill_53178_3
theorem dJ7_fill_53178_4 : decode cJ7_fill_53178 4 = .ok (.istore_n 3, 1) := dc_62 aJ7_fill_53178_4
theorem dJ7_fill_53178_5 : decode cJ7_fill_53178 5 = .ok (.iload_n 2, 1) := dc_28 aJ7_fill_53178_5
theorem dJ7_fill_53178_6 : decode cJ7_fill_53178 6 = .ok (.iload_n 3, 1) := dc_29 aJ7_fill_53178_6
theorem dJ7_fill_53178_7 : decode cJ7_fill_53178 7 = .ok (.if_icmp .ge 13, 3) := dc_162 (a0 := 0) (b0 := 13) aJ7_fill_53178_7 (by decide)
theorem dJ7_fill_53178_10 : decode cJ7_fill_53178 10 = .ok (.aload_n 0, 1) := dc_42 aJ7_fill_53178_10
theorem dJ7_fill_53178_11 : decode cJ7_fill_53178 11 = .ok (.iload_n 2, 1) := dc_28 aJ7_fill_53178_11
theorem dJ7_fill_53178_12 : decode cJ7_fill_53178 12 = .ok (.iload_n 1, 1) := dc_27 aJ7_fill_53178_12
theorem dJ7_fill_53178_13 : decode cJ7_fill_53178 13 = .ok (.iastore, 1) := dc_79 aJ7_fill_53178_13
theorem dJ7_fill_53178_14 : decode cJ7_fill_53178 14 = .ok (.iinc 2 1, 3) := dc_132 (a0 := 2) (a1 := 1) aJ7_fill_53178_14 (by decide)
theorem dJ7_fill_53178_17 : decode cJ7_fill_53178 17 = .ok (.goto (-12), 3) := dc_167 (a0 := 255) (b0 := 244) aJ7_fill_53178_17 (by decide)
theorem dJ7_fill_53178_20 : decode cJ7_fill_53178 20 = .ok (.return_, 1) := dc_177 aJ7_fill_53178_20
noncomputable def sJ3_checkIndex_8e157_17 : List Nat := 172 :: []
noncomputable def sJ3_checkIndex_8e157_16 : List Nat := 26 :: sJ3_checkIndex_8e157_17
noncomputable def sJ3_checkIndex_8e157_15 : List Nat := 191 :: sJ3_checkIndex_8e157_16
noncomputable def sJ3_checkIndex_8e157_12 : List Nat := 184 :: 0 :: 95 :: sJ3_checkIndex_8e157_15
noncomputable def sJ3_checkIndex_8e157_11 : List Nat := 27 :: sJ3_checkIndex_8e157_12
noncomputable def sJ3_checkIndex_8e157_10 : List Nat := 26 :: sJ3_checkIndex_8e157_11
noncomputable def sJ3_checkIndex_8e157_9 : List Nat := 44 :: sJ3_checkIndex_8e157_10
noncomputable def sJ3_checkIndex_8e157_6 : List Nat := 161 :: 0 :: 10 :: sJ3_checkIndex_8e157_9
noncomputable def sJ3_checkIndex_8e157_5 : List Nat := 27 :: sJ3_checkIndex_8e157_6
noncomputable def sJ3_checkIndex_8e157_4 : List Nat := 26 :: sJ3_checkIndex_8e157_5
noncomputable def sJ3_checkIndex_8e157_1 : List Nat := 155 :: 0 :: 8 :: sJ3_checkIndex_8e157_4
noncomputable def sJ3_checkIndex_8e157_0 : List Nat := 26 :: sJ3_checkIndex_8e157_1
theorem aJ3_checkIndex_8e157_0 : dc_at cJ3_checkIndex_8e157 0 sJ3_checkIndex_8e157_0 := dc_base (by decide +kernel)
theorem aJ3_checkIndex_8e157_1 : dc_at cJ3_checkIndex_8e157 1 sJ3_checkIndex_8e157_1 := dc_n1 aJ3_checkIndex_8e157_0
theorem aJ3_checkIndex_8e157_4 : dc_at cJ3_checkIndex_8e157 4 sJ3_checkIndex_8e157_4 := dc_n3 aJ3_checkIndex_8e157_1
theorem aJ3_checkIndex_8e157_5 : dc_at cJ3_checkIndex_8e157 5 sJ3_checkIndex_8e157_5 := dc_n1 aJ3_checkIndex_8e157_4
theorem aJ3_checkIndex_8e157_6 : dc_at cJ3_checkIndex_8e157 6 sJ3_checkIndex_8e157_6 := dc_n1 aJ3_checkIndex_8e157_5
theorem aJ3_checkIndex_8e157_9 : dc_at cJ3_checkIndex_8e157 9 sJ3_checkIndex_8e157_9 := dc_n3 aJ3_checkIndex_8e157_6
theorem aJ3_checkIndex_8e157_10 : dc_at cJ3_checkIndex_8e157 10 sJ3_checkIndex_8e157_10 := dc_n1 aJ3_checkIndex_8e157_9
theorem aJ3_checkIndex_8e157_11 : dc_at cJ3_checkIndex_8e157 11 sJ3_checkIndex_8e157_11 := dc_n1 aJ3_checkIndex_8e157_10
theorem aJ3_checkIndex_8e157_12 : dc_at cJ3_checkIndex_8e157 12 sJ3_checkIndex_8e157_12 := dc_n1 aJ3_checkIndex_8e157_11
theorem aJ3_checkIndex_8e157_15 : dc_at cJ3_checkIndex_8e157 15 sJ3_checkIndex_8e157_15 := dc_n3 aJ3_checkIndex_8e157_12
theorem aJ3_checkIndex_8e157_16 : dc_at cJ3_checkIndex_8e157 16 sJ3_checkIndex_8e157_16 := dc_n1 aJ3_checkIndex_8e157_15
theorem aJ3_checkIndex_8e157_17 : dc_at cJ3_checkIndex_8e157 17 sJ3_checkIndex_8e157_17 := dc_n1 aJ3_checkIndex_8e157_16
theorem dJ3_checkIndex_8e157_0 : decode cJ3_checkIndex_8e157 0 = .ok (.iload_n 0, 1) := dc_26 aJ3_checkIndex_8e157_0
theorem dJ3_checkIndex_8e157_1 : decode cJ3_checkIndex_8e157 1 = .ok (.ifCond .lt 8, 3) := dc_155 (a0 := 0) (b0 := 8) aJ3_checkIndex_8e157_1 (by decide)
theorem dJ3_checkIndex_8e157_4 : decode cJ3_checkIndex_8e157 4 = .ok (.iload_n 0, 1) := dc_26 aJ3_checkIndex_8e157_4
theorem dJ3_checkIndex_8e157_5 : decode cJ3_checkIndex_8e157 5 = .ok (.iload_n 1, 1) := dc_27 aJ3_checkIndex_8e157_5
theorem dJ3_checkIndex_8e157_6 : decode cJ3_checkIndex_8e157 6 = .ok (.if_icmp .lt 10, 3) := dc_161 (a0 := 0) (b0 := 10) aJ3_checkIndex_8e157_6 (by decide)
theorem dJ3_checkIndex_8e157_9 : decode cJ3_checkIndex_8e157 9 = .ok (.aload_n 2, 1) := dc_44 aJ3_checkIndex_8e157_9
theorem dJ3_checkIndex_8e157_10 : decode cJ3_checkIndex_8e157 10 = .ok (.iload_n 0, 1) := dc_26 aJ3_checkIndex_8e157_10
theorem dJ3_checkIndex_8e157_11 : decode cJ3_checkIndex_8e157 11 = .ok (.iload_n 1, 1) := dc_27 aJ3_checkIndex_8e157_11
theorem dJ3_checkIndex_8e157_12 : decode cJ3_checkIndex_8e157 12 = .ok (.invokestatic 95, 3) := dc_184 (a0 := 0) (b0 := 95) aJ3_checkIndex_8e157_12
theorem dJ3_checkIndex_8e157_15 : decode cJ3_checkIndex_8e157 15 = .ok (.athrow, 1) := dc_191 aJ3_checkIndex_8e157_15
theorem dJ3_checkIndex_8e157_16 : decode cJ3_checkIndex_8e157 16 = .ok (.iload_n 0, 1) := dc_26 aJ3_checkIndex_8e157_16
theorem dJ3_checkIndex_8e157_17 : decode cJ3_checkIndex_8e157 17 = .ok (.ireturn, 1) := dc_172 aJ3_checkIndex_8e157_17
