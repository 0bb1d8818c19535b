noncomputable def sJ6_bitCount_0f7a4_40 : List Nat := 59 :: 26 :: 26 :: 16 :: 16 :: 124 :: 96 :: 59 :: 26 :: 16 :: 63 :: 126 :: 172 :: []
noncomputable def sJ6_bitCount_0f7a4_0 : List Nat := 26 :: 26 :: 4 :: 124 :: 19 :: 1 :: 9 :: 126 :: 100 :: 59 :: 26 :: 19 :: 1 :: 10 :: 126 :: 26 :: 5 :: 124 :: 19 :: 1 :: 10 :: 126 :: 96 :: 59 :: 26 :: 26 :: 7 :: 124 :: 96 :: 19 :: 1 :: 11 :: 126 :: 59 :: 26 :: 26 :: 16 :: 8 :: 124 :: 96 :: sJ6_bitCount_0f7a4_40
theorem aJ6_bitCount_0f7a4_0 : dc_at cJ6_bitCount_0f7a4 0 sJ6_bitCount_0f7a4_0 := dc_base (by decide +kernel)
theorem aJ6_bitCount_0f7a4_40 : dc_at cJ6_bitCount_0f7a4 40 sJ6_bitCount_0f7a4_40 := dc_nn (k := 40) aJ6_bitCount_0f7a4_0 rfl
theorem dJ6_bitCount_0f7a4_0 : decode cJ6_bitCount_0f7a4 0 = .ok (.iload_n 0, 1) := dc_26 aJ6_bitCount_0f7a4_0
theorem dJ6_bitCount_0f7a4_1 : decode cJ6_bitCount_0f7a4 1 = .ok (.iload_n 0, 1) := dc_26 (dc_nn (k := 1) aJ6_bitCount_0f7a4_0 rfl)
theorem dJ6_bitCount_0f7a4_2 : decode cJ6_bitCount_0f7a4 2 = .ok (.iconst 1, 1) := dc_4 (dc_nn (k := 2) aJ6_bitCount_0f7a4_0 rfl)
theorem dJ6_bitCount_0f7a4_3 : decode cJ6_bitCount_0f7a4 3 = .ok (.iushr, 1) := dc_124 (dc_nn (k := 3) aJ6_bitCount_0f7a4_0 rfl)
theorem dJ6_bitCount_0f7a4_4 : decode cJ6_bitCount_0f7a4 4 = .ok (.ldc_w 265, 3) := dc_19 (a0 := 1) (b0 := 9) (dc_nn (k := 4) aJ6_bitCount_0f7a4_0 rfl)
theorem dJ6_bitCount_0f7a4_7 : decode cJ6_bitCount_0f7a4 7 = .ok (.iand, 1) := dc_126 (dc_nn (k := 7) aJ6_bitCount_0f7a4_0 rfl)
theorem dJ6_bitCount_0f7a4_8 : decode cJ6_bitCount_0f7a4 8 = .ok (.isub, 1) := dc_100 (dc_nn (k := 8) aJ6_bitCount_0f7a4_0 rfl)
theorem dJ6_bitCount_0f7a4_9 : decode cJ6_bitCount_0f7a4 9 = .ok (.istore_n 0, 1) := dc_59 (dc_nn (k := 9) aJ6_bitCount_0f7a4_0 rfl)
theorem dJ6_bitCount_0f7a4_10 : decode cJ6_bitCount_0f7a4 10 = .ok (.iload_n 0, 1) := dc_26 (dc_nn (k := 10) aJ6_bitCount_0f7a4_0 rfl)
theorem dJ6_bitCount_0f7a4_11 : decode cJ6_bitCount_0f7a4 11 = .ok (.ldc_w 266, 3) := dc_19 (a0 := 1) (b0 := 10) (dc_nn (k := 11) aJ6_bitCount_0f7a4_0 rfl)
theorem dJ6_bitCount_0f7a4_14 : decode cJ6_bitCount_0f7a4 14 = .ok (.iand, 1) := dc_126 (dc_nn (k := 14) aJ6_bitCount_0f7a4_0 rfl)
theorem dJ6_bitCount_0f7a4_15 : decode cJ6_bitCount_0f7a4 15 = .ok (.iload_n 0, 1) := dc_26 (dc_nn (k := 15) aJ6_bitCount_0f7a4_0 rfl)
theorem dJ6_bitCount_0f7a4_16 : decode cJ6_bitCount_0f7a4 16 = .ok (.iconst 2, 1) := dc_5 (dc_nn (k := 16) aJ6_bitCount_0f7a4_0 rfl)
theorem dJ6_bitCount_0f7a4_17 : decode cJ6_bitCount_0f7a4 17 = .ok (.iushr, 1) := dc_124 (dc_nn (k := 17) aJ6_bitCount_0f7a4_0 rfl)
theorem dJ6_bitCount_0f7a4_18 : decode cJ6_bitCount_0f7a4 18 = .ok (.ldc_w 266, 3) := dc_19 (a0 := 1) (b0 := 10) (dc_nn (k := 18) aJ6_bitCount_0f7a4_0 rfl)
theorem dJ6_bitCount_0f7a4_21 : decode cJ6_bitCount_0f7a4 21 = .ok (.iand, 1) := dc_126 (dc_nn (k := 21) aJ6_bitCount_0f7a4_0 rfl)
theorem dJ6_bitCount_0f7a4_22 : decode cJ6_bitCount_0f7a4 22 = .ok (.iadd, 1) := dc_96 (dc_nn (k := 22) aJ6_bitCount_0f7a4_0 rfl)
theorem dJ6_bitCount_0f7a4_23 : decode cJ6_bitCount_0f7a4 23 = .ok (.istore_n 0, 1) := dc_59 (dc_nn (k := 23) aJ6_bitCount_0f7a4_0 rfl)
theorem dJ6_bitCount_0f7a4_24 : decode cJ6_bitCount_0f7a4 24 = .ok (.iload_n 0, 1) := dc_26 (dc_nn (k := 24) aJ6_bitCount_0f7a4_0 rfl)
theorem dJ6_bitCount_0f7a4_25 : decode cJ6_bitCount_0f7a4 25 = .ok (.iload_n 0, 1) := dc_26 (dc_nn (k := 25) aJ6_bitCount_0f7a4_0 rfl)
theorem dJ6_bitCount_0f7a4_26 : decode cJ6_bitCount_0f7a4 26 = .ok (.iconst 4, 1) := dc_7 (dc_nn (k := 26) aJ6_bitCount_0f7a4_0 rfl)
theorem dJ6_bitCount_0f7a4_27 : decode cJ6_bitCount_0f7a4 27 = .ok (.iushr, 1) := dc_124 (dc_nn (k := 27) aJ6_bitCount_0f7a4_0 rfl)
theorem dJ6_bitCount_0f7a4_28 : decode cJ6_bitCount_0f7a4 28 = .ok (.iadd, 1) := dc_96 (dc_nn (k := 28) aJ6_bitCount_0f7a4_0 rfl)
theorem dJ6_bitCount_0f7a4_29 : decode cJ6_bitCount_0f7a4 29 = .ok (.ldc_w 267, 3) := dc_19 (a0 := 1) (b0 := 11) (dc_nn (k := 29) aJ6_bitCount_0f7a4_0 rfl)
theorem dJ6_bitCount_0f7a4_32 : decode cJ6_bitCount_0f7a4 32 = .ok (.iand, 1) := dc_126 (dc_nn (k := 32) aJ6_bitCount_0f7a4_0 rfl)
theorem dJ6_bitCount_0f7a4_33 : decode cJ6_bitCount_0f7a4 33 = .ok (.istore_n 0, 1) := dc_59 (dc_nn (k := 33) aJ6_bitCount_0f7a4_0 rfl)
theorem dJ6_bitCount_0f7a4_34 : decode cJ6_bitCount_0f7a4 34 = .ok (.iload_n 0, 1) := dc_26 (dc_nn (k := 34) aJ6_bitCount_0f7a4_0 rfl)
theorem dJ6_bitCount_0f7a4_35 : decode cJ6_bitCount_0f7a4 35 = .ok (.iload_n 0, 1) := dc_26 (dc_nn (k := 35) aJ6_bitCount_0f7a4_0 rfl)
theorem dJ6_bitCount_0f7a4_36 : decode cJ6_bitCount_0f7a4 36 = .ok (.bipush 8, 2) := dc_16 (a0 := 8) (dc_nn (k := 36) aJ6_bitCount_0f7a4_0 rfl) (by decide)
theorem dJ6_bitCount_0f7a4_38 : decode cJ6_bitCount_0f7a4 38 = .ok (.iushr, 1) := dc_124 (dc_nn (k := 38) aJ6_bitCount_0f7a4_0 rfl)
theorem dJ6_bitCount_0f7a4_39 : decode cJ6_bitCount_0f7a4 39 = .ok (.iadd, 1) := dc_96 (dc_nn (k := 39) aJ6_bitCount_0f7a4_0 rfl)
theorem dJ6_bitCount_0f7a4_40 : decode cJ6_bitCount_0f7a4 40 = .ok (.istore_n 0, 1) := dc_59 aJ6_bitCount_0f7a4_40
theorem dJ6_bitCount_0f7a4_41 : decode cJ6_bitCount_0f7a4 41 = .ok (.iload_n 0, 1) := dc_26 (dc_nn (k := 1) aJ6_bitCount_0f7a4_40 rfl)
theorem dJ6_bitCount_0f7a4_42 : decode cJ6_bitCount_0f7a4 42 = .ok (.iload_n 0, 1) := dc_26 (dc_nn (k := 2) aJ6_bitCount_0f7a4_40 rfl)
theorem dJ6_bitCount_0f7a4_43 : decode cJ6_bitCount_0f7a4 43 = .ok (.bipush 16, 2) := dc_16 (a0 := 16) (dc_nn (k := 3) aJ6_bitCount_0f7a4_40 rfl) (by decide)
theorem dJ6_bitCount_0f7a4_45 : decode cJ6_bitCount_0f7a4 45 = .ok (.iushr, 1) := dc_124 (dc_nn (k := 5) aJ6_bitCount_0f7a4_40 rfl)
theorem dJ6_bitCount_0f7a4_46 : decode cJ6_bitCount_0f7a4 46 = .ok (.iadd, 1) := dc_96 (dc_nn (k := 6) aJ6_bitCount_0f7a4_40 rfl)
theorem dJ6_bitCount_0f7a4_47 : decode cJ6_bitCount_0f7a4 47 = .ok (.istore_n 0, 1) := dc_59 (dc_nn (k := 7) aJ6_bitCount_0f7a4_40 rfl)
theorem dJ6_bitCount_0f7a4_48 : decode cJ6_bitCount_0f7a4 48 = .ok (.iload_n 0, 1) := dc_26 (dc_nn (k := 8) aJ6_bitCount_0f7a4_40 rfl)
theorem dJ6_bitCount_0f7a4_49 : decode cJ6_bitCount_0f7a4 49 = .ok (.bipush 63, 2) := dc_16 (a0 := 63) (dc_nn (k := 9) aJ6_bitCount_0f7a4_40 rfl) (by decide)
theorem dJ6_bitCount_0f7a4_51 : decode cJ6_bitCount_0f7a4 51 = .ok (.iand, 1) := dc_126 (dc_nn (k := 11) aJ6_bitCount_0f7a4_40 rfl)
theorem dJ6_bitCount_0f7a4_52 : decode cJ6_bitCount_0f7a4 52 = .ok (.ireturn, 1) := dc_172 (dc_nn (k := 12) aJ6_bitCount_0f7a4_40 rfl)
noncomputable def sJ9_floorDiv_f86c9_0 : List Nat := 30 :: 32 :: 109 :: 55 :: 4 :: 30 :: 32 :: 131 :: 9 :: 148 :: 156 :: 0 :: 17 :: 22 :: 4 :: 32 :: 105 :: 30 :: 148 :: 153 :: 0 :: 8 :: 22 :: 4 :: 10 :: 101 :: 173 :: 22 :: 4 :: 173 :: []
theorem aJ9_floorDiv_f86c9_0 : dc_at cJ9_floorDiv_f86c9 0 sJ9_floorDiv_f86c9_0 := dc_base (by decide +kernel)
theorem dJ9_floorDiv_f86c9_0 : decode cJ9_floorDiv_f86c9 0 = .ok (.lload_n 0, 1) := dc_30 aJ9_floorDiv_f86c9_0
theorem dJ9_floorDiv_f86c9_1 : decode cJ9_floorDiv_f86c9 1 = .ok (.lload_n 2, 1) := dc_32 (dc_nn (k := 1) aJ9_floorDiv_f86c9_0 rfl)
theorem dJ9_floorDiv_f86c9_2 : decode cJ9_floorDiv_f86c9 2 = .ok (.ldiv, 1) := dc_109 (dc_nn (k := 2) aJ9_floorDiv_f86c9_0 rfl)
theorem dJ9_floorDiv_f86c9_3 : decode cJ9_floorDiv_f86c9 3 = .ok (.lstore 4, 2) := dc_55 (a0 := 4) (dc_nn (k := 3) aJ9_floorDiv_f86c9_0 rfl)
theorem dJ9_floorDiv_f86c9_5 : decode cJ9_floorDiv_f86c9 5 = .ok (.lload_n 0, 1) := dc_30 (dc_nn (k := 5) aJ9_floorDiv_f86c9_0 rfl)
theorem dJ9_floorDiv_f86c9_6 : decode cJ9_floorDiv_f86c9 6 = .ok (.lload_n 2, 1) := dc_32 (dc_nn (k := 6) aJ9_floorDiv_f86c9_0 rfl)
theorem dJ9_floorDiv_f86c9_7 : decode cJ9_floorDiv_f86c9 7 = .ok (.lxor, 1) := dc_131 (dc_nn (k := 7) aJ9_floorDiv_f86c9_0 rfl)
theorem dJ9_floorDiv_f86c9_8 : decode cJ9_floorDiv_f86c9 8 = .ok (.lconst 0, 1) := dc_9 (dc_nn (k := 8) aJ9_floorDiv_f86c9_0 rfl)
theorem dJ9_floorDiv_f86c9_9 : decode cJ9_floorDiv_f86c9 9 = .ok (.lcmp, 1) := dc_148 (dc_nn (k := 9) aJ9_floorDiv_f86c9_0 rfl)
theorem dJ9_floorDiv_f86c9_10 : decode cJ9_floorDiv_f86c9 10 = .ok (.ifCond .ge 17, 3) := dc_156 (a0 := 0) (b0 := 17) (dc_nn (k := 10) aJ9_floorDiv_f86c9_0 rfl) (by decide)
theorem dJ9_floorDiv_f86c9_13 : decode cJ9_floorDiv_f86c9 13 = .ok (.lload 4, 2) := dc_22 (a0 := 4) (dc_nn (k := 13) aJ9_floorDiv_f86c9_0 rfl)
theorem dJ9_floorDiv_f86c9_15 : decode cJ9_floorDiv_f86c9 15 = .ok (.lload_n 2, 1) := dc_32 (dc_nn (k := 15) aJ9_floorDiv_f86c9_0 rfl)
theorem dJ9_floorDiv_f86c9_16 : decode cJ9_floorDiv_f86c9 16 = .ok (.lmul, 1) := dc_105 (dc_nn (k := 16) aJ9_floorDiv_f86c9_0 rfl)
theorem dJ9_floorDiv_f86c9_17 : decode cJ9_floorDiv_f86c9 17 = .ok (.lload_n 0, 1) := dc_30 (dc_nn (k := 17) aJ9_floorDiv_f86c9_0 rfl)
theorem dJ9_floorDiv_f86c9_18 : decode cJ9_floorDiv_f86c9 18 = .ok (.lcmp, 1) := dc_148 (dc_nn (k := 18) aJ9_floorDiv_f86c9_0 rfl)
theorem dJ9_floorDiv_f86c9_19 : decode cJ9_floorDiv_f86c9 19 = .ok (.ifCond .eq 8, 3) := dc_153 (a0 := 0) (b0 := 8) (dc_nn (k := 19) aJ9_floorDiv_f86c9_0 rfl) (by decide)
theorem dJ9_floorDiv_f86c9_22 : decode cJ9_floorDiv_f86c9 22 = .ok (.lload 4, 2) := dc_22 (a0 := 4) (dc_nn (k := 22) aJ9_floorDiv_f86c9_0 rfl)
theorem dJ9_floorDiv_f86c9_24 : decode cJ9_floorDiv_f86c9 24 = .ok (.lconst 1, 1) := dc_10 (dc_nn (k := 24) aJ9_floorDiv_f86c9_0 rfl)
theorem dJ9_floorDiv_f86c9_25 : decode cJ9_floorDiv_f86c9 25 = .ok (.lsub, 1) := dc_101 (dc_nn (k := 25) aJ9_floorDiv_f86c9_0 rfl)
theorem dJ9_floorDiv_f86c9_26 : decode cJ9_floorDiv_f86c9 26 = .ok (.lreturn, 1) := dc_173 (dc_nn (k := 26) aJ9_floorDiv_f86c9_0 rfl)
theorem dJ9_floorDiv_f86c9_27 : decode cJ9_floorDiv_f86c9 27 = .ok (.lload 4, 2) := dc_22 (a0 := 4) (dc_nn (k := 27) aJ9_floorDiv_f86c9_0 rfl)
theorem dJ9_floorDiv_f86c9_29 : decode cJ9_floorDiv_f86c9 29 = .ok (.lreturn, 1) := dc_173 (dc_nn (k := 29) aJ9_floorDiv_f86c9_0 rfl)
noncomputable def sJ9_floorMod_7cf53_0 : List Nat := 26 :: 27 :: 112 :: 61 :: 26 :: 27 :: 130 :: 156 :: 0 :: 11 :: 28 :: 153 :: 0 :: 7 :: 28 :: 27 :: 96 :: 172 :: 28 :: 172 :: []
theorem aJ9_floorMod_7cf53_0 : dc_at cJ9_floorMod_7cf53 0 sJ9_floorMod_7cf53_0 := dc_base (by decide +kernel)
theorem dJ9_floorMod_7cf53_0 : decode cJ9_floorMod_7cf53 0 = .ok (.iload_n 0, 1) := dc_26 aJ9_floorMod_7cf53_0
theorem dJ9_floorMod_7cf53_1 : decode cJ9_floorMod_7cf53 1 = .ok (.iload_n 1, 1) := dc_27 (dc_nn (k := 1) aJ9_floorMod_7cf53_0 rfl)
theorem dJ9_floorMod_7cf53_2 : decode cJ9_floorMod_7cf53 2 = .ok (.irem, 1) := dc_112 (dc_nn (k := 2) aJ9_floorMod_7cf53_0 rfl)
theorem dJ9_floorMod_7cf53_3 : decode cJ9_floorMod_7cf53 3 = .ok (.istore_n 2, 1) := dc_61 (dc_nn (k := 3) aJ9_floorMod_7cf53_0 rfl)
theorem dJ9_floorMod_7cf53_4 : decode cJ9_floorMod_7cf53 4 = .ok (.iload_n 0, 1) := dc_26 (dc_nn (k := 4) aJ9_floorMod_7cf53_0 rfl)
theorem dJ9_floorMod_7cf53_5 : decode cJ9_floorMod_7cf53 5 = .ok (.iload_n 1, 1) := dc_27 (dc_nn (k := 5) aJ9_floorMod_7cf53_0 rfl)
theorem dJ9_floorMod_7cf53_6 : decode cJ9_floorMod_7cf53 6 = .ok (.ixor, 1) := dc_130 (dc_nn (k := 6) aJ9_floorMod_7cf53_0 rfl)
theorem dJ9_floorMod_7cf53_7 : decode cJ9_floorMod_7cf53 7 = .ok (.ifCond .ge 11, 3) := dc_156 (a0 := 0) (b0 := 11) (dc_nn (k := 7) aJ9_floorMod_7cf53_0 rfl) (by decide)
theorem dJ9_floorMod_7cf53_10 : decode cJ9_floorMod_7cf53 10 = .ok (.iload_n 2, 1) := dc_28 (dc_nn (k := 10) aJ9_floorMod_7cf53_0 rfl)
theorem dJ9_floorMod_7cf53_11 : decode cJ9_floorMod_7cf53 11 = .ok (.ifCond .eq 7, 3) := dc_153 (a0 := 0) (b0 := 7) (dc_nn (k := 11) aJ9_floorMod_7cf53_0 rfl) (by decide)
theorem dJ9_floorMod_7cf53_14 : decode cJ9_floorMod_7cf53 14 = .ok (.iload_n 2, 1) := dc_28 (dc_nn (k := 14) aJ9_floorMod_7cf53_0 rfl)
theorem dJ9_floorMod_7cf53_15 : decode cJ9_floorMod_7cf53 15 = .ok (.iload_n 1, 1) := dc_27 (dc_nn (k := 15) aJ9_floorMod_7cf53_0 rfl)
theorem dJ9_floorMod_7cf53_16 : decode cJ9_floorMod_7cf53 16 = .ok (.iadd, 1) := dc_96 (dc_nn (k := 16) aJ9_floorMod_7cf53_0 rfl)
theorem dJ9_floorMod_7cf53_17 : decode cJ9_floorMod_7cf53 17 = .ok (.ireturn, 1) := dc_172 (dc_nn (k := 17) aJ9_floorMod_7cf53_0 rfl)
theorem dJ9_floorMod_7cf53_18 : decode cJ9_floorMod_7cf53 18 = .ok (.iload_n 2, 1) := dc_28 (dc_nn (k := 18) aJ9_floorMod_7cf53_0 rfl)
theorem dJ9_floorMod_7cf53_19 : decode cJ9_floorMod_7cf53 19 = .ok (.ireturn, 1) := dc_172 (dc_nn (k := 19) aJ9_floorMod_7cf53_0 rfl)
noncomputable def sJ9_floorMod_f86c9_0 : List Nat := 30 :: 32 :: 113 :: 55 :: 4 :: 30 :: 32 :: 131 :: 9 :: 148 :: 156 :: 0 :: 15 :: 22 :: 4 :: 9 :: 148 :: 153 :: 0 :: 8 :: 22 :: 4 :: 32 :: 97 :: 173 :: 22 :: 4 :: 173 :: []
theorem aJ9_floorMod_f86c9_0 : dc_at cJ9_floorMod_f86c9 0 sJ9_floorMod_f86c9_0 := dc_base (by decide +kernel)
theorem dJ9_floorMod_f86c9_0 : decode cJ9_floorMod_f86c9 0 = .ok (.lload_n 0, 1) := dc_30 aJ9_floorMod_f86c9_0
theorem dJ9_floorMod_f86c9_1 : decode cJ9_floorMod_f86c9 1 = .ok (.lload_n 2, 1) := dc_32 (dc_nn (k := 1) aJ9_floorMod_f86c9_0 rfl)
theorem dJ9_floorMod_f86c9_2 : decode cJ9_floorMod_f86c9 2 = .ok (.lrem, 1) := dc_113 (dc_nn (k := 2) aJ9_floorMod_f86c9_0 rfl)
theorem dJ9_floorMod_f86c9_3 : decode cJ9_floorMod_f86c9 3 = .ok (.lstore 4, 2) := dc_55 (a0 := 4) (dc_nn (k := 3) aJ9_floorMod_f86c9_0 rfl)
theorem dJ9_floorMod_f86c9_5 : decode cJ9_floorMod_f86c9 5 = .ok (.lload_n 0, 1) := dc_30 (dc_nn (k := 5) aJ9_floorMod_f86c9_0 rfl)
theorem dJ9_floorMod_f86c9_6 : decode cJ9_floorMod_f86c9 6 = .ok (.lload_n 2, 1) := dc_32 (dc_nn (k := 6) aJ9_floorMod_f86c9_0 rfl)
theorem dJ9_floorMod_f86c9_7 : decode cJ9_floorMod_f86c9 7 = .ok (.lxor, 1) := dc_131 (dc_nn (k := 7) aJ9_floorMod_f86c9_0 rfl)
theorem dJ9_floorMod_f86c9_8 : decode cJ9_floorMod_f86c9 8 = .ok (.lconst 0, 1) := dc_9 (dc_nn (k := 8) aJ9_floorMod_f86c9_0 rfl)
theorem dJ9_floorMod_f86c9_9 : decode cJ9_floorMod_f86c9 9 = .ok (.lcmp, 1) := dc_148 (dc_nn (k := 9) aJ9_floorMod_f86c9_0 rfl)
theorem dJ9_floorMod_f86c9_10 : decode cJ9_floorMod_f86c9 10 = .ok (.ifCond .ge 15, 3) := dc_156 (a0 := 0) (b0 := 15) (dc_nn (k := 10) aJ9_floorMod_f86c9_0 rfl) (by decide)
theorem dJ9_floorMod_f86c9_13 : decode cJ9_floorMod_f86c9 13 = .ok (.lload 4, 2) := dc_22 (a0 := 4) (dc_nn (k := 13) aJ9_floorMod_f86c9_0 rfl)
theorem dJ9_floorMod_f86c9_15 : decode cJ9_floorMod_f86c9 15 = .ok (.lconst 0, 1) := dc_9 (dc_nn (k := 15) aJ9_floorMod_f86c9_0 rfl)
theorem dJ9_floorMod_f86c9_16 : decode cJ9_floorMod_f86c9 16 = .ok (.lcmp, 1) := dc_148 (dc_nn (k := 16) aJ9_floorMod_f86c9_0 rfl)
theorem dJ9_floorMod_f86c9_17 : decode cJ9_floorMod_f86c9 17 = .ok (.ifCond .eq 8, 3) := dc_153 (a0 := 0) (b0 := 8) (dc_nn (k := 17) aJ9_floorMod_f86c9_0 rfl) (by decide)
theorem dJ9_floorMod_f86c9_20 : decode cJ9_floorMod_f86c9 20 = .ok (.lload 4, 2) := dc_22 (a0 := 4) (dc_nn (k := 20) aJ9_floorMod_f86c9_0 rfl)
theorem dJ9_floorMod_f86c9_22 : decode cJ9_floorMod_f86c9 22 = .ok (.lload_n 2, 1) := dc_32 (dc_nn (k := 22) aJ9_floorMod_f86c9_0 rfl)
theorem dJ9_floorMod_f86c9_23 : decode cJ9_floorMod_f86c9 23 = .ok (.ladd, 1) := dc_97 (dc_nn (k := 23) aJ9_floorMod_f86c9_0 rfl)
theorem dJ9_floorMod_f86c9_24 : decode cJ9_floorMod_f86c9 24 = .ok (.lreturn, 1) := dc_173 (dc_nn (k := 24) aJ9_floorMod_f86c9_0 rfl)
theorem dJ9_floorMod_f86c9_25 : decode cJ9_floorMod_f86c9 25 = .ok (.lload 4, 2) := dc_22 (a0 := 4) (dc_nn (k := 25) aJ9_floorMod_f86c9_0 rfl)
theorem dJ9_floorMod_f86c9_27 : decode cJ9_floorMod_f86c9 27 = .ok (.lreturn, 1) := dc_173 (dc_nn (k := 27) aJ9_floorMod_f86c9_0 rfl)
noncomputable def sJ9_abs_0f7a4_0 : List Nat := 26 :: 156 :: 0 :: 8 :: 26 :: 116 :: 167 :: 0 :: 4 :: 26 :: 172 :: []
theorem aJ9_abs_0f7a4_0 : dc_at cJ9_abs_0f7a4 0 sJ9_abs_0f7a4_0 := dc_base (by decide +kernel)
theorem dJ9_abs_0f7a4_0 : decode cJ9_abs_0f7a4 0 = .ok (.iload_n 0, 1) := dc_26 aJ9_abs_0f7a4_0
theorem dJ9_abs_0f7a4_1 : decode cJ9_abs_0f7a4 1 = .ok (.ifCond .ge 8, 3) := dc_156 (a0 := 0) (b0 := 8) (dc_nn (k := 1) aJ9_abs_0f7a4_0 rfl) (by decide)
theorem dJ9_abs_0f7a4_4 : decode cJ9_abs_0f7a4 4 = .ok (.iload_n 0, 1) := dc_26 (dc_nn (k := 4) aJ9_abs_0f7a4_0 rfl)
theorem dJ9_abs_0f7a4_5 : decode cJ9_abs_0f7a4 5 = .ok (.ineg, 1) := dc_116 (dc_nn (k := 5) aJ9_abs_0f7a4_0 rfl)
theorem dJ9_abs_0f7a4_6 : decode cJ9_abs_0f7a4 6 = .ok (.goto 4, 3) := dc_167 (a0 := 0) (b0 := 4) (dc_nn (k := 6) aJ9_abs_0f7a4_0 rfl) (by decide)
theorem dJ9_abs_0f7a4_9 : decode cJ9_abs_0f7a4 9 = .ok (.iload_n 0, 1) := dc_26 (dc_nn (k := 9) aJ9_abs_0f7a4_0 rfl)
theorem dJ9_abs_0f7a4_10 : decode cJ9_abs_0f7a4 10 = .ok (.ireturn, 1) := dc_172 (dc_nn (k := 10) aJ9_abs_0f7a4_0 rfl)
noncomputable def sJ9_max_7cf53_0 : List Nat := 26 :: 27 :: 161 :: 0 :: 7 :: 26 :: 167 :: 0 :: 4 :: 27 :: 172 :: []
theorem aJ9_max_7cf53_0 : dc_at cJ9_max_7cf53 0 sJ9_max_7cf53_0 := dc_base (by decide +kernel)
theorem dJ9_max_7cf53_0 : decode cJ9_max_7cf53 0 = .ok (.iload_n 0, 1) := dc_26 aJ9_max_7cf53_0
theorem dJ9_max_7cf53_1 : decode cJ9_max_7cf53 1 = .ok (.iload_n 1, 1) := dc_27 (dc_nn (k := 1) aJ9_max_7cf53_0 rfl)
theorem dJ9_max_7cf53_2 : decode cJ9_max_7cf53 2 = .ok (.if_icmp .lt 7, 3) := dc_161 (a0 := 0) (b0 := 7) (dc_nn (k := 2) aJ9_max_7cf53_0 rfl) (by decide)
theorem dJ9_max_7cf53_5 : decode cJ9_max_7cf53 5 = .ok (.iload_n 0, 1) := dc_26 (dc_nn (k := 5) aJ9_max_7cf53_0 rfl)
theorem dJ9_max_7cf53_6 : decode cJ9_max_7cf53 6 = .ok (.goto 4, 3) := dc_167 (a0 := 0) (b0 := 4) (dc_nn (k := 6) aJ9_max_7cf53_0 rfl) (by decide)
theorem dJ9_max_7cf53_9 : decode cJ9_max_7cf53 9 = .ok (.iload_n 1, 1) := dc_27 (dc_nn (k := 9) aJ9_max_7cf53_0 rfl)
theorem dJ9_max_7cf53_10 : decode cJ9_max_7cf53 10 = .ok (.ireturn, 1) := dc_172 (dc_nn (k := 10) aJ9_max_7cf53_0 rfl)
noncomputable def sJ9_min_7cf53_0 : List Nat := 26 :: 27 :: 163 :: 0 :: 7 :: 26 :: 167 :: 0 :: 4 :: 27 :: 172 :: []
theorem aJ9_min_7cf53_0 : dc_at cJ9_min_7cf53 0 sJ9_min_7cf53_0 := dc_base (by decide +kernel)
theorem dJ9_min_7cf53_0 : decode cJ9_min_7cf53 0 = .ok (.iload_n 0, 1) := dc_26 aJ9_min_7cf53_0
theorem dJ9_min_7cf53_1 : decode cJ9_min_7cf53 1 = .ok (.iload_n 1, 1) := dc_27 (dc_nn (k := 1) aJ9_min_7cf53_0 rfl)
theorem dJ9_min_7cf53_2 : decode cJ9_min_7cf53 2 = .ok (.if_icmp .gt 7, 3) := dc_163 (a0 := 0) (b0 := 7) (dc_nn (k := 2) aJ9_min_7cf53_0 rfl) (by decide)
theorem dJ9_min_7cf53_5 : decode cJ9_min_7cf53 5 = .ok (.iload_n 0, 1) := dc_26 (dc_nn (k := 5) aJ9_min_7cf53_0 rfl)
theorem dJ9_min_7cf53_6 : decode cJ9_min_7cf53 6 = .ok (.goto 4, 3) := dc_167 (a0 := 0) (b0 := 4) (dc_nn (k := 6) aJ9_min_7cf53_0 rfl) (by decide)
theorem dJ9_min_7cf53_9 : decode cJ9_min_7cf53 9 = .ok (.iload_n 1, 1) := dc_27 (dc_nn (k := 9) aJ9_min_7cf53_0 rfl)
theorem dJ9_min_7cf53_10 : decode cJ9_min_7cf53 10 = .ok (.ireturn, 1) := dc_172 (dc_nn (k := 10) aJ9_min_7cf53_0 rfl)
set_option maxRecDepth 20000 in
theorem ggJ0_length_8abf5_J0_coder_7d493 : GoodIn wsJ0_length_8abf5 wsJ0_coder_7d493 := goodIn_k _ [[6, 0, 0]] (by rfl) (by decide +kernel)
set_option maxRecDepth 20000 in
theorem gJ0_length_8abf5_J0_coder_7d493 : GoodIn wsJ0_length_8abf5 (wsV RJ0 335 RJ0 yJ0_coder_7d493 wsJ0_coder_7d493) := goodIn_app (goodIn_k _ [[2, 0, 0, 0]] (by rfl) (gw_V _ _ _ _)) ggJ0_length_8abf5_J0_coder_7d493
noncomputable def sJ0_length_8abf5_0 : List Nat := 42 :: 180 :: 0 :: 9 :: 190 :: 42 :: 182 :: 1 :: 79 :: 122 :: 172 :: []
theorem aJ0_length_8abf5_0 : dc_at cJ0_length_8abf5 0 sJ0_length_8abf5_0 := dc_base (by decide +kernel)
theorem dJ0_length_8abf5_0 : decode cJ0_length_8abf5 0 = .ok (.aload_n 0, 1) := dc_42 aJ0_length_8abf5_0
theorem dJ0_length_8abf5_1 : decode cJ0_length_8abf5 1 = .ok (.getfield 9, 3) := dc_180 (a0 := 0) (b0 := 9) (dc_nn (k := 1) aJ0_length_8abf5_0 rfl)
theorem dJ0_length_8abf5_4 : decode cJ0_length_8abf5 4 = .ok (.arraylength, 1) := dc_190 (dc_nn (k := 4) aJ0_length_8abf5_0 rfl)
theorem dJ0_length_8abf5_5 : decode cJ0_length_8abf5 5 = .ok (.aload_n 0, 1) := dc_42 (dc_nn (k := 5) aJ0_length_8abf5_0 rfl)
theorem dJ0_length_8abf5_6 : decode cJ0_length_8abf5 6 = .ok (.invokevirtual 335, 3) := dc_182 (a0 := 1) (b0 := 79) (dc_nn (k := 6) aJ0_length_8abf5_0 rfl)
theorem dJ0_length_8abf5_9 : decode cJ0_length_8abf5 9 = .ok (.ishr, 1) := dc_122 (dc_nn (k := 9) aJ0_length_8abf5_0 rfl)
theorem dJ0_length_8abf5_10 : decode cJ0_length_8abf5 10 = .ok (.ireturn, 1) := dc_172 (dc_nn (k := 10) aJ0_length_8abf5_0 rfl)
set_option maxRecDepth 20000 in
theorem ggJ0_charAt_5068e_J0_isLatin1_aae02 : GoodIn wsJ0_charAt_5068e wsJ0_isLatin1_aae02 := goodIn_k _ [[6, 0, 0]] (by rfl) (by decide +kernel)
set_option maxRecDepth 20000 in
theorem gJ0_charAt_5068e_J0_isLatin1_aae02 : GoodIn wsJ0_charAt_5068e (wsV RJ0 492 RJ0 yJ0_isLatin1_aae02 wsJ0_isLatin1_aae02) := goodIn_app (goodIn_k _ [[2, 0, 0, 0]] (by rfl) (gw_V _ _ _ _)) ggJ0_charAt_5068e_J0_isLatin1_aae02
set_option maxRecDepth 20000 in
theorem ggJ0_charAt_5068e_J1_charAt_3b067 : GoodIn wsJ0_charAt_5068e wsJ1_charAt_3b067 := goodIn_k _ [[12, 0, 0], [5, 9, 0, 0, 0, 0, 0]] (by rfl) (by decide +kernel)
set_option maxRecDepth 20000 in
theorem gJ0_charAt_5068e_J1_charAt_3b067 : GoodIn wsJ0_charAt_5068e (va_wsS RJ0 495 yJ1_charAt_3b067 wsJ1_charAt_3b067) := goodIn_app (goodIn_k _ [[9, 0, 0]] (by rfl) (gw_S _ _ _ _)) ggJ0_charAt_5068e_J1_charAt_3b067
set_option maxRecDepth 20000 in
theorem ggJ0_charAt_5068e_J2_charAt_3b067 : GoodIn wsJ0_charAt_5068e wsJ2_charAt_3b067 := goodIn_k _ [[24, 0, 0], [23, 3, 0, 0, 0, 0], [14], [5, 9, 0, 0, 0, 0, 0, 11, 0, 0, 0, 0, 0]] (by rfl) (by decide +kernel)
set_option maxRecDepth 20000 in
theorem gJ0_charAt_5068e_J2_charAt_3b067 : GoodIn wsJ0_charAt_5068e (va_wsS RJ0 498 yJ2_charAt_3b067 wsJ2_charAt_3b067) := goodIn_app (goodIn_k _ [[21, 0, 0]] (by rfl) (gw_S _ _ _ _)) ggJ0_charAt_5068e_J2_charAt_3b067
noncomputable def sJ0_charAt_5068e_0 : List Nat := 42 :: 182 :: 1 :: 236 :: 153 :: 0 :: 12 :: 42 :: 180 :: 0 :: 9 :: 27 :: 184 :: 1 :: 239 :: 172 :: 42 :: 180 :: 0 :: 9 :: 27 :: 184 :: 1 :: 242 :: 172 :: []
theorem aJ0_charAt_5068e_0 : dc_at cJ0_charAt_5068e 0 sJ0_charAt_5068e_0 := dc_base (by decide +kernel)
theorem dJ0_charAt_5068e_0 : decode cJ0_charAt_5068e 0 = .ok (.aload_n 0, 1) := dc_42 aJ0_charAt_5068e_0
theorem dJ0_charAt_5068e_1 : decode cJ0_charAt_5068e 1 = .ok (.invokevirtual 492, 3) := dc_182 (a0 := 1) (b0 := 236) (dc_nn (k := 1) aJ0_charAt_5068e_0 rfl)
theorem dJ0_charAt_5068e_4 : decode cJ0_charAt_5068e 4 = .ok (.ifCond .eq 12, 3) := dc_153 (a0 := 0) (b0 := 12) (dc_nn (k := 4) aJ0_charAt_5068e_0 rfl) (by decide)
theorem dJ0_charAt_5068e_7 : decode cJ0_charAt_5068e 7 = .ok (.aload_n 0, 1) := dc_42 (dc_nn (k := 7) aJ0_charAt_5068e_0 rfl)
theorem dJ0_charAt_5068e_8 : decode cJ0_charAt_5068e 8 = .ok (.getfield 9, 3) := dc_180 (a0 := 0) (b0 := 9) (dc_nn (k := 8) aJ0_charAt_5068e_0 rfl)
theorem dJ0_charAt_5068e_11 : decode cJ0_charAt_5068e 11 = .ok (.iload_n 1, 1) := dc_27 (dc_nn (k := 11) aJ0_charAt_5068e_0 rfl)
theorem dJ0_charAt_5068e_12 : decode cJ0_charAt_5068e 12 = .ok (.invokestatic 495, 3) := dc_184 (a0 := 1) (b0 := 239) (dc_nn (k := 12) aJ0_charAt_5068e_0 rfl)
theorem dJ0_charAt_5068e_15 : decode cJ0_charAt_5068e 15 = .ok (.ireturn, 1) := dc_172 (dc_nn (k := 15) aJ0_charAt_5068e_0 rfl)
theorem dJ0_charAt_5068e_16 : decode cJ0_charAt_5068e 16 = .ok (.aload_n 0, 1) := dc_42 (dc_nn (k := 16) aJ0_charAt_5068e_0 rfl)
theorem dJ0_charAt_5068e_17 : decode cJ0_charAt_5068e 17 = .ok (.getfield 9, 3) := dc_180 (a0 := 0) (b0 := 9) (dc_nn (k := 17) aJ0_charAt_5068e_0 rfl)
theorem dJ0_charAt_5068e_20 : decode cJ0_charAt_5068e 20 = .ok (.iload_n 1, 1) := dc_27 (dc_nn (k := 20) aJ0_charAt_5068e_0 rfl)
theorem dJ0_charAt_5068e_21 : decode cJ0_charAt_5068e 21 = .ok (.invokestatic 498, 3) := dc_184 (a0 := 1) (b0 := 242) (dc_nn (k := 21) aJ0_charAt_5068e_0 rfl)
theorem dJ0_charAt_5068e_24 : decode cJ0_charAt_5068e 24 = .ok (.ireturn, 1) := dc_172 (dc_nn (k := 24) aJ0_charAt_5068e_0 rfl)
noncomputable def sJ0_coder_7d493_0 : List Nat := 178 :: 0 :: 38 :: 153 :: 0 :: 10 :: 42 :: 180 :: 0 :: 15 :: 167 :: 0 :: 4 :: 4 :: 172 :: []
theorem aJ0_coder_7d493_0 : dc_at cJ0_coder_7d493 0 sJ0_coder_7d493_0 := dc_base (by decide +kernel)
theorem dJ0_coder_7d493_0 : decode cJ0_coder_7d493 0 = .ok (.getstatic 38, 3) := dc_178 (a0 := 0) (b0 := 38) aJ0_coder_7d493_0
theorem dJ0_coder_7d493_3 : decode cJ0_coder_7d493 3 = .ok (.ifCond .eq 10, 3) := dc_153 (a0 := 0) (b0 := 10) (dc_nn (k := 3) aJ0_coder_7d493_0 rfl) (by decide)
theorem dJ0_coder_7d493_6 : decode cJ0_coder_7d493 6 = .ok (.aload_n 0, 1) := dc_42 (dc_nn (k := 6) aJ0_coder_7d493_0 rfl)
theorem dJ0_coder_7d493_7 : decode cJ0_coder_7d493 7 = .ok (.getfield 15, 3) := dc_180 (a0 := 0) (b0 := 15) (dc_nn (k := 7) aJ0_coder_7d493_0 rfl)
theorem dJ0_coder_7d493_10 : decode cJ0_coder_7d493 10 = .ok (.goto 4, 3) := dc_167 (a0 := 0) (b0 := 4) (dc_nn (k := 10) aJ0_coder_7d493_0 rfl) (by decide)
theorem dJ0_coder_7d493_13 : decode cJ0_coder_7d493 13 = .ok (.iconst 1, 1) := dc_4 (dc_nn (k := 13) aJ0_coder_7d493_0 rfl)
theorem dJ0_coder_7d493_14 : decode cJ0_coder_7d493 14 = .ok (.ireturn, 1) := dc_172 (dc_nn (k := 14) aJ0_coder_7d493_0 rfl)
noncomputable def sJ0_isLatin1_aae02_0 : List Nat := 178 :: 0 :: 38 :: 153 :: 0 :: 14 :: 42 :: 180 :: 0 :: 15 :: 154 :: 0 :: 7 :: 4 :: 167 :: 0 :: 4 :: 3 :: 172 :: []
theorem aJ0_isLatin1_aae02_0 : dc_at cJ0_isLatin1_aae02 0 sJ0_isLatin1_aae02_0 := dc_base (by decide +kernel)
theorem dJ0_isLatin1_aae02_0 : decode cJ0_isLatin1_aae02 0 = .ok (.getstatic 38, 3) := dc_178 (a0 := 0) (b0 := 38) aJ0_isLatin1_aae02_0
theorem dJ0_isLatin1_aae02_3 : decode cJ0_isLatin1_aae02 3 = .ok (.ifCond .eq 14, 3) := dc_153 (a0 := 0) (b0 := 14) (dc_nn (k := 3) aJ0_isLatin1_aae02_0 rfl) (by decide)
theorem dJ0_isLatin1_aae02_6 : decode cJ0_isLatin1_aae02 6 = .ok (.aload_n 0, 1) := dc_42 (dc_nn (k := 6) aJ0_isLatin1_aae02_0 rfl)
theorem dJ0_isLatin1_aae02_7 : decode cJ0_isLatin1_aae02 7 = .ok (.getfield 15, 3) := dc_180 (a0 := 0) (b0 := 15) (dc_nn (k := 7) aJ0_isLatin1_aae02_0 rfl)
theorem dJ0_isLatin1_aae02_10 : decode cJ0_isLatin1_aae02 10 = .ok (.ifCond .ne 7, 3) := dc_154 (a0 := 0) (b0 := 7) (dc_nn (k := 10) aJ0_isLatin1_aae02_0 rfl) (by decide)
theorem dJ0_isLatin1_aae02_13 : decode cJ0_isLatin1_aae02 13 = .ok (.iconst 1, 1) := dc_4 (dc_nn (k := 13) aJ0_isLatin1_aae02_0 rfl)
theorem dJ0_isLatin1_aae02_14 : decode cJ0_isLatin1_aae02 14 = .ok (.goto 4, 3) := dc_167 (a0 := 0) (b0 := 4) (dc_nn (k := 14) aJ0_isLatin1_aae02_0 rfl) (by decide)
theorem dJ0_isLatin1_aae02_17 : decode cJ0_isLatin1_aae02 17 = .ok (.iconst 0, 1) := dc_3 (dc_nn (k := 17) aJ0_isLatin1_aae02_0 rfl)
theorem dJ0_isLatin1_aae02_18 : decode cJ0_isLatin1_aae02 18 = .ok (.ireturn, 1) := dc_172 (dc_nn (k := 18) aJ0_isLatin1_aae02_0 rfl)
set_option maxRecDepth 20000 in
theorem ggJ0_checkIndex_df160_J3_checkIndex_8e157 : GoodIn wsJ0_checkIndex_df160 wsJ3_checkIndex_8e157 := goodIn_k _ [[5]] (by rfl) (by decide +kernel)
set_option maxRecDepth 20000 in
theorem gJ0_checkIndex_df160_J3_checkIndex_8e157 : GoodIn wsJ0_checkIndex_df160 (va_wsS RJ0 1059 yJ3_checkIndex_8e157 wsJ3_checkIndex_8e157) := goodIn_app (goodIn_k _ [[2, 0, 0]] (by rfl) (gw_S _ _ _ _)) ggJ0_checkIndex_df160_J3_checkIndex_8e157
noncomputable def sJ0_checkIndex_df160_0 : List Nat := 26 :: 27 :: 178 :: 4 :: 29 :: 184 :: 4 :: 35 :: 87 :: 177 :: []
theorem aJ0_checkIndex_df160_0 : dc_at cJ0_checkIndex_df160 0 sJ0_checkIndex_df160_0 := dc_base (by decide +kernel)
theorem dJ0_checkIndex_df160_0 : decode cJ0_checkIndex_df160 0 = .ok (.iload_n 0, 1) := dc_26 aJ0_checkIndex_df160_0
theorem dJ0_checkIndex_df160_1 : decode cJ0_checkIndex_df160 1 = .ok (.iload_n 1, 1) := dc_27 (dc_nn (k := 1) aJ0_checkIndex_df160_0 rfl)
theorem dJ0_checkIndex_df160_2 : decode cJ0_checkIndex_df160 2 = .ok (.getstatic 1053, 3) := dc_178 (a0 := 4) (b0 := 29) (dc_nn (k := 2) aJ0_checkIndex_df160_0 rfl)
theorem dJ0_checkIndex_df160_5 : decode cJ0_checkIndex_df160 5 = .ok (.invokestatic 1059, 3) := dc_184 (a0 := 4) (b0 := 35) (dc_nn (k := 5) aJ0_checkIndex_df160_0 rfl)
theorem dJ0_checkIndex_df160_8 : decode cJ0_checkIndex_df160 8 = .ok (.pop, 1) := dc_87 (dc_nn (k := 8) aJ0_checkIndex_df160_0 rfl)
theorem dJ0_checkIndex_df160_9 : decode cJ0_checkIndex_df160 9 = .ok (.return_, 1) := dc_177 (dc_nn (k := 9) aJ0_checkIndex_df160_0 rfl)
set_option maxRecDepth 20000 in
theorem ggJ1_charAt_3b067_J0_checkIndex_df160 : GoodIn wsJ1_charAt_3b067 wsJ0_checkIndex_df160 := goodIn_k _ [[4, 0, 0, 0, 0, 0]] (by rfl) (by decide +kernel)
set_option maxRecDepth 20000 in
theorem gJ1_charAt_3b067_J0_checkIndex_df160 : GoodIn wsJ1_charAt_3b067 (va_wsS RJ1 9 yJ0_checkIndex_df160 wsJ0_checkIndex_df160) := goodIn_app (goodIn_k _ [[1, 0, 0]] (by rfl) (gw_S _ _ _ _)) ggJ1_charAt_3b067_J0_checkIndex_df160
noncomputable def sJ1_charAt_3b067_0 : List Nat := 27 :: 42 :: 190 :: 184 :: 0 :: 9 :: 42 :: 27 :: 51 :: 17 :: 0 :: 255 :: 126 :: 146 :: 172 :: []
theorem aJ1_charAt_3b067_0 : dc_at cJ1_charAt_3b067 0 sJ1_charAt_3b067_0 := dc_base (by decide +kernel)
theorem dJ1_charAt_3b067_0 : decode cJ1_charAt_3b067 0 = .ok (.iload_n 1, 1) := dc_27 aJ1_charAt_3b067_0
theorem dJ1_charAt_3b067_1 : decode cJ1_charAt_3b067 1 = .ok (.aload_n 0, 1) := dc_42 (dc_nn (k := 1) aJ1_charAt_3b067_0 rfl)
theorem dJ1_charAt_3b067_2 : decode cJ1_charAt_3b067 2 = .ok (.arraylength, 1) := dc_190 (dc_nn (k := 2) aJ1_charAt_3b067_0 rfl)
theorem dJ1_charAt_3b067_3 : decode cJ1_charAt_3b067 3 = .ok (.invokestatic 9, 3) := dc_184 (a0 := 0) (b0 := 9) (dc_nn (k := 3) aJ1_charAt_3b067_0 rfl)
theorem dJ1_charAt_3b067_6 : decode cJ1_charAt_3b067 6 = .ok (.aload_n 0, 1) := dc_42 (dc_nn (k := 6) aJ1_charAt_3b067_0 rfl)
theorem dJ1_charAt_3b067_7 : decode cJ1_charAt_3b067 7 = .ok (.iload_n 1, 1) := dc_27 (dc_nn (k := 7) aJ1_charAt_3b067_0 rfl)
theorem dJ1_charAt_3b067_8 : decode cJ1_charAt_3b067 8 = .ok (.baload, 1) := dc_51 (dc_nn (k := 8) aJ1_charAt_3b067_0 rfl)
theorem dJ1_charAt_3b067_9 : decode cJ1_charAt_3b067 9 = .ok (.sipush 255, 3) := dc_17 (a0 := 0) (b0 := 255) (dc_nn (k := 9) aJ1_charAt_3b067_0 rfl) (by decide)
theorem dJ1_charAt_3b067_12 : decode cJ1_charAt_3b067 12 = .ok (.iand, 1) := dc_126 (dc_nn (k := 12) aJ1_charAt_3b067_0 rfl)
theorem dJ1_charAt_3b067_13 : decode cJ1_charAt_3b067 13 = .ok (.i2c, 1) := dc_146 (dc_nn (k := 13) aJ1_charAt_3b067_0 rfl)
theorem dJ1_charAt_3b067_14 : decode cJ1_charAt_3b067 14 = .ok (.ireturn, 1) := dc_172 (dc_nn (k := 14) aJ1_charAt_3b067_0 rfl)
set_option maxRecDepth 20000 in
theorem ggJ2_getChar_3b067_J2_length_9d52b : GoodIn wsJ2_getChar_3b067 wsJ2_length_9d52b := goodIn_k _ [[7]] (by rfl) (by decide +kernel)
set_option maxRecDepth 20000 in
theorem gJ2_getChar_3b067_J2_length_9d52b : GoodIn wsJ2_getChar_3b067 (va_wsS RJ2 48 yJ2_length_9d52b wsJ2_length_9d52b) := goodIn_app (goodIn_k _ [[4, 0, 0]] (by rfl) (gw_S _ _ _ _)) ggJ2_getChar_3b067_J2_length_9d52b
noncomputable def sJ2_getChar_3b067_41 : List Nat := 126 :: 178 :: 0 :: 59 :: 120 :: 42 :: 27 :: 51 :: 17 :: 0 :: 255 :: 126 :: 178 :: 0 :: 63 :: 120 :: 128 :: 146 :: 172 :: []
noncomputable def sJ2_getChar_3b067_0 : List Nat := 178 :: 0 :: 44 :: 154 :: 0 :: 25 :: 27 :: 155 :: 0 :: 11 :: 27 :: 42 :: 184 :: 0 :: 48 :: 161 :: 0 :: 13 :: 187 :: 0 :: 52 :: 89 :: 18 :: 54 :: 183 :: 0 :: 56 :: 191 :: 27 :: 4 :: 120 :: 60 :: 42 :: 27 :: 132 :: 1 :: 1 :: 51 :: 17 :: 0 :: 255 :: sJ2_getChar_3b067_41
theorem aJ2_getChar_3b067_0 : dc_at cJ2_getChar_3b067 0 sJ2_getChar_3b067_0 := dc_base (by decide +kernel)
theorem aJ2_getChar_3b067_41 : dc_at cJ2_getChar_3b067 41 sJ2_getChar_3b067_41 := dc_nn (k := 41) aJ2_getChar_3b067_0 rfl
theorem dJ2_getChar_3b067_0 : decode cJ2_getChar_3b067 0 = .ok (.getstatic 44, 3) := dc_178 (a0 := 0) (b0 := 44) aJ2_getChar_3b067_0
theorem dJ2_getChar_3b067_3 : decode cJ2_getChar_3b067 3 = .ok (.ifCond .ne 25, 3) := dc_154 (a0 := 0) (b0 := 25) (dc_nn (k := 3) aJ2_getChar_3b067_0 rfl) (by decide)
theorem dJ2_getChar_3b067_6 : decode cJ2_getChar_3b067 6 = .ok (.iload_n 1, 1) := dc_27 (dc_nn (k := 6) aJ2_getChar_3b067_0 rfl)
theorem dJ2_getChar_3b067_7 : decode cJ2_getChar_3b067 7 = .ok (.ifCond .lt 11, 3) := dc_155 (a0 := 0) (b0 := 11) (dc_nn (k := 7) aJ2_getChar_3b067_0 rfl) (by decide)
theorem dJ2_getChar_3b067_10 : decode cJ2_getChar_3b067 10 = .ok (.iload_n 1, 1) := dc_27 (dc_nn (k := 10) aJ2_getChar_3b067_0 rfl)
theorem dJ2_getChar_3b067_11 : decode cJ2_getChar_3b067 11 = .ok (.aload_n 0, 1) := dc_42 (dc_nn (k := 11) aJ2_getChar_3b067_0 rfl)
theorem dJ2_getChar_3b067_12 : decode cJ2_getChar_3b067 12 = .ok (.invokestatic 48, 3) := dc_184 (a0 := 0) (b0 := 48) (dc_nn (k := 12) aJ2_getChar_3b067_0 rfl)
theorem dJ2_getChar_3b067_15 : decode cJ2_getChar_3b067 15 = .ok (.if_icmp .lt 13, 3) := dc_161 (a0 := 0) (b0 := 13) (dc_nn (k := 15) aJ2_getChar_3b067_0 rfl) (by decide)
theorem dJ2_getChar_3b067_18 : decode cJ2_getChar_3b067 18 = .ok (.new 52, 3) := dc_187 (a0 := 0) (b0 := 52) (dc_nn (k := 18) aJ2_getChar_3b067_0 rfl)
theorem dJ2_getChar_3b067_21 : decode cJ2_getChar_3b067 21 = .ok (.dup, 1) := dc_89 (dc_nn (k := 21) aJ2_getChar_3b067_0 rfl)
theorem dJ2_getChar_3b067_22 : decode cJ2_getChar_3b067 22 = .ok (.ldc 54, 2) := dc_18 (a0 := 54) (dc_nn (k := 22) aJ2_getChar_3b067_0 rfl)
theorem dJ2_getChar_3b067_24 : decode cJ2_getChar_3b067 24 = .ok (.invokespecial 56, 3) := dc_183 (a0 := 0) (b0 := 56) (dc_nn (k := 24) aJ2_getChar_3b067_0 rfl)
theorem dJ2_getChar_3b067_27 : decode cJ2_getChar_3b067 27 = .ok (.athrow, 1) := dc_191 (dc_nn (k := 27) aJ2_getChar_3b067_0 rfl)
theorem dJ2_getChar_3b067_28 : decode cJ2_getChar_3b067 28 = .ok (.iload_n 1, 1) := dc_27 (dc_nn (k := 28) aJ2_getChar_3b067_0 rfl)
theorem dJ2_getChar_3b067_29 : decode cJ2_getChar_3b067 29 = .ok (.iconst 1, 1) := dc_4 (dc_nn (k := 29) aJ2_getChar_3b067_0 rfl)
theorem dJ2_getChar_3b067_30 : decode cJ2_getChar_3b067 30 = .ok (.ishl, 1) := dc_120 (dc_nn (k := 30) aJ2_getChar_3b067_0 rfl)
theorem dJ2_getChar_3b067_31 : decode cJ2_getChar_3b067 31 = .ok (.istore_n 1, 1) := dc_60 (dc_nn (k := 31) aJ2_getChar_3b067_0 rfl)
theorem dJ2_getChar_3b067_32 : decode cJ2_getChar_3b067 32 = .ok (.aload_n 0, 1) := dc_42 (dc_nn (k := 32) aJ2_getChar_3b067_0 rfl)
theorem dJ2_getChar_3b067_33 : decode cJ2_getChar_3b067 33 = .ok (.iload_n 1, 1) := dc_27 (dc_nn (k := 33) aJ2_getChar_3b067_0 rfl)
theorem dJ2_getChar_3b067_34 : decode cJ2_getChar_3b067 34 = .ok (.iinc 1 1, 3) := dc_132 (a0 := 1) (a1 := 1) (dc_nn (k := 34) aJ2_getChar_3b067_0 rfl) (by decide)
theorem dJ2_getChar_3b067_37 : decode cJ2_getChar_3b067 37 = .ok (.baload, 1) := dc_51 (dc_nn (k := 37) aJ2_getChar_3b067_0 rfl)
theorem dJ2_getChar_3b067_38 : decode cJ2_getChar_3b067 38 = .ok (.sipush 255, 3) := dc_17 (a0 := 0) (b0 := 255) (dc_nn (k := 38) aJ2_getChar_3b067_0 rfl) (by decide)
theorem dJ2_getChar_3b067_41 : decode cJ2_getChar_3b067 41 = .ok (.iand, 1) := dc_126 aJ2_getChar_3b067_41
theorem dJ2_getChar_3b067_42 : decode cJ2_getChar_3b067 42 = .ok (.getstatic 59, 3) := dc_178 (a0 := 0) (b0 := 59) (dc_nn (k := 1) aJ2_getChar_3b067_41 rfl)
theorem dJ2_getChar_3b067_45 : decode cJ2_getChar_3b067 45 = .ok (.ishl, 1) := dc_120 (dc_nn (k := 4) aJ2_getChar_3b067_41 rfl)
theorem dJ2_getChar_3b067_46 : decode cJ2_getChar_3b067 46 = .ok (.aload_n 0, 1) := dc_42 (dc_nn (k := 5) aJ2_getChar_3b067_41 rfl)
theorem dJ2_getChar_3b067_47 : decode cJ2_getChar_3b067 47 = .ok (.iload_n 1, 1) := dc_27 (dc_nn (k := 6) aJ2_getChar_3b067_41 rfl)
theorem dJ2_getChar_3b067_48 : decode cJ2_getChar_3b067 48 = .ok (.baload, 1) := dc_51 (dc_nn (k := 7) aJ2_getChar_3b067_41 rfl)
theorem dJ2_getChar_3b067_49 : decode cJ2_getChar_3b067 49 = .ok (.sipush 255, 3) := dc_17 (a0 := 0) (b0 := 255) (dc_nn (k := 8) aJ2_getChar_3b067_41 rfl) (by decide)
theorem dJ2_getChar_3b067_52 : decode cJ2_getChar_3b067 52 = .ok (.iand, 1) := dc_126 (dc_nn (k := 11) aJ2_getChar_3b067_41 rfl)
theorem dJ2_getChar_3b067_53 : decode cJ2_getChar_3b067 53 = .ok (.getstatic 63, 3) := dc_178 (a0 := 0) (b0 := 63) (dc_nn (k := 12) aJ2_getChar_3b067_41 rfl)
theorem dJ2_getChar_3b067_56 : decode cJ2_getChar_3b067 56 = .ok (.ishl, 1) := dc_120 (dc_nn (k := 15) aJ2_getChar_3b067_41 rfl)
theorem dJ2_getChar_3b067_57 : decode cJ2_getChar_3b067 57 = .ok (.ior, 1) := dc_128 (dc_nn (k := 16) aJ2_getChar_3b067_41 rfl)
theorem dJ2_getChar_3b067_58 : decode cJ2_getChar_3b067 58 = .ok (.i2c, 1) := dc_146 (dc_nn (k := 17) aJ2_getChar_3b067_41 rfl)
theorem dJ2_getChar_3b067_59 : decode cJ2_getChar_3b067 59 = .ok (.ireturn, 1) := dc_172 (dc_nn (k := 18) aJ2_getChar_3b067_41 rfl)
noncomputable def sJ2_length_9d52b_0 : List Nat := 42 :: 190 :: 4 :: 122 :: 172 :: []
theorem aJ2_length_9d52b_0 : dc_at cJ2_length_9d52b 0 sJ2_length_9d52b_0 := dc_base (by decide +kernel)
theorem dJ2_length_9d52b_0 : decode cJ2_length_9d52b 0 = .ok (.aload_n 0, 1) := dc_42 aJ2_length_9d52b_0
theorem dJ2_length_9d52b_1 : decode cJ2_length_9d52b 1 = .ok (.arraylength, 1) := dc_190 (dc_nn (k := 1) aJ2_length_9d52b_0 rfl)
theorem dJ2_length_9d52b_2 : decode cJ2_length_9d52b 2 = .ok (.iconst 1, 1) := dc_4 (dc_nn (k := 2) aJ2_length_9d52b_0 rfl)
theorem dJ2_length_9d52b_3 : decode cJ2_length_9d52b 3 = .ok (.ishr, 1) := dc_122 (dc_nn (k := 3) aJ2_length_9d52b_0 rfl)
theorem dJ2_length_9d52b_4 : decode cJ2_length_9d52b 4 = .ok (.ireturn, 1) := dc_172 (dc_nn (k := 4) aJ2_length_9d52b_0 rfl)
set_option maxRecDepth 20000 in
theorem ggJ2_charAt_3b067_J2_checkIndex_2214a : GoodIn wsJ2_charAt_3b067 wsJ2_checkIndex_2214a := goodIn_k _ [[4, 0, 0], [3, 3, 0, 0, 0, 0, 0, 0, 0, 0, 0]] (by rfl) (by decide +kernel)
set_option maxRecDepth 20000 in
theorem gJ2_charAt_3b067_J2_checkIndex_2214a : GoodIn wsJ2_charAt_3b067 (va_wsS RJ2 67 yJ2_checkIndex_2214a wsJ2_checkIndex_2214a) := goodIn_app (goodIn_k _ [[1, 0, 0]] (by rfl) (gw_S _ _ _ _)) ggJ2_charAt_3b067_J2_checkIndex_2214a
set_option maxRecDepth 20000 in
theorem ggJ2_charAt_3b067_J2_getChar_3b067 : GoodIn wsJ2_charAt_3b067 wsJ2_getChar_3b067 := goodIn_k _ [[19, 0, 0, 0], [5, 0], [3, 3]] (by rfl) (by decide +kernel)
set_option maxRecDepth 20000 in
theorem gJ2_charAt_3b067_J2_getChar_3b067 : GoodIn wsJ2_charAt_3b067 (va_wsS RJ2 71 yJ2_getChar_3b067 wsJ2_getChar_3b067) := goodIn_app (goodIn_k _ [[17, 0], [3]] (by rfl) (gw_S _ _ _ _)) ggJ2_charAt_3b067_J2_getChar_3b067
noncomputable def sJ2_charAt_3b067_0 : List Nat := 27 :: 42 :: 184 :: 0 :: 67 :: 42 :: 27 :: 184 :: 0 :: 71 :: 172 :: []
theorem aJ2_charAt_3b067_0 : dc_at cJ2_charAt_3b067 0 sJ2_charAt_3b067_0 := dc_base (by decide +kernel)
theorem dJ2_charAt_3b067_0 : decode cJ2_charAt_3b067 0 = .ok (.iload_n 1, 1) := dc_27 aJ2_charAt_3b067_0
theorem dJ2_charAt_3b067_1 : decode cJ2_charAt_3b067 1 = .ok (.aload_n 0, 1) := dc_42 (dc_nn (k := 1) aJ2_charAt_3b067_0 rfl)
theorem dJ2_charAt_3b067_2 : decode cJ2_charAt_3b067 2 = .ok (.invokestatic 67, 3) := dc_184 (a0 := 0) (b0 := 67) (dc_nn (k := 2) aJ2_charAt_3b067_0 rfl)
theorem dJ2_charAt_3b067_5 : decode cJ2_charAt_3b067 5 = .ok (.aload_n 0, 1) := dc_42 (dc_nn (k := 5) aJ2_charAt_3b067_0 rfl)
theorem dJ2_charAt_3b067_6 : decode cJ2_charAt_3b067 6 = .ok (.iload_n 1, 1) := dc_27 (dc_nn (k := 6) aJ2_charAt_3b067_0 rfl)
theorem dJ2_charAt_3b067_7 : decode cJ2_charAt_3b067 7 = .ok (.invokestatic 71, 3) := dc_184 (a0 := 0) (b0 := 71) (dc_nn (k := 7) aJ2_charAt_3b067_0 rfl)
theorem dJ2_charAt_3b067_10 : decode cJ2_charAt_3b067 10 = .ok (.ireturn, 1) := dc_172 (dc_nn (k := 10) aJ2_charAt_3b067_0 rfl)
set_option maxRecDepth 20000 in
theorem ggJ2_checkIndex_2214a_J2_length_9d52b : GoodIn wsJ2_checkIndex_2214a wsJ2_length_9d52b := goodIn_k _ [[4]] (by rfl) (by decide +kernel)
set_option maxRecDepth 20000 in
theorem gJ2_checkIndex_2214a_J2_length_9d52b : GoodIn wsJ2_checkIndex_2214a (va_wsS RJ2 48 yJ2_length_9d52b wsJ2_length_9d52b) := goodIn_app (goodIn_k _ [[1, 0, 0]] (by rfl) (gw_S _ _ _ _)) ggJ2_checkIndex_2214a_J2_length_9d52b
set_option maxRecDepth 20000 in
theorem ggJ2_checkIndex_2214a_J0_checkIndex_df160 : GoodIn wsJ2_checkIndex_2214a wsJ0_checkIndex_df160 := goodIn_k _ [[8, 0, 0, 0, 0, 0]] (by rfl) (by decide +kernel)
set_option maxRecDepth 20000 in
theorem gJ2_checkIndex_2214a_J0_checkIndex_df160 : GoodIn wsJ2_checkIndex_2214a (va_wsS RJ2 414 yJ0_checkIndex_df160 wsJ0_checkIndex_df160) := goodIn_app (goodIn_k _ [[5, 0, 0]] (by rfl) (gw_S _ _ _ _)) ggJ2_checkIndex_2214a_J0_checkIndex_df160
noncomputable def sJ2_checkIndex_2214a_0 : List Nat := 26 :: 43 :: 184 :: 0 :: 48 :: 184 :: 1 :: 158 :: 177 :: []
theorem aJ2_checkIndex_2214a_0 : dc_at cJ2_checkIndex_2214a 0 sJ2_checkIndex_2214a_0 := dc_base (by decide +kernel)
theorem dJ2_checkIndex_2214a_0 : decode cJ2_checkIndex_2214a 0 = .ok (.iload_n 0, 1) := dc_26 aJ2_checkIndex_2214a_0
theorem dJ2_checkIndex_2214a_1 : decode cJ2_checkIndex_2214a 1 = .ok (.aload_n 1, 1) := dc_43 (dc_nn (k := 1) aJ2_checkIndex_2214a_0 rfl)
theorem dJ2_checkIndex_2214a_2 : decode cJ2_checkIndex_2214a 2 = .ok (.invokestatic 48, 3) := dc_184 (a0 := 0) (b0 := 48) (dc_nn (k := 2) aJ2_checkIndex_2214a_0 rfl)
theorem dJ2_checkIndex_2214a_5 : decode cJ2_checkIndex_2214a 5 = .ok (.invokestatic 414, 3) := dc_184 (a0 := 1) (b0 := 158) (dc_nn (k := 5) aJ2_checkIndex_2214a_0 rfl)
theorem dJ2_checkIndex_2214a_8 : decode cJ2_checkIndex_2214a 8 = .ok (.return_, 1) := dc_177 (dc_nn (k := 8) aJ2_checkIndex_2214a_0 rfl)
noncomputable def sJ7_fill_53178_0 : List Nat := 3 :: 61 :: 42 :: 190 :: 62 :: 28 :: 29 :: 162 :: 0 :: 13 :: 42 :: 28 :: 27 :: 79 :: 132 :: 2 :: 1 :: 167 :: 255 :: 244 :: 177 :: []
theorem aJ7_fill_53178_0 : dc_at cJ7_fill_53178 0 sJ7_fill_53178_0 := dc_base (by decide +kernel)
theorem dJ7_fill_53178_0 : decode cJ7_fill_53178 0 = .ok (.iconst 0, 1) := dc_3 aJ7_fill_53178_0
theorem dJ7_fill_53178_1 : decode cJ7_fill_53178 1 = .ok (.istore_n 2, 1) := dc_61 (dc_nn (k := 1) aJ7_fill_53178_0 rfl)
theorem dJ7_fill_53178_2 : decode cJ7_fill_53178 2 = .ok (.aload_n 0, 1) := dc_42 (dc_nn (k := 2) aJ7_fill_53178_0 rfl)
theorem dJ7_fill_53178_3 : decode cJ7_fill_53178 3 = .ok (.arraylength, 1) := dc_190 (dc_nn (k := 3) aJ7_fill_53178_0 rfl)
theorem dJ7_fill_53178_4 : decode cJ7_fill_53178 4 = .ok (.istore_n 3, 1) := dc_62 (dc_nn (k := 4) aJ7_fill_53178_0 rfl)
theorem dJ7_fill_53178_5 : decode cJ7_fill_53178 5 = .ok (.iload_n 2, 1) := dc_28 (dc_nn (k := 5) aJ7_fill_53178_0 rfl)
theorem dJ7_fill_53178_6 : decode cJ7_fill_53178 6 = .ok (.iload_n 3, 1) := dc_29 (dc_nn (k := 6) aJ7_fill_53178_0 rfl)
theorem dJ7_fill_53178_7 : decode cJ7_fill_53178 7 = .ok (.if_icmp .ge 13, 3) := dc_162 (a0 := 0) (b0 := 13) (dc_nn (k := 7) aJ7_fill_53178_0 rfl) (by decide)
theorem dJ7_fill_53178_10 : decode cJ7_fill_53178 10 = .ok (.aload_n 0, 1) := dc_42 (dc_nn (k := 10) aJ7_fill_53178_0 rfl)
theorem dJ7_fill_53178_11 : decode cJ7_fill_53178 11 = .ok (.iload_n 2, 1) := dc_28 (dc_nn (k := 11) aJ7_fill_53178_0 rfl)
theorem dJ7_fill_53178_12 : decode cJ7_fill_53178 12 = .ok (.iload_n 1, 1) := dc_27 (dc_nn (k := 12) aJ7_fill_53178_0 rfl)
theorem dJ7_fill_53178_13 : decode cJ7_fill_53178 13 = .ok (.iastore, 1) := dc_79 (dc_nn (k := 13) aJ7_fill_53178_0 rfl)
theorem dJ7_fill_53178_14 : decode cJ7_fill_53178 14 = .ok (.iinc 2 1, 3) := dc_132 (a0 := 2) (a1 := 1) (dc_nn (k := 14) aJ7_fill_53178_0 rfl) (by decide)
theorem dJ7_fill_53178_17 : decode cJ7_fill_53178 17 = .ok (.goto (-12), 3) := dc_167 (a0 := 255) (b0 := 244) (dc_nn (k := 17) aJ7_fill_53178_0 rfl) (by decide)
theorem dJ7_fill_53178_20 : decode cJ7_fill_53178 20 = .ok (.return_, 1) := dc_177 (dc_nn (k := 20) aJ7_fill_53178_0 rfl)
noncomputable def sJ3_checkIndex_8e157_0 : List Nat := 26 :: 155 :: 0 :: 8 :: 26 :: 27 :: 161 :: 0 :: 10 :: 44 :: 26 :: 27 :: 184 :: 0 :: 95 :: 191 :: 26 :: 172 :: []
theorem aJ3_checkIndex_8e157_0 : dc_at cJ3_checkIndex_8e157 0 sJ3_checkIndex_8e157_0 := dc_base (by decide +kernel)
theorem dJ3_checkIndex_8e157_0 : decode cJ3_checkIndex_8e157 0 = .ok (.iload_n 0, 1) := dc_26 aJ3_checkIndex_8e157_0
theorem dJ3_checkIndex_8e157_1 : decode cJ3_checkIndex_8e157 1 = .ok (.ifCond .lt 8, 3) := dc_155 (a0 := 0) (b0 := 8) (dc_nn (k := 1) aJ3_checkIndex_8e157_0 rfl) (by decide)
theorem dJ3_checkIndex_8e157_4 : decode cJ3_checkIndex_8e157 4 = .ok (.iload_n 0, 1) := dc_26 (dc_nn (k := 4) aJ3_checkIndex_8e157_0 rfl)
theorem dJ3_checkIndex_8e157_5 : decode cJ3_checkIndex_8e157 5 = .ok (.iload_n 1, 1) := dc_27 (dc_nn (k := 5) aJ3_checkIndex_8e157_0 rfl)
theorem dJ3_checkIndex_8e157_6 : decode cJ3_checkIndex_8e157 6 = .ok (.if_icmp .lt 10, 3) := dc_161 (a0 := 0) (b0 := 10) (dc_nn (k := 6) aJ3_checkIndex_8e157_0 rfl) (by decide)
theorem dJ3_checkIndex_8e157_9 : decode cJ3_checkIndex_8e157 9 = .ok (.aload_n 2, 1) := dc_44 (dc_nn (k := 9) aJ3_checkIndex_8e157_0 rfl)
theorem dJ3_checkIndex_8e157_10 : decode cJ3_checkIndex_8e157 10 = .ok (.iload_n 0, 1) := dc_26 (dc_nn (k := 10) aJ3_checkIndex_8e157_0 rfl)
theorem dJ3_checkIndex_8e157_11 : decode cJ3_checkIndex_8e157 11 = .ok (.iload_n 1, 1) := dc_27 (dc_nn (k := 11) aJ3_checkIndex_8e157_0 rfl)
theorem dJ3_checkIndex_8e157_12 : decode cJ3_checkIndex_8e157 12 = .ok (.invokestatic 95, 3) := dc_184 (a0 := 0) (b0 := 95) (dc_nn (k := 12) aJ3_checkIndex_8e157_0 rfl)
theorem dJ3_checkIndex_8e157_15 : decode cJ3_checkIndex_8e157 15 = .ok (.athrow, 1) := dc_191 (dc_nn (k := 15) aJ3_checkIndex_8e157_0 rfl)
theorem dJ3_checkIndex_8e157_16 : decode cJ3_checkIndex_8e157 16 = .ok (.iload_n 0, 1) := dc_26 (dc_nn (k := 16) aJ3_checkIndex_8e157_0 rfl)
theorem dJ3_checkIndex_8e157_17 : decode cJ3_checkIndex_8e157 17 = .ok (.ireturn, 1) := dc_172 (dc_nn (k := 17) aJ3_checkIndex_8e157_0 rfl)
