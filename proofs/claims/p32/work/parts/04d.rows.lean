noncomputable def sJ6_bitCount_0f7a4_40 : List Nat := 59 :: 26 :: 26 :: 16 :: 16 :: 124 :: 96 :: 59 :: 26 :: 16 :: 63 :: 126 :: 172 :: []
noncomputable def sJ6_bitCount_0f7a4_0 : List Nat := 26 :: 26 :: 4 :: 124 :: 19 :: 1 :: 9 :: 126 :: 100 :: 59 :: 26 :: 19 :: 1 :: 10 :: 126 :: 26 :: 5 :: 124 :: 19 :: 1 :: 10 :: 126 :: 96 :: 59 :: 26 :: 26 :: 7 :: 124 :: 96 :: 19 :: 1 :: 11 :: 126 :: 59 :: 26 :: 26 :: 16 :: 8 :: 124 :: 96 :: sJ6_bitCount_0f7a4_40
theorem aJ6_bitCount_0f7a4_0 : dc_at cJ6_bitCount_0f7a4 0 sJ6_bitCount_0f7a4_0 := dc_base (by decide +kernel)
theorem aJ6_bitCount_0f7a4_40 : dc_at cJ6_bitCount_0f7a4 40 sJ6_bitCount_0f7a4_40 := dc_nn (k := 40) aJ6_bitCount_0f7a4_0 rfl
theorem dJ6_bitCount_0f7a4_0 : decode cJ6_bitCount_0f7a4 0 = .ok (.iload_n 0, 1) := dc_26 aJ6_bitCount_0f7a4_0
theorem dJ6_bitCount_0f7a4_1 : decode cJ6_bitCount_0f7a4 1 = .ok (.iload_n 0, 1) := dc_26 (dc_nn (k := 1) aJ6_bitCount_0f7a4_0 rfl)
theorem dJ6_bitCount_0f7a4_2 : decode cJ6_bitCount_0f7a4 2 = .ok (.iconst 1, 1) := dc_4 (dc_nn (k := 2) aJ6_bitCount_0f7a4_0 rfl)
theorem dJ6_bitCount_0f7a4_3 : decode cJ6_bitCount_0f7a4 3 = .ok (.iushr, 1) := dc_124 (dc_nn (k := 3) aJ6_bitCount_0f7a4_0 rfl)
theorem dJ6_bitCount_0f7a4_4 : decode cJ6_bitCount_0f7a4 4 = .ok (.ldc_w 265, 3) := dc_19 (a0 := 1) (b0 := 9) (dc_nn (k := 4) aJ6_bitCount_0f7a4_0 rfl)
theorem dJ6_bitCount_0f7a4_7 : decode cJ6_bitCount_0f7a4 7 = .ok (.iand, 1) := dc_126 (dc_nn (k := 7) aJ6_bitCount_0f7a4_0 rfl)
theorem dJ6_bitCount_0f7a4_8 : decode cJ6_bitCount_0f7a4 8 = .ok (.isub, 1) := dc_100 (dc_nn (k := 8) aJ6_bitCount_0f7a4_0 rfl)
theorem dJ6_bitCount_0f7a4_9 : decode cJ6_bitCount_0f7a4 9 = .ok (.istore_n 0, 1) := dc_59 (dc_nn (k := 9) aJ6_bitCount_0f7a4_0 rfl)
theorem dJ6_bitCount_0f7a4_10 : decode cJ6_bitCount_0f7a4 10 = .ok (.iload_n 0, 1) := dc_26 (dc_nn (k := 10) aJ6_bitCount_0f7a4_0 rfl)
theorem dJ6_bitCount_0f7a4_11 : decode cJ6_bitCount_0f7a4 11 = .ok (.ldc_w 266, 3) := dc_19 (a0 := 1) (b0 := 10) (dc_nn (k := 11) aJ6_bitCount_0f7a4_0 rfl)
theorem dJ6_bitCount_0f7a4_14 : decode cJ6_bitCount_0f7a4 14 = .ok (.iand, 1) := dc_126 (dc_nn (k := 14) aJ6_bitCount_0f7a4_0 rfl)
theorem dJ6_bitCount_0f7a4_15 : decode cJ6_bitCount_0f7a4 15 = .ok (.iload_n 0, 1) := dc_26 (dc_nn (k := 15) aJ6_bitCount_0f7a4_0 rfl)
theorem dJ6_bitCount_0f7a4_16 : decode cJ6_bitCount_0f7a4 16 = .ok (.iconst 2, 1) := dc_5 (dc_nn (k := 16) aJ6_bitCount_0f7a4_0 rfl)
theorem dJ6_bitCount_0f7a4_17 : decode cJ6_bitCount_0f7a4 17 = .ok (.iushr, 1) := dc_124 (dc_nn (k := 17) aJ6_bitCount_0f7a4_0 rfl)
theorem dJ6_bitCount_0f7a4_18 : decode cJ6_bitCount_0f7a4 18 = .ok (.ldc_w 266, 3) := dc_19 (a0 := 1) (b0 := 10) (dc_nn (k := 18) aJ6_bitCount_0f7a4_0 rfl)
theorem dJ6_bitCount_0f7a4_21 : decode cJ6_bitCount_0f7a4 21 = .ok (.iand, 1) := dc_126 (dc_nn (k := 21) aJ6_bitCount_0f7a4_0 rfl)
theorem dJ6_bitCount_0f7a4_22 : decode cJ6_bitCount_0f7a4 22 = .ok (.iadd, 1) := dc_96 (dc_nn (k := 22) aJ6_bitCount_0f7a4_0 rfl)
theorem dJ6_bitCount_0f7a4_23 : decode cJ6_bitCount_0f7a4 23 = .ok (.istore_n 0, 1) := dc_59 (dc_nn (k := 23) aJ6_bitCount_0f7a4_0 rfl)
theorem dJ6_bitCount_0f7a4_24 : decode cJ6_bitCount_0f7a4 24 = .ok (.iload_n 0, 1) := dc_26 (dc_nn (k := 24) aJ6_bitCount_0f7a4_0 rfl)
theorem dJ6_bitCount_0f7a4_25 : decode cJ6_bitCount_0f7a4 25 = .ok (.iload_n 0, 1) := dc_26 (dc_nn (k := 25) aJ6_bitCount_0f7a4_0 rfl)
theorem dJ6_bitCount_0f7a4_26 : decode cJ6_bitCount_0f7a4 26 = .ok (.iconst 4, 1) := dc_7 (dc_nn (k := 26) aJ6_bitCount_0f7a4_0 rfl)
theorem dJ6_bitCount_0f7a4_27 : decode cJ6_bitCount_0f7a4 27 = .ok (.iushr, 1) := dc_124 (dc_nn (k := 27) aJ6_bitCount_0f7a4_0 rfl)
theorem dJ6_bitCount_0f7a4_28 : decode cJ6_bitCount_0f7a4 28 = .ok (.iadd, 1) := dc_96 (dc_nn (k := 28) aJ6_bitCount_0f7a4_0 rfl)
theorem dJ6_bitCount_0f7a4_29 : decode cJ6_bitCount_0f7a4 29 = .ok (.ldc_w 267, 3) := dc_19 (a0 := 1) (b0 := 11) (dc_nn (k := 29) aJ6_bitCount_0f7a4_0 rfl)
theorem dJ6_bitCount_0f7a4_32 : decode cJ6_bitCount_0f7a4 32 = .ok (.iand, 1) := dc_126 (dc_nn (k := 32) aJ6_bitCount_0f7a4_0 rfl)
theorem dJ6_bitCount_0f7a4_33 : decode cJ6_bitCount_0f7a4 33 = .ok (.istore_n 0, 1) := dc_59 (dc_nn (k := 33) aJ6_bitCount_0f7a4_0 rfl)
theorem dJ6_bitCount_0f7a4_34 : decode cJ6_bitCount_0f7a4 34 = .ok (.iload_n 0, 1) := dc_26 (dc_nn (k := 34) aJ6_bitCount_0f7a4_0 rfl)
theorem dJ6_bitCount_0f7a4_35 : decode cJ6_bitCount_0f7a4 35 = .ok (.iload_n 0, 1) := dc_26 (dc_nn (k := 35) aJ6_bitCount_0f7a4_0 rfl)
theorem dJ6_bitCount_0f7a4_36 : decode cJ6_bitCount_0f7a4 36 = .ok (.bipush 8, 2) := dc_16 (a0 := 8) (dc_nn (k := 36) aJ6_bitCount_0f7a4_0 rfl) (by decide)
theorem dJ6_bitCount_0f7a4_38 : decode cJ6_bitCount_0f7a4 38 = .ok (.iushr, 1) := dc_124 (dc_nn (k := 38) aJ6_bitCount_0f7a4_0 rfl)
theorem dJ6_bitCount_0f7a4_39 : decode cJ6_bitCount_0f7a4 39 = .ok (.iadd, 1) := dc_96 (dc_nn (k := 39) aJ6_bitCount_0f7a4_0 rfl)
theorem dJ6_bitCount_0f7a4_40 : decode cJ6_bitCount_0f7a4 40 = .ok (.istore_n 0, 1) := dc_59 aJ6_bitCount_0f7a4_40
theorem dJ6_bitCount_0f7a4_41 : decode cJ6_bitCount_0f7a4 41 = .ok (.iload_n 0, 1) := dc_26 (dc_nn (k := 1) aJ6_bitCount_0f7a4_40 rfl)
theorem dJ6_bitCount_0f7a4_42 : decode cJ6_bitCount_0f7a4 42 = .ok (.iload_n 0, 1) := dc_26 (dc_nn (k := 2) aJ6_bitCount_0f7a4_40 rfl)
theorem dJ6_bitCount_0f7a4_43 : decode cJ6_bitCount_0f7a4 43 = .ok (.bipush 16, 2) := dc_16 (a0 := 16) (dc_nn (k := 3) aJ6_bitCount_0f7a4_40 rfl) (by decide)
theorem dJ6_bitCount_0f7a4_45 : decode cJ6_bitCount_0f7a4 45 = .ok (.iushr, 1) := dc_124 (dc_nn (k := 5) aJ6_bitCount_0f7a4_40 rfl)
theorem dJ6_bitCount_0f7a4_46 : decode cJ6_bitCount_0f7a4 46 = .ok (.iadd, 1) := dc_96 (dc_nn (k := 6) aJ6_bitCount_0f7a4_40 rfl)
theorem dJ6_bitCount_0f7a4_47 : decode cJ6_bitCount_0f7a4 47 = .ok (.istore_n 0, 1) := dc_59 (dc_nn (k := 7) aJ6_bitCount_0f7a4_40 rfl)
theorem dJ6_bitCount_0f7a4_48 : decode cJ6_bitCount_0f7a4 48 = .ok (.iload_n 0, 1) := dc_26 (dc_nn (k := 8) aJ6_bitCount_0f7a4_40 rfl)
theorem dJ6_bitCount_0f7a4_49 : decode cJ6_bitCount_0f7a4 49 = .ok (.bipush 63, 2) := dc_16 (a0 := 63) (dc_nn (k := 9) aJ6_bitCount_0f7a4_40 rfl) (by decide)
theorem dJ6_bitCount_0f7a4_51 : decode cJ6_bitCount_0f7a4 51 = .ok (.iand, 1) := dc_126 (dc_nn (k := 11) aJ6_bitCount_0f7a4_40 rfl)
theorem dJ6_bitCount_0f7a4_52 : decode cJ6_bitCount_0f7a4 52 = .ok (.ireturn, 1) := dc_172 (dc_nn (k := 12) aJ6_bitCount_0f7a4_40 rfl)
noncomputable def sJ9_floorDiv_f86c9_0 : List Nat := 30 :: 32 :: 109 :: 55 :: 4 :: 30 :: 32 :: 131 :: 9 :: 148 :: 156 :: 0 :: 17 :: 22 :: 4 :: 32 :: 105 :: 30 :: 148 :: 153 :: 0 :: 8 :: 22 :: 4 :: 10 :: 101 :: 173 :: 22 :: 4 :: 173 :: []
theorem aJ9_floorDiv_f86c9_0 : dc_at cJ9_floorDiv_f86c9 0 sJ9_floorDiv_f86c9_0 := dc_base (by decide +kernel)
theorem dJ9_floorDiv_f86c9_0 : decode cJ9_floorDiv_f86c9 0 = .ok (.lload_n 0, 1) := dc_30 aJ9_floorDiv_f86c9_0
theorem dJ9_floorDiv_f86c9_1 : decode cJ9_floorDiv_f86c9 1 = .ok (.lload_n 2, 1) := dc_32 (dc_nn (k := 1) aJ9_floorDiv_f86c9_0 rfl)
theorem dJ9_floorDiv_f86c9_2 : decode cJ9_floorDiv_f86c9 2 = .ok (.ldiv, 1) := dc_109 (dc_nn (k := 2) aJ9_floorDiv_f86c9_0 rfl)
theorem dJ9_floorDiv_f86c9_3 : decode cJ9_floorDiv_f86c9 3 = .ok (.lstore 4, 2) := dc_55 (a0 := 4) (dc_nn (k := 3) aJ9_floorDiv_f86c9_0 rfl)
theorem dJ9_floorDiv_f86c9_5 : decode cJ9_floorDiv_f86c9 5 = .ok (.lload_n 0, 1) := dc_30 (dc_nn (k := 5) aJ9_floorDiv_f86c9_0 rfl)
theorem dJ9_floorDiv_f86c9_6 : decode cJ9_floorDiv_f86c9 6 = .ok (.lload_n 2, 1) := dc_32 (dc_nn (k := 6) aJ9_floorDiv_f86c9_0 rfl)
theorem dJ9_floorDiv_f86c9_7 : decode cJ9_floorDiv_f86c9 7 = .ok (.lxor, 1) := dc_131 (dc_nn (k := 7) aJ9_floorDiv_f86c9_0 rfl)
theorem dJ9_floorDiv_f86c9_8 : decode cJ9_floorDiv_f86c9 8 = .ok (.lconst 0, 1) := dc_9 (dc_nn (k := 8) aJ9_floorDiv_f86c9_0 rfl)
theorem dJ9_floorDiv_f86c9_9 : decode cJ9_floorDiv_f86c9 9 = .ok (.lcmp, 1) := dc_148 (dc_nn (k := 9) aJ9_floorDiv_f86c9_0 rfl)
theorem dJ9_floorDiv_f86c9_10 : decode cJ9_floorDiv_f86c9 10 = .ok (.ifCond .ge 17, 3) := dc_156 (a0 := 0) (b0 := 17) (dc_nn (k := 10) aJ9_floorDiv_f86c9_0 rfl) (by decide)
theorem dJ9_floorDiv_f86c9_13 : decode cJ9_floorDiv_f86c9 13 = .ok (.lload 4, 2) := dc_22 (a0 := 4) (dc_nn (k := 13) aJ9_floorDiv_f86c9_0 rfl)
theorem dJ9_floorDiv_f86c9_15 : decode cJ9_floorDiv_f86c9 15 = .ok (.lload_n 2, 1) := dc_32 (dc_nn (k := 15) aJ9_floorDiv_f86c9_0 rfl)
theorem dJ9_floorDiv_f86c9_16 : decode cJ9_floorDiv_f86c9 16 = .ok (.lmul, 1) := dc_105 (dc_nn (k := 16) aJ9_floorDiv_f86c9_0 rfl)
theorem dJ9_floorDiv_f86c9_17 : decode cJ9_floorDiv_f86c9 17 = .ok (.lload_n 0, 1) := dc_30 (dc_nn (k := 17) aJ9_floorDiv_f86c9_0 rfl)
theorem dJ9_floorDiv_f86c9_18 : decode cJ9_floorDiv_f86c9 18 = .ok (.lcmp, 1) := dc_148 (dc_nn (k := 18) aJ9_floorDiv_f86c9_0 rfl)
theorem dJ9_floorDiv_f86c9_19 : decode cJ9_floorDiv_f86c9 19 = .ok (.ifCond .eq 8, 3) := dc_153 (a0 := 0) (b0 := 8) (dc_nn (k := 19) aJ9_floorDiv_f86c9_0 rfl) (by decide)
theorem dJ9_floorDiv_f86c9_22 : decode cJ9_floorDiv_f86c9 22 = .ok (.lload 4, 2) := dc_22 (a0 := 4) (dc_nn (k := 22) aJ9_floorDiv_f86c9_0 rfl)
theorem dJ9_floorDiv_f86c9_24 : decode cJ9_floorDiv_f86c9 24 = .ok (.lconst 1, 1) := dc_10 (dc_nn (k := 24) aJ9_floorDiv_f86c9_0 rfl)
theorem dJ9_floorDiv_f86c9_25 : decode cJ9_floorDiv_f86c9 25 = .ok (.lsub, 1) := dc_101 (dc_nn (k := 25) aJ9_floorDiv_f86c9_0 rfl)
theorem dJ9_floorDiv_f86c9_26 : decode cJ9_floorDiv_f86c9 26 = .ok (.lreturn, 1) := dc_173 (dc_nn (k := 26) aJ9_floorDiv_f86c9_0 rfl)
theorem dJ9_floorDiv_f86c9_27 : decode cJ9_floorDiv_f86c9 27 = .ok (.lload 4, 2) := dc_22 (a0 := 4) (dc_nn (k := 27) aJ9_floorDiv_f86c9_0 rfl)
theorem dJ9_floorDiv_f86c9_29 : decode cJ9_floorDiv_f86c9 29 = .ok (.lreturn, 1) := dc_173 (dc_nn (k := 29) aJ9_floorDiv_f86c9_0 rfl)
noncomputable def sJ9_floorMod_7cf53_0 : List Nat := 26 :: 27 :: 112 :: 61 :: 26 :: 27 :: 130 :: 156 :: 0 :: 11 :: 28 :: 153 :: 0 :: 7 :: 28 :: 27 :: 96 :: 172 :: 28 :: 172 :: []
theorem aJ9_floorMod_7cf53_0 : dc_at cJ9_floorMod_7cf53 0 sJ9_floorMod_7cf53_0 := dc_base (by decide +kernel)
theorem dJ9_floorMod_7cf53_0 : decode cJ9_floorMod_7cf53 0 = .ok (.iload_n 0, 1) := dc_26 aJ9_floorMod_7cf53_0
theorem dJ9_floorMod_7cf53_1 : decode cJ9_floorMod_7cf53 1 = .ok (.iload_n 1, 1) := dc_27 (dc_nn (k := 1) aJ9_floorMod_7cf53_0 rfl)
theorem dJ9_floorMod_7cf53_2 : decode cJ9_floorMod_7cf53 2 = .ok (.irem, 1) := dc_112 (dc_nn (k := 2) aJ9_floorMod_7cf53_0 rfl)
theorem dJ9_floorMod_7cf53_3 : decode cJ9_floorMod_7cf53 3 = .ok (.istore_n 2, 1) := dc_61 (dc_nn (k := 3) aJ9_floorMod_7cf53_0 rfl)
theorem dJ9_floorMod_7cf53_4 : decode cJ9_floorMod_7cf53 4 = .ok (.iload_n 0, 1) := dc_26 (dc_nn (k := 4) aJ9_floorMod_7cf53_0 rfl)
theorem dJ9_floorMod_7cf53_5 : decode cJ9_floorMod_7cf53 5 = .ok (.iload_n 1, 1) := dc_27 (dc_nn (k := 5) aJ9_floorMod_7cf53_0 rfl)
theorem dJ9_floorMod_7cf53_6 : decode cJ9_floorMod_7cf53 6 = .ok (.ixor, 1) := dc_130 (dc_nn (k := 6) aJ9_floorMod_7cf53_0 rfl)
theorem dJ9_floorMod_7cf53_7 : decode cJ9_floorMod_7cf53 7 = .ok (.ifCond .ge 11, 3) := dc_156 (a0 := 0) (b0 := 11) (dc_nn (k := 7) aJ9_floorMod_7cf53_0 rfl) (by decide)
theorem dJ9_floorMod_7cf53_10 : decode cJ9_floorMod_7cf53 10 = .ok (.iload_n 2, 1) := dc_28 (dc_nn (k := 10) aJ9_floorMod_7cf53_0 rfl)
theorem dJ9_floorMod_7cf53_11 : decode cJ9_floorMod_7cf53 11 = .ok (.ifCond .eq 7, 3) := dc_153 (a0 := 0) (b0 := 7) (dc_nn (k := 11) aJ9_floorMod_7cf53_0 rfl) (by decide)
theorem dJ9_floorMod_7cf53_14 : decode cJ9_floorMod_7cf53 14 = .ok (.iload_n 2, 1) := dc_28 (dc_nn (k := 14) aJ9_floorMod_7cf53_0 rfl)
theorem dJ9_floorMod_7cf53_15 : decode cJ9_floorMod_7cf53 15 = .ok (.iload_n 1, 1) := dc_27 (dc_nn (k := 15) aJ9_floorMod_7cf53_0 rfl)
theorem dJ9_floorMod_7cf53_16 : decode cJ9_floorMod_7cf53 16 = .ok (.iadd, 1) := dc_96 (dc_nn (k := 16) aJ9_floorMod_7cf53_0 rfl)
theorem dJ9_floorMod_7cf53_17 : decode cJ9_floorMod_7cf53 17 = .ok (.ireturn, 1) := dc_172 (dc_nn (k := 17) aJ9_floorMod_7cf53_0 rfl)
theorem dJ9_floorMod_7cf53_18 : decode cJ9_floorMod_7cf53 18 = .ok (.iload_n 2, 1) := dc_28 (dc_nn (k := 18) aJ9_floorMod_7cf53_0 rfl)
theorem dJ9_floorMod_7cf53_19 : decode cJ9_floorMod_7cf53 19 = .ok (.ireturn, 1) := dc_172 (dc_nn (k := 19) aJ9_floorMod_7cf53_0 rfl)
noncomputable def sJ9_floorMod_f86c9_0 : List Nat := 30 :: 32 :: 113 :: 55 :: 4 :: 30 :: 32 :: 131 :: 9 :: 148 :: 156 :: 0 :: 15 :: 22 :: 4 :: 9 :: 148 :: 153 :: 0 :: 8 :: 22 :: 4 :: 32 :: 97 :: 173 :: 22 :: 4 :: 173 :: []
theorem aJ9_floorMod_f86c9_0 : dc_at cJ9_floorMod_f86c9 0 sJ9_floorMod_f86c9_0 := dc_base (by decide +kernel)
theorem dJ9_floorMod_f86c9_0 : decode cJ9_floorMod_f86c9 0 = .ok (.lload_n 0, 1) := dc_30 aJ9_floorMod_f86c9_0
theorem dJ9_floorMod_f86c9_1 : decode cJ9_floorMod_f86c9 1 = .ok (.lload_n 2, 1) := dc_32 (dc_nn (k := 1) aJ9_floorMod_f86c9_0 rfl)
theorem dJ9_floorMod_f86c9_2 : decode cJ9_floorMod_f86c9 2 = .ok (.lrem, 1) := dc_113 (dc_nn (k := 2) aJ9_floorMod_f86c9_0 rfl)
theorem dJ9_floorMod_f86c9_3 : decode cJ9_floorMod_f86c9 3 = .ok (.lstore 4, 2) := dc_55 (a0 := 4) (dc_nn (k := 3) aJ9_floorMod_f86c9_0 rfl)
theorem dJ9_floorMod_f86c9_5 : decode cJ9_floorMod_f86c9 5 = .ok (.lload_n 0, 1) := dc_30 (dc_nn (k := 5) aJ9_floorMod_f86c9_0 rfl)
theorem dJ9_floorMod_f86c9_6 : decode cJ9_floorMod_f86c9 6 = .ok (.lload_n 2, 1) := dc_32 (dc_nn (k := 6) aJ9_floorMod_f86c9_0 rfl)
theorem dJ9_floorMod_f86c9_7 : decode cJ9_floorMod_f86c9 7 = .ok (.lxor, 1) := dc_131 (dc_nn (k := 7) aJ9_floorMod_f86c9_0 rfl)
theorem dJ9_floorMod_f86c9_8 : decode cJ9_floorMod_f86c9 8 = .ok (.lconst 0, 1) := dc_9 (dc_nn (k := 8) aJ9_floorMod_f86c9_0 rfl)
theorem dJ9_floorMod_f86c9_9 : decode cJ9_floorMod_f86c9 9 = .ok (.lcmp, 1) := dc_148 (dc_nn (k := 9) aJ9_floorMod_f86c9_0 rfl)
theorem dJ9_floorMod_f86c9_10 : decode cJ9_floorMod_f86c9 10 = .ok (.ifCond .ge 15, 3) := dc_156 (a0 := 0) (b0 := 15) (dc_nn (k := 10) aJ9_floorMod_f86c9_0 rfl) (by decide)
theorem dJ9_floorMod_f86c9_13 : decode cJ9_floorMod_f86c9 13 = .ok (.lload 4, 2) := dc_22 (a0 := 4) (dc_nn (k := 13) aJ9_floorMod_f86c9_0 rfl)
theorem dJ9_floorMod_f86c9_15 : decode cJ9_floorMod_f86c9 15 = .ok (.lconst 0, 1) := dc_9 (dc_nn (k := 15) aJ9_floorMod_f86c9_0 rfl)
theorem dJ9_floorMod_f86c9_16 : decode cJ9_floorMod_f86c9 16 = .ok (.lcmp, 1) := dc_148 (dc_nn (k := 16) aJ9_floorMod_f86c9_0 rfl)
theorem dJ9_floorMod_f86c9_17 : decode cJ9_floorMod_f86c9 17 = .ok (.ifCond .eq 8, 3) := dc_153 (a0 := 0) (b0 := 8) (dc_nn (k := 17) aJ9_floorMod_f86c9_0 rfl) (by decide)
theorem dJ9_floorMod_f86c9_20 : decode cJ9_floorMod_f86c9 20 = .ok (.lload 4, 2) := dc_22 (a0 := 4) (dc_nn (k := 20) aJ9_floorMod_f86c9_0 rfl)
theorem dJ9_floorMod_f86c9_22 : decode cJ9_floorMod_f86c9 22 = .ok (.lload_n 2, 1) := dc_32 (dc_nn (k := 22) aJ9_floorMod_f86c9_0 rfl)
theorem dJ9_floorMod_f86c9_23 : decode cJ9_floorMod_f86c9 23 = .ok (.ladd, 1) := dc_97 (dc_nn (k := 23) aJ9_floorMod_f86c9_0 rfl)
theorem dJ9_floorMod_f86c9_24 : decode cJ9_floorMod_f86c9 24 = .ok (.lreturn, 1) := dc_173 (dc_nn (k := 24) aJ9_floorMod_f86c9_0 rfl)
theorem dJ9_floorMod_f86c9_25 : decode cJ9_floorMod_f86c9 25 = .ok (.lload 4, 2) := dc_22 (a0 := 4) (dc_nn (k := 25) aJ9_floorMod_f86c9_0 rfl)
theorem dJ9_floorMod_f86c9_27 : decode cJ9_floorMod_f86c9 27 = .ok (.lreturn, 1) := dc_173 (dc_nn (k := 27) aJ9_floorMod_f86c9_0 rfl)
noncomputable def sJ9_abs_0f7a4_0 : List Nat := 26 :: 156 :: 0 :: 8 :: 26 :: 116 :: 167 :: 0 :: 4 :: 26 :: 172 :: []
theorem aJ9_abs_0f7a4_0 : dc_at cJ9_abs_0f7a4 0 sJ9_abs_0f7a4_0 := dc_base (by decide +kernel)
theorem dJ9_abs_0f7a4_0 : decode cJ9_abs_0f7a4 0 = .ok (.iload_n 0, 1) := dc_26 aJ9_abs_0f7a4_0
theorem dJ9_abs_0f7a4_1 : decode cJ9_abs_0f7a4 1 = .ok (.ifCond .ge 8, 3) := dc_156 (a0 := 0) (b0 := 8) (dc_nn (k := 1) aJ9_abs_0f7a4_0 rfl) (by decide)
theorem dJ9_abs_0f7a4_4 : decode cJ9_abs_0f7a4 4 = .ok (.iload_n 0, 1) := dc_26 (dc_nn (k := 4) aJ9_abs_0f7a4_0 rfl)
theorem dJ9_abs_0f7a4_5 : decode cJ9_abs_0f7a4 5 = .ok (.ineg, 1) := dc_116 (dc_nn (k := 5) aJ9_abs_0f7a4_0 rfl)
theorem dJ9_abs_0f7a4_6 : decode cJ9_abs_0f7a4 6 = .ok (.goto 4, 3) := dc_167 (a0 := 0) (b0 := 4) (dc_nn (k := 6) aJ9_abs_0f7a4_0 rfl) (by decide)
theorem dJ9_abs_0f7a4_9 : decode cJ9_abs_0f7a4 9 = .ok (.iload_n 0, 1) := dc_26 (dc_nn (k := 9) aJ9_abs_0f7a4_0 rfl)
theorem dJ9_abs_0f7a4_10 : decode cJ9_abs_0f7a4 10 = .ok (.ireturn, 1) := dc_172 (dc_nn (k := 10) aJ9_abs_0f7a4_0 rfl)
noncomputable def sJ9_max_7cf53_0 : List Nat := 26 :: 27 :: 161 :: 0 :: 7 :: 26 :: 167 :: 0 :: 4 :: 27 :: 172 :: []
theorem aJ9_max_7cf53_0 : dc_at cJ9_max_7cf53 0 sJ9_max_7cf53_0 := dc_base (by decide +kernel)
theorem dJ9_max_7cf53_0 : decode cJ9_max_7cf53 0 = .ok (.iload_n 0, 1) := dc_26 aJ9_max_7cf53_0
theorem dJ9_max_7cf53_1 : decode cJ9_max_7cf53 1 = .ok (.iload_n 1, 1) := dc_27 (dc_nn (k := 1) aJ9_max_7cf53_0 rfl)
theorem dJ9_max_7cf53_2 : decode cJ9_max_7cf53 2 = .ok (.if_icmp .lt 7, 3) := dc_161 (a0 := 0) (b0 := 7) (dc_nn (k := 2) aJ9_max_7cf53_0 rfl) (by decide)
theorem dJ9_max_7cf53_5 : decode cJ9_max_7cf53 5 = .ok (.iload_n 0, 1) := dc_26 (dc_nn (k := 5) aJ9_max_7cf53_0 rfl)
theorem dJ9_max_7cf53_6 : decode cJ9_max_7cf53 6 = .ok (.goto 4, 3) := dc_167 (a0 := 0) (b0 := 4) (dc_nn (k := 6) aJ9_max_7cf53_0 rfl) (by decide)
theorem dJ9_max_7cf53_9 : decode cJ9_max_7cf53 9 = .ok (.iload_n 1, 1) := dc_27 (dc_nn (k := 9) aJ9_max_7cf53_0 rfl)
theorem dJ9_max_7cf53_10 : decode cJ9_max_7cf53 10 = .ok (.ireturn, 1) := dc_172 (dc_nn (k := 10) aJ9_max_7cf53_0 rfl)
noncomputable def sJ9_min_7cf53_0 : List Nat := 26 :: 27 :: 163 :: 0 :: 7 :: 26 :: 167 :: 0 :: 4 :: 27 :: 172 :: []
theorem aJ9_min_7cf53_0 : dc_at cJ9_min_7cf53 0 sJ9_min_7cf53_0 := dc_base (by decide +kernel)
theorem dJ9_min_7cf53_0 : decode cJ9_min_7cf53 0 = .ok (.iload_n 0, 1) := dc_26 aJ9_min_7cf53_0
theorem dJ9_min_7cf53_1 : decode cJ9_min_7cf53 1 = .ok (.iload_n 1, 1) := dc_27 (dc_nn (k := 1) aJ9_min_7cf53_0 rfl)
theorem dJ9_min_7cf53_2 : decode cJ9_min_7cf53 2 = .ok (.if_icmp .gt 7, 3) := dc_163 (a0 := 0) (b0 := 7) (dc_nn (k := 2) aJ9_min_7cf53_0 rfl) (by decide)
theorem dJ9_min_7cf53_5 : decode cJ9_min_7cf53 5 = .ok (.iload_n 0, 1) := dc_26 (dc_nn (k := 5) aJ9_min_7cf53_0 rfl)
theorem dJ9_min_7cf53_6 : decode cJ9_min_7cf53 6 = .ok (.goto 4, 3) := dc_167 (a0 := 0) (b0 := 4) (dc_nn (k := 6) aJ9_min_7cf53_0 rfl) (by decide)
theorem dJ9_min_7cf53_9 : decode cJ9_min_7cf53 9 = .ok (.iload_n 1, 1) := dc_27 (dc_nn (k := 9) aJ9_min_7cf53_0 rfl)
theorem dJ9_min_7cf53_10 : decode cJ9_min_7cf53 10 = .ok (.ireturn, 1) := dc_172 (dc_nn (k := 10) aJ9_min_7cf53_0 rfl)
set_option maxRecDepth 20000 in
theorem ggJ0_length_8abf5_J0_coder_7d493 : GoodIn wsJ0_length_8abf5 wsJ0_coder_7d493 := goodIn_k _ [[6, 0, 0]] (by rfl) (by decide +kernel)
set_option maxRecDepth 20000 in
theorem gJ0_length_8abf5_J0_coder_7d493 : GoodIn wsJ0_length_8abf5 (wsV RJ0 335 RJ0 yJ0_coder_7d493 wsJ0_coder_7d493) := goodIn_app (goodIn_k _ [[2, 0, 0, 0]] (by rfl) (gw_V _ _ _ _)) ggJ0_length_8abf5_J0_coder_7d493
noncomputable def sJ0_length_8abf5_0 : List Nat := 42 :: 180 :: 0 :: 9 :: 190 :: 42 :: 182 :: 1 :: 79 :: 122 :: 172 :: []
theorem aJ0_length_8abf5_0 : dc_at cJ0_length_8abf5 0 sJ0_length_8abf5_0 := dc_base (by decide +kernel)
theorem dJ0_length_8abf5_0 : decode cJ0_length_8abf5 0 = .ok (.aload_n 0, 1) := dc_42 aJ0_length_8abf5_0
theorem dJ0_length_8abf5_1 : decode cJ0_length_8abf5 1 = .ok (.getfield 9, 3) := dc_180 (a0 := 0) (b0 := 9) (dc_nn (k := 1) aJ0_length_8abf5_0 rfl)
theorem dJ0_length_8abf5_4 : decode cJ0_length_8abf5 4 = .ok (.arraylength, 1) := dc_190 (dc_nn (k := 4) aJ0_length_8abf5_0 rfl)
theorem dJ0_length_8abf5_5 : decode cJ0_length_8abf5 5 = .ok (.aload_n 0, 1) := dc_42 (dc_nn (k := 5) aJ0_length_8abf5_0 rfl)
theorem dJ0_length_8abf5_6 : decode cJ0_length_8abf5 6 = .ok (.invokevirtual 335, 3) := dc_182 (a0 := 1) (b0 := 79) (dc_nn (k := 6) aJ0_length_8abf5_0 rfl)
theorem dJ0_length_8abf5_9 : decode cJ0_length_8abf5 9 = .ok (.ishr, 1) := dc_122 (dc_nn (k := 9) aJ0_length_8abf5_0 rfl)
theorem dJ0_length_8abf5_10 : decode cJ0_length_8abf5 10 = .ok (.ireturn, 1) := dc_172 (dc_nn (k := 10) aJ0_length_8abf5_0 rfl)
set_option maxRecDepth 20000 in
theorem ggJ0_charAt_5068e_J0_isLatin1_aae02 : GoodIn wsJ0_charAt_5068e wsJ0_isLatin1_aae02 := goodIn_k _ [[6, 0, 0]] (by rfl) (by decide +kernel)
set_option maxRecDepth 20000 in
theorem gJ0_charAt_5068e_J0_isLatin1_aae02 : GoodIn wsJ0_charAt_5068e (wsV RJ0 492 RJ0 yJ0_isLatin1_aae02 wsJ0_isLatin1_aae02) := goodIn_app (goodIn_k _ [[2, 0, 0, 0]] (by rfl) (gw_V _ _ _ _)) ggJ0_charAt_5068e_J0_isLatin1_aae02
set_option maxRecDepth 20000 in
theorem ggJ0_charAt_5068e_J1_charAt_3b067 : GoodIn wsJ0_charAt_5068e wsJ1_charAt_3b067 := goodIn_k _ [[12, 0, 0], [5, 9, 0, 0, 0, 0, 0]] (by rfl) (by decide +kernel)
set_option maxRecDepth 20000 in
theorem gJ0_charAt_5068e_J1_charAt_3b067 : GoodIn wsJ0_charAt_5068e (va_wsS RJ0 495 yJ1_charAt_3b067 wsJ1_charAt_3b067) := goodIn_app (goodIn_k _ [[9, 0, 0]] (by rfl) (gw_S _ _ _ _)) ggJ0_charAt_5068e_J1_charAt_3b067
set_option maxRecDepth 20000 in
theorem ggJ0_charAt_5068e_J2_charAt_3b067 : GoodIn wsJ0_charAt_5068e wsJ2_charAt_3b067 := goodIn_k _ [[24, 0, 0], [23, 3, 0, 0, 0, 0], [14], [5, 9, 0, 0, 0, 0, 0, 11, 0, 0, 0, 0, 0]] (by rfl) (by decide +kernel)
set_option maxRecDepth 20000 in
theorem gJ0_charAt_5068e_J2_charAt_3b067 : GoodIn wsJ0_charAt_5068e (va_wsS RJ0 498 yJ2_charAt_3b067 wsJ2_charAt_3b067) := goodIn_app (goodIn_k _ [[21, 0, 0]] (by rfl) (gw_S _ _ _ _)) ggJ0_charAt_5068e_J2_charAt_3b067
noncomputable def sJ0_charAt_5068e_0 : List Nat := 42 :: 182 :: 1 :: 236 :: 153 :: 0 :: 12 :: 42 :: 180 :: 0 :: 9 :: 27 :: 184 :: 1 :: 239 :: 172 :: 42 :: 180 :: 0 :: 9 :: 27 :: 184 :: 1 :: 242 :: 172 :: []
theorem aJ0_charAt_5068e_0 : dc_at cJ0_charAt_5068e 0 sJ0_charAt_5068e_0 := dc_base (by decide +kernel)
theorem dJ0_charAt_5068e_0 : decode cJ0_charAt_5068e 0 = .ok (.aload_n 0, 1) := dc_42 aJ0_charAt_5068e_0
theorem dJ0_charAt_5068e_1 : decode cJ0_charAt_5068e 1 = .ok (.invokevirtual 492, 3) := dc_182 (a0 := 1) (b0 := 236) (dc_nn (k := 1) aJ0_charAt_5068e_0 rfl)
theorem dJ0_charAt_5068e_4 : decode cJ0_charAt_5068e 4 = .ok (.ifCond .eq 12, 3) := dc_153 (a0 := 0) (b0 := 12) (dc_nn (k := 4) aJ0_charAt_5068e_0 rfl) (by decide)
theorem dJ0_charAt_5068e_7 : decode cJ0_charAt_5068e 7 = .ok (.aload_n 0, 1) := dc_42 (dc_nn (k := 7) aJ0_charAt_5068e_0 rfl)
theorem dJ0_charAt_5068e_8 : decode cJ0_charAt_5068e 8 = .ok (.getfield 9, 3) := dc_180 (a0 := 0) (b0 := 9) (dc_nn (k := 8) aJ0_charAt_5068e_0 rfl)
theorem dJ0_charAt_5068e_11 : decode cJ0_charAt_5068e 11 = .ok (.iload_n 1, 1) := dc_27 (dc_nn (k := 11) aJ0_charAt_5068e_0 rfl)
theorem dJ0_charAt_5068e_12 : decode cJ0_charAt_5068e 12 = .ok (.invokestatic 495, 3) := dc_184 (a0 := 1) (b0 := 239) (dc_nn (k := 12) aJ0_charAt_5068e_0 rfl)
theorem dJ0_charAt_5068e_15 : decode cJ0_charAt_5068e 15 = .ok (.ireturn, 1) := dc_172 (dc_nn (k := 15) aJ0_charAt_5068e_0 rfl)
theorem dJ0_charAt_5068e_16 : decode cJ0_charAt_5068e 16 = .ok (.aload_n 0, 1) := dc_42 (dc_nn (k := 16) aJ0_charAt_5068e_0 rfl)
theorem dJ0_charAt_5068e_17 : decode cJ0_charAt_5068e 17 = .ok (.getfield 9, 3) := dc_180 (a0 := 0) (b0 := 9) (dc_nn (k := 17) aJ0_charAt_5068e_0 rfl)
theorem dJ0_charAt_5068e_20 : decode cJ0_charAt_5068e 20 = .ok (.iload_n 1, 1) := dc_27 (dc_nn (k := 20) aJ0_charAt_5068e_0 rfl)
theorem dJ0_charAt_5068e_21 : decode cJ0_charAt_5068e 21 = .ok (.invokestatic 498, 3) := dc_184 (a0 := 1) (b0 := 242) (dc_nn (k := 21) aJ0_charAt_5068e_0 rfl)
theorem dJ0_charAt_5068e_24 : decode cJ0_charAt_5068e 24 = .ok (.ireturn, 1) := dc_172 (dc_nn (k := 24) aJ0_charAt_5068e_0 rfl)
noncomputable def sJ0_coder_7d493_0 : List Nat := 178 :: 0 :: 38 :: 153 :: 0 :: 10 :: 42 :: 180 :: 0 :: 15 :: 167 :: 0 :: 4 :: 4 :: 172 :: []
theorem aJ0_coder_7d493_0 : dc_at cJ0_coder_7d493 0 sJ0_coder_7d493_0 := dc_base (by decide +kernel)
theorem dJ0_coder_7d493_0 : decode cJ0_coder_7d493 0 = .ok (.getstatic 38, 3) := dc_178 (a0 := 0) (b0 := 38) aJ0_coder_7d493_0
theorem dJ0_coder_7d493_3 : decode cJ0_coder_7d493 3 = .ok (.ifCond .eq 10, 3) := dc_153 (a0 := 0) (b0 := 10) (dc_nn (k := 3) aJ0_coder_7d493_0 rfl) (by decide)
theorem dJ0_coder_7d493_6 : decode cJ0_coder_7d493 6 = .ok (.aload_n 0, 1) := dc_42 (dc_nn (k := 6) aJ0_coder_7d493_0 rfl)
theorem dJ0_coder_7d493_7 : decode cJ0_coder_7d493 7 = .ok (.getfield 15, 3) := dc_180 (a0 := 0) (b0 := 15) (dc_nn (k := 7) aJ0_coder_7d493_0 rfl)
theorem dJ0_coder_7d493_10 : decode cJ0_coder_7d493 10 = .ok (.goto 4, 3) := dc_167 (a0 := 0) (b0 := 4) (dc_nn (k := 10) aJ0_coder_7d493_0 rfl) (by decide)
theorem dJ0_coder_7d493_13 : decode cJ0_coder_7d493 13 = .ok (.iconst 1, 1) := dc_4 (dc_nn (k := 13) aJ0_coder_7d493_0 rfl)
theorem dJ0_coder_7d493_14 : decode cJ0_coder_7d493 14 = .ok (.ireturn, 1) := dc_172 (dc_nn (k := 14) aJ0_coder_7d493_0 rfl)
noncomputable def sJ0_isLatin1_aae02_0 : List Nat := 178 :: 0 :: 38 :: 153 :: 0 :: 14 :: 42 :: 180 :: 0 :: 15 :: 154 :: 0 :: 7 :: 4 :: 167 :: 0 :: 4 :: 3 :: 172 :: []
theorem aJ0_isLatin1_aae02_0 : dc_at cJ0_isLatin1_aae02 0 sJ0_isLatin1_aae02_0 := dc_base (by decide +kernel)
theorem dJ0_isLatin1_aae02_0 : decode cJ0_isLatin1_aae02 0 = .ok (.getstatic 38, 3) := dc_178 (a0 := 0) (b0 := 38) aJ0_isLatin1_aae02_0
theorem dJ0_isLatin1_aae02_3 : decode cJ0_isLatin1_aae02 3 = .ok (.ifCond .eq 14, 3) := dc_153 (a0 := 0) (b0 := 14) (dc_nn (k := 3) aJ0_isLatin1_aae02_0 rfl) (by decide)
theorem dJ0_isLatin1_aae02_6 : decode cJ0_isLatin1_aae02 6 = .ok (.aload_n 0, 1) := dc_42 (dc_nn (k := 6) aJ0_isLatin1_aae02_0 rfl)
theorem dJ0_isLatin1_aae02_7 : decode cJ0_isLatin1_aae02 7 = .ok (.getfield 15, 3) := dc_180 (a0 := 0) (b0 := 15) (dc_nn (k := 7) aJ0_isLatin1_aae02_0 rfl)
theorem dJ0_isLatin1_aae02_10 : decode cJ0_isLatin1_aae02 10 = .ok (.ifCond .ne 7, 3) := dc_154 (a0 := 0) (b0 := 7) (dc_nn (k := 10) aJ0_isLatin1_aae02_0 rfl) (by decide)
theorem dJ0_isLatin1_aae02_13 : decode cJ0_isLatin1_aae02 13 = .ok (.iconst 1, 1) := dc_4 (dc_nn (k := 13) aJ0_isLatin1_aae02_0 rfl)
theorem dJ0_isLatin1_aae02_14 : decode cJ0_isLatin1_aae02 14 = .ok (.goto 4, 3) := dc_167 (a0 := 0) (b0 := 4) (dc_nn (k := 14) aJ0_isLatin1_aae02_0 rfl) (by decide)
theorem dJ0_isLatin1_aae02_17 : decode cJ0_isLatin1_aae02 17 = .ok (.iconst 0, 1) := dc_3 (dc_nn (k := 17) aJ0_isLatin1_aae02_0 rfl)
theorem dJ0_isLatin1_aae02_18 : decode cJ0_isLatin1_aae02 18 = .ok (.ireturn, 1) := dc_172 (dc_nn (k := 18) aJ0_isLatin1_aae02_0 rfl)
set_option maxRecDepth 20000 in
theorem ggJ0_checkIndex_df160_J3_checkIndex_8e157 : GoodIn wsJ0_checkIndex_df160 wsJ3_checkIndex_8e157 := goodIn_k _ [[5]] (by rfl) (by decide +kernel)
set_option maxRecDepth 20000 in
theorem gJ0_checkIndex_df160_J3_checkIndex_8e157 : GoodIn wsJ0_checkIndex_df160 (va_wsS RJ0 1059 yJ3_checkIndex_8e157 wsJ3_checkIndex_8e157) := goodIn_app (goodIn_k _ [[2, 0, 0]] (by rfl) (gw_S _ _ _ _)) ggJ0_checkIndex_df160_J3_checkIndex_8e157
noncomputable def sJ0_checkIndex_df160_0 : List Nat := 26 :: 27 :: 178 :: 4 :: 29 :: 184 :: 4 :: 35 :: 87 :: 177 :: []
theorem aJ0_checkIndex_df160_0 : dc_at cJ0_checkIndex_df160 0 sJ0_checkIndex_df160_0 := dc_base (by decide +kernel)
theorem dJ0_checkIndex_df160_0 : decode cJ0_checkIndex_df160 0 = .ok (.iload_n 0, 1) := dc_26 aJ0_checkIndex_df160_0
theorem dJ0_checkIndex_df160_1 : decode cJ0_checkIndex_df160 1 = .ok (.iload_n 1, 1) := dc_27 (dc_nn (k := 1) aJ0_checkIndex_df160_0 rfl)
theorem dJ0_checkIndex_df160_2 : decode cJ0_checkIndex_df160 2 = .ok (.getstatic 1053, 3) := dc_178 (a0 := 4) (b0 := 29) (dc_nn (k := 2) aJ0_checkIndex_df160_0 rfl)
theorem dJ0_checkIndex_df160_5 : decode cJ0_checkIndex_df160 5 = .ok (.invokestatic 1059, 3) := dc_184 (a0 := 4) (b0 := 35) (dc_nn (k := 5) aJ0_checkIndex_df160_0 rfl)
theorem dJ0_checkIndex_df160_8 : decode cJ0_checkIndex_df160 8 = .ok (.pop, 1) := dc_87 (dc_nn (k := 8) aJ0_checkIndex_df160_0 rfl)
theorem dJ0_checkIndex_df160_9 : decode cJ0_checkIndex_df160 9 = .ok (.return_, 1) := dc_177 (dc_nn (k := 9) aJ0_checkIndex_df160_0 rfl)
set_option maxRecDepth 20000 in
theorem ggJ1_charAt_3b067_J0_checkIndex_df160 : GoodIn wsJ1_charAt_3b067 wsJ0_checkIndex_df160 := goodIn_k _ [[4, 0, 0, 0, 0, 0]] (by rfl) (by decide +kernel)
set_option maxRecDepth 20000 in
theorem gJ1_charAt_3b067_J0_checkIndex_df160 : GoodIn wsJ1_charAt_3b067 (va_wsS RJ1 9 yJ0_checkIndex_df160 wsJ0_checkIndex_df160) := goodIn_app (goodIn_k _ [[1, 0, 0]] (by rfl) (gw_S _ _ _ _)) ggJ1_charAt_3b067_J0_checkIndex_df160
noncomputable def sJ1_charAt_3b067_0 : List Nat := 27 :: 42 :: 190 :: 184 :: 0 :: 9 :: 42 :: 27 :: 51 :: 17 :: 0 :: 255 :: 126 :: 146 :: 172 :: []
theorem aJ1_charAt_3b067_0 : dc_at cJ1_charAt_3b067 0 sJ1_charAt_3b067_0 := dc_base (by decide +kernel)
theorem dJ1_charAt_3b067_0 : decode cJ1_charAt_3b067 0 = .ok (.iload_n 1, 1) := dc_27 aJ1_charAt_3b067_0
theorem dJ1_charAt_3b067_1 : decode cJ1_charAt_3b067 1 = .ok (.aload_n 0, 1) := dc_42 (dc_nn (k := 1) aJ1_charAt_3b067_0 rfl)
theorem dJ1_charAt_3b067_2 : decode cJ1_charAt_3b067 2 = .ok (.arraylength, 1) := dc_190 (dc_nn (k := 2) aJ1_charAt_3b067_0 rfl)
theorem dJ1_charAt_3b067_3 : decode cJ1_charAt_3b067 3 = .ok (.invokestatic 9, 3) := dc_184 (a0 := 0) (b0 := 9) (dc_nn (k := 3) aJ1_charAt_3b067_0 rfl)
theorem dJ1_charAt_3b067_6 : decode cJ1_charAt_3b067 6 = .ok (.aload_n 0, 1) := dc_42 (dc_nn (k := 6) aJ1_charAt_3b067_0 rfl)
theorem dJ1_charAt_3b067_7 : decode cJ1_charAt_3b067 7 = .ok (.iload_n 1, 1) := dc_27 (dc_nn (k := 7) aJ1_charAt_3b067_0 rfl)
theorem dJ1_charAt_3b067_8 : decode cJ1_charAt_3b067 8 = .ok (.baload, 1) := dc_51 (dc_nn (k := 8) aJ1_charAt_3b067_0 rfl)
theorem dJ1_charAt_3b067_9 : decode cJ1_charAt_3b067 9 = .ok (.sipush 255, 3) := dc_17 (a0 := 0) (b0 := 255) (dc_nn (k := 9) aJ1_charAt_3b067_0 rfl) (by decide)
theorem dJ1_charAt_3b067_12 : decode cJ1_charAt_3b067 12 = .ok (.iand, 1) := dc_126 (dc_nn (k := 12) aJ1_charAt_3b067_0 rfl)
theorem dJ1_charAt_3b067_13 : decode cJ1_charAt_3b067 13 = .ok (.i2c, 1) := dc_146 (dc_nn (k := 13) aJ1_charAt_3b067_0 rfl)
theorem dJ1_charAt_3b067_14 : decode cJ1_charAt_3b067 14 = .ok (.ireturn, 1) := dc_172 (dc_nn (k := 14) aJ1_charAt_3b067_0 rfl)
set_option maxRecDepth 20000 in
theorem ggJ2_getChar_3b067_J2_length_9d52b : GoodIn wsJ2_getChar_3b067 wsJ2_length_9d52b := goodIn_k _ [[7]] (by rfl) (by decide +kernel)
set_option maxRecDepth 20000 in
theorem gJ2_getChar_3b067_J2_length_9d52b : GoodIn wsJ2_getChar_3b067 (va_wsS RJ2 48 yJ2_length_9d52b wsJ2_length_9d52b) := goodIn_app (goodIn_k _ [[4, 0, 0]] (by rfl) (gw_S _ _ _ _)) ggJ2_getChar_3b067_J2_length_9d52b
noncomputable def sJ2_getChar_3b067_41 : List Nat := 126 :: 178 :: 0 :: 59 :: 120 :: 42 :: 27 :: 51 :: 17 :: 0 :: 255 :: 126 :: 178 :: 0 :: 63 :: 120 :: 128 :: 146 :: 172 :: []
noncomputable def sJ2_getChar_3b067_0 : List Nat := 178 :: 0 :: 44 :: 154 :: 0 :: 25 :: 27 :: 155 :: 0 :: 11 :: 27 :: 42 :: 184 :: 0 :: 48 :: 161 :: 0 :: 13 :: 187 :: 0 :: 52 :: 89 :: 18 :: 54 :: 183 :: 0 :: 56 :: 191 :: 27 :: 4 :: 120 :: 60 :: 42 :: 27 :: 132 :: 1 :: 1 :: 51 :: 17 :: 0 :: 255 :: sJ2_getChar_3b067_41
theorem aJ2_getChar_3b067_0 : dc_at cJ2_getChar_3b067 0 sJ2_getChar_3b067_0 := dc_base (by decide +kernel)
theorem aJ2_getChar_3b067_41 : dc_at cJ2_getChar_3b067 41 sJ2_getChar_3b067_41 := dc_nn (k := 41) aJ2_getChar_3b067_0 rfl
theorem dJ2_getChar_3b067_0 : decode cJ2_getChar_3b067 0 = .ok (.getstatic 44, 3) := dc_178 (a0 := 0) (b0 := 44) aJ2_getChar_3b067_0
theorem dJ2_getChar_3b067_3 : decode cJ2_getChar_3b067 3 = .ok (.ifCond .ne 25, 3) := dc_154 (a0 := 0) (b0 := 25) (dc_nn (k := 3) aJ2_getChar_3b067_0 rfl) (by decide)
theorem dJ2_getChar_3b067_6 : decode cJ2_getChar_3b067 6 = .ok (.iload_n 1, 1) := dc_27 (dc_nn (k := 6) aJ2_getChar_3b067_0 rfl)
theorem dJ2_getChar_3b067_7 : decode cJ2_getChar_3b067 7 = .ok (.ifCond .lt 11, 3) := dc_155 (a0 := 0) (b0 := 11) (dc_nn (k := 7) aJ2_getChar_3b067_0 rfl) (by decide)
theorem dJ2_getChar_3b067_10 : decode cJ2_getChar_3b067 10 = .ok (.iload_n 1, 1) := dc_27 (dc_nn (k := 10) aJ2_getChar_3b067_0 rfl)
theorem dJ2_getChar_3b067_11 : decode cJ2_getChar_3b067 11 = .ok (.aload_n 0, 1) := dc_42 (dc_nn (k := 11) aJ2_getChar_3b067_0 rfl)
theorem dJ2_getChar_3b067_12 : decode cJ2_getChar_3b067 12 = .ok (.invokestatic 48, 3) := dc_184 (a0 := 0) (b0 := 48) (dc_nn (k := 12) aJ2_getChar_3b067_0 rfl)
theorem dJ2_getChar_3b067_15 : decode cJ2_getChar_3b067 15 = .ok (.if_icmp .lt 13, 3) := dc_161 (a0 := 0) (b0 := 13) (dc_nn (k := 15) aJ2_getChar_3b067_0 rfl) (by decide)
theorem dJ2_getChar_3b067_18 : decode cJ2_getChar_3b067 18 = .ok (.new 52, 3) := dc_187 (a0 := 0) (b0 := 52) (dc_nn (k := 18) aJ2_getChar_3b067_0 rfl)
theorem dJ2_getChar_3b067_21 : decode cJ2_getChar_3b067 21 = .ok (.dup, 1) := dc_89 (dc_nn (k := 21) aJ2_getChar_3b067_0 rfl)
theorem dJ2_getChar_3b067_22 : decode cJ2_getChar_3b067 22 = .ok (.ldc 54, 2) := dc_18 (a0 := 54) (dc_nn (k := 22) aJ2_getChar_3b067_0 rfl)
theorem dJ2_getChar_3b067_24 : decode cJ2_getChar_3b067 24 = .ok (.invokespecial 56, 3) := dc_183 (a0 := 0) (b0 := 56) (dc_nn (k := 24) aJ2_getChar_3b067_0 rfl)
theorem dJ2_getChar_3b067_27 : decode cJ2_getChar_3b067 27 = .ok (.athrow, 1) := dc_191 (dc_nn (k := 27) aJ2_getChar_3b067_0 rfl)
theorem dJ2_getChar_3b067_28 : decode cJ2_getChar_3b067 28 = .ok (.iload_n 1, 1) := dc_27 (dc_nn (k := 28) aJ2_getChar_3b067_0 rfl)
theorem dJ2_getChar_3b067_29 : decode cJ2_getChar_3b067 29 = .ok (.iconst 1, 1) := dc_4 (dc_nn (k := 29) aJ2_getChar_3b067_0 rfl)
theorem dJ2_getChar_3b067_30 : decode cJ2_getChar_3b067 30 = .ok (.ishl, 1) := dc_120 (dc_nn (k := 30) aJ2_getChar_3b067_0 rfl)
theorem dJ2_getChar_3b067_31 : decode cJ2_getChar_3b067 31 = .ok (.istore_n 1, 1) := dc_60 (dc_nn (k := 31) aJ2_getChar_3b067_0 rfl)
theorem dJ2_getChar_3b067_32 : decode cJ2_getChar_3b067 32 = .ok (.aload_n 0, 1) := dc_42 (dc_nn (k := 32) aJ2_getChar_3b067_0 rfl)
theorem dJ2_getChar_3b067_33 : decode cJ2_getChar_3b067 33 = .ok (.iload_n 1, 1) := dc_27 (dc_nn (k := 33) aJ2_getChar_3b067_0 rfl)
theorem dJ2_getChar_3b067_34 : decode cJ2_getChar_3b067 34 = .ok (.iinc 1 1, 3) := dc_132 (a0 := 1) (a1 := 1) (dc_nn (k := 34) aJ2_getChar_3b067_0 rfl) (by decide)
theorem dJ2_getChar_3b067_37 : decode cJ2_getChar_3b067 37 = .ok (.baload, 1) := dc_51 (dc_nn (k := 37) aJ2_getChar_3b067_0 rfl)
theorem dJ2_getChar_3b067_38 : decode cJ2_getChar_3b067 38 = .ok (.sipush 255, 3) := dc_17 (a0 := 0) (b0 := 255) (dc_nn (k := 38) aJ2_getChar_3b067_0 rfl) (by decide)
theorem dJ2_getChar_3b067_41 : decode cJ2_getChar_3b067 41 = .ok (.iand, 1) := dc_126 aJ2_getChar_3b067_41
theorem dJ2_getChar_3b067_42 : decode cJ2_getChar_3b067 42 = .ok (.getstatic 59, 3) := dc_178 (a0 := 0) (b0 := 59) (dc_nn (k := 1) aJ2_getChar_3b067_41 rfl)
theorem dJ2_getChar_3b067_45 : decode cJ2_getChar_3b067 45 = .ok (.ishl, 1) := dc_120 (dc_nn (k := 4) aJ2_getChar_3b067_41 rfl)
theorem dJ2_getChar_3b067_46 : decode cJ2_getChar_3b067 46 = .ok (.aload_n 0, 1) := dc_42 (dc_nn (k := 5) aJ2_getChar_3b067_41 rfl)
theorem dJ2_getChar_3b067_47 : decode cJ2_getChar_3b067 47 = .ok (.iload_n 1, 1) := dc_27 (dc_nn (k := 6) aJ2_getChar_3b067_41 rfl)
theorem dJ2_getChar_3b067_48 : decode cJ2_getChar_3b067 48 = .ok (.baload, 1) := dc_51 (dc_nn (k := 7) aJ2_getChar_3b067_41 rfl)
theorem dJ2_getChar_3b067_49 : decode cJ2_getChar_3b067 49 = .ok (.sipush 255, 3) := dc_17 (a0 := 0) (b0 := 255) (dc_nn (k := 8) aJ2_getChar_3b067_41 rfl) (by decide)
theorem dJ2_getChar_3b067_52 : decode cJ2_getChar_3b067 52 = .ok (.iand, 1) := dc_126 (dc_nn (k := 11) aJ2_getChar_3b067_41 rfl)
theorem dJ2_getChar_3b067_53 : decode cJ2_getChar_3b067 53 = .ok (.getstatic 63, 3) := dc_178 (a0 := 0) (b0 := 63) (dc_nn (k := 12) aJ2_getChar_3b067_41 rfl)
theorem dJ2_getChar_3b067_56 : decode cJ2_getChar_3b067 56 = .ok (.ishl, 1) := dc_120 (dc_nn (k := 15) aJ2_getChar_3b067_41 rfl)
theorem dJ2_getChar_3b067_57 : decode cJ2_getChar_3b067 57 = .ok (.ior, 1) := dc_128 (dc_nn (k := 16) aJ2_getChar_3b067_41 rfl)
theorem dJ2_getChar_3b067_58 : decode cJ2_getChar_3b067 58 = .ok (.i2c, 1) := dc_146 (dc_nn (k := 17) aJ2_getChar_3b067_41 rfl)
theorem dJ2_getChar_3b067_59 : decode cJ2_getChar_3b067 59 = .ok (.ireturn, 1) := dc_172 (dc_nn (k := 18) aJ2_getChar_3b067_41 rfl)
noncomputable def sJ2_length_9d52b_0 : List Nat := 42 :: 190 :: 4 :: 122 :: 172 :: []
theorem aJ2_length_9d52b_0 : dc_at cJ2_length_9d52b 0 sJ2_length_9d52b_0 := dc_base (by decide +kernel)
theorem dJ2_length_9d52b_0 : decode cJ2_length_9d52b 0 = .ok (.aload_n 0, 1) := dc_42 aJ2_length_9d52b_0
theorem dJ2_length_9d52b_1 : decode cJ2_length_9d52b 1 = .ok (.arraylength, 1) := dc_190 (dc_nn (k := 1) aJ2_length_9d52b_0 rfl)
theorem dJ2_length_9d52b_2 : decode cJ2_length_9d52b 2 = .ok (.iconst 1, 1) := dc_4 (dc_nn (k := 2) aJ2_length_9d52b_0 rfl)
theorem dJ2_length_9d52b_3 : decode cJ2_length_9d52b 3 = .ok (.ishr, 1) := dc_122 (dc_nn (k := 3) aJ2_length_9d52b_0 rfl)
theorem dJ2_length_9d52b_4 : decode cJ2_length_9d52b 4 = .ok (.ireturn, 1) := dc_172 (dc_nn (k := 4) aJ2_length_9d52b_0 rfl)
set_option maxRecDepth 20000 in
theorem ggJ2_charAt_3b067_J2_checkIndex_2214a : GoodIn wsJ2_charAt_3b067 wsJ2_checkIndex_2214a := goodIn_k _ [[4, 0, 0], [3, 3, 0, 0, 0, 0, 0, 0, 0, 0, 0]] (by rfl) (by decide +kernel)
set_option maxRecDepth 20000 in
theorem gJ2_charAt_3b067_J2_checkIndex_2214a : GoodIn wsJ2_charAt_3b067 (va_wsS RJ2 67 yJ2_checkIndex_2214a wsJ2_checkIndex_2214a) := goodIn_app (goodIn_k _ [[1, 0, 0]] (by rfl) (gw_S _ _ _ _)) ggJ2_charAt_3b067_J2_checkIndex_2214a
set_option maxRecDepth 20000 in
theorem ggJ2_charAt_3b067_J2_getChar_3b067 : GoodIn wsJ2_charAt_3b067 wsJ2_getChar_3b067 := goodIn_k _ [[19, 0, 0, 0], [5, 0], [3, 3]] (by rfl) (by decide +kernel)
set_option maxRecDepth 20000 in
theorem gJ2_charAt_3b067_J2_getChar_3b067 : GoodIn wsJ2_charAt_3b067 (va_wsS RJ2 71 yJ2_getChar_3b067 wsJ2_getChar_3b067) := goodIn_app (goodIn_k _ [[17, 0], [3]] (by rfl) (gw_S _ _ _ _)) ggJ2_charAt_3b067_J2_getChar_3b067
noncomputable def sJ2_charAt_3b067_0 : List Nat := 27 :: 42 :: 184 :: 0 :: 67 :: 42 :: 27 :: 184 :: 0 :: 71 :: 172 :: []
theorem aJ2_charAt_3b067_0 : dc_at cJ2_charAt_3b067 0 sJ2_charAt_3b067_0 := dc_base (by decide +kernel)
theorem dJ2_charAt_3b067_0 : decode cJ2_charAt_3b067 0 = .ok (.iload_n 1, 1) := dc_27 aJ2_charAt_3b067_0
theorem dJ2_charAt_3b067_1 : decode cJ2_charAt_3b067 1 = .ok (.aload_n 0, 1) := dc_42 (dc_nn (k := 1) aJ2_charAt_3b067_0 rfl)
theorem dJ2_charAt_3b067_2 : decode cJ2_charAt_3b067 2 = .ok (.invokestatic 67, 3) := dc_184 (a0 := 0) (b0 := 67) (dc_nn (k := 2) aJ2_charAt_3b067_0 rfl)
theorem dJ2_charAt_3b067_5 : decode cJ2_charAt_3b067 5 = .ok (.aload_n 0, 1) := dc_42 (dc_nn (k := 5) aJ2_charAt_3b067_0 rfl)
theorem dJ2_charAt_3b067_6 : decode cJ2_charAt_3b067 6 = .ok (.iload_n 1, 1) := dc_27 (dc_nn (k := 6) aJ2_charAt_3b067_0 rfl)
theorem dJ2_charAt_3b067_7 : decode cJ2_charAt_3b067 7 = .ok (.invokestatic 71, 3) := dc_184 (a0 := 0) (b0 := 71) (dc_nn (k := 7) aJ2_charAt_3b067_0 rfl)
theorem dJ2_charAt_3b067_10 : decode cJ2_charAt_3b067 10 = .ok (.ireturn, 1) := dc_172 (dc_nn (k := 10) aJ2_charAt_3b067_0 rfl)
set_option maxRecDepth 20000 in
theorem ggJ2_checkIndex_2214a_J2_length_9d52b : GoodIn wsJ2_checkIndex_2214a wsJ2_length_9d52b := goodIn_k _ [[4]] (by rfl) (by decide +kernel)
set_option maxRecDepth 20000 in
theorem gJ2_checkIndex_2214a_J2_length_9d52b : GoodIn wsJ2_checkIndex_2214a (va_wsS RJ2 48 yJ2_length_9d52b wsJ2_length_9d52b) := goodIn_app (goodIn_k _ [[1, 0, 0]] (by rfl) (gw_S _ _ _ _)) ggJ2_checkIndex_2214a_J2_length_9d52b
set_option maxRecDepth 20000 in
theorem ggJ2_checkIndex_2214a_J0_checkIndex_df160 : GoodIn wsJ2_checkIndex_2214a wsJ0_checkIndex_df160 := goodIn_k _ [[8, 0, 0, 0, 0, 0]] (by rfl) (by decide +kernel)
set_option maxRecDepth 20000 in
theorem gJ2_checkIndex_2214a_J0_checkIndex_df160 : GoodIn wsJ2_checkIndex_2214a (va_wsS RJ2 414 yJ0_checkIndex_df160 wsJ0_checkIndex_df160) := goodIn_app (goodIn_k _ [[5, 0, 0]] (by rfl) (gw_S _ _ _ _)) ggJ2_checkIndex_2214a_J0_checkIndex_df160
noncomputable def sJ2_checkIndex_2214a_0 : List Nat := 26 :: 43 :: 184 :: 0 :: 48 :: 184 :: 1 :: 158 :: 177 :: []
theorem aJ2_checkIndex_2214a_0 : dc_at cJ2_checkIndex_2214a 0 sJ2_checkIndex_2214a_0 := dc_base (by decide +kernel)
theorem dJ2_checkIndex_2214a_0 : decode cJ2_checkIndex_2214a 0 = .ok (.iload_n 0, 1) := dc_26 aJ2_checkIndex_2214a_0
theorem dJ2_checkIndex_2214a_1 : decode cJ2_checkIndex_2214a 1 = .ok (.aload_n 1, 1) := dc_43 (dc_nn (k := 1) aJ2_checkIndex_2214a_0 rfl)
theorem dJ2_checkIndex_2214a_2 : decode cJ2_checkIndex_2214a 2 = .ok (.invokestatic 48, 3) := dc_184 (a0 := 0) (b0 := 48) (dc_nn (k := 2) aJ2_checkIndex_2214a_0 rfl)
theorem dJ2_checkIndex_2214a_5 : decode cJ2_checkIndex_2214a 5 = .ok (.invokestatic 414, 3) := dc_184 (a0 := 1) (b0 := 158) (dc_nn (k := 5) aJ2_checkIndex_2214a_0 rfl)
theorem dJ2_checkIndex_2214a_8 : decode cJ2_checkIndex_2214a 8 = .ok (.return_, 1) := dc_177 (dc_nn (k := 8) aJ2_checkIndex_2214a_0 rfl)
noncomputable def sJ7_fill_53178_0 : List Nat := 3 :: 61 :: 42 :: 190 :: 62 :: 28 :: 29 :: 162 :: 0 :: 13 :: 42 :: 28 :: 27 :: 79 :: 132 :: 2 :: 1 :: 167 :: 255 :: 244 :: 177 :: []
theorem aJ7_fill_53178_0 : dc_at cJ7_fill_53178 0 sJ7_fill_53178_0 := dc_base (by decide +kernel)
theorem dJ7_fill_53178_0 : decode cJ7_fill_53178 0 = .ok (.iconst 0, 1) := dc_3 aJ7_fill_53178_0
theorem dJ7_fill_53178_1 : decode cJ7_fill_53178 1 = .ok (.istore_n 2, 1) := dc_61 (dc_nn (k := 1) aJ7_fill_53178_0 rfl)
theorem dJ7_fill_53178_2 : decode cJ7_fill_53178 2 = .ok (.aload_n 0, 1) := dc_42 (dc_nn (k := 2) aJ7_fill_53178_0 rfl)
theorem dJ7_fill_53178_3 : decode cJ7_fill_53178 3 = .ok (.arraylength, 1) := dc_190 (dc_nn (k := 3) aJ7_fill_53178_0 rfl)
theorem dJ7_fill_53178_4 : decode cJ7_fill_53178 4 = .ok (.istore_n 3, 1) := dc_62 (dc_nn (k := 4) aJ7_fill_53178_0 rfl)
theorem dJ7_fill_53178_5 : decode cJ7_fill_53178 5 = .ok (.iload_n 2, 1) := dc_28 (dc_nn (k := 5) aJ7_fill_53178_0 rfl)
theorem dJ7_fill_53178_6 : decode cJ7_fill_53178 6 = .ok (.iload_n 3, 1) := dc_29 (dc_nn (k := 6) aJ7_fill_53178_0 rfl)
theorem dJ7_fill_53178_7 : decode cJ7_fill_53178 7 = .ok (.if_icmp .ge 13, 3) := dc_162 (a0 := 0) (b0 := 13) (dc_nn (k := 7) aJ7_fill_53178_0 rfl) (by decide)
theorem dJ7_fill_53178_10 : decode cJ7_fill_53178 10 = .ok (.aload_n 0, 1) := dc_42 (dc_nn (k := 10) aJ7_fill_53178_0 rfl)
theorem dJ7_fill_53178_11 : decode cJ7_fill_53178 11 = .ok (.iload_n 2, 1) := dc_28 (dc_nn (k := 11) aJ7_fill_53178_0 rfl)
theorem dJ7_fill_53178_12 : decode cJ7_fill_53178 12 = .ok (.iload_n 1, 1) := dc_27 (dc_nn (k := 12) aJ7_fill_53178_0 rfl)
theorem dJ7_fill_53178_13 : decode cJ7_fill_53178 13 = .ok (.iastore, 1) := dc_79 (dc_nn (k := 13) aJ7_fill_53178_0 rfl)
theorem dJ7_fill_53178_14 : decode cJ7_fill_53178 14 = .ok (.iinc 2 1, 3) := dc_132 (a0 := 2) (a1 := 1) (dc_nn (k := 14) aJ7_fill_53178_0 rfl) (by decide)
theorem dJ7_fill_53178_17 : decode cJ7_fill_53178 17 = .ok (.goto (-12), 3) := dc_167 (a0 := 255) (b0 := 244) (dc_nn (k := 17) aJ7_fill_53178_0 rfl) (by decide)
theorem dJ7_fill_53178_20 : decode cJ7_fill_53178 20 = .ok (.return_, 1) := dc_177 (dc_nn (k := 20) aJ7_fill_53178_0 rfl)
noncomputable def sJ3_checkIndex_8e157_0 : List Nat := 26 :: 155 :: 0 :: 8 :: 26 :: 27 :: 161 :: 0 :: 10 :: 44 :: 26 :: 27 :: 184 :: 0 :: 95 :: 191 :: 26 :: 172 :: []
theorem aJ3_checkIndex_8e157_0 : dc_at cJ3_checkIndex_8e157 0 sJ3_checkIndex_8e157_0 := dc_base (by decide +kernel)
theorem dJ3_checkIndex_8e157_0 : decode cJ3_checkIndex_8e157 0 = .ok (.iload_n 0, 1) := dc_26 aJ3_checkIndex_8e157_0
theorem dJ3_checkIndex_8e157_1 : decode cJ3_checkIndex_8e157 1 = .ok (.ifCond .lt 8, 3) := dc_155 (a0 := 0) (b0 := 8) (dc_nn (k := 1) aJ3_checkIndex_8e157_0 rfl) (by decide)
theorem dJ3_checkIndex_8e157_4 : decode cJ3_checkIndex_8e157 4 = .ok (.iload_n 0, 1) := dc_26 (dc_nn (k := 4) aJ3_checkIndex_8e157_0 rfl)
theorem dJ3_checkIndex_8e157_5 : decode cJ3_checkIndex_8e157 5 = .ok (.iload_n 1, 1) := dc_27 (dc_nn (k := 5) aJ3_checkIndex_8e157_0 rfl)
theorem dJ3_checkIndex_8e157_6 : decode cJ3_checkIndex_8e157 6 = .ok (.if_icmp .lt 10, 3) := dc_161 (a0 := 0) (b0 := 10) (dc_nn (k := 6) aJ3_checkIndex_8e157_0 rfl) (by decide)
theorem dJ3_checkIndex_8e157_9 : decode cJ3_checkIndex_8e157 9 = .ok (.aload_n 2, 1) := dc_44 (dc_nn (k := 9) aJ3_checkIndex_8e157_0 rfl)
theorem dJ3_checkIndex_8e157_10 : decode cJ3_checkIndex_8e157 10 = .ok (.iload_n 0, 1) := dc_26 (dc_nn (k := 10) aJ3_checkIndex_8e157_0 rfl)
theorem dJ3_checkIndex_8e157_11 : decode cJ3_checkIndex_8e157 11 = .ok (.iload_n 1, 1) := dc_27 (dc_nn (k := 11) aJ3_checkIndex_8e157_0 rfl)
theorem dJ3_checkIndex_8e157_12 : decode cJ3_checkIndex_8e157 12 = .ok (.invokestatic 95, 3) := dc_184 (a0 := 0) (b0 := 95) (dc_nn (k := 12) aJ3_checkIndex_8e157_0 rfl)
theorem dJ3_checkIndex_8e157_15 : decode cJ3_checkIndex_8e157 15 = .ok (.athrow, 1) := dc_191 (dc_nn (k := 15) aJ3_checkIndex_8e157_0 rfl)
theorem dJ3_checkIndex_8e157_16 : decode cJ3_checkIndex_8e157 16 = .ok (.iload_n 0, 1) := dc_26 (dc_nn (k := 16) aJ3_checkIndex_8e157_0 rfl)
theorem dJ3_checkIndex_8e157_17 : decode cJ3_checkIndex_8e157 17 = .ok (.ireturn, 1) := dc_172 (dc_nn (k := 17) aJ3_checkIndex_8e157_0 rfl)
/-! the base of the generated rows: what a function's answer says step by step, worlds, calls -/
theorem wb_cp {a b c : Prop} {n0 n1 x y : Nat} (h : ¬ (a ∨ b ∨ c ∨ n0 < x ∨ n1 < y)) : ¬ a ∧ ¬ b ∧ ¬ c ∧ x ≤ n0 ∧ y ≤ n1 := by
  refine ⟨fun q => h (Or.inl q), fun q => h (Or.inr (Or.inl q)), fun q => h (Or.inr (Or.inr (Or.inl q))), ?_, ?_⟩
  · exact Nat.not_lt.mp fun q => h (Or.inr (Or.inr (Or.inr (Or.inl q))))
  · exact Nat.not_lt.mp fun q => h (Or.inr (Or.inr (Or.inr (Or.inr q))))
section WB1
variable {p : Program} {l : Launch} {e : Env} {R : Room} {s : State} {m : MethodId} {args : Array Value} {below : List Frame} {meth : Method} {c : Code} {H : Heap} {locs : List Loc} {cells slots : Nat} {Q : State → Prop}
theorem wb_topi {pc : Nat} {ls : Array Slot} {rest : List Value} {x y : Int32} (h : y = x) (k : W p l e R s m args below meth c H locs cells slots Q (F0 m pc ls (.int y :: rest))) : W p l e R s m args below meth c H locs cells slots Q (F0 m pc ls (.int x :: rest)) := h ▸ k
theorem wb_topl {pc : Nat} {ls : Array Slot} {rest : List Value} {x y : Int64} (h : y = x) (k : W p l e R s m args below meth c H locs cells slots Q (F0 m pc ls (.long y :: rest))) : W p l e R s m args below meth c H locs cells slots Q (F0 m pc ls (.long x :: rest)) := h ▸ k
theorem wb_start {g : JFrame} (hH : H = s.heap) (hl : locs = []) (k : W p l e R s m args below meth c H locs cells slots Q g) : W p l e R s m args below meth c s.heap [] cells slots Q g := by
  rw [hH, hl] at k
  exact k
end WB1
def wb_pre (D : va_G) (ty : List (ClassId × FieldType)) (ws : va_W) : State → Prop := fun U => va_P D vwCl ws U.heap ∧ va_K D vwCl ty U
def wb_preD (D : va_G) (ty : List (ClassId × FieldType)) (ws : va_W) (sz : Nat) : State → Prop := fun U => U.heap.size = sz ∧ va_P D vwCl ws U.heap ∧ va_K D vwCl ty U ∧ va_D (fun _ => True) ws
def wb_post (D : va_G) (ty : List (ClassId × FieldType)) (A : Nat → Prop) (ws : va_W) (t : State) : Prop := va_P D vwCl ws t.heap ∧ va_K D vwCl ty t ∧ va_D A ws
theorem wb_blind {av : List Value} {D : va_G} {ty : List (ClassId × FieldType)} {ws : va_W} : FrameBlind (va_Pc av (wb_pre D ty ws)) := by
  intro a U g mk q
  obtain ⟨q0, qP, qK⟩ := q
  exact ⟨q0, qP, va_K.moved (u := U) (U := U.calling g mk a) (Vm.Alike.refl U.vm) qK⟩
theorem wb_blindD {av : List Value} {D : va_G} {ty : List (ClassId × FieldType)} {ws : va_W} {sz : Nat} : FrameBlind (va_Pc av (wb_preD D ty ws sz)) := by
  intro a U g mk q
  obtain ⟨q0, q1, qP, qK, qD⟩ := q
  exact ⟨q0, q1, qP, va_K.moved (u := U) (U := U.calling g mk a) (Vm.Alike.refl U.vm) qK, qD⟩
theorem wb_preV {s : State} {H : Heap} {C : String} {b : Addr} {As : List Value} {D : va_G} {ty : List (ClassId × FieldType)} {ws : va_W} (hP : va_P D vwCl ws H) (hK : va_K D vwCl ty s) (hr : ∃ cellB : Cell, H[b]? = some cellB ∧ cellB.vm.isStatics = false ∧ s.vm.findClass C = some cellB.cls) : PreV s H C b (va_Pc (.ref b :: As) (wb_pre D ty ws)) As :=
  ⟨wb_blind, hr, fun U hU hW => ⟨rfl, by rw [hU]; exact hP, va_K.moved hW.alike hK⟩⟩
theorem wb_preS {s : State} {H : Heap} {As : List Value} {D : va_G} {ty : List (ClassId × FieldType)} {ws : va_W} (hP : va_P D vwCl ws H) (hK : va_K D vwCl ty s) : PreS s H (va_Pc As (wb_pre D ty ws)) As :=
  ⟨wb_blind, fun U hU hW => ⟨rfl, by rw [hU]; exact hP, va_K.moved hW.alike hK⟩⟩
theorem wb_preDV {A : Nat → Prop} {s : State} {H : Heap} {C : String} {b : Addr} {As : List Value} {D : va_G} {ty : List (ClassId × FieldType)} {ws : va_W} (hP : va_P D vwCl ws H) (hK : va_K D vwCl ty s) (hD : va_D A ws) (hr : ∃ cellB : Cell, H[b]? = some cellB ∧ cellB.vm.isStatics = false ∧ s.vm.findClass C = some cellB.cls) : PreV s H C b (va_Pc (.ref b :: As) (wb_preD D ty ws H.size)) As :=
  ⟨wb_blindD, hr, fun U hU hW => ⟨rfl, by rw [hU], by rw [hU]; exact hP, va_K.moved hW.alike hK, hD.weaken (fun _ _ _ _ => trivial)⟩⟩
theorem wb_preDS {A : Nat → Prop} {s : State} {H : Heap} {As : List Value} {D : va_G} {ty : List (ClassId × FieldType)} {ws : va_W} (hP : va_P D vwCl ws H) (hK : va_K D vwCl ty s) (hD : va_D A ws) : PreS s H (va_Pc As (wb_preD D ty ws H.size)) As :=
  ⟨wb_blindD, fun U hU hW => ⟨rfl, by rw [hU], by rw [hU]; exact hP, va_K.moved hW.alike hK, hD.weaken (fun _ _ _ _ => trivial)⟩⟩
theorem wb_fm {α : Type} : ∀ (is : List Nat) (ws : List α), (is.all fun i => Nat.blt i ws.length) = true → is.map (fun i => ws[i]?) = (is.filterMap (fun i => ws[i]?)).map some
  | [], _, _ => rfl
  | i :: is, ws, h => by
    rw [List.all_cons, Bool.and_eq_true] at h
    have hi : i < ws.length := Nat.blt_eq.mp h.1
    rw [List.map_cons, List.filterMap_cons, List.getElem?_eq_getElem hi, List.map_cons, wb_fm is ws h.2]
theorem wb_join {A0 : Nat → Prop} {D : va_G} {ty : List (ClassId × FieldType)} {ws wc w1 wf : va_W} {H H1 : Heap} {t : State} (hP : va_P D vwCl ws H) (hD : va_D A0 ws) (isC isR perm : List Nat) (hC : isC.map (fun i => ws[i]?) = wc.map some) (hR : (isR.all fun i => Nat.blt i ws.length) = true) (hn : va_nd isR = true) (hdis : ∀ i ∈ isR, i ∉ isC) (hpn : va_nd perm = true)
    (hp : perm.map (fun i => (isR.filterMap (fun i => ws[i]?) ++ w1)[i]?) = wf.map some) (hk : ∀ q : Nat, q < H.size → ¬ va_A wc H.size q → H1[q]? = H[q]?) (hF : ∀ q, va_A wc H.size q → A0 q) (ht : t.heap = H1) (hB : wb_post D ty (va_A wc H.size) w1 t) : va_P D vwCl wf H1 ∧ va_D A0 wf := by
  obtain ⟨hP1, -, hD1⟩ := hB
  rw [ht] at hP1
  obtain ⟨a, b⟩ := va_join hP hD isC isR hC (wb_fm isR ws hR) hn hdis hk hF hP1 hD1
  refine ⟨a.sub perm ?_, b.sub perm hpn hp⟩
  have h2 : (perm.map (fun i => (isR.filterMap (fun i => ws[i]?) ++ w1)[i]?)).filterMap id = (wf.map some).filterMap id := by rw [hp]
  rw [List.filterMap_map, List.filterMap_map] at h2
  rw [show (wf.filterMap (id ∘ some)) = wf from by rw [show (id ∘ (some : _ → Option (Nat × va_E))) = some from rfl]; exact List.filterMap_some] at h2
  exact h2
theorem wb_fitZ {v : Int32} (h : v &&& 1 = v) : fits .boolean (.int v) = true := by
  have h3 := pk_and v (m := 1) 1 (by decide)
  rw [h] at h3
  rcases Nat.mod_two_eq_zero_or_one v.toBitVec.toNat with q | q
  · rw [show 2 ^ 1 = 2 from rfl, q] at h3
    rw [h3]; decide
  · rw [show 2 ^ 1 = 2 from rfl, q] at h3
    rw [h3]; decide
theorem wb_ne {x : Int32} (k : Int32) (h : ¬ x = k) : x.toInt ≠ k.toInt := fun e => h (Int32.toInt_inj.mp e)
/-! constructors -/
def wb_nest (NW : List (String × Nat × MethodName × String)) (U : State) : Prop := ∀ w ∈ NW, va_Nw (.methodLinkNest w.1 w.2.1 w.2.2.1 w.2.2.2) U
theorem wb_nest.warm {NW : List (String × Nat × MethodName × String)} {s U : State} (hW : s.WarmedH U.vm) (h : wb_nest NW s) : wb_nest NW U := fun w hw => va_Nw.warmM hW (h w hw)
theorem wb_nest.same {NW : List (String × Nat × MethodName × String)} {u U : State} (e : u.vm = U.vm) (h : wb_nest NW u) : wb_nest NW U := fun w hw => va_Nw.same rfl e (h w hw)
def wb_preN (D : va_G) (ty : List (ClassId × FieldType)) (ws : va_W) (sz : Nat) (NW : List (String × Nat × MethodName × String)) : State → Prop := fun U => wb_preD D ty ws sz U ∧ wb_nest NW U
theorem wb_preNS {A : Nat → Prop} {s : State} {H : Heap} {As : List Value} {D : va_G} {ty : List (ClassId × FieldType)} {ws : va_W} {NW : List (String × Nat × MethodName × String)} (hP : va_P D vwCl ws H) (hK : va_K D vwCl ty s) (hD : va_D A ws) (hN : wb_nest NW s) : PreS s H (va_Pc As (wb_preN D ty ws H.size NW)) As := by
  obtain ⟨h1, h2⟩ := wb_preDS (As := As) hP hK hD
  refine ⟨fun a U g mk q => ?_, fun U hU hW => ⟨(h2 U hU hW).1, (h2 U hU hW).2, hN.warm hW⟩⟩
  obtain ⟨q0, q1, q2⟩ := q
  obtain ⟨q3, q4⟩ := wb_blindD (av := As) a U g mk ⟨q0, q1⟩
  exact ⟨q3, q4, q2.same rfl⟩
def wb_postN (D : va_G) (ty : List (ClassId × FieldType)) (A : Nat → Prop) (h0 : Nat) (w : (Nat → Nat) → va_W) (t : State) : Prop := ∃ a : Nat → Nat, a 0 = h0 ∧ wb_post D ty A (w a) t
section WB2
variable {p : Program} {l : Launch} {e : Env} {R : Room} {s : State} {m : MethodId} {args : Array Value} {below : List Frame} {meth : Method} {c : Code} {H : Heap} {locs : List Loc} {cells slots : Nat} {Q : State → Prop}
theorem wb_newa {cc : ByteArray} {pc : Nat} {ls : Array Slot} {rest : List Value} {D : va_G} {tys : List (ClassId × FieldType)} {ws : va_W} {A : Nat → Prop} {H0 : Heap} (hexec : p.tables.exec = Jvm.exec) (hb : c.code = cc) {atype : ArrayType} (harr : (Cond.arrayClass (newarray.typeOf atype)).before args s = true) {ty : FieldType} (hty : newarray.typeOf atype = ty) (hK : va_K D vwCl tys s) (hP : va_P D vwCl ws H) (hD : va_D A ws) (hS : va_S A H0 H locs) (hA : ∀ q, H0.size ≤ q → A q)
    {cT : ClassId} (t0 : Nat) (ht : tys[t0]? = some (cT, ty)) (hRA : ∀ cA : ClassId, va_RA s cA ty → va_RA s cT ty → cA = cT) {n : Int32} {N' : Nat} (ha : ∀ cA : ClassId, vp_cell cA (N', .inl (fun _ => (0 : Int32))) = arrV cA N' (fun _ => defaultValue ty)) (hn : ¬ n < 0) (hN : n.toNatClampNeg = N') (hbytes : N' * componentBytes ty ≤ 536870912) (hcells : cells + 1 ≤ R.cells) (hslots : slots + N' ≤ R.slots) (hdg : decode cc pc = .ok (.newarray atype, 2))
    (kk : ∀ (q : Nat) (H1 : Heap), va_P D vwCl (ws ++ [(q, .inl (cT, N', .inl (fun _ => (0 : Int32))))]) H1 → va_D A (ws ++ [(q, .inl (cT, N', .inl (fun _ => (0 : Int32))))]) → va_S A H0 H1 locs →
      W p l e R s m args below meth c H1 locs (cells + 1) (slots + N') Q (F0 m (pc + 2) ls (.ref q :: rest))) : W p l e R s m args below meth c H locs cells slots Q (F0 m pc ls (.int n :: rest)) := by
  refine va_newa hexec hb harr hty hK hP hD hS hA ha hn hN hbytes hcells hslots hdg (fun q cA H1 hK1 hP1 hD1 hS1 => ?_)
  have h1 := (hK1.2 tys.length (cA, ty) (by simp)).2
  have h2 := (hK.2 t0 (cT, ty) ht).2
  have h3 := hRA cA h1 h2
  subst h3
  exact kk q H1 hP1 hD1 hS1
end WB2
theorem wb_raI {s : State} {cT : ClassId} (cA : ClassId) (h1 : va_RA s cA .int) (h2 : va_RA s cT .int) : cA = cT := Option.some.inj (Eq.trans (Eq.symm (show s.vm.findClass _ = some cA from h1)) (show s.vm.findClass _ = some cT from h2))
theorem wb_raB {s : State} {cT : ClassId} (cA : ClassId) (h1 : va_RA s cA .byte) (h2 : va_RA s cT .byte) : cA = cT := Option.some.inj (Eq.trans (Eq.symm (show s.vm.findClass _ = some cA from h1)) (show s.vm.findClass _ = some cT from h2))
theorem wb_raZ {s : State} {cT : ClassId} (cA : ClassId) (h1 : va_RA s cA .boolean) (h2 : va_RA s cT .boolean) : cA = cT := Option.some.inj (Eq.trans (Eq.symm (show s.vm.findClass _ = some cA from h1)) (show s.vm.findClass _ = some cT from h2))
/-! methods that may throw: .inl k says which exception, .inr what is returned -/
def wb_E1 : String := "java/util/NoSuchElementException"
def wb_E2 : String := "java/lang/IllegalArgumentException"
def wb_ex (k : Nat) : String := if k = 1 then wb_E1 else wb_E2
def wb_dc : List MethodName := [Bundle.initS "java/lang/RuntimeException", Bundle.initS "java/lang/Exception", Bundle.initS Bundle.tN]
def wb_XH (H : Heap) (U : State) : Prop := (∀ x ∈ wb_dc, va_Nw (.declares x) U) ∧ vx_Zq Bundle.tN "UNASSIGNED_STACK" Bundle.steD (fun q => H.size ≤ q) U H ∧ vx_Zq Bundle.tN "SUPPRESSED_SENTINEL" Bundle.listD (fun q => H.size ≤ q) U H ∧ va_Nw (.castable wb_E1 wb_E1) U ∧ va_Nw (.castable wb_E2 wb_E2) U ∧ (∃ sa, vk_R RX11 371 "there is none such" sa U) ∧ (∃ sa, vk_R RX11 375 "not as the document tells" sa U) ∧ ∃ sa, vk_R RX11 159 "no such count" sa U
def wb_preX (D : va_G) (ty : List (ClassId × FieldType)) (ws : va_W) (sz : Nat) : State → Prop := fun U => U.heap.size = sz ∧ va_P D vwCl ws U.heap ∧ va_K D vwCl ty U ∧ wb_XH U.heap U
theorem wb_XH.warm {H : Heap} {s U : State} (hW : s.WarmedH U.vm) (h : wb_XH H s) : wb_XH H U := by
  obtain ⟨h0, h1, h2, h3, h4, ⟨a5, h5⟩, ⟨a6, h6⟩, ⟨a7, h7⟩⟩ := h
  exact ⟨fun x hx => va_Nw.warmD hW (h0 x hx), vx_Zq.moved hW.alike h1, vx_Zq.moved hW.alike h2, va_Nw.warmC hW h3, va_Nw.warmC hW h4, ⟨a5, h5.warm hW⟩, ⟨a6, h6.warm hW⟩, ⟨a7, h7.warm hW⟩⟩
theorem wb_XH.same {H : Heap} {u U : State} (e : u.vm = U.vm) (h : wb_XH H u) : wb_XH H U := by
  obtain ⟨h0, h1, h2, h3, h4, ⟨a5, h5⟩, ⟨a6, h6⟩, ⟨a7, h7⟩⟩ := h
  have hal : u.vm.Alike U.vm := by rw [e]; exact Vm.Alike.refl U.vm
  exact ⟨fun x hx => va_Nw.same rfl e (h0 x hx), vx_Zq.moved hal h1, vx_Zq.moved hal h2, va_Nw.same rfl e h3, va_Nw.same rfl e h4, ⟨a5, h5.same e.symm⟩, ⟨a6, h6.same e.symm⟩, ⟨a7, h7.same e.symm⟩⟩
theorem wb_blindX {av : List Value} {D : va_G} {ty : List (ClassId × FieldType)} {ws : va_W} {sz : Nat} : FrameBlind (va_Pc av (wb_preX D ty ws sz)) := by
  intro a U g mk q
  obtain ⟨q0, q1, qP, qK, qX⟩ := q
  exact ⟨q0, q1, qP, va_K.moved (u := U) (U := U.calling g mk a) (Vm.Alike.refl U.vm) qK, wb_XH.same (u := U) rfl qX⟩
theorem wb_preXS {s : State} {H : Heap} {As : List Value} {D : va_G} {ty : List (ClassId × FieldType)} {ws : va_W} (hP : va_P D vwCl ws H) (hK : va_K D vwCl ty s) (hX : wb_XH H s) : PreS s H (va_Pc As (wb_preX D ty ws H.size)) As :=
  ⟨wb_blindX, fun U hU hW => ⟨rfl, by rw [hU], by rw [hU]; exact hP, va_K.moved hW.alike hK, by rw [hU]; exact hX.warm hW⟩⟩
theorem wb_preXV {s : State} {H : Heap} {C : String} {b : Addr} {As : List Value} {D : va_G} {ty : List (ClassId × FieldType)} {ws : va_W} (hP : va_P D vwCl ws H) (hK : va_K D vwCl ty s) (hX : wb_XH H s) (hr : ∃ cellB : Cell, H[b]? = some cellB ∧ cellB.vm.isStatics = false ∧ s.vm.findClass C = some cellB.cls) : PreV s H C b (va_Pc (.ref b :: As) (wb_preX D ty ws H.size)) As :=
  ⟨wb_blindX, hr, fun U hU hW => ⟨rfl, by rw [hU], by rw [hU]; exact hP, va_K.moved hW.alike hK, by rw [hU]; exact hX.warm hW⟩⟩
section WB3
variable {p : Program} {l : Launch} {e : Env} {R : Room} {s : State} {m : MethodId} {args : Array Value} {below : List Frame} {meth : Method} {c : Code} {H : Heap} {locs : List Loc} {Qc : Array Value → State → Outcome → State → Prop} {ls : Array Slot}
theorem wb_thF (hS : va_S (fun q => s.heap.size ≤ q) s.heap H locs) {t : State} (hz : H.size ≤ t.heap.size) (hk : ∀ q : Nat, q < H.size → t.heap[q]? = H[q]?) : va_F (fun q => s.heap.size ≤ q) s t :=
  ⟨Nat.le_trans hS.1 hz, fun q h1 h2 => (hk q (Nat.lt_of_lt_of_le h1 hS.1)).trans (hS.2.1 q h1 h2)⟩
theorem wb_throwW1 {cc : ByteArray} {pc : Nat} (hexec : p.tables.exec = Jvm.exec) (hb : c.code = cc) (hlt : l.stackTraces = false) (hown : s.vm.findClass RX11 = some m.cls) (hk : (Cond.classLink RX11 157 "java/util/NoSuchElementException").before args s = true) (hini : (Cond.initialized "java/util/NoSuchElementException").before args s = true) (hat : ∀ w ∈ (vx_atS RX11 161 "java/util/NoSuchElementException" ["java/lang/RuntimeException", "java/lang/Exception"]).filter goodWord, w.before args s = true) (hX : wb_XH s.heap s) (hS : va_S (fun q => s.heap.size ≤ q) s.heap H locs) (hsize : ls.size = c.maxLocals)
    (d0 : decode cc pc = .ok (.new 157, 3)) (d3 : decode cc (pc + 3) = .ok (.dup, 1)) (d4 : decode cc (pc + 4) = .ok (.ldc_w 371, 3)) (d7 : decode cc (pc + 7) = .ok (.invokespecial 161, 3)) (d10 : decode cc (pc + 10) = .ok (.athrow, 1)) (hout : ∀ x ∈ c.exceptionTable.toList, covers x (pc + 10) = false) (hlocks : meth.locks = false) (hRf : 5 < R.frames) (hRl : 82 ≤ R.locals) (hRc : 1 ≤ R.cells) (hRs : 6 ≤ R.slots) :
    W p l e R s m args below meth c H locs 0 0 (vx_MQ below Qc (vx_X (fun _ : Unit => True) (fun E _ _ => E = wb_ex 1) (fun q => s.heap.size ≤ q)) args s 1 6 (fun q => s.heap.size ≤ q)) (F0 m pc ls []) := by
  obtain ⟨h0, h1, h2, h3, h4, ⟨a5, h5⟩, ⟨a6, h6⟩, ⟨a7, h7⟩⟩ := hX
  exact vx_throwSW hexec hb hlt hown (by decide +kernel) (by decide +kernel) hk hini h5 (vx_hat hat (B := [.castable wb_E1 wb_E1, .declares (Bundle.initS "java/lang/RuntimeException"), .declares (Bundle.initS "java/lang/Exception"), .declares (Bundle.initS Bundle.tN)]) (by decide +kernel) (vx_c (va_Nw.use rfl h3) (vx_c (va_Nw.use rfl (h0 _ (by decide +kernel))) (vx_c (va_Nw.use rfl (h0 _ (by decide +kernel))) (vx_c (va_Nw.use rfl (h0 _ (by decide +kernel))) vx_n))))) (by decide +kernel) h1 h2 hS hsize d0 d3 d4 d7 d10 hout hRf hRl hRc hRs hlocks (fun t ha hz hk => ⟨(), trivial, rfl, wb_thF hS hz hk⟩) hS.2.2 (Nat.le_refl 1) (Nat.le_refl 6)
theorem wb_throw1 {cc : ByteArray} {pc : Nat} (hexec : p.tables.exec = Jvm.exec) (hb : c.code = cc) (hlt : l.stackTraces = false) (hown : s.vm.findClass RX11 = some m.cls) (hk : (Cond.classLink RX11 157 "java/util/NoSuchElementException").before args s = true) (hini : (Cond.initialized "java/util/NoSuchElementException").before args s = true) (hat : ∀ w ∈ (vx_atS RX11 161 "java/util/NoSuchElementException" ["java/lang/RuntimeException", "java/lang/Exception"]).filter goodWord, w.before args s = true) (hX : wb_XH s.heap s) (hS : va_S (fun q => s.heap.size ≤ q) s.heap H locs) (hsize : ls.size = c.maxLocals)
    (d0 : decode cc pc = .ok (.new 157, 3)) (d3 : decode cc (pc + 3) = .ok (.dup, 1)) (d4 : decode cc (pc + 4) = .ok (.ldc 159, 2)) (d7 : decode cc (pc + 6) = .ok (.invokespecial 161, 3)) (d10 : decode cc (pc + 9) = .ok (.athrow, 1)) (hout : ∀ x ∈ c.exceptionTable.toList, covers x (pc + 9) = false) (hlocks : meth.locks = false) (hRf : 5 < R.frames) (hRl : 82 ≤ R.locals) (hRc : 1 ≤ R.cells) (hRs : 6 ≤ R.slots) :
    W p l e R s m args below meth c H locs 0 0 (vx_MQ below Qc (vx_X (fun _ : Unit => True) (fun E _ _ => E = wb_ex 1) (fun q => s.heap.size ≤ q)) args s 1 6 (fun q => s.heap.size ≤ q)) (F0 m pc ls []) := by
  obtain ⟨h0, h1, h2, h3, h4, ⟨a5, h5⟩, ⟨a6, h6⟩, ⟨a7, h7⟩⟩ := hX
  exact vx_throwS hexec hb hlt hown (by decide +kernel) (by decide +kernel) hk hini h7 (vx_hat hat (B := [.castable wb_E1 wb_E1, .declares (Bundle.initS "java/lang/RuntimeException"), .declares (Bundle.initS "java/lang/Exception"), .declares (Bundle.initS Bundle.tN)]) (by decide +kernel) (vx_c (va_Nw.use rfl h3) (vx_c (va_Nw.use rfl (h0 _ (by decide +kernel))) (vx_c (va_Nw.use rfl (h0 _ (by decide +kernel))) (vx_c (va_Nw.use rfl (h0 _ (by decide +kernel))) vx_n))))) (by decide +kernel) h1 h2 hS hsize d0 d3 d4 d7 d10 hout hRf hRl hRc hRs hlocks (fun t ha hz hk => ⟨(), trivial, rfl, wb_thF hS hz hk⟩) hS.2.2 (Nat.le_refl 1) (Nat.le_refl 6)
theorem wb_throwW2 {cc : ByteArray} {pc : Nat} (hexec : p.tables.exec = Jvm.exec) (hb : c.code = cc) (hlt : l.stackTraces = false) (hown : s.vm.findClass RX11 = some m.cls) (hk : (Cond.classLink RX11 373 "java/lang/IllegalArgumentException").before args s = true) (hini : (Cond.initialized "java/lang/IllegalArgumentException").before args s = true) (hat : ∀ w ∈ (vx_atS RX11 377 "java/lang/IllegalArgumentException" ["java/lang/RuntimeException", "java/lang/Exception"]).filter goodWord, w.before args s = true) (hX : wb_XH s.heap s) (hS : va_S (fun q => s.heap.size ≤ q) s.heap H locs) (hsize : ls.size = c.maxLocals)
    (d0 : decode cc pc = .ok (.new 373, 3)) (d3 : decode cc (pc + 3) = .ok (.dup, 1)) (d4 : decode cc (pc + 4) = .ok (.ldc_w 375, 3)) (d7 : decode cc (pc + 7) = .ok (.invokespecial 377, 3)) (d10 : decode cc (pc + 10) = .ok (.athrow, 1)) (hout : ∀ x ∈ c.exceptionTable.toList, covers x (pc + 10) = false) (hlocks : meth.locks = false) (hRf : 5 < R.frames) (hRl : 82 ≤ R.locals) (hRc : 1 ≤ R.cells) (hRs : 6 ≤ R.slots) :
    W p l e R s m args below meth c H locs 0 0 (vx_MQ below Qc (vx_X (fun _ : Unit => True) (fun E _ _ => E = wb_ex 2) (fun q => s.heap.size ≤ q)) args s 1 6 (fun q => s.heap.size ≤ q)) (F0 m pc ls []) := by
  obtain ⟨h0, h1, h2, h3, h4, ⟨a5, h5⟩, ⟨a6, h6⟩, ⟨a7, h7⟩⟩ := hX
  exact vx_throwSW hexec hb hlt hown (by decide +kernel) (by decide +kernel) hk hini h6 (vx_hat hat (B := [.castable wb_E2 wb_E2, .declares (Bundle.initS "java/lang/RuntimeException"), .declares (Bundle.initS "java/lang/Exception"), .declares (Bundle.initS Bundle.tN)]) (by decide +kernel) (vx_c (va_Nw.use rfl h4) (vx_c (va_Nw.use rfl (h0 _ (by decide +kernel))) (vx_c (va_Nw.use rfl (h0 _ (by decide +kernel))) (vx_c (va_Nw.use rfl (h0 _ (by decide +kernel))) vx_n))))) (by decide +kernel) h1 h2 hS hsize d0 d3 d4 d7 d10 hout hRf hRl hRc hRs hlocks (fun t ha hz hk => ⟨(), trivial, rfl, wb_thF hS hz hk⟩) hS.2.2 (Nat.le_refl 1) (Nat.le_refl 6)
end WB3
theorem wr_0 {s : State} {H : Heap} {D : va_G} {a q0 : Nat} {fs : List Value} {ws : va_W} {tys : List (ClassId × FieldType)} (hK : va_K D vwCl tys s) (hP : va_P D vwCl ws H) (he : ws[q0]? = some (a, .inr (0, fs))) : ∃ cell : Cell, H[a]? = some cell ∧ cell.vm.isStatics = false ∧ s.vm.findClass RX0 = some cell.cls := (va_recv hK hP (ci := 0) rfl he :)
theorem wr_1 {s : State} {H : Heap} {D : va_G} {a q0 : Nat} {fs : List Value} {ws : va_W} {tys : List (ClassId × FieldType)} (hK : va_K D vwCl tys s) (hP : va_P D vwCl ws H) (he : ws[q0]? = some (a, .inr (1, fs))) : ∃ cell : Cell, H[a]? = some cell ∧ cell.vm.isStatics = false ∧ s.vm.findClass RX1 = some cell.cls := (va_recv hK hP (ci := 1) rfl he :)
theorem wr_2 {s : State} {H : Heap} {D : va_G} {a q0 : Nat} {fs : List Value} {ws : va_W} {tys : List (ClassId × FieldType)} (hK : va_K D vwCl tys s) (hP : va_P D vwCl ws H) (he : ws[q0]? = some (a, .inr (2, fs))) : ∃ cell : Cell, H[a]? = some cell ∧ cell.vm.isStatics = false ∧ s.vm.findClass RX2 = some cell.cls := (va_recv hK hP (ci := 2) rfl he :)
theorem wr_3 {s : State} {H : Heap} {D : va_G} {a q0 : Nat} {fs : List Value} {ws : va_W} {tys : List (ClassId × FieldType)} (hK : va_K D vwCl tys s) (hP : va_P D vwCl ws H) (he : ws[q0]? = some (a, .inr (3, fs))) : ∃ cell : Cell, H[a]? = some cell ∧ cell.vm.isStatics = false ∧ s.vm.findClass RX3 = some cell.cls := (va_recv hK hP (ci := 3) rfl he :)
theorem wr_4 {s : State} {H : Heap} {D : va_G} {a q0 : Nat} {fs : List Value} {ws : va_W} {tys : List (ClassId × FieldType)} (hK : va_K D vwCl tys s) (hP : va_P D vwCl ws H) (he : ws[q0]? = some (a, .inr (4, fs))) : ∃ cell : Cell, H[a]? = some cell ∧ cell.vm.isStatics = false ∧ s.vm.findClass RX4 = some cell.cls := (va_recv hK hP (ci := 4) rfl he :)
theorem wr_5 {s : State} {H : Heap} {D : va_G} {a q0 : Nat} {fs : List Value} {ws : va_W} {tys : List (ClassId × FieldType)} (hK : va_K D vwCl tys s) (hP : va_P D vwCl ws H) (he : ws[q0]? = some (a, .inr (5, fs))) : ∃ cell : Cell, H[a]? = some cell ∧ cell.vm.isStatics = false ∧ s.vm.findClass RX5 = some cell.cls := (va_recv hK hP (ci := 5) rfl he :)
theorem wr_6 {s : State} {H : Heap} {D : va_G} {a q0 : Nat} {fs : List Value} {ws : va_W} {tys : List (ClassId × FieldType)} (hK : va_K D vwCl tys s) (hP : va_P D vwCl ws H) (he : ws[q0]? = some (a, .inr (6, fs))) : ∃ cell : Cell, H[a]? = some cell ∧ cell.vm.isStatics = false ∧ s.vm.findClass RX6 = some cell.cls := (va_recv hK hP (ci := 6) rfl he :)
theorem wr_7 {s : State} {H : Heap} {D : va_G} {a q0 : Nat} {fs : List Value} {ws : va_W} {tys : List (ClassId × FieldType)} (hK : va_K D vwCl tys s) (hP : va_P D vwCl ws H) (he : ws[q0]? = some (a, .inr (7, fs))) : ∃ cell : Cell, H[a]? = some cell ∧ cell.vm.isStatics = false ∧ s.vm.findClass RX7 = some cell.cls := (va_recv hK hP (ci := 7) rfl he :)
theorem wr_8 {s : State} {H : Heap} {D : va_G} {a q0 : Nat} {fs : List Value} {ws : va_W} {tys : List (ClassId × FieldType)} (hK : va_K D vwCl tys s) (hP : va_P D vwCl ws H) (he : ws[q0]? = some (a, .inr (8, fs))) : ∃ cell : Cell, H[a]? = some cell ∧ cell.vm.isStatics = false ∧ s.vm.findClass RX8 = some cell.cls := (va_recv hK hP (ci := 8) rfl he :)
theorem wr_9 {s : State} {H : Heap} {D : va_G} {a q0 : Nat} {fs : List Value} {ws : va_W} {tys : List (ClassId × FieldType)} (hK : va_K D vwCl tys s) (hP : va_P D vwCl ws H) (he : ws[q0]? = some (a, .inr (9, fs))) : ∃ cell : Cell, H[a]? = some cell ∧ cell.vm.isStatics = false ∧ s.vm.findClass RX9 = some cell.cls := (va_recv hK hP (ci := 9) rfl he :)
theorem wr_10 {s : State} {H : Heap} {D : va_G} {a q0 : Nat} {fs : List Value} {ws : va_W} {tys : List (ClassId × FieldType)} (hK : va_K D vwCl tys s) (hP : va_P D vwCl ws H) (he : ws[q0]? = some (a, .inr (10, fs))) : ∃ cell : Cell, H[a]? = some cell ∧ cell.vm.isStatics = false ∧ s.vm.findClass RX10 = some cell.cls := (va_recv hK hP (ci := 10) rfl he :)
theorem wr_11 {s : State} {H : Heap} {D : va_G} {a q0 : Nat} {fs : List Value} {ws : va_W} {tys : List (ClassId × FieldType)} (hK : va_K D vwCl tys s) (hP : va_P D vwCl ws H) (he : ws[q0]? = some (a, .inr (11, fs))) : ∃ cell : Cell, H[a]? = some cell ∧ cell.vm.isStatics = false ∧ s.vm.findClass RX11 = some cell.cls := (va_recv hK hP (ci := 11) rfl he :)
theorem wr_12 {s : State} {H : Heap} {D : va_G} {a q0 : Nat} {fs : List Value} {ws : va_W} {tys : List (ClassId × FieldType)} (hK : va_K D vwCl tys s) (hP : va_P D vwCl ws H) (he : ws[q0]? = some (a, .inr (12, fs))) : ∃ cell : Cell, H[a]? = some cell ∧ cell.vm.isStatics = false ∧ s.vm.findClass RX12 = some cell.cls := (va_recv hK hP (ci := 12) rfl he :)
theorem pn_X0 : plainName RX0 = true := by decide
theorem pn_X1 : plainName RX1 = true := by decide
theorem pn_X2 : plainName RX2 = true := by decide
theorem pn_X3 : plainName RX3 = true := by decide
theorem pn_X4 : plainName RX4 = true := by decide
theorem pn_X5 : plainName RX5 = true := by decide
theorem pn_X6 : plainName RX6 = true := by decide
theorem pn_X7 : plainName RX7 = true := by decide
theorem pn_X8 : plainName RX8 = true := by decide
theorem pn_X9 : plainName RX9 = true := by decide
theorem pn_X10 : plainName RX10 = true := by decide
theorem pn_X11 : plainName RX11 = true := by decide
theorem pn_X12 : plainName RX12 = true := by decide
theorem pn_L : plainName RL = true := by decide
/-! worlds in blocks: a call that has one block, or two, of a world's cells -/
theorem wj_pm {D : va_G} {cl : List vw_C} {ws : va_W} {H : Heap} : va_P D cl ws H ↔ ∀ q ∈ ws, va_at D cl q H := by
  constructor
  · intro h q hq
    obtain ⟨i, hi⟩ := List.getElem?_of_mem hq
    exact h i q hi
  · intro h k q hk
    exact h q (List.mem_of_getElem? hk)
theorem wj_dm {A : Nat → Prop} {ws : va_W} : va_D A ws ↔ ws.Pairwise (fun p q => p.1 ≠ q.1) ∧ ∀ q ∈ ws, A q.1 := by
  constructor
  · intro h
    refine ⟨List.pairwise_iff_getElem.mpr (fun i j hi hj hij e => ?_), fun q hq => ?_⟩
    · have := h.1 i j ws[i] ws[j] (List.getElem?_eq_getElem hi) (List.getElem?_eq_getElem hj) e
      omega
    · obtain ⟨i, hi⟩ := List.getElem?_of_mem hq
      exact h.2 i q hi
  · intro h
    refine ⟨fun i j p q hp hq e => ?_, fun k q hk => h.2 q (List.mem_of_getElem? hk)⟩
    obtain ⟨hi, rfl⟩ := List.getElem?_eq_some_iff.mp hp
    obtain ⟨hj, rfl⟩ := List.getElem?_eq_some_iff.mp hq
    rcases Nat.lt_trichotomy i j with r | r | r
    · exact absurd e (List.pairwise_iff_getElem.mp h.1 i j hi hj r)
    · exact r
    · exact absurd e.symm (List.pairwise_iff_getElem.mp h.1 j i hj hi r)
theorem wj_pP {D : va_G} {cl : List vw_C} {v w : va_W} {H : Heap} (p : List.Perm v w) (h : va_P D cl v H) : va_P D cl w H := wj_pm.mpr (fun q hq => wj_pm.mp h q (p.mem_iff.mpr hq))
theorem wj_pD {A : Nat → Prop} {v w : va_W} (p : List.Perm v w) (h : va_D A v) : va_D A w := by
  obtain ⟨a, b⟩ := wj_dm.mp h
  exact wj_dm.mpr ⟨(p.pairwise_iff (fun e => Ne.symm e)).mp a, fun q hq => b q (p.mem_iff.mpr hq)⟩
theorem wj_P1 {D : va_G} {cl : List vw_C} {X Y : va_W} {H : Heap} (h : va_P D cl (X ++ Y) H) : va_P D cl X H := wj_pm.mpr (fun q hq => wj_pm.mp h q (List.mem_append_left _ hq))
theorem wj_D1 {A : Nat → Prop} {X Y : va_W} (h : va_D A (X ++ Y)) : va_D A X := by
  obtain ⟨a, b⟩ := wj_dm.mp h
  exact wj_dm.mpr ⟨(List.pairwise_append.mp a).1, fun q hq => b q (List.mem_append_left _ hq)⟩
theorem wj_m2 (X Y Z : va_W) : List.Perm (X ++ (Y ++ Z)) (Y ++ (X ++ Z)) := List.perm_append_comm_assoc X Y Z
theorem wj_m3 (X Y Z : va_W) : List.Perm (X ++ (Y ++ Z)) ((X ++ Z) ++ Y) := by
  rw [List.append_assoc]
  exact List.Perm.append_left X List.perm_append_comm
theorem wj_P2 {D : va_G} {cl : List vw_C} {X Y Z : va_W} {H : Heap} (h : va_P D cl (X ++ (Y ++ Z)) H) : va_P D cl Y H := wj_P1 (wj_pP (wj_m2 X Y Z) h)
theorem wj_D2 {A : Nat → Prop} {X Y Z : va_W} (h : va_D A (X ++ (Y ++ Z))) : va_D A Y := wj_D1 (wj_pD (wj_m2 X Y Z) h)
theorem wj_P3 {D : va_G} {cl : List vw_C} {X Y Z : va_W} {H : Heap} (h : va_P D cl (X ++ (Y ++ Z)) H) : va_P D cl (X ++ Z) H := wj_P1 (wj_pP (wj_m3 X Y Z) h)
theorem wj_D3 {A : Nat → Prop} {X Y Z : va_W} (h : va_D A (X ++ (Y ++ Z))) : va_D A (X ++ Z) := wj_D1 (wj_pD (wj_m3 X Y Z) h)
theorem wj_F {A0 : Nat → Prop} {C : va_W} {H0 H : Heap} {locs : List Loc} (hD : va_D A0 C) (hS : va_S A0 H0 H locs) (hA : ∀ q, H0.size ≤ q → A0 q) : ∀ q, va_A C H.size q → A0 q := by
  intro q h
  rcases h with ⟨k, e, h⟩ | h
  · exact hD.2 k (q, e) h
  · exact hA q (Nat.le_trans hS.1 h)
theorem wj_1 {A0 : Nat → Prop} {D : va_G} {ty : List (ClassId × FieldType)} {C R C' : va_W} {H H1 : Heap} {t : State} (hP : va_P D vwCl (C ++ R) H) (hD : va_D A0 (C ++ R)) (hk : ∀ q : Nat, q < H.size → ¬ va_A C H.size q → H1[q]? = H[q]?) (hF : ∀ q, va_A C H.size q → A0 q) (ht : t.heap = H1) (hB : wb_post D ty (va_A C H.size) C' t) : va_P D vwCl (C' ++ R) H1 ∧ va_D A0 (C' ++ R) := by
  obtain ⟨hP1, -, hD1⟩ := hB
  rw [ht] at hP1
  have p0 := wj_pm.mp hP
  have p1 := wj_pm.mp hP1
  obtain ⟨d0, e0⟩ := wj_dm.mp hD
  obtain ⟨d1, e1⟩ := wj_dm.mp hD1
  have d2 := List.pairwise_append.mp d0
  have apart : ∀ q ∈ R, q.1 < H.size ∧ ¬ va_A C H.size q.1 := by
    intro q hq
    have hl := (p0 q (List.mem_append_right _ hq)).lt
    refine ⟨hl, fun h => ?_⟩
    rcases h with ⟨k, e, h⟩ | h
    · exact d2.2.2 (q.1, e) (List.mem_of_getElem? h) q hq rfl
    · omega
  refine ⟨wj_pm.mpr (fun q hq => ?_), wj_dm.mpr ⟨List.pairwise_append.mpr ⟨d1, d2.2.1, fun a ha b hb e => ?_⟩, fun q hq => ?_⟩⟩
  · rcases List.mem_append.mp hq with h | h
    · exact p1 q h
    · exact (p0 q (List.mem_append_right _ h)).kept (hk q.1 (apart q h).1 (apart q h).2)
  · exact (apart b hb).2 (by rw [← e]; exact e1 a ha)
  · rcases List.mem_append.mp hq with h | h
    · exact hF q.1 (e1 q h)
    · exact e0 q (List.mem_append_right _ h)
theorem wj_2 {A0 : Nat → Prop} {D : va_G} {ty : List (ClassId × FieldType)} {X C Z C' : va_W} {H H1 : Heap} {t : State} (hP : va_P D vwCl (X ++ (C ++ Z)) H) (hD : va_D A0 (X ++ (C ++ Z))) (hk : ∀ q : Nat, q < H.size → ¬ va_A C H.size q → H1[q]? = H[q]?) (hF : ∀ q, va_A C H.size q → A0 q) (ht : t.heap = H1) (hB : wb_post D ty (va_A C H.size) C' t) : va_P D vwCl (X ++ (C' ++ Z)) H1 ∧ va_D A0 (X ++ (C' ++ Z)) := by
  obtain ⟨a, b⟩ := wj_1 (wj_pP (wj_m2 X C Z) hP) (wj_pD (wj_m2 X C Z) hD) hk hF ht hB
  exact ⟨wj_pP (wj_m2 C' X Z) a, wj_pD (wj_m2 C' X Z) b⟩
theorem wj_3 {A0 : Nat → Prop} {D : va_G} {ty : List (ClassId × FieldType)} {X Y Z X' Z' : va_W} {H H1 : Heap} {t : State} (hP : va_P D vwCl (X ++ (Y ++ Z)) H) (hD : va_D A0 (X ++ (Y ++ Z))) (hk : ∀ q : Nat, q < H.size → ¬ va_A (X ++ Z) H.size q → H1[q]? = H[q]?) (hF : ∀ q, va_A (X ++ Z) H.size q → A0 q) (ht : t.heap = H1) (hB : wb_post D ty (va_A (X ++ Z) H.size) (X' ++ Z') t) : va_P D vwCl (X' ++ (Y ++ Z')) H1 ∧ va_D A0 (X' ++ (Y ++ Z')) := by
  obtain ⟨a, b⟩ := wj_1 (wj_pP (wj_m3 X Y Z) hP) (wj_pD (wj_m3 X Y Z) hD) hk hF ht hB
  exact ⟨wj_pP (wj_m3 X' Y Z').symm a, wj_pD (wj_m3 X' Y Z').symm b⟩
theorem wj_nP {D : va_G} {cl : List vw_C} {X C : va_W} {H : Heap} (h : va_P D cl (X ++ (C ++ [])) H) : va_P D cl (X ++ C) H := by
  rw [List.append_nil] at h; exact h
theorem wj_nD {A : Nat → Prop} {X C : va_W} (h : va_D A (X ++ (C ++ []))) : va_D A (X ++ C) := by
  rw [List.append_nil] at h; exact h
theorem wj_aP {D : va_G} {cl : List vw_C} {X Y Z : va_W} {H : Heap} (h : va_P D cl ((X ++ Y) ++ Z) H) : va_P D cl (X ++ (Y ++ Z)) H := by
  rw [← List.append_assoc]; exact h
theorem wj_aD {A : Nat → Prop} {X Y Z : va_W} (h : va_D A ((X ++ Y) ++ Z)) : va_D A (X ++ (Y ++ Z)) := by
  rw [← List.append_assoc]; exact h
/-! one block of a world's cells, by where it begins and ends -/
theorem wj_0 {A0 : Nat → Prop} {D : va_G} {ty : List (ClassId × FieldType)} {C C' : va_W} {H H1 : Heap} {t : State} (hF : ∀ q, va_A C H.size q → A0 q) (ht : t.heap = H1) (hB : wb_post D ty (va_A C H.size) C' t) : va_P D vwCl C' H1 ∧ va_D A0 C' := by
  obtain ⟨hP1, -, hD1⟩ := hB
  rw [ht] at hP1
  obtain ⟨d1, e1⟩ := wj_dm.mp hD1
  exact ⟨hP1, wj_dm.mpr ⟨d1, fun q hq => hF q.1 (e1 q hq)⟩⟩
theorem wj_s {A0 : Nat → Prop} {D : va_G} {ty : List (ClassId × FieldType)} {ws wc w1 wf : va_W} {H H1 : Heap} {t : State} (i j : Nat) (hP : va_P D vwCl ws H) (hD : va_D A0 ws) (h1 : ws = ws.take i ++ (wc ++ ws.drop j)) (h2 : wf = ws.take i ++ (w1 ++ ws.drop j)) (hk : ∀ q : Nat, q < H.size → ¬ va_A wc H.size q → H1[q]? = H[q]?) (hF : ∀ q, va_A wc H.size q → A0 q) (ht : t.heap = H1) (hB : wb_post D ty (va_A wc H.size) w1 t) : va_P D vwCl wf H1 ∧ va_D A0 wf := by
  rw [h2]
  rw [h1] at hP hD
  exact wj_2 hP hD hk hF ht hB
theorem wj_p4 (X A Y B Z : va_W) : List.Perm (X ++ (A ++ (Y ++ (B ++ Z)))) ((A ++ B) ++ (X ++ (Y ++ Z))) := by
  have e1 : List.Perm (X ++ (A ++ (Y ++ (B ++ Z)))) (A ++ (X ++ (Y ++ (B ++ Z)))) := List.perm_append_comm_assoc _ _ _
  have e2 : List.Perm (Y ++ (B ++ Z)) (B ++ (Y ++ Z)) := List.perm_append_comm_assoc _ _ _
  have e3 : List.Perm (X ++ (B ++ (Y ++ Z))) (B ++ (X ++ (Y ++ Z))) := List.perm_append_comm_assoc _ _ _
  rw [List.append_assoc]
  exact e1.trans (List.Perm.append_left A ((List.Perm.append_left X e2).trans e3))
theorem wj_p5 (X A Y B Z : va_W) : List.Perm (X ++ (A ++ (Y ++ (B ++ Z)))) ((B ++ A) ++ (X ++ (Y ++ Z))) := (wj_p4 X A Y B Z).trans (List.Perm.append_right _ List.perm_append_comm)
/-- two blocks: a in [i, j), b in [k, n), and the call has a ++ b -/
theorem wj_ab {A0 : Nat → Prop} {D : va_G} {ty : List (ClassId × FieldType)} {ws a b a' b' wf : va_W} {H H1 : Heap} {t : State} (i j k n : Nat) (hP : va_P D vwCl ws H) (hD : va_D A0 ws) (h1 : ws = ws.take i ++ (a ++ ((ws.drop j).take k ++ (b ++ ws.drop n)))) (h2 : wf = ws.take i ++ (a' ++ ((ws.drop j).take k ++ (b' ++ ws.drop n)))) (hk : ∀ q : Nat, q < H.size → ¬ va_A (a ++ b) H.size q → H1[q]? = H[q]?) (hF : ∀ q, va_A (a ++ b) H.size q → A0 q) (ht : t.heap = H1) (hB : wb_post D ty (va_A (a ++ b) H.size) (a' ++ b') t) : va_P D vwCl wf H1 ∧ va_D A0 wf := by
  rw [h2]
  rw [h1] at hP hD
  obtain ⟨x, y⟩ := wj_1 (wj_pP (wj_p4 _ _ _ _ _) hP) (wj_pD (wj_p4 _ _ _ _ _) hD) hk hF ht hB
  exact ⟨wj_pP (wj_p4 _ _ _ _ _).symm x, wj_pD (wj_p4 _ _ _ _ _).symm y⟩
/-- the same, and the call has b ++ a -/
theorem wj_ba {A0 : Nat → Prop} {D : va_G} {ty : List (ClassId × FieldType)} {ws a b a' b' wf : va_W} {H H1 : Heap} {t : State} (i j k n : Nat) (hP : va_P D vwCl ws H) (hD : va_D A0 ws) (h1 : ws = ws.take i ++ (a ++ ((ws.drop j).take k ++ (b ++ ws.drop n)))) (h2 : wf = ws.take i ++ (a' ++ ((ws.drop j).take k ++ (b' ++ ws.drop n)))) (hk : ∀ q : Nat, q < H.size → ¬ va_A (b ++ a) H.size q → H1[q]? = H[q]?) (hF : ∀ q, va_A (b ++ a) H.size q → A0 q) (ht : t.heap = H1) (hB : wb_post D ty (va_A (b ++ a) H.size) (b' ++ a') t) : va_P D vwCl wf H1 ∧ va_D A0 wf := by
  rw [h2]
  rw [h1] at hP hD
  obtain ⟨x, y⟩ := wj_1 (wj_pP (wj_p5 _ _ _ _ _) hP) (wj_pD (wj_p5 _ _ _ _ _) hD) hk hF ht hB
  exact ⟨wj_pP (wj_p5 _ _ _ _ _).symm x, wj_pD (wj_p5 _ _ _ _ _).symm y⟩
theorem wj_p6 (X B Y C Z A W : va_W) : List.Perm (X ++ (B ++ (Y ++ (C ++ (Z ++ (A ++ W)))))) ((A ++ (B ++ C)) ++ (X ++ (Y ++ (Z ++ W)))) := by
  have e1 := wj_p4 X B Y C (Z ++ (A ++ W))
  have f1 : List.Perm (Z ++ (A ++ W)) (A ++ (Z ++ W)) := List.perm_append_comm_assoc _ _ _
  have f2 : List.Perm (Y ++ (A ++ (Z ++ W))) (A ++ (Y ++ (Z ++ W))) := List.perm_append_comm_assoc _ _ _
  have f3 : List.Perm (X ++ (A ++ (Y ++ (Z ++ W)))) (A ++ (X ++ (Y ++ (Z ++ W)))) := List.perm_append_comm_assoc _ _ _
  have f4 : List.Perm ((B ++ C) ++ (A ++ (X ++ (Y ++ (Z ++ W))))) (A ++ ((B ++ C) ++ (X ++ (Y ++ (Z ++ W))))) := List.perm_append_comm_assoc _ _ _
  have g : List.Perm (X ++ (Y ++ (Z ++ (A ++ W)))) (A ++ (X ++ (Y ++ (Z ++ W)))) := (List.Perm.append_left X ((List.Perm.append_left Y f1).trans f2)).trans f3
  rw [List.append_assoc A (B ++ C)]
  exact e1.trans ((List.Perm.append_left (B ++ C) g).trans f4)
/-- three blocks: b, c, a in the world; the call has a ++ (b ++ c) -/
theorem wj_bca {A0 : Nat → Prop} {D : va_G} {ty : List (ClassId × FieldType)} {ws a b c a' b' c' wf : va_W} {H H1 : Heap} {t : State} (i j k n o q : Nat) (hP : va_P D vwCl ws H) (hD : va_D A0 ws) (h1 : ws = ws.take i ++ (b ++ ((ws.drop j).take k ++ (c ++ ((ws.drop n).take o ++ (a ++ ws.drop q)))))) (h2 : wf = ws.take i ++ (b' ++ ((ws.drop j).take k ++ (c' ++ ((ws.drop n).take o ++ (a' ++ ws.drop q)))))) (hk : ∀ q : Nat, q < H.size → ¬ va_A (a ++ (b ++ c)) H.size q → H1[q]? = H[q]?) (hF : ∀ q, va_A (a ++ (b ++ c)) H.size q → A0 q) (ht : t.heap = H1) (hB : wb_post D ty (va_A (a ++ (b ++ c)) H.size) (a' ++ (b' ++ c')) t) : va_P D vwCl wf H1 ∧ va_D A0 wf := by
  rw [h2]
  rw [h1] at hP hD
  obtain ⟨x, y⟩ := wj_1 (wj_pP (wj_p6 _ _ _ _ _ _ _) hP) (wj_pD (wj_p6 _ _ _ _ _ _ _) hD) hk hF ht hB
  exact ⟨wj_pP (wj_p6 _ _ _ _ _ _ _).symm x, wj_pD (wj_p6 _ _ _ _ _ _ _).symm y⟩
