noncomputable def sX0_init_0 : List Nat := 42 :: 183 :: 0 :: 3 :: 42 :: 16 :: 120 :: 188 :: 10 :: 181 :: 0 :: 9 :: 177 :: []
theorem aX0_init_0 : dc_at cX0_init 0 sX0_init_0 := dc_base (by decide +kernel)
theorem dX0_init_0 : decode cX0_init 0 = .ok (.aload_n 0, 1) := dc_42 aX0_init_0
theorem dX0_init_1 : decode cX0_init 1 = .ok (.invokespecial 3, 3) := dc_183 (a0 := 0) (b0 := 3) (dc_nn (k := 1) aX0_init_0 rfl)
theorem dX0_init_4 : decode cX0_init 4 = .ok (.aload_n 0, 1) := dc_42 (dc_nn (k := 4) aX0_init_0 rfl)
theorem dX0_init_5 : decode cX0_init 5 = .ok (.bipush 120, 2) := dc_16 (a0 := 120) (dc_nn (k := 5) aX0_init_0 rfl) (by decide)
theorem dX0_init_7 : decode cX0_init 7 = .ok (.newarray .int, 2) := dc_188_10 (dc_nn (k := 7) aX0_init_0 rfl)
theorem dX0_init_9 : decode cX0_init 9 = .ok (.putfield 9, 3) := dc_181 (a0 := 0) (b0 := 9) (dc_nn (k := 9) aX0_init_0 rfl)
theorem dX0_init_12 : decode cX0_init 12 = .ok (.return_, 1) := dc_177 (dc_nn (k := 12) aX0_init_0 rfl)
set_option maxRecDepth 20000 in
theorem ggX0_areOne_X1_degreeOf : GoodIn wsX0_areOne wsX1_degreeOf := goodIn_k _ [[5, 0, 14, 0]] (by rfl) (by decide +kernel)
set_option maxRecDepth 20000 in
theorem gX0_areOne_X1_degreeOf : GoodIn wsX0_areOne (wsV RX0 15 RX1 yX1_degreeOf wsX1_degreeOf) := goodIn_app (goodIn_k _ [[1, 0, 0, 0]] (by rfl) (gw_V _ _ _ _)) ggX0_areOne_X1_degreeOf
set_option maxRecDepth 20000 in
theorem ggX0_areOne_X4_costBeside : GoodIn wsX0_areOne wsX4_costBeside := goodIn_k _ [[11, 0, 0, 0], [10, 4, 0, 0, 0, 0, 0, 2, 0]] (by rfl) (by decide +kernel)
set_option maxRecDepth 20000 in
theorem gX0_areOne_X4_costBeside : GoodIn wsX0_areOne (wsV RX0 21 RX4 yX4_costBeside wsX4_costBeside) := goodIn_app (goodIn_k _ [[7, 0, 0, 0]] (by rfl) (gw_V _ _ _ _)) ggX0_areOne_X4_costBeside
noncomputable def sX0_areOne_80 : List Nat := 21 :: 4 :: 161 :: 0 :: 7 :: 4 :: 167 :: 0 :: 4 :: 3 :: 172 :: []
noncomputable def sX0_areOne_40 : List Nat := 159 :: 0 :: 32 :: 42 :: 21 :: 7 :: 21 :: 8 :: 182 :: 0 :: 21 :: 4 :: 164 :: 0 :: 17 :: 42 :: 21 :: 8 :: 21 :: 7 :: 182 :: 0 :: 21 :: 4 :: 164 :: 0 :: 5 :: 3 :: 172 :: 132 :: 5 :: 1 :: 132 :: 6 :: 1 :: 167 :: 255 :: 187 :: 21 :: 5 :: sX0_areOne_80
noncomputable def sX0_areOne_0 : List Nat := 3 :: 54 :: 5 :: 3 :: 54 :: 6 :: 21 :: 6 :: 16 :: 7 :: 162 :: 0 :: 68 :: 43 :: 28 :: 21 :: 6 :: 182 :: 0 :: 15 :: 54 :: 7 :: 43 :: 29 :: 21 :: 6 :: 182 :: 0 :: 15 :: 54 :: 8 :: 21 :: 7 :: 2 :: 159 :: 0 :: 38 :: 21 :: 8 :: 2 :: sX0_areOne_40
theorem aX0_areOne_0 : dc_at cX0_areOne 0 sX0_areOne_0 := dc_base (by decide +kernel)
theorem aX0_areOne_40 : dc_at cX0_areOne 40 sX0_areOne_40 := dc_nn (k := 40) aX0_areOne_0 rfl
theorem aX0_areOne_80 : dc_at cX0_areOne 80 sX0_areOne_80 := dc_nn (k := 40) aX0_areOne_40 rfl
theorem dX0_areOne_0 : decode cX0_areOne 0 = .ok (.iconst 0, 1) := dc_3 aX0_areOne_0
theorem dX0_areOne_1 : decode cX0_areOne 1 = .ok (.istore 5, 2) := dc_54 (a0 := 5) (dc_nn (k := 1) aX0_areOne_0 rfl)
theorem dX0_areOne_3 : decode cX0_areOne 3 = .ok (.iconst 0, 1) := dc_3 (dc_nn (k := 3) aX0_areOne_0 rfl)
theorem dX0_areOne_4 : decode cX0_areOne 4 = .ok (.istore 6, 2) := dc_54 (a0 := 6) (dc_nn (k := 4) aX0_areOne_0 rfl)
theorem dX0_areOne_6 : decode cX0_areOne 6 = .ok (.iload 6, 2) := dc_21 (a0 := 6) (dc_nn (k := 6) aX0_areOne_0 rfl)
theorem dX0_areOne_8 : decode cX0_areOne 8 = .ok (.bipush 7, 2) := dc_16 (a0 := 7) (dc_nn (k := 8) aX0_areOne_0 rfl) (by decide)
theorem dX0_areOne_10 : decode cX0_areOne 10 = .ok (.if_icmp .ge 68, 3) := dc_162 (a0 := 0) (b0 := 68) (dc_nn (k := 10) aX0_areOne_0 rfl) (by decide)
theorem dX0_areOne_13 : decode cX0_areOne 13 = .ok (.aload_n 1, 1) := dc_43 (dc_nn (k := 13) aX0_areOne_0 rfl)
theorem dX0_areOne_14 : decode cX0_areOne 14 = .ok (.iload_n 2, 1) := dc_28 (dc_nn (k := 14) aX0_areOne_0 rfl)
theorem dX0_areOne_15 : decode cX0_areOne 15 = .ok (.iload 6, 2) := dc_21 (a0 := 6) (dc_nn (k := 15) aX0_areOne_0 rfl)
theorem dX0_areOne_17 : decode cX0_areOne 17 = .ok (.invokevirtual 15, 3) := dc_182 (a0 := 0) (b0 := 15) (dc_nn (k := 17) aX0_areOne_0 rfl)
theorem dX0_areOne_20 : decode cX0_areOne 20 = .ok (.istore 7, 2) := dc_54 (a0 := 7) (dc_nn (k := 20) aX0_areOne_0 rfl)
theorem dX0_areOne_22 : decode cX0_areOne 22 = .ok (.aload_n 1, 1) := dc_43 (dc_nn (k := 22) aX0_areOne_0 rfl)
theorem dX0_areOne_23 : decode cX0_areOne 23 = .ok (.iload_n 3, 1) := dc_29 (dc_nn (k := 23) aX0_areOne_0 rfl)
theorem dX0_areOne_24 : decode cX0_areOne 24 = .ok (.iload 6, 2) := dc_21 (a0 := 6) (dc_nn (k := 24) aX0_areOne_0 rfl)
theorem dX0_areOne_26 : decode cX0_areOne 26 = .ok (.invokevirtual 15, 3) := dc_182 (a0 := 0) (b0 := 15) (dc_nn (k := 26) aX0_areOne_0 rfl)
theorem dX0_areOne_29 : decode cX0_areOne 29 = .ok (.istore 8, 2) := dc_54 (a0 := 8) (dc_nn (k := 29) aX0_areOne_0 rfl)
theorem dX0_areOne_31 : decode cX0_areOne 31 = .ok (.iload 7, 2) := dc_21 (a0 := 7) (dc_nn (k := 31) aX0_areOne_0 rfl)
theorem dX0_areOne_33 : decode cX0_areOne 33 = .ok (.iconst (-1), 1) := dc_2 (dc_nn (k := 33) aX0_areOne_0 rfl)
theorem dX0_areOne_34 : decode cX0_areOne 34 = .ok (.if_icmp .eq 38, 3) := dc_159 (a0 := 0) (b0 := 38) (dc_nn (k := 34) aX0_areOne_0 rfl) (by decide)
theorem dX0_areOne_37 : decode cX0_areOne 37 = .ok (.iload 8, 2) := dc_21 (a0 := 8) (dc_nn (k := 37) aX0_areOne_0 rfl)
theorem dX0_areOne_39 : decode cX0_areOne 39 = .ok (.iconst (-1), 1) := dc_2 (dc_nn (k := 39) aX0_areOne_0 rfl)
theorem dX0_areOne_40 : decode cX0_areOne 40 = .ok (.if_icmp .eq 32, 3) := dc_159 (a0 := 0) (b0 := 32) aX0_areOne_40 (by decide)
theorem dX0_areOne_43 : decode cX0_areOne 43 = .ok (.aload_n 0, 1) := dc_42 (dc_nn (k := 3) aX0_areOne_40 rfl)
theorem dX0_areOne_44 : decode cX0_areOne 44 = .ok (.iload 7, 2) := dc_21 (a0 := 7) (dc_nn (k := 4) aX0_areOne_40 rfl)
theorem dX0_areOne_46 : decode cX0_areOne 46 = .ok (.iload 8, 2) := dc_21 (a0 := 8) (dc_nn (k := 6) aX0_areOne_40 rfl)
theorem dX0_areOne_48 : decode cX0_areOne 48 = .ok (.invokevirtual 21, 3) := dc_182 (a0 := 0) (b0 := 21) (dc_nn (k := 8) aX0_areOne_40 rfl)
theorem dX0_areOne_51 : decode cX0_areOne 51 = .ok (.iconst 1, 1) := dc_4 (dc_nn (k := 11) aX0_areOne_40 rfl)
theorem dX0_areOne_52 : decode cX0_areOne 52 = .ok (.if_icmp .le 17, 3) := dc_164 (a0 := 0) (b0 := 17) (dc_nn (k := 12) aX0_areOne_40 rfl) (by decide)
theorem dX0_areOne_55 : decode cX0_areOne 55 = .ok (.aload_n 0, 1) := dc_42 (dc_nn (k := 15) aX0_areOne_40 rfl)
theorem dX0_areOne_56 : decode cX0_areOne 56 = .ok (.iload 8, 2) := dc_21 (a0 := 8) (dc_nn (k := 16) aX0_areOne_40 rfl)
theorem dX0_areOne_58 : decode cX0_areOne 58 = .ok (.iload 7, 2) := dc_21 (a0 := 7) (dc_nn (k := 18) aX0_areOne_40 rfl)
theorem dX0_areOne_60 : decode cX0_areOne 60 = .ok (.invokevirtual 21, 3) := dc_182 (a0 := 0) (b0 := 21) (dc_nn (k := 20) aX0_areOne_40 rfl)
theorem dX0_areOne_63 : decode cX0_areOne 63 = .ok (.iconst 1, 1) := dc_4 (dc_nn (k := 23) aX0_areOne_40 rfl)
theorem dX0_areOne_64 : decode cX0_areOne 64 = .ok (.if_icmp .le 5, 3) := dc_164 (a0 := 0) (b0 := 5) (dc_nn (k := 24) aX0_areOne_40 rfl) (by decide)
theorem dX0_areOne_67 : decode cX0_areOne 67 = .ok (.iconst 0, 1) := dc_3 (dc_nn (k := 27) aX0_areOne_40 rfl)
theorem dX0_areOne_68 : decode cX0_areOne 68 = .ok (.ireturn, 1) := dc_172 (dc_nn (k := 28) aX0_areOne_40 rfl)
theorem dX0_areOne_69 : decode cX0_areOne 69 = .ok (.iinc 5 1, 3) := dc_132 (a0 := 5) (a1 := 1) (dc_nn (k := 29) aX0_areOne_40 rfl) (by decide)
theorem dX0_areOne_72 : decode cX0_areOne 72 = .ok (.iinc 6 1, 3) := dc_132 (a0 := 6) (a1 := 1) (dc_nn (k := 32) aX0_areOne_40 rfl) (by decide)
theorem dX0_areOne_75 : decode cX0_areOne 75 = .ok (.goto (-69), 3) := dc_167 (a0 := 255) (b0 := 187) (dc_nn (k := 35) aX0_areOne_40 rfl) (by decide)
theorem dX0_areOne_78 : decode cX0_areOne 78 = .ok (.iload 5, 2) := dc_21 (a0 := 5) (dc_nn (k := 38) aX0_areOne_40 rfl)
theorem dX0_areOne_80 : decode cX0_areOne 80 = .ok (.iload 4, 2) := dc_21 (a0 := 4) aX0_areOne_80
theorem dX0_areOne_82 : decode cX0_areOne 82 = .ok (.if_icmp .lt 7, 3) := dc_161 (a0 := 0) (b0 := 7) (dc_nn (k := 2) aX0_areOne_80 rfl) (by decide)
theorem dX0_areOne_85 : decode cX0_areOne 85 = .ok (.iconst 1, 1) := dc_4 (dc_nn (k := 5) aX0_areOne_80 rfl)
theorem dX0_areOne_86 : decode cX0_areOne 86 = .ok (.goto 4, 3) := dc_167 (a0 := 0) (b0 := 4) (dc_nn (k := 6) aX0_areOne_80 rfl) (by decide)
theorem dX0_areOne_89 : decode cX0_areOne 89 = .ok (.iconst 0, 1) := dc_3 (dc_nn (k := 9) aX0_areOne_80 rfl)
theorem dX0_areOne_90 : decode cX0_areOne 90 = .ok (.ireturn, 1) := dc_172 (dc_nn (k := 10) aX0_areOne_80 rfl)
set_option maxRecDepth 20000 in
theorem ggX0_partBy_X0_areOne : GoodIn wsX0_partBy wsX0_areOne := goodIn_k _ [[5, 0, 0, 0, 0, 0, 0, 0, 0, 0, 0, 0, 0, 0, 0, 0, 0, 0, 0, 0, 0, 9, 0, 0, 0]] (by rfl) (by decide +kernel)
set_option maxRecDepth 20000 in
theorem gX0_partBy_X0_areOne : GoodIn wsX0_partBy (va_wsS RX0 26 yX0_areOne wsX0_areOne) := goodIn_app (goodIn_k _ [[2, 0, 0]] (by rfl) (gw_S _ _ _ _)) ggX0_partBy_X0_areOne
set_option maxRecDepth 20000 in
theorem ggX0_partBy_X0_join : GoodIn wsX0_partBy wsX0_join := goodIn_k _ [[29, 0, 0, 0, 0], [1, 32]] (by rfl) (by decide +kernel)
set_option maxRecDepth 20000 in
theorem gX0_partBy_X0_join : GoodIn wsX0_partBy (wsV RX0 30 RX0 yX0_join wsX0_join) := goodIn_app (goodIn_k _ [[26, 0, 0], [4]] (by rfl) (gw_V _ _ _ _)) ggX0_partBy_X0_join
noncomputable def sX0_partBy_82 : List Nat := 167 :: 255 :: 196 :: 132 :: 4 :: 1 :: 167 :: 255 :: 171 :: 177 :: []
noncomputable def sX0_partBy_40 : List Nat := 21 :: 4 :: 46 :: 159 :: 0 :: 36 :: 43 :: 44 :: 21 :: 4 :: 21 :: 5 :: 29 :: 184 :: 0 :: 26 :: 153 :: 0 :: 23 :: 42 :: 42 :: 180 :: 0 :: 9 :: 21 :: 4 :: 46 :: 42 :: 180 :: 0 :: 9 :: 21 :: 5 :: 46 :: 21 :: 4 :: 182 :: 0 :: 30 :: 132 :: 5 :: 1 :: sX0_partBy_82
noncomputable def sX0_partBy_0 : List Nat := 3 :: 54 :: 4 :: 21 :: 4 :: 16 :: 120 :: 162 :: 0 :: 84 :: 42 :: 180 :: 0 :: 9 :: 21 :: 4 :: 21 :: 4 :: 79 :: 3 :: 54 :: 5 :: 21 :: 5 :: 21 :: 4 :: 162 :: 0 :: 59 :: 42 :: 180 :: 0 :: 9 :: 21 :: 5 :: 46 :: 42 :: 180 :: 0 :: 9 :: sX0_partBy_40
theorem aX0_partBy_0 : dc_at cX0_partBy 0 sX0_partBy_0 := dc_base (by decide +kernel)
theorem aX0_partBy_40 : dc_at cX0_partBy 40 sX0_partBy_40 := dc_nn (k := 40) aX0_partBy_0 rfl
theorem aX0_partBy_82 : dc_at cX0_partBy 82 sX0_partBy_82 := dc_nn (k := 42) aX0_partBy_40 rfl
theorem dX0_partBy_0 : decode cX0_partBy 0 = .ok (.iconst 0, 1) := dc_3 aX0_partBy_0
theorem dX0_partBy_1 : decode cX0_partBy 1 = .ok (.istore 4, 2) := dc_54 (a0 := 4) (dc_nn (k := 1) aX0_partBy_0 rfl)
theorem dX0_partBy_3 : decode cX0_partBy 3 = .ok (.iload 4, 2) := dc_21 (a0 := 4) (dc_nn (k := 3) aX0_partBy_0 rfl)
theorem dX0_partBy_5 : decode cX0_partBy 5 = .ok (.bipush 120, 2) := dc_16 (a0 := 120) (dc_nn (k := 5) aX0_partBy_0 rfl) (by decide)
theorem dX0_partBy_7 : decode cX0_partBy 7 = .ok (.if_icmp .ge 84, 3) := dc_162 (a0 := 0) (b0 := 84) (dc_nn (k := 7) aX0_partBy_0 rfl) (by decide)
theorem dX0_partBy_10 : decode cX0_partBy 10 = .ok (.aload_n 0, 1) := dc_42 (dc_nn (k := 10) aX0_partBy_0 rfl)
theorem dX0_partBy_11 : decode cX0_partBy 11 = .ok (.getfield 9, 3) := dc_180 (a0 := 0) (b0 := 9) (dc_nn (k := 11) aX0_partBy_0 rfl)
theorem dX0_partBy_14 : decode cX0_partBy 14 = .ok (.iload 4, 2) := dc_21 (a0 := 4) (dc_nn (k := 14) aX0_partBy_0 rfl)
theorem dX0_partBy_16 : decode cX0_partBy 16 = .ok (.iload 4, 2) := dc_21 (a0 := 4) (dc_nn (k := 16) aX0_partBy_0 rfl)
theorem dX0_partBy_18 : decode cX0_partBy 18 = .ok (.iastore, 1) := dc_79 (dc_nn (k := 18) aX0_partBy_0 rfl)
theorem dX0_partBy_19 : decode cX0_partBy 19 = .ok (.iconst 0, 1) := dc_3 (dc_nn (k := 19) aX0_partBy_0 rfl)
theorem dX0_partBy_20 : decode cX0_partBy 20 = .ok (.istore 5, 2) := dc_54 (a0 := 5) (dc_nn (k := 20) aX0_partBy_0 rfl)
theorem dX0_partBy_22 : decode cX0_partBy 22 = .ok (.iload 5, 2) := dc_21 (a0 := 5) (dc_nn (k := 22) aX0_partBy_0 rfl)
theorem dX0_partBy_24 : decode cX0_partBy 24 = .ok (.iload 4, 2) := dc_21 (a0 := 4) (dc_nn (k := 24) aX0_partBy_0 rfl)
theorem dX0_partBy_26 : decode cX0_partBy 26 = .ok (.if_icmp .ge 59, 3) := dc_162 (a0 := 0) (b0 := 59) (dc_nn (k := 26) aX0_partBy_0 rfl) (by decide)
theorem dX0_partBy_29 : decode cX0_partBy 29 = .ok (.aload_n 0, 1) := dc_42 (dc_nn (k := 29) aX0_partBy_0 rfl)
theorem dX0_partBy_30 : decode cX0_partBy 30 = .ok (.getfield 9, 3) := dc_180 (a0 := 0) (b0 := 9) (dc_nn (k := 30) aX0_partBy_0 rfl)
theorem dX0_partBy_33 : decode cX0_partBy 33 = .ok (.iload 5, 2) := dc_21 (a0 := 5) (dc_nn (k := 33) aX0_partBy_0 rfl)
theorem dX0_partBy_35 : decode cX0_partBy 35 = .ok (.iaload, 1) := dc_46 (dc_nn (k := 35) aX0_partBy_0 rfl)
theorem dX0_partBy_36 : decode cX0_partBy 36 = .ok (.aload_n 0, 1) := dc_42 (dc_nn (k := 36) aX0_partBy_0 rfl)
theorem dX0_partBy_37 : decode cX0_partBy 37 = .ok (.getfield 9, 3) := dc_180 (a0 := 0) (b0 := 9) (dc_nn (k := 37) aX0_partBy_0 rfl)
theorem dX0_partBy_40 : decode cX0_partBy 40 = .ok (.iload 4, 2) := dc_21 (a0 := 4) aX0_partBy_40
theorem dX0_partBy_42 : decode cX0_partBy 42 = .ok (.iaload, 1) := dc_46 (dc_nn (k := 2) aX0_partBy_40 rfl)
theorem dX0_partBy_43 : decode cX0_partBy 43 = .ok (.if_icmp .eq 36, 3) := dc_159 (a0 := 0) (b0 := 36) (dc_nn (k := 3) aX0_partBy_40 rfl) (by decide)
theorem dX0_partBy_46 : decode cX0_partBy 46 = .ok (.aload_n 1, 1) := dc_43 (dc_nn (k := 6) aX0_partBy_40 rfl)
theorem dX0_partBy_47 : decode cX0_partBy 47 = .ok (.aload_n 2, 1) := dc_44 (dc_nn (k := 7) aX0_partBy_40 rfl)
theorem dX0_partBy_48 : decode cX0_partBy 48 = .ok (.iload 4, 2) := dc_21 (a0 := 4) (dc_nn (k := 8) aX0_partBy_40 rfl)
theorem dX0_partBy_50 : decode cX0_partBy 50 = .ok (.iload 5, 2) := dc_21 (a0 := 5) (dc_nn (k := 10) aX0_partBy_40 rfl)
theorem dX0_partBy_52 : decode cX0_partBy 52 = .ok (.iload_n 3, 1) := dc_29 (dc_nn (k := 12) aX0_partBy_40 rfl)
theorem dX0_partBy_53 : decode cX0_partBy 53 = .ok (.invokestatic 26, 3) := dc_184 (a0 := 0) (b0 := 26) (dc_nn (k := 13) aX0_partBy_40 rfl)
theorem dX0_partBy_56 : decode cX0_partBy 56 = .ok (.ifCond .eq 23, 3) := dc_153 (a0 := 0) (b0 := 23) (dc_nn (k := 16) aX0_partBy_40 rfl) (by decide)
theorem dX0_partBy_59 : decode cX0_partBy 59 = .ok (.aload_n 0, 1) := dc_42 (dc_nn (k := 19) aX0_partBy_40 rfl)
theorem dX0_partBy_60 : decode cX0_partBy 60 = .ok (.aload_n 0, 1) := dc_42 (dc_nn (k := 20) aX0_partBy_40 rfl)
theorem dX0_partBy_61 : decode cX0_partBy 61 = .ok (.getfield 9, 3) := dc_180 (a0 := 0) (b0 := 9) (dc_nn (k := 21) aX0_partBy_40 rfl)
theorem dX0_partBy_64 : decode cX0_partBy 64 = .ok (.iload 4, 2) := dc_21 (a0 := 4) (dc_nn (k := 24) aX0_partBy_40 rfl)
theorem dX0_partBy_66 : decode cX0_partBy 66 = .ok (.iaload, 1) := dc_46 (dc_nn (k := 26) aX0_partBy_40 rfl)
theorem dX0_partBy_67 : decode cX0_partBy 67 = .ok (.aload_n 0, 1) := dc_42 (dc_nn (k := 27) aX0_partBy_40 rfl)
theorem dX0_partBy_68 : decode cX0_partBy 68 = .ok (.getfield 9, 3) := dc_180 (a0 := 0) (b0 := 9) (dc_nn (k := 28) aX0_partBy_40 rfl)
theorem dX0_partBy_71 : decode cX0_partBy 71 = .ok (.iload 5, 2) := dc_21 (a0 := 5) (dc_nn (k := 31) aX0_partBy_40 rfl)
theorem dX0_partBy_73 : decode cX0_partBy 73 = .ok (.iaload, 1) := dc_46 (dc_nn (k := 33) aX0_partBy_40 rfl)
theorem dX0_partBy_74 : decode cX0_partBy 74 = .ok (.iload 4, 2) := dc_21 (a0 := 4) (dc_nn (k := 34) aX0_partBy_40 rfl)
theorem dX0_partBy_76 : decode cX0_partBy 76 = .ok (.invokevirtual 30, 3) := dc_182 (a0 := 0) (b0 := 30) (dc_nn (k := 36) aX0_partBy_40 rfl)
theorem dX0_partBy_79 : decode cX0_partBy 79 = .ok (.iinc 5 1, 3) := dc_132 (a0 := 5) (a1 := 1) (dc_nn (k := 39) aX0_partBy_40 rfl) (by decide)
theorem dX0_partBy_82 : decode cX0_partBy 82 = .ok (.goto (-60), 3) := dc_167 (a0 := 255) (b0 := 196) aX0_partBy_82 (by decide)
theorem dX0_partBy_85 : decode cX0_partBy 85 = .ok (.iinc 4 1, 3) := dc_132 (a0 := 4) (a1 := 1) (dc_nn (k := 3) aX0_partBy_82 rfl) (by decide)
theorem dX0_partBy_88 : decode cX0_partBy 88 = .ok (.goto (-85), 3) := dc_167 (a0 := 255) (b0 := 171) (dc_nn (k := 6) aX0_partBy_82 rfl) (by decide)
theorem dX0_partBy_91 : decode cX0_partBy 91 = .ok (.return_, 1) := dc_177 (dc_nn (k := 9) aX0_partBy_82 rfl)
noncomputable def sX0_join_42 : List Nat := 21 :: 5 :: 21 :: 4 :: 79 :: 132 :: 5 :: 1 :: 167 :: 255 :: 216 :: 177 :: []
noncomputable def sX0_join_0 : List Nat := 27 :: 28 :: 184 :: 0 :: 34 :: 54 :: 4 :: 3 :: 54 :: 5 :: 21 :: 5 :: 29 :: 163 :: 0 :: 40 :: 42 :: 180 :: 0 :: 9 :: 21 :: 5 :: 46 :: 27 :: 159 :: 0 :: 14 :: 42 :: 180 :: 0 :: 9 :: 21 :: 5 :: 46 :: 28 :: 160 :: 0 :: 12 :: 42 :: 180 :: 0 :: 9 :: sX0_join_42
theorem aX0_join_0 : dc_at cX0_join 0 sX0_join_0 := dc_base (by decide +kernel)
theorem aX0_join_42 : dc_at cX0_join 42 sX0_join_42 := dc_nn (k := 42) aX0_join_0 rfl
theorem dX0_join_0 : decode cX0_join 0 = .ok (.iload_n 1, 1) := dc_27 aX0_join_0
theorem dX0_join_1 : decode cX0_join 1 = .ok (.iload_n 2, 1) := dc_28 (dc_nn (k := 1) aX0_join_0 rfl)
theorem dX0_join_2 : decode cX0_join 2 = .ok (.invokestatic 34, 3) := dc_184 (a0 := 0) (b0 := 34) (dc_nn (k := 2) aX0_join_0 rfl)
theorem dX0_join_5 : decode cX0_join 5 = .ok (.istore 4, 2) := dc_54 (a0 := 4) (dc_nn (k := 5) aX0_join_0 rfl)
theorem dX0_join_7 : decode cX0_join 7 = .ok (.iconst 0, 1) := dc_3 (dc_nn (k := 7) aX0_join_0 rfl)
theorem dX0_join_8 : decode cX0_join 8 = .ok (.istore 5, 2) := dc_54 (a0 := 5) (dc_nn (k := 8) aX0_join_0 rfl)
theorem dX0_join_10 : decode cX0_join 10 = .ok (.iload 5, 2) := dc_21 (a0 := 5) (dc_nn (k := 10) aX0_join_0 rfl)
theorem dX0_join_12 : decode cX0_join 12 = .ok (.iload_n 3, 1) := dc_29 (dc_nn (k := 12) aX0_join_0 rfl)
theorem dX0_join_13 : decode cX0_join 13 = .ok (.if_icmp .gt 40, 3) := dc_163 (a0 := 0) (b0 := 40) (dc_nn (k := 13) aX0_join_0 rfl) (by decide)
theorem dX0_join_16 : decode cX0_join 16 = .ok (.aload_n 0, 1) := dc_42 (dc_nn (k := 16) aX0_join_0 rfl)
theorem dX0_join_17 : decode cX0_join 17 = .ok (.getfield 9, 3) := dc_180 (a0 := 0) (b0 := 9) (dc_nn (k := 17) aX0_join_0 rfl)
theorem dX0_join_20 : decode cX0_join 20 = .ok (.iload 5, 2) := dc_21 (a0 := 5) (dc_nn (k := 20) aX0_join_0 rfl)
theorem dX0_join_22 : decode cX0_join 22 = .ok (.iaload, 1) := dc_46 (dc_nn (k := 22) aX0_join_0 rfl)
theorem dX0_join_23 : decode cX0_join 23 = .ok (.iload_n 1, 1) := dc_27 (dc_nn (k := 23) aX0_join_0 rfl)
theorem dX0_join_24 : decode cX0_join 24 = .ok (.if_icmp .eq 14, 3) := dc_159 (a0 := 0) (b0 := 14) (dc_nn (k := 24) aX0_join_0 rfl) (by decide)
theorem dX0_join_27 : decode cX0_join 27 = .ok (.aload_n 0, 1) := dc_42 (dc_nn (k := 27) aX0_join_0 rfl)
theorem dX0_join_28 : decode cX0_join 28 = .ok (.getfield 9, 3) := dc_180 (a0 := 0) (b0 := 9) (dc_nn (k := 28) aX0_join_0 rfl)
theorem dX0_join_31 : decode cX0_join 31 = .ok (.iload 5, 2) := dc_21 (a0 := 5) (dc_nn (k := 31) aX0_join_0 rfl)
theorem dX0_join_33 : decode cX0_join 33 = .ok (.iaload, 1) := dc_46 (dc_nn (k := 33) aX0_join_0 rfl)
theorem dX0_join_34 : decode cX0_join 34 = .ok (.iload_n 2, 1) := dc_28 (dc_nn (k := 34) aX0_join_0 rfl)
theorem dX0_join_35 : decode cX0_join 35 = .ok (.if_icmp .ne 12, 3) := dc_160 (a0 := 0) (b0 := 12) (dc_nn (k := 35) aX0_join_0 rfl) (by decide)
theorem dX0_join_38 : decode cX0_join 38 = .ok (.aload_n 0, 1) := dc_42 (dc_nn (k := 38) aX0_join_0 rfl)
theorem dX0_join_39 : decode cX0_join 39 = .ok (.getfield 9, 3) := dc_180 (a0 := 0) (b0 := 9) (dc_nn (k := 39) aX0_join_0 rfl)
theorem dX0_join_42 : decode cX0_join 42 = .ok (.iload 5, 2) := dc_21 (a0 := 5) aX0_join_42
theorem dX0_join_44 : decode cX0_join 44 = .ok (.iload 4, 2) := dc_21 (a0 := 4) (dc_nn (k := 2) aX0_join_42 rfl)
theorem dX0_join_46 : decode cX0_join 46 = .ok (.iastore, 1) := dc_79 (dc_nn (k := 4) aX0_join_42 rfl)
theorem dX0_join_47 : decode cX0_join 47 = .ok (.iinc 5 1, 3) := dc_132 (a0 := 5) (a1 := 1) (dc_nn (k := 5) aX0_join_42 rfl) (by decide)
theorem dX0_join_50 : decode cX0_join 50 = .ok (.goto (-40), 3) := dc_167 (a0 := 255) (b0 := 216) (dc_nn (k := 8) aX0_join_42 rfl) (by decide)
theorem dX0_join_53 : decode cX0_join 53 = .ok (.return_, 1) := dc_177 (dc_nn (k := 11) aX0_join_42 rfl)
noncomputable def sX0_leastOf_0 : List Nat := 42 :: 180 :: 0 :: 9 :: 27 :: 46 :: 172 :: []
theorem aX0_leastOf_0 : dc_at cX0_leastOf 0 sX0_leastOf_0 := dc_base (by decide +kernel)
theorem dX0_leastOf_0 : decode cX0_leastOf 0 = .ok (.aload_n 0, 1) := dc_42 aX0_leastOf_0
theorem dX0_leastOf_1 : decode cX0_leastOf 1 = .ok (.getfield 9, 3) := dc_180 (a0 := 0) (b0 := 9) (dc_nn (k := 1) aX0_leastOf_0 rfl)
theorem dX0_leastOf_4 : decode cX0_leastOf 4 = .ok (.iload_n 1, 1) := dc_27 (dc_nn (k := 4) aX0_leastOf_0 rfl)
theorem dX0_leastOf_5 : decode cX0_leastOf 5 = .ok (.iaload, 1) := dc_46 (dc_nn (k := 5) aX0_leastOf_0 rfl)
theorem dX0_leastOf_6 : decode cX0_leastOf 6 = .ok (.ireturn, 1) := dc_172 (dc_nn (k := 6) aX0_leastOf_0 rfl)
set_option maxRecDepth 20000 in
theorem ggX0_howManyParts_X1_tellsSomething : GoodIn wsX0_howManyParts wsX1_tellsSomething := goodIn_k _ [[6, 0, 0, 0], [5, 4, 0, 1, 0]] (by rfl) (by decide +kernel)
set_option maxRecDepth 20000 in
theorem gX0_howManyParts_X1_tellsSomething : GoodIn wsX0_howManyParts (wsV RX0 39 RX1 yX1_tellsSomething wsX1_tellsSomething) := goodIn_app (goodIn_k _ [[2, 0, 0, 0]] (by rfl) (gw_V _ _ _ _)) ggX0_howManyParts_X1_tellsSomething
noncomputable def sX0_howManyParts_0 : List Nat := 3 :: 61 :: 3 :: 62 :: 29 :: 16 :: 120 :: 162 :: 0 :: 30 :: 42 :: 180 :: 0 :: 9 :: 29 :: 46 :: 29 :: 160 :: 0 :: 14 :: 43 :: 29 :: 182 :: 0 :: 39 :: 153 :: 0 :: 6 :: 132 :: 2 :: 1 :: 132 :: 3 :: 1 :: 167 :: 255 :: 226 :: 28 :: 172 :: []
theorem aX0_howManyParts_0 : dc_at cX0_howManyParts 0 sX0_howManyParts_0 := dc_base (by decide +kernel)
theorem dX0_howManyParts_0 : decode cX0_howManyParts 0 = .ok (.iconst 0, 1) := dc_3 aX0_howManyParts_0
theorem dX0_howManyParts_1 : decode cX0_howManyParts 1 = .ok (.istore_n 2, 1) := dc_61 (dc_nn (k := 1) aX0_howManyParts_0 rfl)
theorem dX0_howManyParts_2 : decode cX0_howManyParts 2 = .ok (.iconst 0, 1) := dc_3 (dc_nn (k := 2) aX0_howManyParts_0 rfl)
theorem dX0_howManyParts_3 : decode cX0_howManyParts 3 = .ok (.istore_n 3, 1) := dc_62 (dc_nn (k := 3) aX0_howManyParts_0 rfl)
theorem dX0_howManyParts_4 : decode cX0_howManyParts 4 = .ok (.iload_n 3, 1) := dc_29 (dc_nn (k := 4) aX0_howManyParts_0 rfl)
theorem dX0_howManyParts_5 : decode cX0_howManyParts 5 = .ok (.bipush 120, 2) := dc_16 (a0 := 120) (dc_nn (k := 5) aX0_howManyParts_0 rfl) (by decide)
theorem dX0_howManyParts_7 : decode cX0_howManyParts 7 = .ok (.if_icmp .ge 30, 3) := dc_162 (a0 := 0) (b0 := 30) (dc_nn (k := 7) aX0_howManyParts_0 rfl) (by decide)
theorem dX0_howManyParts_10 : decode cX0_howManyParts 10 = .ok (.aload_n 0, 1) := dc_42 (dc_nn (k := 10) aX0_howManyParts_0 rfl)
theorem dX0_howManyParts_11 : decode cX0_howManyParts 11 = .ok (.getfield 9, 3) := dc_180 (a0 := 0) (b0 := 9) (dc_nn (k := 11) aX0_howManyParts_0 rfl)
theorem dX0_howManyParts_14 : decode cX0_howManyParts 14 = .ok (.iload_n 3, 1) := dc_29 (dc_nn (k := 14) aX0_howManyParts_0 rfl)
theorem dX0_howManyParts_15 : decode cX0_howManyParts 15 = .ok (.iaload, 1) := dc_46 (dc_nn (k := 15) aX0_howManyParts_0 rfl)
theorem dX0_howManyParts_16 : decode cX0_howManyParts 16 = .ok (.iload_n 3, 1) := dc_29 (dc_nn (k := 16) aX0_howManyParts_0 rfl)
theorem dX0_howManyParts_17 : decode cX0_howManyParts 17 = .ok (.if_icmp .ne 14, 3) := dc_160 (a0 := 0) (b0 := 14) (dc_nn (k := 17) aX0_howManyParts_0 rfl) (by decide)
theorem dX0_howManyParts_20 : decode cX0_howManyParts 20 = .ok (.aload_n 1, 1) := dc_43 (dc_nn (k := 20) aX0_howManyParts_0 rfl)
theorem dX0_howManyParts_21 : decode cX0_howManyParts 21 = .ok (.iload_n 3, 1) := dc_29 (dc_nn (k := 21) aX0_howManyParts_0 rfl)
theorem dX0_howManyParts_22 : decode cX0_howManyParts 22 = .ok (.invokevirtual 39, 3) := dc_182 (a0 := 0) (b0 := 39) (dc_nn (k := 22) aX0_howManyParts_0 rfl)
theorem dX0_howManyParts_25 : decode cX0_howManyParts 25 = .ok (.ifCond .eq 6, 3) := dc_153 (a0 := 0) (b0 := 6) (dc_nn (k := 25) aX0_howManyParts_0 rfl) (by decide)
theorem dX0_howManyParts_28 : decode cX0_howManyParts 28 = .ok (.iinc 2 1, 3) := dc_132 (a0 := 2) (a1 := 1) (dc_nn (k := 28) aX0_howManyParts_0 rfl) (by decide)
theorem dX0_howManyParts_31 : decode cX0_howManyParts 31 = .ok (.iinc 3 1, 3) := dc_132 (a0 := 3) (a1 := 1) (dc_nn (k := 31) aX0_howManyParts_0 rfl) (by decide)
theorem dX0_howManyParts_34 : decode cX0_howManyParts 34 = .ok (.goto (-30), 3) := dc_167 (a0 := 255) (b0 := 226) (dc_nn (k := 34) aX0_howManyParts_0 rfl) (by decide)
theorem dX0_howManyParts_37 : decode cX0_howManyParts 37 = .ok (.iload_n 2, 1) := dc_28 (dc_nn (k := 37) aX0_howManyParts_0 rfl)
theorem dX0_howManyParts_38 : decode cX0_howManyParts 38 = .ok (.ireturn, 1) := dc_172 (dc_nn (k := 38) aX0_howManyParts_0 rfl)
set_option maxRecDepth 20000 in
theorem ggX1_init_J7_fill_53178 : GoodIn wsX1_init wsJ7_fill_53178 := goodIn_k _ [[10]] (by rfl) (by decide +kernel)
set_option maxRecDepth 20000 in
theorem gX1_init_J7_fill_53178 : GoodIn wsX1_init (va_wsS RX1 18 yJ7_fill_53178 wsJ7_fill_53178) := goodIn_app (goodIn_k _ [[7, 0, 0]] (by rfl) (gw_S _ _ _ _)) ggX1_init_J7_fill_53178
noncomputable def sX1_init_0 : List Nat := 42 :: 183 :: 0 :: 3 :: 42 :: 17 :: 10 :: 80 :: 188 :: 10 :: 181 :: 0 :: 9 :: 42 :: 16 :: 22 :: 188 :: 10 :: 181 :: 0 :: 15 :: 42 :: 180 :: 0 :: 9 :: 2 :: 184 :: 0 :: 18 :: 177 :: []
theorem aX1_init_0 : dc_at cX1_init 0 sX1_init_0 := dc_base (by decide +kernel)
theorem dX1_init_0 : decode cX1_init 0 = .ok (.aload_n 0, 1) := dc_42 aX1_init_0
theorem dX1_init_1 : decode cX1_init 1 = .ok (.invokespecial 3, 3) := dc_183 (a0 := 0) (b0 := 3) (dc_nn (k := 1) aX1_init_0 rfl)
theorem dX1_init_4 : decode cX1_init 4 = .ok (.aload_n 0, 1) := dc_42 (dc_nn (k := 4) aX1_init_0 rfl)
theorem dX1_init_5 : decode cX1_init 5 = .ok (.sipush 2640, 3) := dc_17 (a0 := 10) (b0 := 80) (dc_nn (k := 5) aX1_init_0 rfl) (by decide)
theorem dX1_init_8 : decode cX1_init 8 = .ok (.newarray .int, 2) := dc_188_10 (dc_nn (k := 8) aX1_init_0 rfl)
theorem dX1_init_10 : decode cX1_init 10 = .ok (.putfield 9, 3) := dc_181 (a0 := 0) (b0 := 9) (dc_nn (k := 10) aX1_init_0 rfl)
theorem dX1_init_13 : decode cX1_init 13 = .ok (.aload_n 0, 1) := dc_42 (dc_nn (k := 13) aX1_init_0 rfl)
theorem dX1_init_14 : decode cX1_init 14 = .ok (.bipush 22, 2) := dc_16 (a0 := 22) (dc_nn (k := 14) aX1_init_0 rfl) (by decide)
theorem dX1_init_16 : decode cX1_init 16 = .ok (.newarray .int, 2) := dc_188_10 (dc_nn (k := 16) aX1_init_0 rfl)
theorem dX1_init_18 : decode cX1_init 18 = .ok (.putfield 15, 3) := dc_181 (a0 := 0) (b0 := 15) (dc_nn (k := 18) aX1_init_0 rfl)
theorem dX1_init_21 : decode cX1_init 21 = .ok (.aload_n 0, 1) := dc_42 (dc_nn (k := 21) aX1_init_0 rfl)
theorem dX1_init_22 : decode cX1_init 22 = .ok (.getfield 9, 3) := dc_180 (a0 := 0) (b0 := 9) (dc_nn (k := 22) aX1_init_0 rfl)
theorem dX1_init_25 : decode cX1_init 25 = .ok (.iconst (-1), 1) := dc_2 (dc_nn (k := 25) aX1_init_0 rfl)
theorem dX1_init_26 : decode cX1_init 26 = .ok (.invokestatic 18, 3) := dc_184 (a0 := 0) (b0 := 18) (dc_nn (k := 26) aX1_init_0 rfl)
theorem dX1_init_29 : decode cX1_init 29 = .ok (.return_, 1) := dc_177 (dc_nn (k := 29) aX1_init_0 rfl)
noncomputable def sX1_degreeOf_0 : List Nat := 42 :: 180 :: 0 :: 9 :: 16 :: 22 :: 27 :: 104 :: 28 :: 96 :: 46 :: 172 :: []
theorem aX1_degreeOf_0 : dc_at cX1_degreeOf 0 sX1_degreeOf_0 := dc_base (by decide +kernel)
theorem dX1_degreeOf_0 : decode cX1_degreeOf 0 = .ok (.aload_n 0, 1) := dc_42 aX1_degreeOf_0
theorem dX1_degreeOf_1 : decode cX1_degreeOf 1 = .ok (.getfield 9, 3) := dc_180 (a0 := 0) (b0 := 9) (dc_nn (k := 1) aX1_degreeOf_0 rfl)
theorem dX1_degreeOf_4 : decode cX1_degreeOf 4 = .ok (.bipush 22, 2) := dc_16 (a0 := 22) (dc_nn (k := 4) aX1_degreeOf_0 rfl) (by decide)
theorem dX1_degreeOf_6 : decode cX1_degreeOf 6 = .ok (.iload_n 1, 1) := dc_27 (dc_nn (k := 6) aX1_degreeOf_0 rfl)
theorem dX1_degreeOf_7 : decode cX1_degreeOf 7 = .ok (.imul, 1) := dc_104 (dc_nn (k := 7) aX1_degreeOf_0 rfl)
theorem dX1_degreeOf_8 : decode cX1_degreeOf 8 = .ok (.iload_n 2, 1) := dc_28 (dc_nn (k := 8) aX1_degreeOf_0 rfl)
theorem dX1_degreeOf_9 : decode cX1_degreeOf 9 = .ok (.iadd, 1) := dc_96 (dc_nn (k := 9) aX1_degreeOf_0 rfl)
theorem dX1_degreeOf_10 : decode cX1_degreeOf 10 = .ok (.iaload, 1) := dc_46 (dc_nn (k := 10) aX1_degreeOf_0 rfl)
theorem dX1_degreeOf_11 : decode cX1_degreeOf 11 = .ok (.ireturn, 1) := dc_172 (dc_nn (k := 11) aX1_degreeOf_0 rfl)
noncomputable def sX1_keepDraft_0 : List Nat := 42 :: 180 :: 0 :: 15 :: 3 :: 42 :: 180 :: 0 :: 9 :: 16 :: 22 :: 27 :: 104 :: 16 :: 22 :: 184 :: 0 :: 24 :: 177 :: []
theorem aX1_keepDraft_0 : dc_at cX1_keepDraft 0 sX1_keepDraft_0 := dc_base (by decide +kernel)
theorem dX1_keepDraft_0 : decode cX1_keepDraft 0 = .ok (.aload_n 0, 1) := dc_42 aX1_keepDraft_0
theorem dX1_keepDraft_1 : decode cX1_keepDraft 1 = .ok (.getfield 15, 3) := dc_180 (a0 := 0) (b0 := 15) (dc_nn (k := 1) aX1_keepDraft_0 rfl)
theorem dX1_keepDraft_4 : decode cX1_keepDraft 4 = .ok (.iconst 0, 1) := dc_3 (dc_nn (k := 4) aX1_keepDraft_0 rfl)
theorem dX1_keepDraft_5 : decode cX1_keepDraft 5 = .ok (.aload_n 0, 1) := dc_42 (dc_nn (k := 5) aX1_keepDraft_0 rfl)
theorem dX1_keepDraft_6 : decode cX1_keepDraft 6 = .ok (.getfield 9, 3) := dc_180 (a0 := 0) (b0 := 9) (dc_nn (k := 6) aX1_keepDraft_0 rfl)
theorem dX1_keepDraft_9 : decode cX1_keepDraft 9 = .ok (.bipush 22, 2) := dc_16 (a0 := 22) (dc_nn (k := 9) aX1_keepDraft_0 rfl) (by decide)
theorem dX1_keepDraft_11 : decode cX1_keepDraft 11 = .ok (.iload_n 1, 1) := dc_27 (dc_nn (k := 11) aX1_keepDraft_0 rfl)
theorem dX1_keepDraft_12 : decode cX1_keepDraft 12 = .ok (.imul, 1) := dc_104 (dc_nn (k := 12) aX1_keepDraft_0 rfl)
theorem dX1_keepDraft_13 : decode cX1_keepDraft 13 = .ok (.bipush 22, 2) := dc_16 (a0 := 22) (dc_nn (k := 13) aX1_keepDraft_0 rfl) (by decide)
theorem dX1_keepDraft_15 : decode cX1_keepDraft 15 = .ok (.invokestatic 24, 3) := dc_184 (a0 := 0) (b0 := 24) (dc_nn (k := 15) aX1_keepDraft_0 rfl)
theorem dX1_keepDraft_18 : decode cX1_keepDraft 18 = .ok (.return_, 1) := dc_177 (dc_nn (k := 18) aX1_keepDraft_0 rfl)
set_option maxRecDepth 20000 in
theorem ggX1_readEntries_J7_fill_53178 : GoodIn wsX1_readEntries wsJ7_fill_53178 := goodIn_k _ [[5]] (by rfl) (by decide +kernel)
set_option maxRecDepth 20000 in
theorem gX1_readEntries_J7_fill_53178 : GoodIn wsX1_readEntries (va_wsS RX1 18 yJ7_fill_53178 wsJ7_fill_53178) := goodIn_app (goodIn_k _ [[2, 0, 0]] (by rfl) (gw_S _ _ _ _)) ggX1_readEntries_J7_fill_53178
set_option maxRecDepth 20000 in
theorem ggX1_readEntries_X9_isAtEnd : GoodIn wsX1_readEntries wsX9_isAtEnd := goodIn_k _ [[10, 0, 121, 0, 0, 0, 0, 0, 0, 0, 0, 0]] (by rfl) (by decide +kernel)
set_option maxRecDepth 20000 in
theorem gX1_readEntries_X9_isAtEnd : GoodIn wsX1_readEntries (wsV RX1 32 RX9 yX9_isAtEnd wsX9_isAtEnd) := goodIn_app (goodIn_k _ [[6, 0, 0, 0]] (by rfl) (gw_V _ _ _ _)) ggX1_readEntries_X9_isAtEnd
set_option maxRecDepth 20000 in
theorem ggX1_readEntries_X1_readEntry : GoodIn wsX1_readEntries wsX1_readEntry := goodIn_k _ [[16, 0, 0, 0, 0], [9, 11], [11, 10, 0, 0, 0, 0, 0, 0, 0, 0, 0, 0, 0, 0, 0, 0, 0, 0, 0, 0, 0, 0, 0, 0, 0, 0, 0, 0, 0, 0, 0, 0, 0, 0, 0, 0, 0, 0, 0, 0, 0, 0, 0, 0, 0, 0, 0, 0, 0, 0, 0, 0, 0, 0, 0, 0, 0, 0, 0, 0, 0, 0, 0, 0, 0, 0, 0, 0, 0, 0, 0, 0, 0, 0, 0, 0, 0, 0, 0, 0, 0, 0], [15, 87], [1, 102, 0, 0, 0, 0, 0, 0, 0, 0, 0, 0, 0, 0, 0, 0, 0, 0, 0, 0, 0, 0, 0, 0, 0, 0, 0, 0, 2, 0, 0, 0, 0, 0, 0, 0, 0, 0], [131, 0]] (by rfl) (by decide +kernel)
set_option maxRecDepth 20000 in
theorem gX1_readEntries_X1_readEntry : GoodIn wsX1_readEntries (wsV RX1 36 RX1 yX1_readEntry wsX1_readEntry) := goodIn_app (goodIn_k _ [[12, 0, 0, 0]] (by rfl) (gw_V _ _ _ _)) ggX1_readEntries_X1_readEntry
noncomputable def sX1_readEntries_40 : List Nat := 4 :: 172 :: []
noncomputable def sX1_readEntries_0 : List Nat := 42 :: 180 :: 0 :: 15 :: 2 :: 184 :: 0 :: 18 :: 3 :: 61 :: 28 :: 17 :: 2 :: 88 :: 162 :: 0 :: 26 :: 43 :: 182 :: 0 :: 32 :: 154 :: 0 :: 19 :: 42 :: 43 :: 182 :: 0 :: 36 :: 154 :: 0 :: 5 :: 3 :: 172 :: 132 :: 2 :: 1 :: 167 :: 255 :: 229 :: sX1_readEntries_40
theorem aX1_readEntries_0 : dc_at cX1_readEntries 0 sX1_readEntries_0 := dc_base (by decide +kernel)
theorem aX1_readEntries_40 : dc_at cX1_readEntries 40 sX1_readEntries_40 := dc_nn (k := 40) aX1_readEntries_0 rfl
theorem dX1_readEntries_0 : decode cX1_readEntries 0 = .ok (.aload_n 0, 1) := dc_42 aX1_readEntries_0
theorem dX1_readEntries_1 : decode cX1_readEntries 1 = .ok (.getfield 15, 3) := dc_180 (a0 := 0) (b0 := 15) (dc_nn (k := 1) aX1_readEntries_0 rfl)
theorem dX1_readEntries_4 : decode cX1_readEntries 4 = .ok (.iconst (-1), 1) := dc_2 (dc_nn (k := 4) aX1_readEntries_0 rfl)
theorem dX1_readEntries_5 : decode cX1_readEntries 5 = .ok (.invokestatic 18, 3) := dc_184 (a0 := 0) (b0 := 18) (dc_nn (k := 5) aX1_readEntries_0 rfl)
theorem dX1_readEntries_8 : decode cX1_readEntries 8 = .ok (.iconst 0, 1) := dc_3 (dc_nn (k := 8) aX1_readEntries_0 rfl)
theorem dX1_readEntries_9 : decode cX1_readEntries 9 = .ok (.istore_n 2, 1) := dc_61 (dc_nn (k := 9) aX1_readEntries_0 rfl)
theorem dX1_readEntries_10 : decode cX1_readEntries 10 = .ok (.iload_n 2, 1) := dc_28 (dc_nn (k := 10) aX1_readEntries_0 rfl)
theorem dX1_readEntries_11 : decode cX1_readEntries 11 = .ok (.sipush 600, 3) := dc_17 (a0 := 2) (b0 := 88) (dc_nn (k := 11) aX1_readEntries_0 rfl) (by decide)
theorem dX1_readEntries_14 : decode cX1_readEntries 14 = .ok (.if_icmp .ge 26, 3) := dc_162 (a0 := 0) (b0 := 26) (dc_nn (k := 14) aX1_readEntries_0 rfl) (by decide)
theorem dX1_readEntries_17 : decode cX1_readEntries 17 = .ok (.aload_n 1, 1) := dc_43 (dc_nn (k := 17) aX1_readEntries_0 rfl)
theorem dX1_readEntries_18 : decode cX1_readEntries 18 = .ok (.invokevirtual 32, 3) := dc_182 (a0 := 0) (b0 := 32) (dc_nn (k := 18) aX1_readEntries_0 rfl)
theorem dX1_readEntries_21 : decode cX1_readEntries 21 = .ok (.ifCond .ne 19, 3) := dc_154 (a0 := 0) (b0 := 19) (dc_nn (k := 21) aX1_readEntries_0 rfl) (by decide)
theorem dX1_readEntries_24 : decode cX1_readEntries 24 = .ok (.aload_n 0, 1) := dc_42 (dc_nn (k := 24) aX1_readEntries_0 rfl)
theorem dX1_readEntries_25 : decode cX1_readEntries 25 = .ok (.aload_n 1, 1) := dc_43 (dc_nn (k := 25) aX1_readEntries_0 rfl)
theorem dX1_readEntries_26 : decode cX1_readEntries 26 = .ok (.invokevirtual 36, 3) := dc_182 (a0 := 0) (b0 := 36) (dc_nn (k := 26) aX1_readEntries_0 rfl)
theorem dX1_readEntries_29 : decode cX1_readEntries 29 = .ok (.ifCond .ne 5, 3) := dc_154 (a0 := 0) (b0 := 5) (dc_nn (k := 29) aX1_readEntries_0 rfl) (by decide)
theorem dX1_readEntries_32 : decode cX1_readEntries 32 = .ok (.iconst 0, 1) := dc_3 (dc_nn (k := 32) aX1_readEntries_0 rfl)
theorem dX1_readEntries_33 : decode cX1_readEntries 33 = .ok (.ireturn, 1) := dc_172 (dc_nn (k := 33) aX1_readEntries_0 rfl)
theorem dX1_readEntries_34 : decode cX1_readEntries 34 = .ok (.iinc 2 1, 3) := dc_132 (a0 := 2) (a1 := 1) (dc_nn (k := 34) aX1_readEntries_0 rfl) (by decide)
theorem dX1_readEntries_37 : decode cX1_readEntries 37 = .ok (.goto (-27), 3) := dc_167 (a0 := 255) (b0 := 229) (dc_nn (k := 37) aX1_readEntries_0 rfl) (by decide)
theorem dX1_readEntries_40 : decode cX1_readEntries 40 = .ok (.iconst 1, 1) := dc_4 aX1_readEntries_40
theorem dX1_readEntries_41 : decode cX1_readEntries 41 = .ok (.ireturn, 1) := dc_172 (dc_nn (k := 1) aX1_readEntries_40 rfl)
set_option maxRecDepth 20000 in
theorem ggX1_readEntry_X9_isWord : GoodIn wsX1_readEntry wsX9_isWord := goodIn_k _ [[6, 0, 0, 0, 0, 0, 0, 0, 0, 0, 0, 0, 0, 0, 0, 0, 0, 0, 0, 0, 0, 0, 0, 0, 0, 0, 0, 0, 0, 0, 0, 0, 0, 0, 0, 0, 0, 0, 0, 0, 0, 0, 0, 0, 0, 0, 0, 0, 0, 0, 0, 0, 0, 0, 59, 0, 0, 0, 0, 0, 0, 0, 0, 0]] (by rfl) (by decide +kernel)
set_option maxRecDepth 20000 in
theorem gX1_readEntry_X9_isWord : GoodIn wsX1_readEntry (wsV RX1 42 RX9 yX9_isWord wsX9_isWord) := goodIn_app (goodIn_k _ [[2, 0, 0, 0]] (by rfl) (gw_V _ _ _ _)) ggX1_readEntry_X9_isWord
set_option maxRecDepth 20000 in
theorem ggX1_readEntry_X9_step : GoodIn wsX1_readEntry wsX9_step := goodIn_k _ [[63], [8, 55], [10], [9], [7, 57, 0, 0], [5, 62, 0, 0, 0, 0, 0, 0, 44, 0, 0, 0, 0, 0, 0, 0, 0, 0]] (by rfl) (by decide +kernel)
set_option maxRecDepth 20000 in
theorem gX1_readEntry_X9_step : GoodIn wsX1_readEntry (wsV RX1 46 RX9 yX9_step wsX9_step) := goodIn_app (goodIn_k _ [[60, 0, 0], [5]] (by rfl) (gw_V _ _ _ _)) ggX1_readEntry_X9_step
set_option maxRecDepth 20000 in
theorem ggX1_readEntry_X9_holdsNumber : GoodIn wsX1_readEntry wsX9_holdsNumber := goodIn_k _ [[78], [7, 0, 0, 55, 13, 0, 0, 0], [5, 77, 0, 0, 33, 0, 0, 0, 0, 0, 0, 0, 0, 0]] (by rfl) (by decide +kernel)
set_option maxRecDepth 20000 in
theorem gX1_readEntry_X9_holdsNumber : GoodIn wsX1_readEntry (wsV RX1 49 RX9 yX9_holdsNumber wsX9_holdsNumber) := goodIn_app (goodIn_k _ [[75, 0, 0], [5]] (by rfl) (gw_V _ _ _ _)) ggX1_readEntry_X9_holdsNumber
set_option maxRecDepth 20000 in
theorem ggX1_readEntry_X1_readDegree : GoodIn wsX1_readEntry wsX1_readDegree := goodIn_k _ [[90], [1, 89, 0, 0, 0], [89, 5, 0], [81, 0], [5, 77, 0], [9, 75], [60, 0, 0, 0], [8, 55], [10], [7, 57, 0, 0, 0, 0, 0, 0, 0, 0, 0, 22, 0, 0, 0, 0], [76, 0, 0, 0, 0, 21, 0, 0, 0, 0, 12, 0, 0, 0, 0, 0, 0, 0, 0, 0, 0, 0]] (by rfl) (by decide +kernel)
set_option maxRecDepth 20000 in
theorem gX1_readEntry_X1_readDegree : GoodIn wsX1_readEntry (wsV RX1 57 RX1 yX1_readDegree wsX1_readDegree) := goodIn_app (goodIn_k _ [[86, 0, 0, 0]] (by rfl) (gw_V _ _ _ _)) ggX1_readEntry_X1_readDegree
set_option maxRecDepth 20000 in
theorem ggX1_readEntry_X1_readDate : GoodIn wsX1_readEntry wsX1_readDate := goodIn_k _ [[110], [1, 89, 0, 0, 0], [89, 5, 0], [81, 0], [5, 77, 0], [9, 75], [60, 0, 0, 0], [8, 55], [10], [7, 57, 0, 0, 0, 0, 0, 0, 0, 0, 0, 22, 0, 0, 0, 0], [76, 0, 0, 0, 0, 21, 0, 0, 0, 0, 12, 0, 0, 0, 0, 0, 0, 0, 0, 0, 0, 0]] (by rfl) (by decide +kernel)
set_option maxRecDepth 20000 in
theorem gX1_readEntry_X1_readDate : GoodIn wsX1_readEntry (wsV RX1 63 RX1 yX1_readDate wsX1_readDate) := goodIn_app (goodIn_k _ [[107, 0, 0], [89]] (by rfl) (gw_V _ _ _ _)) ggX1_readEntry_X1_readDate
set_option maxRecDepth 20000 in
theorem ggX1_readEntry_X9_namedOf : GoodIn wsX1_readEntry wsX9_namedOf := goodIn_k _ [[114, 0, 0], [5, 111, 0], [3, 0, 1, 0, 0, 0, 0, 0, 0, 0, 0, 0, 0, 0, 0, 0, 0, 0, 0, 0, 0, 0, 0, 0, 0, 0, 0, 0, 0, 0, 0, 0, 0, 0, 0, 0, 0, 0, 0, 0, 0, 0, 0, 0, 0, 0, 0, 0, 0, 0, 0, 0, 0, 0, 0, 0, 59, 0, 0, 0, 0, 0, 0, 0, 0, 0]] (by rfl) (by decide +kernel)
set_option maxRecDepth 20000 in
theorem gX1_readEntry_X9_namedOf : GoodIn wsX1_readEntry (wsV RX1 66 RX9 yX9_namedOf wsX9_namedOf) := goodIn_app (goodIn_k _ [[111, 0, 0], [5]] (by rfl) (gw_V _ _ _ _)) ggX1_readEntry_X9_namedOf
set_option maxRecDepth 20000 in
theorem ggX1_readEntry_X9_refuse : GoodIn wsX1_readEntry wsX9_refuse := goodIn_k _ [[83, 0], [9, 75, 33, 0, 0, 0, 0, 0, 0, 0, 0, 0]] (by rfl) (by decide +kernel)
set_option maxRecDepth 20000 in
theorem gX1_readEntry_X9_refuse : GoodIn wsX1_readEntry (wsV RX1 70 RX9 yX9_refuse wsX9_refuse) := goodIn_app (goodIn_k _ [[96], [81, 0], [5]] (by rfl) (gw_V _ _ _ _)) ggX1_readEntry_X9_refuse
noncomputable def sX1_readEntry_82 : List Nat := 182 :: 0 :: 57 :: 172 :: []
noncomputable def sX1_readEntry_42 : List Nat := 3 :: 172 :: 43 :: 18 :: 61 :: 182 :: 0 :: 42 :: 153 :: 0 :: 9 :: 42 :: 43 :: 182 :: 0 :: 63 :: 172 :: 43 :: 16 :: 9 :: 182 :: 0 :: 66 :: 61 :: 28 :: 2 :: 160 :: 0 :: 11 :: 43 :: 4 :: 182 :: 0 :: 70 :: 167 :: 0 :: 9 :: 42 :: 43 :: 28 :: sX1_readEntry_82
noncomputable def sX1_readEntry_0 : List Nat := 43 :: 18 :: 40 :: 182 :: 0 :: 42 :: 153 :: 0 :: 38 :: 43 :: 182 :: 0 :: 46 :: 43 :: 4 :: 16 :: 12 :: 182 :: 0 :: 49 :: 153 :: 0 :: 22 :: 42 :: 43 :: 16 :: 8 :: 43 :: 180 :: 0 :: 53 :: 96 :: 182 :: 0 :: 57 :: 153 :: 0 :: 7 :: 4 :: 167 :: 0 :: 4 :: sX1_readEntry_42
theorem aX1_readEntry_0 : dc_at cX1_readEntry 0 sX1_readEntry_0 := dc_base (by decide +kernel)
theorem aX1_readEntry_42 : dc_at cX1_readEntry 42 sX1_readEntry_42 := dc_nn (k := 42) aX1_readEntry_0 rfl
theorem aX1_readEntry_82 : dc_at cX1_readEntry 82 sX1_readEntry_82 := dc_nn (k := 40) aX1_readEntry_42 rfl
theorem dX1_readEntry_0 : decode cX1_readEntry 0 = .ok (.aload_n 1, 1) := dc_43 aX1_readEntry_0
theorem dX1_readEntry_1 : decode cX1_readEntry 1 = .ok (.ldc 40, 2) := dc_18 (a0 := 40) (dc_nn (k := 1) aX1_readEntry_0 rfl)
theorem dX1_readEntry_3 : decode cX1_readEntry 3 = .ok (.invokevirtual 42, 3) := dc_182 (a0 := 0) (b0 := 42) (dc_nn (k := 3) aX1_readEntry_0 rfl)
theorem dX1_readEntry_6 : decode cX1_readEntry 6 = .ok (.ifCond .eq 38, 3) := dc_153 (a0 := 0) (b0 := 38) (dc_nn (k := 6) aX1_readEntry_0 rfl) (by decide)
theorem dX1_readEntry_9 : decode cX1_readEntry 9 = .ok (.aload_n 1, 1) := dc_43 (dc_nn (k := 9) aX1_readEntry_0 rfl)
theorem dX1_readEntry_10 : decode cX1_readEntry 10 = .ok (.invokevirtual 46, 3) := dc_182 (a0 := 0) (b0 := 46) (dc_nn (k := 10) aX1_readEntry_0 rfl)
theorem dX1_readEntry_13 : decode cX1_readEntry 13 = .ok (.aload_n 1, 1) := dc_43 (dc_nn (k := 13) aX1_readEntry_0 rfl)
theorem dX1_readEntry_14 : decode cX1_readEntry 14 = .ok (.iconst 1, 1) := dc_4 (dc_nn (k := 14) aX1_readEntry_0 rfl)
theorem dX1_readEntry_15 : decode cX1_readEntry 15 = .ok (.bipush 12, 2) := dc_16 (a0 := 12) (dc_nn (k := 15) aX1_readEntry_0 rfl) (by decide)
theorem dX1_readEntry_17 : decode cX1_readEntry 17 = .ok (.invokevirtual 49, 3) := dc_182 (a0 := 0) (b0 := 49) (dc_nn (k := 17) aX1_readEntry_0 rfl)
theorem dX1_readEntry_20 : decode cX1_readEntry 20 = .ok (.ifCond .eq 22, 3) := dc_153 (a0 := 0) (b0 := 22) (dc_nn (k := 20) aX1_readEntry_0 rfl) (by decide)
theorem dX1_readEntry_23 : decode cX1_readEntry 23 = .ok (.aload_n 0, 1) := dc_42 (dc_nn (k := 23) aX1_readEntry_0 rfl)
theorem dX1_readEntry_24 : decode cX1_readEntry 24 = .ok (.aload_n 1, 1) := dc_43 (dc_nn (k := 24) aX1_readEntry_0 rfl)
theorem dX1_readEntry_25 : decode cX1_readEntry 25 = .ok (.bipush 8, 2) := dc_16 (a0 := 8) (dc_nn (k := 25) aX1_readEntry_0 rfl) (by decide)
theorem dX1_readEntry_27 : decode cX1_readEntry 27 = .ok (.aload_n 1, 1) := dc_43 (dc_nn (k := 27) aX1_readEntry_0 rfl)
theorem dX1_readEntry_28 : decode cX1_readEntry 28 = .ok (.getfield 53, 3) := dc_180 (a0 := 0) (b0 := 53) (dc_nn (k := 28) aX1_readEntry_0 rfl)
theorem dX1_readEntry_31 : decode cX1_readEntry 31 = .ok (.iadd, 1) := dc_96 (dc_nn (k := 31) aX1_readEntry_0 rfl)
theorem dX1_readEntry_32 : decode cX1_readEntry 32 = .ok (.invokevirtual 57, 3) := dc_182 (a0 := 0) (b0 := 57) (dc_nn (k := 32) aX1_readEntry_0 rfl)
theorem dX1_readEntry_35 : decode cX1_readEntry 35 = .ok (.ifCond .eq 7, 3) := dc_153 (a0 := 0) (b0 := 7) (dc_nn (k := 35) aX1_readEntry_0 rfl) (by decide)
theorem dX1_readEntry_38 : decode cX1_readEntry 38 = .ok (.iconst 1, 1) := dc_4 (dc_nn (k := 38) aX1_readEntry_0 rfl)
theorem dX1_readEntry_39 : decode cX1_readEntry 39 = .ok (.goto 4, 3) := dc_167 (a0 := 0) (b0 := 4) (dc_nn (k := 39) aX1_readEntry_0 rfl) (by decide)
theorem dX1_readEntry_42 : decode cX1_readEntry 42 = .ok (.iconst 0, 1) := dc_3 aX1_readEntry_42
theorem dX1_readEntry_43 : decode cX1_readEntry 43 = .ok (.ireturn, 1) := dc_172 (dc_nn (k := 1) aX1_readEntry_42 rfl)
theorem dX1_readEntry_44 : decode cX1_readEntry 44 = .ok (.aload_n 1, 1) := dc_43 (dc_nn (k := 2) aX1_readEntry_42 rfl)
theorem dX1_readEntry_45 : decode cX1_readEntry 45 = .ok (.ldc 61, 2) := dc_18 (a0 := 61) (dc_nn (k := 3) aX1_readEntry_42 rfl)
theorem dX1_readEntry_47 : decode cX1_readEntry 47 = .ok (.invokevirtual 42, 3) := dc_182 (a0 := 0) (b0 := 42) (dc_nn (k := 5) aX1_readEntry_42 rfl)
theorem dX1_readEntry_50 : decode cX1_readEntry 50 = .ok (.ifCond .eq 9, 3) := dc_153 (a0 := 0) (b0 := 9) (dc_nn (k := 8) aX1_readEntry_42 rfl) (by decide)
theorem dX1_readEntry_53 : decode cX1_readEntry 53 = .ok (.aload_n 0, 1) := dc_42 (dc_nn (k := 11) aX1_readEntry_42 rfl)
theorem dX1_readEntry_54 : decode cX1_readEntry 54 = .ok (.aload_n 1, 1) := dc_43 (dc_nn (k := 12) aX1_readEntry_42 rfl)
theorem dX1_readEntry_55 : decode cX1_readEntry 55 = .ok (.invokevirtual 63, 3) := dc_182 (a0 := 0) (b0 := 63) (dc_nn (k := 13) aX1_readEntry_42 rfl)
theorem dX1_readEntry_58 : decode cX1_readEntry 58 = .ok (.ireturn, 1) := dc_172 (dc_nn (k := 16) aX1_readEntry_42 rfl)
theorem dX1_readEntry_59 : decode cX1_readEntry 59 = .ok (.aload_n 1, 1) := dc_43 (dc_nn (k := 17) aX1_readEntry_42 rfl)
theorem dX1_readEntry_60 : decode cX1_readEntry 60 = .ok (.bipush 9, 2) := dc_16 (a0 := 9) (dc_nn (k := 18) aX1_readEntry_42 rfl) (by decide)
theorem dX1_readEntry_62 : decode cX1_readEntry 62 = .ok (.invokevirtual 66, 3) := dc_182 (a0 := 0) (b0 := 66) (dc_nn (k := 20) aX1_readEntry_42 rfl)
theorem dX1_readEntry_65 : decode cX1_readEntry 65 = .ok (.istore_n 2, 1) := dc_61 (dc_nn (k := 23) aX1_readEntry_42 rfl)
theorem dX1_readEntry_66 : decode cX1_readEntry 66 = .ok (.iload_n 2, 1) := dc_28 (dc_nn (k := 24) aX1_readEntry_42 rfl)
theorem dX1_readEntry_67 : decode cX1_readEntry 67 = .ok (.iconst (-1), 1) := dc_2 (dc_nn (k := 25) aX1_readEntry_42 rfl)
theorem dX1_readEntry_68 : decode cX1_readEntry 68 = .ok (.if_icmp .ne 11, 3) := dc_160 (a0 := 0) (b0 := 11) (dc_nn (k := 26) aX1_readEntry_42 rfl) (by decide)
theorem dX1_readEntry_71 : decode cX1_readEntry 71 = .ok (.aload_n 1, 1) := dc_43 (dc_nn (k := 29) aX1_readEntry_42 rfl)
theorem dX1_readEntry_72 : decode cX1_readEntry 72 = .ok (.iconst 1, 1) := dc_4 (dc_nn (k := 30) aX1_readEntry_42 rfl)
theorem dX1_readEntry_73 : decode cX1_readEntry 73 = .ok (.invokevirtual 70, 3) := dc_182 (a0 := 0) (b0 := 70) (dc_nn (k := 31) aX1_readEntry_42 rfl)
theorem dX1_readEntry_76 : decode cX1_readEntry 76 = .ok (.goto 9, 3) := dc_167 (a0 := 0) (b0 := 9) (dc_nn (k := 34) aX1_readEntry_42 rfl) (by decide)
theorem dX1_readEntry_79 : decode cX1_readEntry 79 = .ok (.aload_n 0, 1) := dc_42 (dc_nn (k := 37) aX1_readEntry_42 rfl)
theorem dX1_readEntry_80 : decode cX1_readEntry 80 = .ok (.aload_n 1, 1) := dc_43 (dc_nn (k := 38) aX1_readEntry_42 rfl)
theorem dX1_readEntry_81 : decode cX1_readEntry 81 = .ok (.iload_n 2, 1) := dc_28 (dc_nn (k := 39) aX1_readEntry_42 rfl)
theorem dX1_readEntry_82 : decode cX1_readEntry 82 = .ok (.invokevirtual 57, 3) := dc_182 (a0 := 0) (b0 := 57) aX1_readEntry_82
theorem dX1_readEntry_85 : decode cX1_readEntry 85 = .ok (.ireturn, 1) := dc_172 (dc_nn (k := 3) aX1_readEntry_82 rfl)
set_option maxRecDepth 20000 in
theorem ggX1_isNew_X9_refuse : GoodIn wsX1_isNew wsX9_refuse := goodIn_k _ [[6, 0, 0, 0, 20, 0, 0, 0, 0, 0, 0, 0, 0, 0]] (by rfl) (by decide +kernel)
set_option maxRecDepth 20000 in
theorem gX1_isNew_X9_refuse : GoodIn wsX1_isNew (wsV RX1 70 RX9 yX9_refuse wsX9_refuse) := goodIn_app (goodIn_k _ [[2, 0, 0, 0]] (by rfl) (gw_V _ _ _ _)) ggX1_isNew_X9_refuse
set_option maxRecDepth 20000 in
theorem ggX1_isNew_X9_step : GoodIn wsX1_isNew wsX9_step := goodIn_k _ [[13, 0, 0, 0], [8, 8, 0, 0, 0], [5, 15, 0, 0, 0, 0, 0, 0, 2, 0, 0, 0, 0, 0, 0, 0, 0, 0]] (by rfl) (by decide +kernel)
set_option maxRecDepth 20000 in
theorem gX1_isNew_X9_step : GoodIn wsX1_isNew (wsV RX1 46 RX9 yX9_step wsX9_step) := goodIn_app (goodIn_k _ [[10, 0, 0], [5]] (by rfl) (gw_V _ _ _ _)) ggX1_isNew_X9_step
noncomputable def sX1_isNew_0 : List Nat := 42 :: 180 :: 0 :: 15 :: 28 :: 46 :: 2 :: 159 :: 0 :: 9 :: 43 :: 6 :: 182 :: 0 :: 70 :: 172 :: 43 :: 182 :: 0 :: 46 :: 4 :: 172 :: []
theorem aX1_isNew_0 : dc_at cX1_isNew 0 sX1_isNew_0 := dc_base (by decide +kernel)
theorem dX1_isNew_0 : decode cX1_isNew 0 = .ok (.aload_n 0, 1) := dc_42 aX1_isNew_0
theorem dX1_isNew_1 : decode cX1_isNew 1 = .ok (.getfield 15, 3) := dc_180 (a0 := 0) (b0 := 15) (dc_nn (k := 1) aX1_isNew_0 rfl)
theorem dX1_isNew_4 : decode cX1_isNew 4 = .ok (.iload_n 2, 1) := dc_28 (dc_nn (k := 4) aX1_isNew_0 rfl)
theorem dX1_isNew_5 : decode cX1_isNew 5 = .ok (.iaload, 1) := dc_46 (dc_nn (k := 5) aX1_isNew_0 rfl)
theorem dX1_isNew_6 : decode cX1_isNew 6 = .ok (.iconst (-1), 1) := dc_2 (dc_nn (k := 6) aX1_isNew_0 rfl)
theorem dX1_isNew_7 : decode cX1_isNew 7 = .ok (.if_icmp .eq 9, 3) := dc_159 (a0 := 0) (b0 := 9) (dc_nn (k := 7) aX1_isNew_0 rfl) (by decide)
theorem dX1_isNew_10 : decode cX1_isNew 10 = .ok (.aload_n 1, 1) := dc_43 (dc_nn (k := 10) aX1_isNew_0 rfl)
theorem dX1_isNew_11 : decode cX1_isNew 11 = .ok (.iconst 3, 1) := dc_6 (dc_nn (k := 11) aX1_isNew_0 rfl)
theorem dX1_isNew_12 : decode cX1_isNew 12 = .ok (.invokevirtual 70, 3) := dc_182 (a0 := 0) (b0 := 70) (dc_nn (k := 12) aX1_isNew_0 rfl)
theorem dX1_isNew_15 : decode cX1_isNew 15 = .ok (.ireturn, 1) := dc_172 (dc_nn (k := 15) aX1_isNew_0 rfl)
theorem dX1_isNew_16 : decode cX1_isNew 16 = .ok (.aload_n 1, 1) := dc_43 (dc_nn (k := 16) aX1_isNew_0 rfl)
theorem dX1_isNew_17 : decode cX1_isNew 17 = .ok (.invokevirtual 46, 3) := dc_182 (a0 := 0) (b0 := 46) (dc_nn (k := 17) aX1_isNew_0 rfl)
theorem dX1_isNew_20 : decode cX1_isNew 20 = .ok (.iconst 1, 1) := dc_4 (dc_nn (k := 20) aX1_isNew_0 rfl)
theorem dX1_isNew_21 : decode cX1_isNew 21 = .ok (.ireturn, 1) := dc_172 (dc_nn (k := 21) aX1_isNew_0 rfl)
set_option maxRecDepth 20000 in
theorem ggX1_readDegree_X1_isNew : GoodIn wsX1_readDegree wsX1_isNew := goodIn_k _ [[7], [2, 5, 0, 0, 0, 0, 0, 0, 0, 0, 0, 0, 0, 0, 0, 0, 0, 0, 0, 0, 0, 0, 0, 0, 0, 0, 0, 25, 0], [49, 0, 0, 0, 0, 0, 0, 0, 0, 0]] (by rfl) (by decide +kernel)
set_option maxRecDepth 20000 in
theorem gX1_readDegree_X1_isNew : GoodIn wsX1_readDegree (wsV RX1 74 RX1 yX1_isNew wsX1_isNew) := goodIn_app (goodIn_k _ [[3, 0, 0, 0]] (by rfl) (gw_V _ _ _ _)) ggX1_readDegree_X1_isNew
set_option maxRecDepth 20000 in
theorem ggX1_readDegree_X9_takeNumber : GoodIn wsX1_readDegree wsX9_takeNumber := goodIn_k _ [[37, 0, 0, 0], [11, 29], [23], [20], [14, 9, 17, 0], [9, 0, 1, 0, 1, 28], [17, 0, 0, 1, 0, 2, 0, 0, 0, 0, 0, 0, 0, 0, 15, 0, 0, 0, 0, 0, 0, 0, 0, 0]] (by rfl) (by decide +kernel)
set_option maxRecDepth 20000 in
theorem gX1_readDegree_X9_takeNumber : GoodIn wsX1_readDegree (wsV RX1 77 RX9 yX9_takeNumber wsX9_takeNumber) := goodIn_app (goodIn_k _ [[34, 0, 0], [11]] (by rfl) (gw_V _ _ _ _)) ggX1_readDegree_X9_takeNumber
set_option maxRecDepth 20000 in
theorem ggX1_readDegree_X9_takeStop : GoodIn wsX1_readDegree wsX9_takeStop := goodIn_k _ [[48], [23, 19], [9, 0, 0, 0, 0, 0, 0, 28], [17, 0, 0, 0, 0, 0, 1, 0, 0, 0, 0, 0, 0, 0, 0, 0, 15, 0, 0, 0, 0, 0, 0, 0, 0, 0]] (by rfl) (by decide +kernel)
set_option maxRecDepth 20000 in
theorem gX1_readDegree_X9_takeStop : GoodIn wsX1_readDegree (wsV RX1 80 RX9 yX9_takeStop wsX9_takeStop) := goodIn_app (goodIn_k _ [[45, 0, 0], [11]] (by rfl) (gw_V _ _ _ _)) ggX1_readDegree_X9_takeStop
noncomputable def sX1_readDegree_42 : List Nat := 28 :: 16 :: 30 :: 29 :: 104 :: 43 :: 180 :: 0 :: 53 :: 96 :: 79 :: 43 :: 182 :: 0 :: 80 :: 172 :: []
noncomputable def sX1_readDegree_0 : List Nat := 42 :: 43 :: 28 :: 182 :: 0 :: 74 :: 153 :: 0 :: 13 :: 43 :: 3 :: 16 :: 11 :: 182 :: 0 :: 77 :: 154 :: 0 :: 5 :: 3 :: 172 :: 43 :: 180 :: 0 :: 53 :: 62 :: 43 :: 3 :: 16 :: 29 :: 182 :: 0 :: 77 :: 154 :: 0 :: 5 :: 3 :: 172 :: 42 :: 180 :: 0 :: 15 :: sX1_readDegree_42
theorem aX1_readDegree_0 : dc_at cX1_readDegree 0 sX1_readDegree_0 := dc_base (by decide +kernel)
theorem aX1_readDegree_42 : dc_at cX1_readDegree 42 sX1_readDegree_42 := dc_nn (k := 42) aX1_readDegree_0 rfl
theorem dX1_readDegree_0 : decode cX1_readDegree 0 = .ok (.aload_n 0, 1) := dc_42 aX1_readDegree_0
theorem dX1_readDegree_1 : decode cX1_readDegree 1 = .ok (.aload_n 1, 1) := dc_43 (dc_nn (k := 1) aX1_readDegree_0 rfl)
theorem dX1_readDegree_2 : decode cX1_readDegree 2 = .ok (.iload_n 2, 1) := dc_28 (dc_nn (k := 2) aX1_readDegree_0 rfl)
theorem dX1_readDegree_3 : decode cX1_readDegree 3 = .ok (.invokevirtual 74, 3) := dc_182 (a0 := 0) (b0 := 74) (dc_nn (k := 3) aX1_readDegree_0 rfl)
theorem dX1_readDegree_6 : decode cX1_readDegree 6 = .ok (.ifCond .eq 13, 3) := dc_153 (a0 := 0) (b0 := 13) (dc_nn (k := 6) aX1_readDegree_0 rfl) (by decide)
theorem dX1_readDegree_9 : decode cX1_readDegree 9 = .ok (.aload_n 1, 1) := dc_43 (dc_nn (k := 9) aX1_readDegree_0 rfl)
theorem dX1_readDegree_10 : decode cX1_readDegree 10 = .ok (.iconst 0, 1) := dc_3 (dc_nn (k := 10) aX1_readDegree_0 rfl)
theorem dX1_readDegree_11 : decode cX1_readDegree 11 = .ok (.bipush 11, 2) := dc_16 (a0 := 11) (dc_nn (k := 11) aX1_readDegree_0 rfl) (by decide)
theorem dX1_readDegree_13 : decode cX1_readDegree 13 = .ok (.invokevirtual 77, 3) := dc_182 (a0 := 0) (b0 := 77) (dc_nn (k := 13) aX1_readDegree_0 rfl)
theorem dX1_readDegree_16 : decode cX1_readDegree 16 = .ok (.ifCond .ne 5, 3) := dc_154 (a0 := 0) (b0 := 5) (dc_nn (k := 16) aX1_readDegree_0 rfl) (by decide)
theorem dX1_readDegree_19 : decode cX1_readDegree 19 = .ok (.iconst 0, 1) := dc_3 (dc_nn (k := 19) aX1_readDegree_0 rfl)
theorem dX1_readDegree_20 : decode cX1_readDegree 20 = .ok (.ireturn, 1) := dc_172 (dc_nn (k := 20) aX1_readDegree_0 rfl)
theorem dX1_readDegree_21 : decode cX1_readDegree 21 = .ok (.aload_n 1, 1) := dc_43 (dc_nn (k := 21) aX1_readDegree_0 rfl)
theorem dX1_readDegree_22 : decode cX1_readDegree 22 = .ok (.getfield 53, 3) := dc_180 (a0 := 0) (b0 := 53) (dc_nn (k := 22) aX1_readDegree_0 rfl)
theorem dX1_readDegree_25 : decode cX1_readDegree 25 = .ok (.istore_n 3, 1) := dc_62 (dc_nn (k := 25) aX1_readDegree_0 rfl)
theorem dX1_readDegree_26 : decode cX1_readDegree 26 = .ok (.aload_n 1, 1) := dc_43 (dc_nn (k := 26) aX1_readDegree_0 rfl)
theorem dX1_readDegree_27 : decode cX1_readDegree 27 = .ok (.iconst 0, 1) := dc_3 (dc_nn (k := 27) aX1_readDegree_0 rfl)
theorem dX1_readDegree_28 : decode cX1_readDegree 28 = .ok (.bipush 29, 2) := dc_16 (a0 := 29) (dc_nn (k := 28) aX1_readDegree_0 rfl) (by decide)
theorem dX1_readDegree_30 : decode cX1_readDegree 30 = .ok (.invokevirtual 77, 3) := dc_182 (a0 := 0) (b0 := 77) (dc_nn (k := 30) aX1_readDegree_0 rfl)
theorem dX1_readDegree_33 : decode cX1_readDegree 33 = .ok (.ifCond .ne 5, 3) := dc_154 (a0 := 0) (b0 := 5) (dc_nn (k := 33) aX1_readDegree_0 rfl) (by decide)
theorem dX1_readDegree_36 : decode cX1_readDegree 36 = .ok (.iconst 0, 1) := dc_3 (dc_nn (k := 36) aX1_readDegree_0 rfl)
theorem dX1_readDegree_37 : decode cX1_readDegree 37 = .ok (.ireturn, 1) := dc_172 (dc_nn (k := 37) aX1_readDegree_0 rfl)
theorem dX1_readDegree_38 : decode cX1_readDegree 38 = .ok (.aload_n 0, 1) := dc_42 (dc_nn (k := 38) aX1_readDegree_0 rfl)
theorem dX1_readDegree_39 : decode cX1_readDegree 39 = .ok (.getfield 15, 3) := dc_180 (a0 := 0) (b0 := 15) (dc_nn (k := 39) aX1_readDegree_0 rfl)
theorem dX1_readDegree_42 : decode cX1_readDegree 42 = .ok (.iload_n 2, 1) := dc_28 aX1_readDegree_42
theorem dX1_readDegree_43 : decode cX1_readDegree 43 = .ok (.bipush 30, 2) := dc_16 (a0 := 30) (dc_nn (k := 1) aX1_readDegree_42 rfl) (by decide)
theorem dX1_readDegree_45 : decode cX1_readDegree 45 = .ok (.iload_n 3, 1) := dc_29 (dc_nn (k := 3) aX1_readDegree_42 rfl)
theorem dX1_readDegree_46 : decode cX1_readDegree 46 = .ok (.imul, 1) := dc_104 (dc_nn (k := 4) aX1_readDegree_42 rfl)
theorem dX1_readDegree_47 : decode cX1_readDegree 47 = .ok (.aload_n 1, 1) := dc_43 (dc_nn (k := 5) aX1_readDegree_42 rfl)
theorem dX1_readDegree_48 : decode cX1_readDegree 48 = .ok (.getfield 53, 3) := dc_180 (a0 := 0) (b0 := 53) (dc_nn (k := 6) aX1_readDegree_42 rfl)
theorem dX1_readDegree_51 : decode cX1_readDegree 51 = .ok (.iadd, 1) := dc_96 (dc_nn (k := 9) aX1_readDegree_42 rfl)
theorem dX1_readDegree_52 : decode cX1_readDegree 52 = .ok (.iastore, 1) := dc_79 (dc_nn (k := 10) aX1_readDegree_42 rfl)
theorem dX1_readDegree_53 : decode cX1_readDegree 53 = .ok (.aload_n 1, 1) := dc_43 (dc_nn (k := 11) aX1_readDegree_42 rfl)
theorem dX1_readDegree_54 : decode cX1_readDegree 54 = .ok (.invokevirtual 80, 3) := dc_182 (a0 := 0) (b0 := 80) (dc_nn (k := 12) aX1_readDegree_42 rfl)
theorem dX1_readDegree_57 : decode cX1_readDegree 57 = .ok (.ireturn, 1) := dc_172 (dc_nn (k := 15) aX1_readDegree_42 rfl)
set_option maxRecDepth 20000 in
theorem ggX1_readDate_X1_isNew : GoodIn wsX1_readDate wsX1_isNew := goodIn_k _ [[7], [2, 5, 0, 0, 0, 0, 0, 0, 0, 0, 0, 0, 0, 0, 0, 0, 0, 0, 0, 0, 0, 0, 0, 0, 0, 0, 0, 25, 0], [49, 0, 0, 0, 0, 0, 0, 0, 0, 0]] (by rfl) (by decide +kernel)
set_option maxRecDepth 20000 in
theorem gX1_readDate_X1_isNew : GoodIn wsX1_readDate (wsV RX1 74 RX1 yX1_isNew wsX1_isNew) := goodIn_app (goodIn_k _ [[3, 0, 0, 0]] (by rfl) (gw_V _ _ _ _)) ggX1_readDate_X1_isNew
set_option maxRecDepth 20000 in
theorem ggX1_readDate_X9_takeNumber : GoodIn wsX1_readDate wsX9_takeNumber := goodIn_k _ [[37, 0, 0, 0], [11, 29], [23], [20], [14, 9, 17, 0], [9, 0, 1, 0, 1, 28], [17, 0, 0, 1, 0, 2, 0, 0, 0, 0, 0, 0, 0, 0, 15, 0, 0, 0, 0, 0, 0, 0, 0, 0]] (by rfl) (by decide +kernel)
set_option maxRecDepth 20000 in
theorem gX1_readDate_X9_takeNumber : GoodIn wsX1_readDate (wsV RX1 77 RX9 yX9_takeNumber wsX9_takeNumber) := goodIn_app (goodIn_k _ [[34, 0, 0], [11]] (by rfl) (gw_V _ _ _ _)) ggX1_readDate_X9_takeNumber
set_option maxRecDepth 20000 in
theorem ggX1_readDate_X9_takeStop : GoodIn wsX1_readDate wsX9_takeStop := goodIn_k _ [[48], [23, 19], [9, 0, 0, 0, 0, 0, 0, 28], [17, 0, 0, 0, 0, 0, 1, 0, 0, 0, 0, 0, 0, 0, 0, 0, 15, 0, 0, 0, 0, 0, 0, 0, 0, 0]] (by rfl) (by decide +kernel)
set_option maxRecDepth 20000 in
theorem gX1_readDate_X9_takeStop : GoodIn wsX1_readDate (wsV RX1 80 RX9 yX9_takeStop wsX9_takeStop) := goodIn_app (goodIn_k _ [[45, 0, 0], [11]] (by rfl) (gw_V _ _ _ _)) ggX1_readDate_X9_takeStop
noncomputable def sX1_readDate_41 : List Nat := 182 :: 0 :: 77 :: 154 :: 0 :: 5 :: 3 :: 172 :: 42 :: 180 :: 0 :: 15 :: 16 :: 21 :: 16 :: 30 :: 28 :: 104 :: 43 :: 180 :: 0 :: 53 :: 96 :: 79 :: 43 :: 182 :: 0 :: 80 :: 172 :: []
noncomputable def sX1_readDate_0 : List Nat := 42 :: 43 :: 16 :: 21 :: 182 :: 0 :: 74 :: 153 :: 0 :: 13 :: 43 :: 3 :: 16 :: 12 :: 182 :: 0 :: 77 :: 154 :: 0 :: 5 :: 3 :: 172 :: 43 :: 180 :: 0 :: 53 :: 61 :: 43 :: 3 :: 28 :: 16 :: 12 :: 160 :: 0 :: 7 :: 7 :: 167 :: 0 :: 5 :: 16 :: 29 :: sX1_readDate_41
theorem aX1_readDate_0 : dc_at cX1_readDate 0 sX1_readDate_0 := dc_base (by decide +kernel)
theorem aX1_readDate_41 : dc_at cX1_readDate 41 sX1_readDate_41 := dc_nn (k := 41) aX1_readDate_0 rfl
theorem dX1_readDate_0 : decode cX1_readDate 0 = .ok (.aload_n 0, 1) := dc_42 aX1_readDate_0
theorem dX1_readDate_1 : decode cX1_readDate 1 = .ok (.aload_n 1, 1) := dc_43 (dc_nn (k := 1) aX1_readDate_0 rfl)
theorem dX1_readDate_2 : decode cX1_readDate 2 = .ok (.bipush 21, 2) := dc_16 (a0 := 21) (dc_nn (k := 2) aX1_readDate_0 rfl) (by decide)
theorem dX1_readDate_4 : decode cX1_readDate 4 = .ok (.invokevirtual 74, 3) := dc_182 (a0 := 0) (b0 := 74) (dc_nn (k := 4) aX1_readDate_0 rfl)
theorem dX1_readDate_7 : decode cX1_readDate 7 = .ok (.ifCond .eq 13, 3) := dc_153 (a0 := 0) (b0 := 13) (dc_nn (k := 7) aX1_readDate_0 rfl) (by decide)
theorem dX1_readDate_10 : decode cX1_readDate 10 = .ok (.aload_n 1, 1) := dc_43 (dc_nn (k := 10) aX1_readDate_0 rfl)
theorem dX1_readDate_11 : decode cX1_readDate 11 = .ok (.iconst 0, 1) := dc_3 (dc_nn (k := 11) aX1_readDate_0 rfl)
theorem dX1_readDate_12 : decode cX1_readDate 12 = .ok (.bipush 12, 2) := dc_16 (a0 := 12) (dc_nn (k := 12) aX1_readDate_0 rfl) (by decide)
theorem dX1_readDate_14 : decode cX1_readDate 14 = .ok (.invokevirtual 77, 3) := dc_182 (a0 := 0) (b0 := 77) (dc_nn (k := 14) aX1_readDate_0 rfl)
theorem dX1_readDate_17 : decode cX1_readDate 17 = .ok (.ifCond .ne 5, 3) := dc_154 (a0 := 0) (b0 := 5) (dc_nn (k := 17) aX1_readDate_0 rfl) (by decide)
theorem dX1_readDate_20 : decode cX1_readDate 20 = .ok (.iconst 0, 1) := dc_3 (dc_nn (k := 20) aX1_readDate_0 rfl)
theorem dX1_readDate_21 : decode cX1_readDate 21 = .ok (.ireturn, 1) := dc_172 (dc_nn (k := 21) aX1_readDate_0 rfl)
theorem dX1_readDate_22 : decode cX1_readDate 22 = .ok (.aload_n 1, 1) := dc_43 (dc_nn (k := 22) aX1_readDate_0 rfl)
theorem dX1_readDate_23 : decode cX1_readDate 23 = .ok (.getfield 53, 3) := dc_180 (a0 := 0) (b0 := 53) (dc_nn (k := 23) aX1_readDate_0 rfl)
theorem dX1_readDate_26 : decode cX1_readDate 26 = .ok (.istore_n 2, 1) := dc_61 (dc_nn (k := 26) aX1_readDate_0 rfl)
theorem dX1_readDate_27 : decode cX1_readDate 27 = .ok (.aload_n 1, 1) := dc_43 (dc_nn (k := 27) aX1_readDate_0 rfl)
theorem dX1_readDate_28 : decode cX1_readDate 28 = .ok (.iconst 0, 1) := dc_3 (dc_nn (k := 28) aX1_readDate_0 rfl)
theorem dX1_readDate_29 : decode cX1_readDate 29 = .ok (.iload_n 2, 1) := dc_28 (dc_nn (k := 29) aX1_readDate_0 rfl)
theorem dX1_readDate_30 : decode cX1_readDate 30 = .ok (.bipush 12, 2) := dc_16 (a0 := 12) (dc_nn (k := 30) aX1_readDate_0 rfl) (by decide)
theorem dX1_readDate_32 : decode cX1_readDate 32 = .ok (.if_icmp .ne 7, 3) := dc_160 (a0 := 0) (b0 := 7) (dc_nn (k := 32) aX1_readDate_0 rfl) (by decide)
theorem dX1_readDate_35 : decode cX1_readDate 35 = .ok (.iconst 4, 1) := dc_7 (dc_nn (k := 35) aX1_readDate_0 rfl)
theorem dX1_readDate_36 : decode cX1_readDate 36 = .ok (.goto 5, 3) := dc_167 (a0 := 0) (b0 := 5) (dc_nn (k := 36) aX1_readDate_0 rfl) (by decide)
theorem dX1_readDate_39 : decode cX1_readDate 39 = .ok (.bipush 29, 2) := dc_16 (a0 := 29) (dc_nn (k := 39) aX1_readDate_0 rfl) (by decide)
theorem dX1_readDate_41 : decode cX1_readDate 41 = .ok (.invokevirtual 77, 3) := dc_182 (a0 := 0) (b0 := 77) aX1_readDate_41
theorem dX1_readDate_44 : decode cX1_readDate 44 = .ok (.ifCond .ne 5, 3) := dc_154 (a0 := 0) (b0 := 5) (dc_nn (k := 3) aX1_readDate_41 rfl) (by decide)
theorem dX1_readDate_47 : decode cX1_readDate 47 = .ok (.iconst 0, 1) := dc_3 (dc_nn (k := 6) aX1_readDate_41 rfl)
theorem dX1_readDate_48 : decode cX1_readDate 48 = .ok (.ireturn, 1) := dc_172 (dc_nn (k := 7) aX1_readDate_41 rfl)
theorem dX1_readDate_49 : decode cX1_readDate 49 = .ok (.aload_n 0, 1) := dc_42 (dc_nn (k := 8) aX1_readDate_41 rfl)
theorem dX1_readDate_50 : decode cX1_readDate 50 = .ok (.getfield 15, 3) := dc_180 (a0 := 0) (b0 := 15) (dc_nn (k := 9) aX1_readDate_41 rfl)
theorem dX1_readDate_53 : decode cX1_readDate 53 = .ok (.bipush 21, 2) := dc_16 (a0 := 21) (dc_nn (k := 12) aX1_readDate_41 rfl) (by decide)
theorem dX1_readDate_55 : decode cX1_readDate 55 = .ok (.bipush 30, 2) := dc_16 (a0 := 30) (dc_nn (k := 14) aX1_readDate_41 rfl) (by decide)
theorem dX1_readDate_57 : decode cX1_readDate 57 = .ok (.iload_n 2, 1) := dc_28 (dc_nn (k := 16) aX1_readDate_41 rfl)
theorem dX1_readDate_58 : decode cX1_readDate 58 = .ok (.imul, 1) := dc_104 (dc_nn (k := 17) aX1_readDate_41 rfl)
theorem dX1_readDate_59 : decode cX1_readDate 59 = .ok (.aload_n 1, 1) := dc_43 (dc_nn (k := 18) aX1_readDate_41 rfl)
theorem dX1_readDate_60 : decode cX1_readDate 60 = .ok (.getfield 53, 3) := dc_180 (a0 := 0) (b0 := 53) (dc_nn (k := 19) aX1_readDate_41 rfl)
theorem dX1_readDate_63 : decode cX1_readDate 63 = .ok (.iadd, 1) := dc_96 (dc_nn (k := 22) aX1_readDate_41 rfl)
theorem dX1_readDate_64 : decode cX1_readDate 64 = .ok (.iastore, 1) := dc_79 (dc_nn (k := 23) aX1_readDate_41 rfl)
theorem dX1_readDate_65 : decode cX1_readDate 65 = .ok (.aload_n 1, 1) := dc_43 (dc_nn (k := 24) aX1_readDate_41 rfl)
theorem dX1_readDate_66 : decode cX1_readDate 66 = .ok (.invokevirtual 80, 3) := dc_182 (a0 := 0) (b0 := 80) (dc_nn (k := 25) aX1_readDate_41 rfl)
theorem dX1_readDate_69 : decode cX1_readDate 69 = .ok (.ireturn, 1) := dc_172 (dc_nn (k := 28) aX1_readDate_41 rfl)
set_option maxRecDepth 20000 in
theorem ggX1_tellsSomething_X1_degreeOf : GoodIn wsX1_tellsSomething wsX1_degreeOf := goodIn_k _ [[5, 0, 0, 0]] (by rfl) (by decide +kernel)
set_option maxRecDepth 20000 in
theorem gX1_tellsSomething_X1_degreeOf : GoodIn wsX1_tellsSomething (wsV RX1 83 RX1 yX1_degreeOf wsX1_degreeOf) := goodIn_app (goodIn_k _ [[1, 0, 0, 0]] (by rfl) (gw_V _ _ _ _)) ggX1_tellsSomething_X1_degreeOf
noncomputable def sX1_tellsSomething_0 : List Nat := 3 :: 61 :: 28 :: 16 :: 22 :: 162 :: 0 :: 21 :: 42 :: 27 :: 28 :: 182 :: 0 :: 83 :: 2 :: 159 :: 0 :: 5 :: 4 :: 172 :: 132 :: 2 :: 1 :: 167 :: 255 :: 235 :: 3 :: 172 :: []
theorem aX1_tellsSomething_0 : dc_at cX1_tellsSomething 0 sX1_tellsSomething_0 := dc_base (by decide +kernel)
theorem dX1_tellsSomething_0 : decode cX1_tellsSomething 0 = .ok (.iconst 0, 1) := dc_3 aX1_tellsSomething_0
theorem dX1_tellsSomething_1 : decode cX1_tellsSomething 1 = .ok (.istore_n 2, 1) := dc_61 (dc_nn (k := 1) aX1_tellsSomething_0 rfl)
theorem dX1_tellsSomething_2 : decode cX1_tellsSomething 2 = .ok (.iload_n 2, 1) := dc_28 (dc_nn (k := 2) aX1_tellsSomething_0 rfl)
theorem dX1_tellsSomething_3 : decode cX1_tellsSomething 3 = .ok (.bipush 22, 2) := dc_16 (a0 := 22) (dc_nn (k := 3) aX1_tellsSomething_0 rfl) (by decide)
theorem dX1_tellsSomething_5 : decode cX1_tellsSomething 5 = .ok (.if_icmp .ge 21, 3) := dc_162 (a0 := 0) (b0 := 21) (dc_nn (k := 5) aX1_tellsSomething_0 rfl) (by decide)
theorem dX1_tellsSomething_8 : decode cX1_tellsSomething 8 = .ok (.aload_n 0, 1) := dc_42 (dc_nn (k := 8) aX1_tellsSomething_0 rfl)
theorem dX1_tellsSomething_9 : decode cX1_tellsSomething 9 = .ok (.iload_n 1, 1) := dc_27 (dc_nn (k := 9) aX1_tellsSomething_0 rfl)
theorem dX1_tellsSomething_10 : decode cX1_tellsSomething 10 = .ok (.iload_n 2, 1) := dc_28 (dc_nn (k := 10) aX1_tellsSomething_0 rfl)
theorem dX1_tellsSomething_11 : decode cX1_tellsSomething 11 = .ok (.invokevirtual 83, 3) := dc_182 (a0 := 0) (b0 := 83) (dc_nn (k := 11) aX1_tellsSomething_0 rfl)
theorem dX1_tellsSomething_14 : decode cX1_tellsSomething 14 = .ok (.iconst (-1), 1) := dc_2 (dc_nn (k := 14) aX1_tellsSomething_0 rfl)
theorem dX1_tellsSomething_15 : decode cX1_tellsSomething 15 = .ok (.if_icmp .eq 5, 3) := dc_159 (a0 := 0) (b0 := 5) (dc_nn (k := 15) aX1_tellsSomething_0 rfl) (by decide)
theorem dX1_tellsSomething_18 : decode cX1_tellsSomething 18 = .ok (.iconst 1, 1) := dc_4 (dc_nn (k := 18) aX1_tellsSomething_0 rfl)
theorem dX1_tellsSomething_19 : decode cX1_tellsSomething 19 = .ok (.ireturn, 1) := dc_172 (dc_nn (k := 19) aX1_tellsSomething_0 rfl)
theorem dX1_tellsSomething_20 : decode cX1_tellsSomething 20 = .ok (.iinc 2 1, 3) := dc_132 (a0 := 2) (a1 := 1) (dc_nn (k := 20) aX1_tellsSomething_0 rfl) (by decide)
theorem dX1_tellsSomething_23 : decode cX1_tellsSomething 23 = .ok (.goto (-21), 3) := dc_167 (a0 := 255) (b0 := 235) (dc_nn (k := 23) aX1_tellsSomething_0 rfl) (by decide)
theorem dX1_tellsSomething_26 : decode cX1_tellsSomething 26 = .ok (.iconst 0, 1) := dc_3 (dc_nn (k := 26) aX1_tellsSomething_0 rfl)
theorem dX1_tellsSomething_27 : decode cX1_tellsSomething 27 = .ok (.ireturn, 1) := dc_172 (dc_nn (k := 27) aX1_tellsSomething_0 rfl)
set_option maxRecDepth 20000 in
theorem ggX1_howManyTell_X1_tellsSomething : GoodIn wsX1_howManyTell wsX1_tellsSomething := goodIn_k _ [[5, 0, 0, 0], [4, 4, 0, 0, 0]] (by rfl) (by decide +kernel)
set_option maxRecDepth 20000 in
theorem gX1_howManyTell_X1_tellsSomething : GoodIn wsX1_howManyTell (wsV RX1 87 RX1 yX1_tellsSomething wsX1_tellsSomething) := goodIn_app (goodIn_k _ [[1, 0, 0, 0]] (by rfl) (gw_V _ _ _ _)) ggX1_howManyTell_X1_tellsSomething
noncomputable def sX1_howManyTell_0 : List Nat := 3 :: 60 :: 3 :: 61 :: 28 :: 16 :: 120 :: 162 :: 0 :: 20 :: 42 :: 28 :: 182 :: 0 :: 87 :: 153 :: 0 :: 6 :: 132 :: 1 :: 1 :: 132 :: 2 :: 1 :: 167 :: 255 :: 236 :: 27 :: 172 :: []
theorem aX1_howManyTell_0 : dc_at cX1_howManyTell 0 sX1_howManyTell_0 := dc_base (by decide +kernel)
theorem dX1_howManyTell_0 : decode cX1_howManyTell 0 = .ok (.iconst 0, 1) := dc_3 aX1_howManyTell_0
theorem dX1_howManyTell_1 : decode cX1_howManyTell 1 = .ok (.istore_n 1, 1) := dc_60 (dc_nn (k := 1) aX1_howManyTell_0 rfl)
theorem dX1_howManyTell_2 : decode cX1_howManyTell 2 = .ok (.iconst 0, 1) := dc_3 (dc_nn (k := 2) aX1_howManyTell_0 rfl)
theorem dX1_howManyTell_3 : decode cX1_howManyTell 3 = .ok (.istore_n 2, 1) := dc_61 (dc_nn (k := 3) aX1_howManyTell_0 rfl)
theorem dX1_howManyTell_4 : decode cX1_howManyTell 4 = .ok (.iload_n 2, 1) := dc_28 (dc_nn (k := 4) aX1_howManyTell_0 rfl)
theorem dX1_howManyTell_5 : decode cX1_howManyTell 5 = .ok (.bipush 120, 2) := dc_16 (a0 := 120) (dc_nn (k := 5) aX1_howManyTell_0 rfl) (by decide)
theorem dX1_howManyTell_7 : decode cX1_howManyTell 7 = .ok (.if_icmp .ge 20, 3) := dc_162 (a0 := 0) (b0 := 20) (dc_nn (k := 7) aX1_howManyTell_0 rfl) (by decide)
theorem dX1_howManyTell_10 : decode cX1_howManyTell 10 = .ok (.aload_n 0, 1) := dc_42 (dc_nn (k := 10) aX1_howManyTell_0 rfl)
theorem dX1_howManyTell_11 : decode cX1_howManyTell 11 = .ok (.iload_n 2, 1) := dc_28 (dc_nn (k := 11) aX1_howManyTell_0 rfl)
theorem dX1_howManyTell_12 : decode cX1_howManyTell 12 = .ok (.invokevirtual 87, 3) := dc_182 (a0 := 0) (b0 := 87) (dc_nn (k := 12) aX1_howManyTell_0 rfl)
theorem dX1_howManyTell_15 : decode cX1_howManyTell 15 = .ok (.ifCond .eq 6, 3) := dc_153 (a0 := 0) (b0 := 6) (dc_nn (k := 15) aX1_howManyTell_0 rfl) (by decide)
theorem dX1_howManyTell_18 : decode cX1_howManyTell 18 = .ok (.iinc 1 1, 3) := dc_132 (a0 := 1) (a1 := 1) (dc_nn (k := 18) aX1_howManyTell_0 rfl) (by decide)
theorem dX1_howManyTell_21 : decode cX1_howManyTell 21 = .ok (.iinc 2 1, 3) := dc_132 (a0 := 2) (a1 := 1) (dc_nn (k := 21) aX1_howManyTell_0 rfl) (by decide)
theorem dX1_howManyTell_24 : decode cX1_howManyTell 24 = .ok (.goto (-20), 3) := dc_167 (a0 := 255) (b0 := 236) (dc_nn (k := 24) aX1_howManyTell_0 rfl) (by decide)
theorem dX1_howManyTell_27 : decode cX1_howManyTell 27 = .ok (.iload_n 1, 1) := dc_27 (dc_nn (k := 27) aX1_howManyTell_0 rfl)
theorem dX1_howManyTell_28 : decode cX1_howManyTell 28 = .ok (.ireturn, 1) := dc_172 (dc_nn (k := 28) aX1_howManyTell_0 rfl)
set_option maxRecDepth 20000 in
theorem ggX1_bookTells_X1_tellsSomething : GoodIn wsX1_bookTells wsX1_tellsSomething := goodIn_k _ [[5, 0, 0, 0], [4, 4, 0, 0, 0]] (by rfl) (by decide +kernel)
set_option maxRecDepth 20000 in
theorem gX1_bookTells_X1_tellsSomething : GoodIn wsX1_bookTells (wsV RX1 87 RX1 yX1_tellsSomething wsX1_tellsSomething) := goodIn_app (goodIn_k _ [[1, 0, 0, 0]] (by rfl) (gw_V _ _ _ _)) ggX1_bookTells_X1_tellsSomething
noncomputable def sX1_bookTells_0 : List Nat := 3 :: 61 :: 28 :: 16 :: 20 :: 162 :: 0 :: 24 :: 42 :: 16 :: 20 :: 27 :: 104 :: 28 :: 96 :: 182 :: 0 :: 87 :: 153 :: 0 :: 5 :: 4 :: 172 :: 132 :: 2 :: 1 :: 167 :: 255 :: 232 :: 3 :: 172 :: []
theorem aX1_bookTells_0 : dc_at cX1_bookTells 0 sX1_bookTells_0 := dc_base (by decide +kernel)
theorem dX1_bookTells_0 : decode cX1_bookTells 0 = .ok (.iconst 0, 1) := dc_3 aX1_bookTells_0
theorem dX1_bookTells_1 : decode cX1_bookTells 1 = .ok (.istore_n 2, 1) := dc_61 (dc_nn (k := 1) aX1_bookTells_0 rfl)
theorem dX1_bookTells_2 : decode cX1_bookTells 2 = .ok (.iload_n 2, 1) := dc_28 (dc_nn (k := 2) aX1_bookTells_0 rfl)
theorem dX1_bookTells_3 : decode cX1_bookTells 3 = .ok (.bipush 20, 2) := dc_16 (a0 := 20) (dc_nn (k := 3) aX1_bookTells_0 rfl) (by decide)
theorem dX1_bookTells_5 : decode cX1_bookTells 5 = .ok (.if_icmp .ge 24, 3) := dc_162 (a0 := 0) (b0 := 24) (dc_nn (k := 5) aX1_bookTells_0 rfl) (by decide)
theorem dX1_bookTells_8 : decode cX1_bookTells 8 = .ok (.aload_n 0, 1) := dc_42 (dc_nn (k := 8) aX1_bookTells_0 rfl)
theorem dX1_bookTells_9 : decode cX1_bookTells 9 = .ok (.bipush 20, 2) := dc_16 (a0 := 20) (dc_nn (k := 9) aX1_bookTells_0 rfl) (by decide)
theorem dX1_bookTells_11 : decode cX1_bookTells 11 = .ok (.iload_n 1, 1) := dc_27 (dc_nn (k := 11) aX1_bookTells_0 rfl)
theorem dX1_bookTells_12 : decode cX1_bookTells 12 = .ok (.imul, 1) := dc_104 (dc_nn (k := 12) aX1_bookTells_0 rfl)
theorem dX1_bookTells_13 : decode cX1_bookTells 13 = .ok (.iload_n 2, 1) := dc_28 (dc_nn (k := 13) aX1_bookTells_0 rfl)
theorem dX1_bookTells_14 : decode cX1_bookTells 14 = .ok (.iadd, 1) := dc_96 (dc_nn (k := 14) aX1_bookTells_0 rfl)
theorem dX1_bookTells_15 : decode cX1_bookTells 15 = .ok (.invokevirtual 87, 3) := dc_182 (a0 := 0) (b0 := 87) (dc_nn (k := 15) aX1_bookTells_0 rfl)
theorem dX1_bookTells_18 : decode cX1_bookTells 18 = .ok (.ifCond .eq 5, 3) := dc_153 (a0 := 0) (b0 := 5) (dc_nn (k := 18) aX1_bookTells_0 rfl) (by decide)
theorem dX1_bookTells_21 : decode cX1_bookTells 21 = .ok (.iconst 1, 1) := dc_4 (dc_nn (k := 21) aX1_bookTells_0 rfl)
theorem dX1_bookTells_22 : decode cX1_bookTells 22 = .ok (.ireturn, 1) := dc_172 (dc_nn (k := 22) aX1_bookTells_0 rfl)
theorem dX1_bookTells_23 : decode cX1_bookTells 23 = .ok (.iinc 2 1, 3) := dc_132 (a0 := 2) (a1 := 1) (dc_nn (k := 23) aX1_bookTells_0 rfl) (by decide)
theorem dX1_bookTells_26 : decode cX1_bookTells 26 = .ok (.goto (-24), 3) := dc_167 (a0 := 255) (b0 := 232) (dc_nn (k := 26) aX1_bookTells_0 rfl) (by decide)
theorem dX1_bookTells_29 : decode cX1_bookTells 29 = .ok (.iconst 0, 1) := dc_3 (dc_nn (k := 29) aX1_bookTells_0 rfl)
theorem dX1_bookTells_30 : decode cX1_bookTells 30 = .ok (.ireturn, 1) := dc_172 (dc_nn (k := 30) aX1_bookTells_0 rfl)
set_option maxRecDepth 20000 in
theorem ggX1_howManyHouses_X1_degreeOf : GoodIn wsX1_howManyHouses wsX1_degreeOf := goodIn_k _ [[5, 0, 0, 0]] (by rfl) (by decide +kernel)
set_option maxRecDepth 20000 in
theorem gX1_howManyHouses_X1_degreeOf : GoodIn wsX1_howManyHouses (wsV RX1 83 RX1 yX1_degreeOf wsX1_degreeOf) := goodIn_app (goodIn_k _ [[1, 0, 0, 0]] (by rfl) (gw_V _ _ _ _)) ggX1_howManyHouses_X1_degreeOf
noncomputable def sX1_howManyHouses_0 : List Nat := 3 :: 61 :: 4 :: 62 :: 29 :: 16 :: 12 :: 163 :: 0 :: 25 :: 42 :: 27 :: 16 :: 8 :: 29 :: 96 :: 182 :: 0 :: 83 :: 2 :: 159 :: 0 :: 6 :: 132 :: 2 :: 1 :: 132 :: 3 :: 1 :: 167 :: 255 :: 231 :: 28 :: 172 :: []
theorem aX1_howManyHouses_0 : dc_at cX1_howManyHouses 0 sX1_howManyHouses_0 := dc_base (by decide +kernel)
theorem dX1_howManyHouses_0 : decode cX1_howManyHouses 0 = .ok (.iconst 0, 1) := dc_3 aX1_howManyHouses_0
theorem dX1_howManyHouses_1 : decode cX1_howManyHouses 1 = .ok (.istore_n 2, 1) := dc_61 (dc_nn (k := 1) aX1_howManyHouses_0 rfl)
theorem dX1_howManyHouses_2 : decode cX1_howManyHouses 2 = .ok (.iconst 1, 1) := dc_4 (dc_nn (k := 2) aX1_howManyHouses_0 rfl)
theorem dX1_howManyHouses_3 : decode cX1_howManyHouses 3 = .ok (.istore_n 3, 1) := dc_62 (dc_nn (k := 3) aX1_howManyHouses_0 rfl)
theorem dX1_howManyHouses_4 : decode cX1_howManyHouses 4 = .ok (.iload_n 3, 1) := dc_29 (dc_nn (k := 4) aX1_howManyHouses_0 rfl)
theorem dX1_howManyHouses_5 : decode cX1_howManyHouses 5 = .ok (.bipush 12, 2) := dc_16 (a0 := 12) (dc_nn (k := 5) aX1_howManyHouses_0 rfl) (by decide)
theorem dX1_howManyHouses_7 : decode cX1_howManyHouses 7 = .ok (.if_icmp .gt 25, 3) := dc_163 (a0 := 0) (b0 := 25) (dc_nn (k := 7) aX1_howManyHouses_0 rfl) (by decide)
theorem dX1_howManyHouses_10 : decode cX1_howManyHouses 10 = .ok (.aload_n 0, 1) := dc_42 (dc_nn (k := 10) aX1_howManyHouses_0 rfl)
theorem dX1_howManyHouses_11 : decode cX1_howManyHouses 11 = .ok (.iload_n 1, 1) := dc_27 (dc_nn (k := 11) aX1_howManyHouses_0 rfl)
theorem dX1_howManyHouses_12 : decode cX1_howManyHouses 12 = .ok (.bipush 8, 2) := dc_16 (a0 := 8) (dc_nn (k := 12) aX1_howManyHouses_0 rfl) (by decide)
theorem dX1_howManyHouses_14 : decode cX1_howManyHouses 14 = .ok (.iload_n 3, 1) := dc_29 (dc_nn (k := 14) aX1_howManyHouses_0 rfl)
theorem dX1_howManyHouses_15 : decode cX1_howManyHouses 15 = .ok (.iadd, 1) := dc_96 (dc_nn (k := 15) aX1_howManyHouses_0 rfl)
theorem dX1_howManyHouses_16 : decode cX1_howManyHouses 16 = .ok (.invokevirtual 83, 3) := dc_182 (a0 := 0) (b0 := 83) (dc_nn (k := 16) aX1_howManyHouses_0 rfl)
theorem dX1_howManyHouses_19 : decode cX1_howManyHouses 19 = .ok (.iconst (-1), 1) := dc_2 (dc_nn (k := 19) aX1_howManyHouses_0 rfl)
theorem dX1_howManyHouses_20 : decode cX1_howManyHouses 20 = .ok (.if_icmp .eq 6, 3) := dc_159 (a0 := 0) (b0 := 6) (dc_nn (k := 20) aX1_howManyHouses_0 rfl) (by decide)
theorem dX1_howManyHouses_23 : decode cX1_howManyHouses 23 = .ok (.iinc 2 1, 3) := dc_132 (a0 := 2) (a1 := 1) (dc_nn (k := 23) aX1_howManyHouses_0 rfl) (by decide)
theorem dX1_howManyHouses_26 : decode cX1_howManyHouses 26 = .ok (.iinc 3 1, 3) := dc_132 (a0 := 3) (a1 := 1) (dc_nn (k := 26) aX1_howManyHouses_0 rfl) (by decide)
theorem dX1_howManyHouses_29 : decode cX1_howManyHouses 29 = .ok (.goto (-25), 3) := dc_167 (a0 := 255) (b0 := 231) (dc_nn (k := 29) aX1_howManyHouses_0 rfl) (by decide)
theorem dX1_howManyHouses_32 : decode cX1_howManyHouses 32 = .ok (.iload_n 2, 1) := dc_28 (dc_nn (k := 32) aX1_howManyHouses_0 rfl)
theorem dX1_howManyHouses_33 : decode cX1_howManyHouses 33 = .ok (.ireturn, 1) := dc_172 (dc_nn (k := 33) aX1_howManyHouses_0 rfl)
set_option maxRecDepth 20000 in
theorem ggX1_howManyDiffer_X1_degreeOf : GoodIn wsX1_howManyDiffer wsX1_degreeOf := goodIn_k _ [[5, 0, 28, 0]] (by rfl) (by decide +kernel)
set_option maxRecDepth 20000 in
theorem gX1_howManyDiffer_X1_degreeOf : GoodIn wsX1_howManyDiffer (wsV RX1 83 RX1 yX1_degreeOf wsX1_degreeOf) := goodIn_app (goodIn_k _ [[1, 0, 0, 0]] (by rfl) (gw_V _ _ _ _)) ggX1_howManyDiffer_X1_degreeOf
set_option maxRecDepth 20000 in
theorem ggX1_howManyDiffer_X2_houseDegree : GoodIn wsX1_howManyDiffer wsX2_houseDegree := goodIn_k _ [[11, 0, 0, 0], [10, 4, 0, 0, 0, 0, 0, 0, 0, 0, 0, 0, 0, 0, 0, 0, 0, 0, 0, 0, 0, 2, 0]] (by rfl) (by decide +kernel)
set_option maxRecDepth 20000 in
theorem gX1_howManyDiffer_X2_houseDegree : GoodIn wsX1_howManyDiffer (wsV RX1 90 RX2 yX2_houseDegree wsX2_houseDegree) := goodIn_app (goodIn_k _ [[7, 0, 0, 0]] (by rfl) (gw_V _ _ _ _)) ggX1_howManyDiffer_X2_houseDegree
noncomputable def sX1_howManyDiffer_40 : List Nat := 21 :: 8 :: 43 :: 21 :: 5 :: 29 :: 21 :: 4 :: 21 :: 7 :: 182 :: 0 :: 90 :: 159 :: 0 :: 6 :: 132 :: 6 :: 1 :: 132 :: 7 :: 1 :: 167 :: 255 :: 209 :: 21 :: 6 :: 172 :: []
noncomputable def sX1_howManyDiffer_0 : List Nat := 42 :: 28 :: 16 :: 7 :: 182 :: 0 :: 83 :: 54 :: 5 :: 3 :: 54 :: 6 :: 4 :: 54 :: 7 :: 21 :: 7 :: 16 :: 12 :: 163 :: 0 :: 46 :: 42 :: 28 :: 16 :: 8 :: 21 :: 7 :: 96 :: 182 :: 0 :: 83 :: 54 :: 8 :: 21 :: 8 :: 2 :: 159 :: 0 :: 22 :: sX1_howManyDiffer_40
theorem aX1_howManyDiffer_0 : dc_at cX1_howManyDiffer 0 sX1_howManyDiffer_0 := dc_base (by decide +kernel)
theorem aX1_howManyDiffer_40 : dc_at cX1_howManyDiffer 40 sX1_howManyDiffer_40 := dc_nn (k := 40) aX1_howManyDiffer_0 rfl
theorem dX1_howManyDiffer_0 : decode cX1_howManyDiffer 0 = .ok (.aload_n 0, 1) := dc_42 aX1_howManyDiffer_0
theorem dX1_howManyDiffer_1 : decode cX1_howManyDiffer 1 = .ok (.iload_n 2, 1) := dc_28 (dc_nn (k := 1) aX1_howManyDiffer_0 rfl)
theorem dX1_howManyDiffer_2 : decode cX1_howManyDiffer 2 = .ok (.bipush 7, 2) := dc_16 (a0 := 7) (dc_nn (k := 2) aX1_howManyDiffer_0 rfl) (by decide)
theorem dX1_howManyDiffer_4 : decode cX1_howManyDiffer 4 = .ok (.invokevirtual 83, 3) := dc_182 (a0 := 0) (b0 := 83) (dc_nn (k := 4) aX1_howManyDiffer_0 rfl)
theorem dX1_howManyDiffer_7 : decode cX1_howManyDiffer 7 = .ok (.istore 5, 2) := dc_54 (a0 := 5) (dc_nn (k := 7) aX1_howManyDiffer_0 rfl)
theorem dX1_howManyDiffer_9 : decode cX1_howManyDiffer 9 = .ok (.iconst 0, 1) := dc_3 (dc_nn (k := 9) aX1_howManyDiffer_0 rfl)
theorem dX1_howManyDiffer_10 : decode cX1_howManyDiffer 10 = .ok (.istore 6, 2) := dc_54 (a0 := 6) (dc_nn (k := 10) aX1_howManyDiffer_0 rfl)
theorem dX1_howManyDiffer_12 : decode cX1_howManyDiffer 12 = .ok (.iconst 1, 1) := dc_4 (dc_nn (k := 12) aX1_howManyDiffer_0 rfl)
theorem dX1_howManyDiffer_13 : decode cX1_howManyDiffer 13 = .ok (.istore 7, 2) := dc_54 (a0 := 7) (dc_nn (k := 13) aX1_howManyDiffer_0 rfl)
theorem dX1_howManyDiffer_15 : decode cX1_howManyDiffer 15 = .ok (.iload 7, 2) := dc_21 (a0 := 7) (dc_nn (k := 15) aX1_howManyDiffer_0 rfl)
theorem dX1_howManyDiffer_17 : decode cX1_howManyDiffer 17 = .ok (.bipush 12, 2) := dc_16 (a0 := 12) (dc_nn (k := 17) aX1_howManyDiffer_0 rfl) (by decide)
theorem dX1_howManyDiffer_19 : decode cX1_howManyDiffer 19 = .ok (.if_icmp .gt 46, 3) := dc_163 (a0 := 0) (b0 := 46) (dc_nn (k := 19) aX1_howManyDiffer_0 rfl) (by decide)
theorem dX1_howManyDiffer_22 : decode cX1_howManyDiffer 22 = .ok (.aload_n 0, 1) := dc_42 (dc_nn (k := 22) aX1_howManyDiffer_0 rfl)
theorem dX1_howManyDiffer_23 : decode cX1_howManyDiffer 23 = .ok (.iload_n 2, 1) := dc_28 (dc_nn (k := 23) aX1_howManyDiffer_0 rfl)
theorem dX1_howManyDiffer_24 : decode cX1_howManyDiffer 24 = .ok (.bipush 8, 2) := dc_16 (a0 := 8) (dc_nn (k := 24) aX1_howManyDiffer_0 rfl) (by decide)
theorem dX1_howManyDiffer_26 : decode cX1_howManyDiffer 26 = .ok (.iload 7, 2) := dc_21 (a0 := 7) (dc_nn (k := 26) aX1_howManyDiffer_0 rfl)
theorem dX1_howManyDiffer_28 : decode cX1_howManyDiffer 28 = .ok (.iadd, 1) := dc_96 (dc_nn (k := 28) aX1_howManyDiffer_0 rfl)
theorem dX1_howManyDiffer_29 : decode cX1_howManyDiffer 29 = .ok (.invokevirtual 83, 3) := dc_182 (a0 := 0) (b0 := 83) (dc_nn (k := 29) aX1_howManyDiffer_0 rfl)
theorem dX1_howManyDiffer_32 : decode cX1_howManyDiffer 32 = .ok (.istore 8, 2) := dc_54 (a0 := 8) (dc_nn (k := 32) aX1_howManyDiffer_0 rfl)
theorem dX1_howManyDiffer_34 : decode cX1_howManyDiffer 34 = .ok (.iload 8, 2) := dc_21 (a0 := 8) (dc_nn (k := 34) aX1_howManyDiffer_0 rfl)
theorem dX1_howManyDiffer_36 : decode cX1_howManyDiffer 36 = .ok (.iconst (-1), 1) := dc_2 (dc_nn (k := 36) aX1_howManyDiffer_0 rfl)
theorem dX1_howManyDiffer_37 : decode cX1_howManyDiffer 37 = .ok (.if_icmp .eq 22, 3) := dc_159 (a0 := 0) (b0 := 22) (dc_nn (k := 37) aX1_howManyDiffer_0 rfl) (by decide)
theorem dX1_howManyDiffer_40 : decode cX1_howManyDiffer 40 = .ok (.iload 8, 2) := dc_21 (a0 := 8) aX1_howManyDiffer_40
theorem dX1_howManyDiffer_42 : decode cX1_howManyDiffer 42 = .ok (.aload_n 1, 1) := dc_43 (dc_nn (k := 2) aX1_howManyDiffer_40 rfl)
theorem dX1_howManyDiffer_43 : decode cX1_howManyDiffer 43 = .ok (.iload 5, 2) := dc_21 (a0 := 5) (dc_nn (k := 3) aX1_howManyDiffer_40 rfl)
theorem dX1_howManyDiffer_45 : decode cX1_howManyDiffer 45 = .ok (.iload_n 3, 1) := dc_29 (dc_nn (k := 5) aX1_howManyDiffer_40 rfl)
theorem dX1_howManyDiffer_46 : decode cX1_howManyDiffer 46 = .ok (.iload 4, 2) := dc_21 (a0 := 4) (dc_nn (k := 6) aX1_howManyDiffer_40 rfl)
theorem dX1_howManyDiffer_48 : decode cX1_howManyDiffer 48 = .ok (.iload 7, 2) := dc_21 (a0 := 7) (dc_nn (k := 8) aX1_howManyDiffer_40 rfl)
theorem dX1_howManyDiffer_50 : decode cX1_howManyDiffer 50 = .ok (.invokevirtual 90, 3) := dc_182 (a0 := 0) (b0 := 90) (dc_nn (k := 10) aX1_howManyDiffer_40 rfl)
theorem dX1_howManyDiffer_53 : decode cX1_howManyDiffer 53 = .ok (.if_icmp .eq 6, 3) := dc_159 (a0 := 0) (b0 := 6) (dc_nn (k := 13) aX1_howManyDiffer_40 rfl) (by decide)
theorem dX1_howManyDiffer_56 : decode cX1_howManyDiffer 56 = .ok (.iinc 6 1, 3) := dc_132 (a0 := 6) (a1 := 1) (dc_nn (k := 16) aX1_howManyDiffer_40 rfl) (by decide)
theorem dX1_howManyDiffer_59 : decode cX1_howManyDiffer 59 = .ok (.iinc 7 1, 3) := dc_132 (a0 := 7) (a1 := 1) (dc_nn (k := 19) aX1_howManyDiffer_40 rfl) (by decide)
theorem dX1_howManyDiffer_62 : decode cX1_howManyDiffer 62 = .ok (.goto (-47), 3) := dc_167 (a0 := 255) (b0 := 209) (dc_nn (k := 22) aX1_howManyDiffer_40 rfl) (by decide)
theorem dX1_howManyDiffer_65 : decode cX1_howManyDiffer 65 = .ok (.iload 6, 2) := dc_21 (a0 := 6) (dc_nn (k := 25) aX1_howManyDiffer_40 rfl)
theorem dX1_howManyDiffer_67 : decode cX1_howManyDiffer 67 = .ok (.ireturn, 1) := dc_172 (dc_nn (k := 27) aX1_howManyDiffer_40 rfl)
set_option maxRecDepth 20000 in
theorem ggX1_lotOf_X1_degreeOf : GoodIn wsX1_lotOf wsX1_degreeOf := goodIn_k _ [[5, 0, 4, 0]] (by rfl) (by decide +kernel)
set_option maxRecDepth 20000 in
theorem gX1_lotOf_X1_degreeOf : GoodIn wsX1_lotOf (wsV RX1 83 RX1 yX1_degreeOf wsX1_degreeOf) := goodIn_app (goodIn_k _ [[1, 0, 0, 0]] (by rfl) (gw_V _ _ _ _)) ggX1_lotOf_X1_degreeOf
set_option maxRecDepth 20000 in
theorem ggX1_lotOf_J9_floorMod_7cf53 : GoodIn wsX1_lotOf wsJ9_floorMod_7cf53 := goodIn_k _ [[10]] (by rfl) (by decide +kernel)
set_option maxRecDepth 20000 in
theorem gX1_lotOf_J9_floorMod_7cf53 : GoodIn wsX1_lotOf (va_wsS RX1 96 yJ9_floorMod_7cf53 wsJ9_floorMod_7cf53) := goodIn_app (goodIn_k _ [[7, 0, 0]] (by rfl) (gw_S _ _ _ _)) ggX1_lotOf_J9_floorMod_7cf53
noncomputable def sX1_lotOf_80 : List Nat := 28 :: 96 :: 29 :: 100 :: 17 :: 1 :: 104 :: 184 :: 0 :: 96 :: 172 :: []
noncomputable def sX1_lotOf_40 : List Nat := 172 :: 21 :: 4 :: 28 :: 100 :: 17 :: 1 :: 104 :: 184 :: 0 :: 96 :: 17 :: 0 :: 180 :: 162 :: 0 :: 7 :: 4 :: 167 :: 0 :: 4 :: 3 :: 54 :: 5 :: 21 :: 5 :: 153 :: 0 :: 12 :: 21 :: 4 :: 29 :: 96 :: 28 :: 100 :: 167 :: 0 :: 9 :: 21 :: 4 :: sX1_lotOf_80
noncomputable def sX1_lotOf_0 : List Nat := 42 :: 27 :: 3 :: 182 :: 0 :: 83 :: 61 :: 42 :: 27 :: 4 :: 182 :: 0 :: 83 :: 62 :: 42 :: 27 :: 16 :: 7 :: 182 :: 0 :: 83 :: 54 :: 4 :: 28 :: 2 :: 159 :: 0 :: 14 :: 29 :: 2 :: 159 :: 0 :: 9 :: 21 :: 4 :: 2 :: 160 :: 0 :: 5 :: 2 :: sX1_lotOf_40
theorem aX1_lotOf_0 : dc_at cX1_lotOf 0 sX1_lotOf_0 := dc_base (by decide +kernel)
theorem aX1_lotOf_40 : dc_at cX1_lotOf 40 sX1_lotOf_40 := dc_nn (k := 40) aX1_lotOf_0 rfl
theorem aX1_lotOf_80 : dc_at cX1_lotOf 80 sX1_lotOf_80 := dc_nn (k := 40) aX1_lotOf_40 rfl
theorem dX1_lotOf_0 : decode cX1_lotOf 0 = .ok (.aload_n 0, 1) := dc_42 aX1_lotOf_0
theorem dX1_lotOf_1 : decode cX1_lotOf 1 = .ok (.iload_n 1, 1) := dc_27 (dc_nn (k := 1) aX1_lotOf_0 rfl)
theorem dX1_lotOf_2 : decode cX1_lotOf 2 = .ok (.iconst 0, 1) := dc_3 (dc_nn (k := 2) aX1_lotOf_0 rfl)
theorem dX1_lotOf_3 : decode cX1_lotOf 3 = .ok (.invokevirtual 83, 3) := dc_182 (a0 := 0) (b0 := 83) (dc_nn (k := 3) aX1_lotOf_0 rfl)
theorem dX1_lotOf_6 : decode cX1_lotOf 6 = .ok (.istore_n 2, 1) := dc_61 (dc_nn (k := 6) aX1_lotOf_0 rfl)
theorem dX1_lotOf_7 : decode cX1_lotOf 7 = .ok (.aload_n 0, 1) := dc_42 (dc_nn (k := 7) aX1_lotOf_0 rfl)
theorem dX1_lotOf_8 : decode cX1_lotOf 8 = .ok (.iload_n 1, 1) := dc_27 (dc_nn (k := 8) aX1_lotOf_0 rfl)
theorem dX1_lotOf_9 : decode cX1_lotOf 9 = .ok (.iconst 1, 1) := dc_4 (dc_nn (k := 9) aX1_lotOf_0 rfl)
theorem dX1_lotOf_10 : decode cX1_lotOf 10 = .ok (.invokevirtual 83, 3) := dc_182 (a0 := 0) (b0 := 83) (dc_nn (k := 10) aX1_lotOf_0 rfl)
theorem dX1_lotOf_13 : decode cX1_lotOf 13 = .ok (.istore_n 3, 1) := dc_62 (dc_nn (k := 13) aX1_lotOf_0 rfl)
theorem dX1_lotOf_14 : decode cX1_lotOf 14 = .ok (.aload_n 0, 1) := dc_42 (dc_nn (k := 14) aX1_lotOf_0 rfl)
theorem dX1_lotOf_15 : decode cX1_lotOf 15 = .ok (.iload_n 1, 1) := dc_27 (dc_nn (k := 15) aX1_lotOf_0 rfl)
theorem dX1_lotOf_16 : decode cX1_lotOf 16 = .ok (.bipush 7, 2) := dc_16 (a0 := 7) (dc_nn (k := 16) aX1_lotOf_0 rfl) (by decide)
theorem dX1_lotOf_18 : decode cX1_lotOf 18 = .ok (.invokevirtual 83, 3) := dc_182 (a0 := 0) (b0 := 83) (dc_nn (k := 18) aX1_lotOf_0 rfl)
theorem dX1_lotOf_21 : decode cX1_lotOf 21 = .ok (.istore 4, 2) := dc_54 (a0 := 4) (dc_nn (k := 21) aX1_lotOf_0 rfl)
theorem dX1_lotOf_23 : decode cX1_lotOf 23 = .ok (.iload_n 2, 1) := dc_28 (dc_nn (k := 23) aX1_lotOf_0 rfl)
theorem dX1_lotOf_24 : decode cX1_lotOf 24 = .ok (.iconst (-1), 1) := dc_2 (dc_nn (k := 24) aX1_lotOf_0 rfl)
theorem dX1_lotOf_25 : decode cX1_lotOf 25 = .ok (.if_icmp .eq 14, 3) := dc_159 (a0 := 0) (b0 := 14) (dc_nn (k := 25) aX1_lotOf_0 rfl) (by decide)
theorem dX1_lotOf_28 : decode cX1_lotOf 28 = .ok (.iload_n 3, 1) := dc_29 (dc_nn (k := 28) aX1_lotOf_0 rfl)
theorem dX1_lotOf_29 : decode cX1_lotOf 29 = .ok (.iconst (-1), 1) := dc_2 (dc_nn (k := 29) aX1_lotOf_0 rfl)
theorem dX1_lotOf_30 : decode cX1_lotOf 30 = .ok (.if_icmp .eq 9, 3) := dc_159 (a0 := 0) (b0 := 9) (dc_nn (k := 30) aX1_lotOf_0 rfl) (by decide)
theorem dX1_lotOf_33 : decode cX1_lotOf 33 = .ok (.iload 4, 2) := dc_21 (a0 := 4) (dc_nn (k := 33) aX1_lotOf_0 rfl)
theorem dX1_lotOf_35 : decode cX1_lotOf 35 = .ok (.iconst (-1), 1) := dc_2 (dc_nn (k := 35) aX1_lotOf_0 rfl)
theorem dX1_lotOf_36 : decode cX1_lotOf 36 = .ok (.if_icmp .ne 5, 3) := dc_160 (a0 := 0) (b0 := 5) (dc_nn (k := 36) aX1_lotOf_0 rfl) (by decide)
theorem dX1_lotOf_39 : decode cX1_lotOf 39 = .ok (.iconst (-1), 1) := dc_2 (dc_nn (k := 39) aX1_lotOf_0 rfl)
theorem dX1_lotOf_40 : decode cX1_lotOf 40 = .ok (.ireturn, 1) := dc_172 aX1_lotOf_40
theorem dX1_lotOf_41 : decode cX1_lotOf 41 = .ok (.iload 4, 2) := dc_21 (a0 := 4) (dc_nn (k := 1) aX1_lotOf_40 rfl)
theorem dX1_lotOf_43 : decode cX1_lotOf 43 = .ok (.iload_n 2, 1) := dc_28 (dc_nn (k := 3) aX1_lotOf_40 rfl)
theorem dX1_lotOf_44 : decode cX1_lotOf 44 = .ok (.isub, 1) := dc_100 (dc_nn (k := 4) aX1_lotOf_40 rfl)
theorem dX1_lotOf_45 : decode cX1_lotOf 45 = .ok (.sipush 360, 3) := dc_17 (a0 := 1) (b0 := 104) (dc_nn (k := 5) aX1_lotOf_40 rfl) (by decide)
theorem dX1_lotOf_48 : decode cX1_lotOf 48 = .ok (.invokestatic 96, 3) := dc_184 (a0 := 0) (b0 := 96) (dc_nn (k := 8) aX1_lotOf_40 rfl)
theorem dX1_lotOf_51 : decode cX1_lotOf 51 = .ok (.sipush 180, 3) := dc_17 (a0 := 0) (b0 := 180) (dc_nn (k := 11) aX1_lotOf_40 rfl) (by decide)
theorem dX1_lotOf_54 : decode cX1_lotOf 54 = .ok (.if_icmp .ge 7, 3) := dc_162 (a0 := 0) (b0 := 7) (dc_nn (k := 14) aX1_lotOf_40 rfl) (by decide)
theorem dX1_lotOf_57 : decode cX1_lotOf 57 = .ok (.iconst 1, 1) := dc_4 (dc_nn (k := 17) aX1_lotOf_40 rfl)
theorem dX1_lotOf_58 : decode cX1_lotOf 58 = .ok (.goto 4, 3) := dc_167 (a0 := 0) (b0 := 4) (dc_nn (k := 18) aX1_lotOf_40 rfl) (by decide)
theorem dX1_lotOf_61 : decode cX1_lotOf 61 = .ok (.iconst 0, 1) := dc_3 (dc_nn (k := 21) aX1_lotOf_40 rfl)
theorem dX1_lotOf_62 : decode cX1_lotOf 62 = .ok (.istore 5, 2) := dc_54 (a0 := 5) (dc_nn (k := 22) aX1_lotOf_40 rfl)
theorem dX1_lotOf_64 : decode cX1_lotOf 64 = .ok (.iload 5, 2) := dc_21 (a0 := 5) (dc_nn (k := 24) aX1_lotOf_40 rfl)
theorem dX1_lotOf_66 : decode cX1_lotOf 66 = .ok (.ifCond .eq 12, 3) := dc_153 (a0 := 0) (b0 := 12) (dc_nn (k := 26) aX1_lotOf_40 rfl) (by decide)
theorem dX1_lotOf_69 : decode cX1_lotOf 69 = .ok (.iload 4, 2) := dc_21 (a0 := 4) (dc_nn (k := 29) aX1_lotOf_40 rfl)
theorem dX1_lotOf_71 : decode cX1_lotOf 71 = .ok (.iload_n 3, 1) := dc_29 (dc_nn (k := 31) aX1_lotOf_40 rfl)
theorem dX1_lotOf_72 : decode cX1_lotOf 72 = .ok (.iadd, 1) := dc_96 (dc_nn (k := 32) aX1_lotOf_40 rfl)
theorem dX1_lotOf_73 : decode cX1_lotOf 73 = .ok (.iload_n 2, 1) := dc_28 (dc_nn (k := 33) aX1_lotOf_40 rfl)
theorem dX1_lotOf_74 : decode cX1_lotOf 74 = .ok (.isub, 1) := dc_100 (dc_nn (k := 34) aX1_lotOf_40 rfl)
theorem dX1_lotOf_75 : decode cX1_lotOf 75 = .ok (.goto 9, 3) := dc_167 (a0 := 0) (b0 := 9) (dc_nn (k := 35) aX1_lotOf_40 rfl) (by decide)
theorem dX1_lotOf_78 : decode cX1_lotOf 78 = .ok (.iload 4, 2) := dc_21 (a0 := 4) (dc_nn (k := 38) aX1_lotOf_40 rfl)
theorem dX1_lotOf_80 : decode cX1_lotOf 80 = .ok (.iload_n 2, 1) := dc_28 aX1_lotOf_80
theorem dX1_lotOf_81 : decode cX1_lotOf 81 = .ok (.iadd, 1) := dc_96 (dc_nn (k := 1) aX1_lotOf_80 rfl)
theorem dX1_lotOf_82 : decode cX1_lotOf 82 = .ok (.iload_n 3, 1) := dc_29 (dc_nn (k := 2) aX1_lotOf_80 rfl)
theorem dX1_lotOf_83 : decode cX1_lotOf 83 = .ok (.isub, 1) := dc_100 (dc_nn (k := 3) aX1_lotOf_80 rfl)
theorem dX1_lotOf_84 : decode cX1_lotOf 84 = .ok (.sipush 360, 3) := dc_17 (a0 := 1) (b0 := 104) (dc_nn (k := 4) aX1_lotOf_80 rfl) (by decide)
theorem dX1_lotOf_87 : decode cX1_lotOf 87 = .ok (.invokestatic 96, 3) := dc_184 (a0 := 0) (b0 := 96) (dc_nn (k := 7) aX1_lotOf_80 rfl)
theorem dX1_lotOf_90 : decode cX1_lotOf 90 = .ok (.ireturn, 1) := dc_172 (dc_nn (k := 10) aX1_lotOf_80 rfl)
noncomputable def sX1_howManyHanded_80 : List Nat := 21 :: 6 :: 159 :: 0 :: 6 :: 132 :: 4 :: 1 :: 132 :: 5 :: 1 :: 167 :: 255 :: 171 :: 21 :: 4 :: 172 :: []
noncomputable def sX1_howManyHanded_40 : List Nat := 96 :: 46 :: 54 :: 7 :: 42 :: 180 :: 0 :: 9 :: 17 :: 1 :: 184 :: 29 :: 104 :: 21 :: 5 :: 96 :: 46 :: 54 :: 8 :: 21 :: 6 :: 2 :: 159 :: 0 :: 26 :: 21 :: 6 :: 21 :: 7 :: 160 :: 0 :: 19 :: 21 :: 8 :: 2 :: 159 :: 0 :: 13 :: 21 :: 8 :: sX1_howManyHanded_80
noncomputable def sX1_howManyHanded_0 : List Nat := 3 :: 54 :: 4 :: 3 :: 54 :: 5 :: 21 :: 5 :: 17 :: 1 :: 184 :: 162 :: 0 :: 83 :: 42 :: 180 :: 0 :: 9 :: 17 :: 1 :: 184 :: 27 :: 104 :: 21 :: 5 :: 96 :: 46 :: 54 :: 6 :: 42 :: 180 :: 0 :: 9 :: 17 :: 1 :: 184 :: 28 :: 104 :: 21 :: 5 :: sX1_howManyHanded_40
theorem aX1_howManyHanded_0 : dc_at cX1_howManyHanded 0 sX1_howManyHanded_0 := dc_base (by decide +kernel)
theorem aX1_howManyHanded_40 : dc_at cX1_howManyHanded 40 sX1_howManyHanded_40 := dc_nn (k := 40) aX1_howManyHanded_0 rfl
theorem aX1_howManyHanded_80 : dc_at cX1_howManyHanded 80 sX1_howManyHanded_80 := dc_nn (k := 40) aX1_howManyHanded_40 rfl
theorem dX1_howManyHanded_0 : decode cX1_howManyHanded 0 = .ok (.iconst 0, 1) := dc_3 aX1_howManyHanded_0
theorem dX1_howManyHanded_1 : decode cX1_howManyHanded 1 = .ok (.istore 4, 2) := dc_54 (a0 := 4) (dc_nn (k := 1) aX1_howManyHanded_0 rfl)
theorem dX1_howManyHanded_3 : decode cX1_howManyHanded 3 = .ok (.iconst 0, 1) := dc_3 (dc_nn (k := 3) aX1_howManyHanded_0 rfl)
theorem dX1_howManyHanded_4 : decode cX1_howManyHanded 4 = .ok (.istore 5, 2) := dc_54 (a0 := 5) (dc_nn (k := 4) aX1_howManyHanded_0 rfl)
theorem dX1_howManyHanded_6 : decode cX1_howManyHanded 6 = .ok (.iload 5, 2) := dc_21 (a0 := 5) (dc_nn (k := 6) aX1_howManyHanded_0 rfl)
theorem dX1_howManyHanded_8 : decode cX1_howManyHanded 8 = .ok (.sipush 440, 3) := dc_17 (a0 := 1) (b0 := 184) (dc_nn (k := 8) aX1_howManyHanded_0 rfl) (by decide)
theorem dX1_howManyHanded_11 : decode cX1_howManyHanded 11 = .ok (.if_icmp .ge 83, 3) := dc_162 (a0 := 0) (b0 := 83) (dc_nn (k := 11) aX1_howManyHanded_0 rfl) (by decide)
theorem dX1_howManyHanded_14 : decode cX1_howManyHanded 14 = .ok (.aload_n 0, 1) := dc_42 (dc_nn (k := 14) aX1_howManyHanded_0 rfl)
theorem dX1_howManyHanded_15 : decode cX1_howManyHanded 15 = .ok (.getfield 9, 3) := dc_180 (a0 := 0) (b0 := 9) (dc_nn (k := 15) aX1_howManyHanded_0 rfl)
theorem dX1_howManyHanded_18 : decode cX1_howManyHanded 18 = .ok (.sipush 440, 3) := dc_17 (a0 := 1) (b0 := 184) (dc_nn (k := 18) aX1_howManyHanded_0 rfl) (by decide)
theorem dX1_howManyHanded_21 : decode cX1_howManyHanded 21 = .ok (.iload_n 1, 1) := dc_27 (dc_nn (k := 21) aX1_howManyHanded_0 rfl)
theorem dX1_howManyHanded_22 : decode cX1_howManyHanded 22 = .ok (.imul, 1) := dc_104 (dc_nn (k := 22) aX1_howManyHanded_0 rfl)
theorem dX1_howManyHanded_23 : decode cX1_howManyHanded 23 = .ok (.iload 5, 2) := dc_21 (a0 := 5) (dc_nn (k := 23) aX1_howManyHanded_0 rfl)
theorem dX1_howManyHanded_25 : decode cX1_howManyHanded 25 = .ok (.iadd, 1) := dc_96 (dc_nn (k := 25) aX1_howManyHanded_0 rfl)
theorem dX1_howManyHanded_26 : decode cX1_howManyHanded 26 = .ok (.iaload, 1) := dc_46 (dc_nn (k := 26) aX1_howManyHanded_0 rfl)
theorem dX1_howManyHanded_27 : decode cX1_howManyHanded 27 = .ok (.istore 6, 2) := dc_54 (a0 := 6) (dc_nn (k := 27) aX1_howManyHanded_0 rfl)
theorem dX1_howManyHanded_29 : decode cX1_howManyHanded 29 = .ok (.aload_n 0, 1) := dc_42 (dc_nn (k := 29) aX1_howManyHanded_0 rfl)
theorem dX1_howManyHanded_30 : decode cX1_howManyHanded 30 = .ok (.getfield 9, 3) := dc_180 (a0 := 0) (b0 := 9) (dc_nn (k := 30) aX1_howManyHanded_0 rfl)
theorem dX1_howManyHanded_33 : decode cX1_howManyHanded 33 = .ok (.sipush 440, 3) := dc_17 (a0 := 1) (b0 := 184) (dc_nn (k := 33) aX1_howManyHanded_0 rfl) (by decide)
theorem dX1_howManyHanded_36 : decode cX1_howManyHanded 36 = .ok (.iload_n 2, 1) := dc_28 (dc_nn (k := 36) aX1_howManyHanded_0 rfl)
theorem dX1_howManyHanded_37 : decode cX1_howManyHanded 37 = .ok (.imul, 1) := dc_104 (dc_nn (k := 37) aX1_howManyHanded_0 rfl)
theorem dX1_howManyHanded_38 : decode cX1_howManyHanded 38 = .ok (.iload 5, 2) := dc_21 (a0 := 5) (dc_nn (k := 38) aX1_howManyHanded_0 rfl)
theorem dX1_howManyHanded_40 : decode cX1_howManyHanded 40 = .ok (.iadd, 1) := dc_96 aX1_howManyHanded_40
theorem dX1_howManyHanded_41 : decode cX1_howManyHanded 41 = .ok (.iaload, 1) := dc_46 (dc_nn (k := 1) aX1_howManyHanded_40 rfl)
theorem dX1_howManyHanded_42 : decode cX1_howManyHanded 42 = .ok (.istore 7, 2) := dc_54 (a0 := 7) (dc_nn (k := 2) aX1_howManyHanded_40 rfl)
theorem dX1_howManyHanded_44 : decode cX1_howManyHanded 44 = .ok (.aload_n 0, 1) := dc_42 (dc_nn (k := 4) aX1_howManyHanded_40 rfl)
theorem dX1_howManyHanded_45 : decode cX1_howManyHanded 45 = .ok (.getfield 9, 3) := dc_180 (a0 := 0) (b0 := 9) (dc_nn (k := 5) aX1_howManyHanded_40 rfl)
theorem dX1_howManyHanded_48 : decode cX1_howManyHanded 48 = .ok (.sipush 440, 3) := dc_17 (a0 := 1) (b0 := 184) (dc_nn (k := 8) aX1_howManyHanded_40 rfl) (by decide)
theorem dX1_howManyHanded_51 : decode cX1_howManyHanded 51 = .ok (.iload_n 3, 1) := dc_29 (dc_nn (k := 11) aX1_howManyHanded_40 rfl)
theorem dX1_howManyHanded_52 : decode cX1_howManyHanded 52 = .ok (.imul, 1) := dc_104 (dc_nn (k := 12) aX1_howManyHanded_40 rfl)
theorem dX1_howManyHanded_53 : decode cX1_howManyHanded 53 = .ok (.iload 5, 2) := dc_21 (a0 := 5) (dc_nn (k := 13) aX1_howManyHanded_40 rfl)
theorem dX1_howManyHanded_55 : decode cX1_howManyHanded 55 = .ok (.iadd, 1) := dc_96 (dc_nn (k := 15) aX1_howManyHanded_40 rfl)
theorem dX1_howManyHanded_56 : decode cX1_howManyHanded 56 = .ok (.iaload, 1) := dc_46 (dc_nn (k := 16) aX1_howManyHanded_40 rfl)
theorem dX1_howManyHanded_57 : decode cX1_howManyHanded 57 = .ok (.istore 8, 2) := dc_54 (a0 := 8) (dc_nn (k := 17) aX1_howManyHanded_40 rfl)
theorem dX1_howManyHanded_59 : decode cX1_howManyHanded 59 = .ok (.iload 6, 2) := dc_21 (a0 := 6) (dc_nn (k := 19) aX1_howManyHanded_40 rfl)
theorem dX1_howManyHanded_61 : decode cX1_howManyHanded 61 = .ok (.iconst (-1), 1) := dc_2 (dc_nn (k := 21) aX1_howManyHanded_40 rfl)
theorem dX1_howManyHanded_62 : decode cX1_howManyHanded 62 = .ok (.if_icmp .eq 26, 3) := dc_159 (a0 := 0) (b0 := 26) (dc_nn (k := 22) aX1_howManyHanded_40 rfl) (by decide)
theorem dX1_howManyHanded_65 : decode cX1_howManyHanded 65 = .ok (.iload 6, 2) := dc_21 (a0 := 6) (dc_nn (k := 25) aX1_howManyHanded_40 rfl)
theorem dX1_howManyHanded_67 : decode cX1_howManyHanded 67 = .ok (.iload 7, 2) := dc_21 (a0 := 7) (dc_nn (k := 27) aX1_howManyHanded_40 rfl)
theorem dX1_howManyHanded_69 : decode cX1_howManyHanded 69 = .ok (.if_icmp .ne 19, 3) := dc_160 (a0 := 0) (b0 := 19) (dc_nn (k := 29) aX1_howManyHanded_40 rfl) (by decide)
theorem dX1_howManyHanded_72 : decode cX1_howManyHanded 72 = .ok (.iload 8, 2) := dc_21 (a0 := 8) (dc_nn (k := 32) aX1_howManyHanded_40 rfl)
theorem dX1_howManyHanded_74 : decode cX1_howManyHanded 74 = .ok (.iconst (-1), 1) := dc_2 (dc_nn (k := 34) aX1_howManyHanded_40 rfl)
theorem dX1_howManyHanded_75 : decode cX1_howManyHanded 75 = .ok (.if_icmp .eq 13, 3) := dc_159 (a0 := 0) (b0 := 13) (dc_nn (k := 35) aX1_howManyHanded_40 rfl) (by decide)
theorem dX1_howManyHanded_78 : decode cX1_howManyHanded 78 = .ok (.iload 8, 2) := dc_21 (a0 := 8) (dc_nn (k := 38) aX1_howManyHanded_40 rfl)
theorem dX1_howManyHanded_80 : decode cX1_howManyHanded 80 = .ok (.iload 6, 2) := dc_21 (a0 := 6) aX1_howManyHanded_80
theorem dX1_howManyHanded_82 : decode cX1_howManyHanded 82 = .ok (.if_icmp .eq 6, 3) := dc_159 (a0 := 0) (b0 := 6) (dc_nn (k := 2) aX1_howManyHanded_80 rfl) (by decide)
theorem dX1_howManyHanded_85 : decode cX1_howManyHanded 85 = .ok (.iinc 4 1, 3) := dc_132 (a0 := 4) (a1 := 1) (dc_nn (k := 5) aX1_howManyHanded_80 rfl) (by decide)
theorem dX1_howManyHanded_88 : decode cX1_howManyHanded 88 = .ok (.iinc 5 1, 3) := dc_132 (a0 := 5) (a1 := 1) (dc_nn (k := 8) aX1_howManyHanded_80 rfl) (by decide)
theorem dX1_howManyHanded_91 : decode cX1_howManyHanded 91 = .ok (.goto (-85), 3) := dc_167 (a0 := 255) (b0 := 171) (dc_nn (k := 11) aX1_howManyHanded_80 rfl) (by decide)
theorem dX1_howManyHanded_94 : decode cX1_howManyHanded 94 = .ok (.iload 4, 2) := dc_21 (a0 := 4) (dc_nn (k := 14) aX1_howManyHanded_80 rfl)
theorem dX1_howManyHanded_96 : decode cX1_howManyHanded 96 = .ok (.ireturn, 1) := dc_172 (dc_nn (k := 16) aX1_howManyHanded_80 rfl)
noncomputable def sX2_init_0 : List Nat := 42 :: 183 :: 0 :: 3 :: 42 :: 16 :: 91 :: 188 :: 10 :: 181 :: 0 :: 11 :: 177 :: []
theorem aX2_init_0 : dc_at cX2_init 0 sX2_init_0 := dc_base (by decide +kernel)
theorem dX2_init_0 : decode cX2_init 0 = .ok (.aload_n 0, 1) := dc_42 aX2_init_0
theorem dX2_init_1 : decode cX2_init 1 = .ok (.invokespecial 3, 3) := dc_183 (a0 := 0) (b0 := 3) (dc_nn (k := 1) aX2_init_0 rfl)
theorem dX2_init_4 : decode cX2_init 4 = .ok (.aload_n 0, 1) := dc_42 (dc_nn (k := 4) aX2_init_0 rfl)
theorem dX2_init_5 : decode cX2_init 5 = .ok (.bipush 91, 2) := dc_16 (a0 := 91) (dc_nn (k := 5) aX2_init_0 rfl) (by decide)
theorem dX2_init_7 : decode cX2_init 7 = .ok (.newarray .int, 2) := dc_188_10 (dc_nn (k := 7) aX2_init_0 rfl)
theorem dX2_init_9 : decode cX2_init 9 = .ok (.putfield 11, 3) := dc_181 (a0 := 0) (b0 := 11) (dc_nn (k := 9) aX2_init_0 rfl)
theorem dX2_init_12 : decode cX2_init 12 = .ok (.return_, 1) := dc_177 (dc_nn (k := 12) aX2_init_0 rfl)
noncomputable def sX2_copyFrom_0 : List Nat := 43 :: 180 :: 0 :: 11 :: 3 :: 42 :: 180 :: 0 :: 11 :: 3 :: 16 :: 91 :: 184 :: 0 :: 15 :: 42 :: 43 :: 180 :: 0 :: 21 :: 181 :: 0 :: 21 :: 177 :: []
theorem aX2_copyFrom_0 : dc_at cX2_copyFrom 0 sX2_copyFrom_0 := dc_base (by decide +kernel)
theorem dX2_copyFrom_0 : decode cX2_copyFrom 0 = .ok (.aload_n 1, 1) := dc_43 aX2_copyFrom_0
theorem dX2_copyFrom_1 : decode cX2_copyFrom 1 = .ok (.getfield 11, 3) := dc_180 (a0 := 0) (b0 := 11) (dc_nn (k := 1) aX2_copyFrom_0 rfl)
theorem dX2_copyFrom_4 : decode cX2_copyFrom 4 = .ok (.iconst 0, 1) := dc_3 (dc_nn (k := 4) aX2_copyFrom_0 rfl)
theorem dX2_copyFrom_5 : decode cX2_copyFrom 5 = .ok (.aload_n 0, 1) := dc_42 (dc_nn (k := 5) aX2_copyFrom_0 rfl)
theorem dX2_copyFrom_6 : decode cX2_copyFrom 6 = .ok (.getfield 11, 3) := dc_180 (a0 := 0) (b0 := 11) (dc_nn (k := 6) aX2_copyFrom_0 rfl)
theorem dX2_copyFrom_9 : decode cX2_copyFrom 9 = .ok (.iconst 0, 1) := dc_3 (dc_nn (k := 9) aX2_copyFrom_0 rfl)
theorem dX2_copyFrom_10 : decode cX2_copyFrom 10 = .ok (.bipush 91, 2) := dc_16 (a0 := 91) (dc_nn (k := 10) aX2_copyFrom_0 rfl) (by decide)
theorem dX2_copyFrom_12 : decode cX2_copyFrom 12 = .ok (.invokestatic 15, 3) := dc_184 (a0 := 0) (b0 := 15) (dc_nn (k := 12) aX2_copyFrom_0 rfl)
theorem dX2_copyFrom_15 : decode cX2_copyFrom 15 = .ok (.aload_n 0, 1) := dc_42 (dc_nn (k := 15) aX2_copyFrom_0 rfl)
theorem dX2_copyFrom_16 : decode cX2_copyFrom 16 = .ok (.aload_n 1, 1) := dc_43 (dc_nn (k := 16) aX2_copyFrom_0 rfl)
theorem dX2_copyFrom_17 : decode cX2_copyFrom 17 = .ok (.getfield 21, 3) := dc_180 (a0 := 0) (b0 := 21) (dc_nn (k := 17) aX2_copyFrom_0 rfl)
theorem dX2_copyFrom_20 : decode cX2_copyFrom 20 = .ok (.putfield 21, 3) := dc_181 (a0 := 0) (b0 := 21) (dc_nn (k := 20) aX2_copyFrom_0 rfl)
theorem dX2_copyFrom_23 : decode cX2_copyFrom 23 = .ok (.return_, 1) := dc_177 (dc_nn (k := 23) aX2_copyFrom_0 rfl)
set_option maxRecDepth 20000 in
theorem ggX2_readClimate_X9_refuse : GoodIn wsX2_readClimate wsX9_refuse := goodIn_k _ [[6, 0, 0, 0, 47, 0, 0, 0, 0, 0, 0, 0, 0, 0]] (by rfl) (by decide +kernel)
set_option maxRecDepth 20000 in
theorem gX2_readClimate_X9_refuse : GoodIn wsX2_readClimate (wsV RX2 27 RX9 yX9_refuse wsX9_refuse) := goodIn_app (goodIn_k _ [[2, 0, 0, 0]] (by rfl) (gw_V _ _ _ _)) ggX2_readClimate_X9_refuse
set_option maxRecDepth 20000 in
theorem ggX2_readClimate_X9_step : GoodIn wsX2_readClimate wsX9_step := goodIn_k _ [[13, 0, 0, 0], [8, 8, 0, 0, 0], [5, 15, 0, 0, 0, 0, 0, 0, 29, 0, 0, 0, 0, 0, 0, 0, 0, 0]] (by rfl) (by decide +kernel)
set_option maxRecDepth 20000 in
theorem gX2_readClimate_X9_step : GoodIn wsX2_readClimate (wsV RX2 31 RX9 yX9_step wsX9_step) := goodIn_app (goodIn_k _ [[10, 0, 0], [5]] (by rfl) (gw_V _ _ _ _)) ggX2_readClimate_X9_step
set_option maxRecDepth 20000 in
theorem ggX2_readClimate_X9_takeNumber : GoodIn wsX2_readClimate wsX9_takeNumber := goodIn_k _ [[31, 0, 0, 0], [5, 29], [17], [14], [8, 9, 17, 0], [3, 0, 1, 0, 1, 28], [11, 0, 0, 1, 0, 2, 0, 0, 0, 0, 0, 0, 0, 0, 29, 0, 0, 0, 0, 0, 0, 0, 0, 0]] (by rfl) (by decide +kernel)
set_option maxRecDepth 20000 in
theorem gX2_readClimate_X9_takeNumber : GoodIn wsX2_readClimate (wsV RX2 34 RX9 yX9_takeNumber wsX9_takeNumber) := goodIn_app (goodIn_k _ [[28, 0, 0], [5]] (by rfl) (gw_V _ _ _ _)) ggX2_readClimate_X9_takeNumber
set_option maxRecDepth 20000 in
theorem ggX2_readClimate_X2_readRising : GoodIn wsX2_readClimate wsX2_readRising := goodIn_k _ [[43, 0, 0, 0, 0, 0, 0, 0], [1, 26, 0, 0], [5, 25, 0, 0, 0, 0], [17], [14], [8, 9, 17, 0], [3, 0, 1, 0, 1, 28], [11, 0, 0, 1, 0, 2, 0, 0, 0, 0, 0, 0, 0, 0, 29, 0, 0, 0, 0, 0, 0, 0, 0, 0], [55, 0]] (by rfl) (by decide +kernel)
set_option maxRecDepth 20000 in
theorem gX2_readClimate_X2_readRising : GoodIn wsX2_readClimate (wsV RX2 38 RX2 yX2_readRising wsX2_readRising) := goodIn_app (goodIn_k _ [[39, 0, 0, 0]] (by rfl) (gw_V _ _ _ _)) ggX2_readClimate_X2_readRising
set_option maxRecDepth 20000 in
theorem ggX2_readClimate_X9_takeStop : GoodIn wsX2_readClimate wsX9_takeStop := goodIn_k _ [[54], [17, 19], [3, 0, 0, 0, 0, 0, 0, 28], [11, 0, 0, 0, 0, 0, 1, 0, 0, 0, 0, 0, 0, 0, 0, 0, 29, 0, 0, 0, 0, 0, 0, 0, 0, 0]] (by rfl) (by decide +kernel)
set_option maxRecDepth 20000 in
theorem gX2_readClimate_X9_takeStop : GoodIn wsX2_readClimate (wsV RX2 42 RX9 yX9_takeStop wsX9_takeStop) := goodIn_app (goodIn_k _ [[51, 0, 0], [5]] (by rfl) (gw_V _ _ _ _)) ggX2_readClimate_X9_takeStop
noncomputable def sX2_readClimate_42 : List Nat := 3 :: 172 :: 42 :: 89 :: 180 :: 0 :: 21 :: 4 :: 96 :: 181 :: 0 :: 21 :: 43 :: 182 :: 0 :: 42 :: 172 :: []
noncomputable def sX2_readClimate_0 : List Nat := 42 :: 180 :: 0 :: 21 :: 16 :: 7 :: 161 :: 0 :: 9 :: 43 :: 5 :: 182 :: 0 :: 27 :: 172 :: 43 :: 182 :: 0 :: 31 :: 43 :: 42 :: 180 :: 0 :: 21 :: 42 :: 180 :: 0 :: 21 :: 182 :: 0 :: 34 :: 153 :: 0 :: 11 :: 42 :: 43 :: 182 :: 0 :: 38 :: 154 :: 0 :: 5 :: sX2_readClimate_42
theorem aX2_readClimate_0 : dc_at cX2_readClimate 0 sX2_readClimate_0 := dc_base (by decide +kernel)
theorem aX2_readClimate_42 : dc_at cX2_readClimate 42 sX2_readClimate_42 := dc_nn (k := 42) aX2_readClimate_0 rfl
theorem dX2_readClimate_0 : decode cX2_readClimate 0 = .ok (.aload_n 0, 1) := dc_42 aX2_readClimate_0
theorem dX2_readClimate_1 : decode cX2_readClimate 1 = .ok (.getfield 21, 3) := dc_180 (a0 := 0) (b0 := 21) (dc_nn (k := 1) aX2_readClimate_0 rfl)
theorem dX2_readClimate_4 : decode cX2_readClimate 4 = .ok (.bipush 7, 2) := dc_16 (a0 := 7) (dc_nn (k := 4) aX2_readClimate_0 rfl) (by decide)
theorem dX2_readClimate_6 : decode cX2_readClimate 6 = .ok (.if_icmp .lt 9, 3) := dc_161 (a0 := 0) (b0 := 9) (dc_nn (k := 6) aX2_readClimate_0 rfl) (by decide)
theorem dX2_readClimate_9 : decode cX2_readClimate 9 = .ok (.aload_n 1, 1) := dc_43 (dc_nn (k := 9) aX2_readClimate_0 rfl)
theorem dX2_readClimate_10 : decode cX2_readClimate 10 = .ok (.iconst 2, 1) := dc_5 (dc_nn (k := 10) aX2_readClimate_0 rfl)
theorem dX2_readClimate_11 : decode cX2_readClimate 11 = .ok (.invokevirtual 27, 3) := dc_182 (a0 := 0) (b0 := 27) (dc_nn (k := 11) aX2_readClimate_0 rfl)
theorem dX2_readClimate_14 : decode cX2_readClimate 14 = .ok (.ireturn, 1) := dc_172 (dc_nn (k := 14) aX2_readClimate_0 rfl)
theorem dX2_readClimate_15 : decode cX2_readClimate 15 = .ok (.aload_n 1, 1) := dc_43 (dc_nn (k := 15) aX2_readClimate_0 rfl)
theorem dX2_readClimate_16 : decode cX2_readClimate 16 = .ok (.invokevirtual 31, 3) := dc_182 (a0 := 0) (b0 := 31) (dc_nn (k := 16) aX2_readClimate_0 rfl)
theorem dX2_readClimate_19 : decode cX2_readClimate 19 = .ok (.aload_n 1, 1) := dc_43 (dc_nn (k := 19) aX2_readClimate_0 rfl)
theorem dX2_readClimate_20 : decode cX2_readClimate 20 = .ok (.aload_n 0, 1) := dc_42 (dc_nn (k := 20) aX2_readClimate_0 rfl)
theorem dX2_readClimate_21 : decode cX2_readClimate 21 = .ok (.getfield 21, 3) := dc_180 (a0 := 0) (b0 := 21) (dc_nn (k := 21) aX2_readClimate_0 rfl)
theorem dX2_readClimate_24 : decode cX2_readClimate 24 = .ok (.aload_n 0, 1) := dc_42 (dc_nn (k := 24) aX2_readClimate_0 rfl)
theorem dX2_readClimate_25 : decode cX2_readClimate 25 = .ok (.getfield 21, 3) := dc_180 (a0 := 0) (b0 := 21) (dc_nn (k := 25) aX2_readClimate_0 rfl)
theorem dX2_readClimate_28 : decode cX2_readClimate 28 = .ok (.invokevirtual 34, 3) := dc_182 (a0 := 0) (b0 := 34) (dc_nn (k := 28) aX2_readClimate_0 rfl)
theorem dX2_readClimate_31 : decode cX2_readClimate 31 = .ok (.ifCond .eq 11, 3) := dc_153 (a0 := 0) (b0 := 11) (dc_nn (k := 31) aX2_readClimate_0 rfl) (by decide)
theorem dX2_readClimate_34 : decode cX2_readClimate 34 = .ok (.aload_n 0, 1) := dc_42 (dc_nn (k := 34) aX2_readClimate_0 rfl)
theorem dX2_readClimate_35 : decode cX2_readClimate 35 = .ok (.aload_n 1, 1) := dc_43 (dc_nn (k := 35) aX2_readClimate_0 rfl)
theorem dX2_readClimate_36 : decode cX2_readClimate 36 = .ok (.invokevirtual 38, 3) := dc_182 (a0 := 0) (b0 := 38) (dc_nn (k := 36) aX2_readClimate_0 rfl)
theorem dX2_readClimate_39 : decode cX2_readClimate 39 = .ok (.ifCond .ne 5, 3) := dc_154 (a0 := 0) (b0 := 5) (dc_nn (k := 39) aX2_readClimate_0 rfl) (by decide)
theorem dX2_readClimate_42 : decode cX2_readClimate 42 = .ok (.iconst 0, 1) := dc_3 aX2_readClimate_42
theorem dX2_readClimate_43 : decode cX2_readClimate 43 = .ok (.ireturn, 1) := dc_172 (dc_nn (k := 1) aX2_readClimate_42 rfl)
theorem dX2_readClimate_44 : decode cX2_readClimate 44 = .ok (.aload_n 0, 1) := dc_42 (dc_nn (k := 2) aX2_readClimate_42 rfl)
theorem dX2_readClimate_45 : decode cX2_readClimate 45 = .ok (.dup, 1) := dc_89 (dc_nn (k := 3) aX2_readClimate_42 rfl)
theorem dX2_readClimate_46 : decode cX2_readClimate 46 = .ok (.getfield 21, 3) := dc_180 (a0 := 0) (b0 := 21) (dc_nn (k := 4) aX2_readClimate_42 rfl)
theorem dX2_readClimate_49 : decode cX2_readClimate 49 = .ok (.iconst 1, 1) := dc_4 (dc_nn (k := 7) aX2_readClimate_42 rfl)
theorem dX2_readClimate_50 : decode cX2_readClimate 50 = .ok (.iadd, 1) := dc_96 (dc_nn (k := 8) aX2_readClimate_42 rfl)
theorem dX2_readClimate_51 : decode cX2_readClimate 51 = .ok (.putfield 21, 3) := dc_181 (a0 := 0) (b0 := 21) (dc_nn (k := 9) aX2_readClimate_42 rfl)
theorem dX2_readClimate_54 : decode cX2_readClimate 54 = .ok (.aload_n 1, 1) := dc_43 (dc_nn (k := 12) aX2_readClimate_42 rfl)
theorem dX2_readClimate_55 : decode cX2_readClimate 55 = .ok (.invokevirtual 42, 3) := dc_182 (a0 := 0) (b0 := 42) (dc_nn (k := 13) aX2_readClimate_42 rfl)
theorem dX2_readClimate_58 : decode cX2_readClimate 58 = .ok (.ireturn, 1) := dc_172 (dc_nn (k := 16) aX2_readClimate_42 rfl)
set_option maxRecDepth 20000 in
theorem ggX2_readRising_X9_takeNumber : GoodIn wsX2_readRising wsX9_takeNumber := goodIn_k _ [[13, 0, 0, 0], [12, 4, 0, 0, 0, 0, 0, 0, 0, 0, 0, 0, 0, 0, 0, 0, 0, 0, 0, 0, 0, 0, 0, 0, 0, 0, 0, 0, 0, 0, 0, 0, 0, 0, 0, 0, 0, 0]] (by rfl) (by decide +kernel)
set_option maxRecDepth 20000 in
theorem gX2_readRising_X9_takeNumber : GoodIn wsX2_readRising (wsV RX2 34 RX9 yX9_takeNumber wsX9_takeNumber) := goodIn_app (goodIn_k _ [[9, 0, 0, 0]] (by rfl) (gw_V _ _ _ _)) ggX2_readRising_X9_takeNumber
noncomputable def sX2_readRising_83 : List Nat := 104 :: 29 :: 96 :: 4 :: 96 :: 28 :: 79 :: 132 :: 3 :: 1 :: 167 :: 255 :: 167 :: 4 :: 172 :: []
noncomputable def sX2_readRising_42 : List Nat := 167 :: 0 :: 4 :: 4 :: 21 :: 5 :: 153 :: 0 :: 8 :: 21 :: 4 :: 167 :: 0 :: 5 :: 18 :: 52 :: 182 :: 0 :: 34 :: 154 :: 0 :: 5 :: 3 :: 172 :: 28 :: 43 :: 180 :: 0 :: 53 :: 96 :: 61 :: 42 :: 180 :: 0 :: 11 :: 16 :: 13 :: 42 :: 180 :: 0 :: 21 :: sX2_readRising_83
noncomputable def sX2_readRising_0 : List Nat := 3 :: 61 :: 3 :: 62 :: 29 :: 16 :: 12 :: 162 :: 0 :: 89 :: 17 :: 14 :: 16 :: 28 :: 100 :: 54 :: 4 :: 29 :: 16 :: 11 :: 160 :: 0 :: 7 :: 4 :: 167 :: 0 :: 4 :: 3 :: 54 :: 5 :: 43 :: 21 :: 5 :: 153 :: 0 :: 12 :: 4 :: 21 :: 4 :: 184 :: 0 :: 46 :: sX2_readRising_42
theorem aX2_readRising_0 : dc_at cX2_readRising 0 sX2_readRising_0 := dc_base (by decide +kernel)
theorem aX2_readRising_42 : dc_at cX2_readRising 42 sX2_readRising_42 := dc_nn (k := 42) aX2_readRising_0 rfl
theorem aX2_readRising_83 : dc_at cX2_readRising 83 sX2_readRising_83 := dc_nn (k := 41) aX2_readRising_42 rfl
theorem dX2_readRising_0 : decode cX2_readRising 0 = .ok (.iconst 0, 1) := dc_3 aX2_readRising_0
theorem dX2_readRising_1 : decode cX2_readRising 1 = .ok (.istore_n 2, 1) := dc_61 (dc_nn (k := 1) aX2_readRising_0 rfl)
theorem dX2_readRising_2 : decode cX2_readRising 2 = .ok (.iconst 0, 1) := dc_3 (dc_nn (k := 2) aX2_readRising_0 rfl)
theorem dX2_readRising_3 : decode cX2_readRising 3 = .ok (.istore_n 3, 1) := dc_62 (dc_nn (k := 3) aX2_readRising_0 rfl)
theorem dX2_readRising_4 : decode cX2_readRising 4 = .ok (.iload_n 3, 1) := dc_29 (dc_nn (k := 4) aX2_readRising_0 rfl)
theorem dX2_readRising_5 : decode cX2_readRising 5 = .ok (.bipush 12, 2) := dc_16 (a0 := 12) (dc_nn (k := 5) aX2_readRising_0 rfl) (by decide)
theorem dX2_readRising_7 : decode cX2_readRising 7 = .ok (.if_icmp .ge 89, 3) := dc_162 (a0 := 0) (b0 := 89) (dc_nn (k := 7) aX2_readRising_0 rfl) (by decide)
theorem dX2_readRising_10 : decode cX2_readRising 10 = .ok (.sipush 3600, 3) := dc_17 (a0 := 14) (b0 := 16) (dc_nn (k := 10) aX2_readRising_0 rfl) (by decide)
theorem dX2_readRising_13 : decode cX2_readRising 13 = .ok (.iload_n 2, 1) := dc_28 (dc_nn (k := 13) aX2_readRising_0 rfl)
theorem dX2_readRising_14 : decode cX2_readRising 14 = .ok (.isub, 1) := dc_100 (dc_nn (k := 14) aX2_readRising_0 rfl)
theorem dX2_readRising_15 : decode cX2_readRising 15 = .ok (.istore 4, 2) := dc_54 (a0 := 4) (dc_nn (k := 15) aX2_readRising_0 rfl)
theorem dX2_readRising_17 : decode cX2_readRising 17 = .ok (.iload_n 3, 1) := dc_29 (dc_nn (k := 17) aX2_readRising_0 rfl)
theorem dX2_readRising_18 : decode cX2_readRising 18 = .ok (.bipush 11, 2) := dc_16 (a0 := 11) (dc_nn (k := 18) aX2_readRising_0 rfl) (by decide)
theorem dX2_readRising_20 : decode cX2_readRising 20 = .ok (.if_icmp .ne 7, 3) := dc_160 (a0 := 0) (b0 := 7) (dc_nn (k := 20) aX2_readRising_0 rfl) (by decide)
theorem dX2_readRising_23 : decode cX2_readRising 23 = .ok (.iconst 1, 1) := dc_4 (dc_nn (k := 23) aX2_readRising_0 rfl)
theorem dX2_readRising_24 : decode cX2_readRising 24 = .ok (.goto 4, 3) := dc_167 (a0 := 0) (b0 := 4) (dc_nn (k := 24) aX2_readRising_0 rfl) (by decide)
theorem dX2_readRising_27 : decode cX2_readRising 27 = .ok (.iconst 0, 1) := dc_3 (dc_nn (k := 27) aX2_readRising_0 rfl)
theorem dX2_readRising_28 : decode cX2_readRising 28 = .ok (.istore 5, 2) := dc_54 (a0 := 5) (dc_nn (k := 28) aX2_readRising_0 rfl)
theorem dX2_readRising_30 : decode cX2_readRising 30 = .ok (.aload_n 1, 1) := dc_43 (dc_nn (k := 30) aX2_readRising_0 rfl)
theorem dX2_readRising_31 : decode cX2_readRising 31 = .ok (.iload 5, 2) := dc_21 (a0 := 5) (dc_nn (k := 31) aX2_readRising_0 rfl)
theorem dX2_readRising_33 : decode cX2_readRising 33 = .ok (.ifCond .eq 12, 3) := dc_153 (a0 := 0) (b0 := 12) (dc_nn (k := 33) aX2_readRising_0 rfl) (by decide)
theorem dX2_readRising_36 : decode cX2_readRising 36 = .ok (.iconst 1, 1) := dc_4 (dc_nn (k := 36) aX2_readRising_0 rfl)
theorem dX2_readRising_37 : decode cX2_readRising 37 = .ok (.iload 4, 2) := dc_21 (a0 := 4) (dc_nn (k := 37) aX2_readRising_0 rfl)
theorem dX2_readRising_39 : decode cX2_readRising 39 = .ok (.invokestatic 46, 3) := dc_184 (a0 := 0) (b0 := 46) (dc_nn (k := 39) aX2_readRising_0 rfl)
theorem dX2_readRising_42 : decode cX2_readRising 42 = .ok (.goto 4, 3) := dc_167 (a0 := 0) (b0 := 4) aX2_readRising_42 (by decide)
theorem dX2_readRising_45 : decode cX2_readRising 45 = .ok (.iconst 1, 1) := dc_4 (dc_nn (k := 3) aX2_readRising_42 rfl)
theorem dX2_readRising_46 : decode cX2_readRising 46 = .ok (.iload 5, 2) := dc_21 (a0 := 5) (dc_nn (k := 4) aX2_readRising_42 rfl)
theorem dX2_readRising_48 : decode cX2_readRising 48 = .ok (.ifCond .eq 8, 3) := dc_153 (a0 := 0) (b0 := 8) (dc_nn (k := 6) aX2_readRising_42 rfl) (by decide)
theorem dX2_readRising_51 : decode cX2_readRising 51 = .ok (.iload 4, 2) := dc_21 (a0 := 4) (dc_nn (k := 9) aX2_readRising_42 rfl)
theorem dX2_readRising_53 : decode cX2_readRising 53 = .ok (.goto 5, 3) := dc_167 (a0 := 0) (b0 := 5) (dc_nn (k := 11) aX2_readRising_42 rfl) (by decide)
theorem dX2_readRising_56 : decode cX2_readRising 56 = .ok (.ldc 52, 2) := dc_18 (a0 := 52) (dc_nn (k := 14) aX2_readRising_42 rfl)
theorem dX2_readRising_58 : decode cX2_readRising 58 = .ok (.invokevirtual 34, 3) := dc_182 (a0 := 0) (b0 := 34) (dc_nn (k := 16) aX2_readRising_42 rfl)
theorem dX2_readRising_61 : decode cX2_readRising 61 = .ok (.ifCond .ne 5, 3) := dc_154 (a0 := 0) (b0 := 5) (dc_nn (k := 19) aX2_readRising_42 rfl) (by decide)
theorem dX2_readRising_64 : decode cX2_readRising 64 = .ok (.iconst 0, 1) := dc_3 (dc_nn (k := 22) aX2_readRising_42 rfl)
theorem dX2_readRising_65 : decode cX2_readRising 65 = .ok (.ireturn, 1) := dc_172 (dc_nn (k := 23) aX2_readRising_42 rfl)
theorem dX2_readRising_66 : decode cX2_readRising 66 = .ok (.iload_n 2, 1) := dc_28 (dc_nn (k := 24) aX2_readRising_42 rfl)
theorem dX2_readRising_67 : decode cX2_readRising 67 = .ok (.aload_n 1, 1) := dc_43 (dc_nn (k := 25) aX2_readRising_42 rfl)
theorem dX2_readRising_68 : decode cX2_readRising 68 = .ok (.getfield 53, 3) := dc_180 (a0 := 0) (b0 := 53) (dc_nn (k := 26) aX2_readRising_42 rfl)
theorem dX2_readRising_71 : decode cX2_readRising 71 = .ok (.iadd, 1) := dc_96 (dc_nn (k := 29) aX2_readRising_42 rfl)
theorem dX2_readRising_72 : decode cX2_readRising 72 = .ok (.istore_n 2, 1) := dc_61 (dc_nn (k := 30) aX2_readRising_42 rfl)
theorem dX2_readRising_73 : decode cX2_readRising 73 = .ok (.aload_n 0, 1) := dc_42 (dc_nn (k := 31) aX2_readRising_42 rfl)
theorem dX2_readRising_74 : decode cX2_readRising 74 = .ok (.getfield 11, 3) := dc_180 (a0 := 0) (b0 := 11) (dc_nn (k := 32) aX2_readRising_42 rfl)
theorem dX2_readRising_77 : decode cX2_readRising 77 = .ok (.bipush 13, 2) := dc_16 (a0 := 13) (dc_nn (k := 35) aX2_readRising_42 rfl) (by decide)
theorem dX2_readRising_79 : decode cX2_readRising 79 = .ok (.aload_n 0, 1) := dc_42 (dc_nn (k := 37) aX2_readRising_42 rfl)
theorem dX2_readRising_80 : decode cX2_readRising 80 = .ok (.getfield 21, 3) := dc_180 (a0 := 0) (b0 := 21) (dc_nn (k := 38) aX2_readRising_42 rfl)
theorem dX2_readRising_83 : decode cX2_readRising 83 = .ok (.imul, 1) := dc_104 aX2_readRising_83
theorem dX2_readRising_84 : decode cX2_readRising 84 = .ok (.iload_n 3, 1) := dc_29 (dc_nn (k := 1) aX2_readRising_83 rfl)
theorem dX2_readRising_85 : decode cX2_readRising 85 = .ok (.iadd, 1) := dc_96 (dc_nn (k := 2) aX2_readRising_83 rfl)
theorem dX2_readRising_86 : decode cX2_readRising 86 = .ok (.iconst 1, 1) := dc_4 (dc_nn (k := 3) aX2_readRising_83 rfl)
theorem dX2_readRising_87 : decode cX2_readRising 87 = .ok (.iadd, 1) := dc_96 (dc_nn (k := 4) aX2_readRising_83 rfl)
theorem dX2_readRising_88 : decode cX2_readRising 88 = .ok (.iload_n 2, 1) := dc_28 (dc_nn (k := 5) aX2_readRising_83 rfl)
theorem dX2_readRising_89 : decode cX2_readRising 89 = .ok (.iastore, 1) := dc_79 (dc_nn (k := 6) aX2_readRising_83 rfl)
theorem dX2_readRising_90 : decode cX2_readRising 90 = .ok (.iinc 3 1, 3) := dc_132 (a0 := 3) (a1 := 1) (dc_nn (k := 7) aX2_readRising_83 rfl) (by decide)
theorem dX2_readRising_93 : decode cX2_readRising 93 = .ok (.goto (-89), 3) := dc_167 (a0 := 255) (b0 := 167) (dc_nn (k := 10) aX2_readRising_83 rfl) (by decide)
theorem dX2_readRising_96 : decode cX2_readRising 96 = .ok (.iconst 1, 1) := dc_4 (dc_nn (k := 13) aX2_readRising_83 rfl)
theorem dX2_readRising_97 : decode cX2_readRising 97 = .ok (.ireturn, 1) := dc_172 (dc_nn (k := 14) aX2_readRising_83 rfl)
noncomputable def sX2_climbOf_40 : List Nat := 21 :: 4 :: 104 :: 21 :: 5 :: 28 :: 17 :: 7 :: 8 :: 112 :: 104 :: 96 :: 172 :: []
noncomputable def sX2_climbOf_0 : List Nat := 28 :: 17 :: 7 :: 8 :: 108 :: 62 :: 42 :: 180 :: 0 :: 11 :: 16 :: 13 :: 27 :: 104 :: 29 :: 96 :: 46 :: 54 :: 4 :: 42 :: 180 :: 0 :: 11 :: 16 :: 13 :: 27 :: 104 :: 29 :: 96 :: 4 :: 96 :: 46 :: 21 :: 4 :: 100 :: 54 :: 5 :: 17 :: 7 :: 8 :: sX2_climbOf_40
theorem aX2_climbOf_0 : dc_at cX2_climbOf 0 sX2_climbOf_0 := dc_base (by decide +kernel)
theorem aX2_climbOf_40 : dc_at cX2_climbOf 40 sX2_climbOf_40 := dc_nn (k := 40) aX2_climbOf_0 rfl
theorem dX2_climbOf_0 : decode cX2_climbOf 0 = .ok (.iload_n 2, 1) := dc_28 aX2_climbOf_0
theorem dX2_climbOf_1 : decode cX2_climbOf 1 = .ok (.sipush 1800, 3) := dc_17 (a0 := 7) (b0 := 8) (dc_nn (k := 1) aX2_climbOf_0 rfl) (by decide)
theorem dX2_climbOf_4 : decode cX2_climbOf 4 = .ok (.idiv, 1) := dc_108 (dc_nn (k := 4) aX2_climbOf_0 rfl)
theorem dX2_climbOf_5 : decode cX2_climbOf 5 = .ok (.istore_n 3, 1) := dc_62 (dc_nn (k := 5) aX2_climbOf_0 rfl)
theorem dX2_climbOf_6 : decode cX2_climbOf 6 = .ok (.aload_n 0, 1) := dc_42 (dc_nn (k := 6) aX2_climbOf_0 rfl)
theorem dX2_climbOf_7 : decode cX2_climbOf 7 = .ok (.getfield 11, 3) := dc_180 (a0 := 0) (b0 := 11) (dc_nn (k := 7) aX2_climbOf_0 rfl)
theorem dX2_climbOf_10 : decode cX2_climbOf 10 = .ok (.bipush 13, 2) := dc_16 (a0 := 13) (dc_nn (k := 10) aX2_climbOf_0 rfl) (by decide)
theorem dX2_climbOf_12 : decode cX2_climbOf 12 = .ok (.iload_n 1, 1) := dc_27 (dc_nn (k := 12) aX2_climbOf_0 rfl)
theorem dX2_climbOf_13 : decode cX2_climbOf 13 = .ok (.imul, 1) := dc_104 (dc_nn (k := 13) aX2_climbOf_0 rfl)
theorem dX2_climbOf_14 : decode cX2_climbOf 14 = .ok (.iload_n 3, 1) := dc_29 (dc_nn (k := 14) aX2_climbOf_0 rfl)
theorem dX2_climbOf_15 : decode cX2_climbOf 15 = .ok (.iadd, 1) := dc_96 (dc_nn (k := 15) aX2_climbOf_0 rfl)
theorem dX2_climbOf_16 : decode cX2_climbOf 16 = .ok (.iaload, 1) := dc_46 (dc_nn (k := 16) aX2_climbOf_0 rfl)
theorem dX2_climbOf_17 : decode cX2_climbOf 17 = .ok (.istore 4, 2) := dc_54 (a0 := 4) (dc_nn (k := 17) aX2_climbOf_0 rfl)
theorem dX2_climbOf_19 : decode cX2_climbOf 19 = .ok (.aload_n 0, 1) := dc_42 (dc_nn (k := 19) aX2_climbOf_0 rfl)
theorem dX2_climbOf_20 : decode cX2_climbOf 20 = .ok (.getfield 11, 3) := dc_180 (a0 := 0) (b0 := 11) (dc_nn (k := 20) aX2_climbOf_0 rfl)
theorem dX2_climbOf_23 : decode cX2_climbOf 23 = .ok (.bipush 13, 2) := dc_16 (a0 := 13) (dc_nn (k := 23) aX2_climbOf_0 rfl) (by decide)
theorem dX2_climbOf_25 : decode cX2_climbOf 25 = .ok (.iload_n 1, 1) := dc_27 (dc_nn (k := 25) aX2_climbOf_0 rfl)
theorem dX2_climbOf_26 : decode cX2_climbOf 26 = .ok (.imul, 1) := dc_104 (dc_nn (k := 26) aX2_climbOf_0 rfl)
theorem dX2_climbOf_27 : decode cX2_climbOf 27 = .ok (.iload_n 3, 1) := dc_29 (dc_nn (k := 27) aX2_climbOf_0 rfl)
theorem dX2_climbOf_28 : decode cX2_climbOf 28 = .ok (.iadd, 1) := dc_96 (dc_nn (k := 28) aX2_climbOf_0 rfl)
theorem dX2_climbOf_29 : decode cX2_climbOf 29 = .ok (.iconst 1, 1) := dc_4 (dc_nn (k := 29) aX2_climbOf_0 rfl)
theorem dX2_climbOf_30 : decode cX2_climbOf 30 = .ok (.iadd, 1) := dc_96 (dc_nn (k := 30) aX2_climbOf_0 rfl)
theorem dX2_climbOf_31 : decode cX2_climbOf 31 = .ok (.iaload, 1) := dc_46 (dc_nn (k := 31) aX2_climbOf_0 rfl)
theorem dX2_climbOf_32 : decode cX2_climbOf 32 = .ok (.iload 4, 2) := dc_21 (a0 := 4) (dc_nn (k := 32) aX2_climbOf_0 rfl)
theorem dX2_climbOf_34 : decode cX2_climbOf 34 = .ok (.isub, 1) := dc_100 (dc_nn (k := 34) aX2_climbOf_0 rfl)
theorem dX2_climbOf_35 : decode cX2_climbOf 35 = .ok (.istore 5, 2) := dc_54 (a0 := 5) (dc_nn (k := 35) aX2_climbOf_0 rfl)
theorem dX2_climbOf_37 : decode cX2_climbOf 37 = .ok (.sipush 1800, 3) := dc_17 (a0 := 7) (b0 := 8) (dc_nn (k := 37) aX2_climbOf_0 rfl) (by decide)
theorem dX2_climbOf_40 : decode cX2_climbOf 40 = .ok (.iload 4, 2) := dc_21 (a0 := 4) aX2_climbOf_40
theorem dX2_climbOf_42 : decode cX2_climbOf 42 = .ok (.imul, 1) := dc_104 (dc_nn (k := 2) aX2_climbOf_40 rfl)
theorem dX2_climbOf_43 : decode cX2_climbOf 43 = .ok (.iload 5, 2) := dc_21 (a0 := 5) (dc_nn (k := 3) aX2_climbOf_40 rfl)
theorem dX2_climbOf_45 : decode cX2_climbOf 45 = .ok (.iload_n 2, 1) := dc_28 (dc_nn (k := 5) aX2_climbOf_40 rfl)
theorem dX2_climbOf_46 : decode cX2_climbOf 46 = .ok (.sipush 1800, 3) := dc_17 (a0 := 7) (b0 := 8) (dc_nn (k := 6) aX2_climbOf_40 rfl) (by decide)
theorem dX2_climbOf_49 : decode cX2_climbOf 49 = .ok (.irem, 1) := dc_112 (dc_nn (k := 9) aX2_climbOf_40 rfl)
theorem dX2_climbOf_50 : decode cX2_climbOf 50 = .ok (.imul, 1) := dc_104 (dc_nn (k := 10) aX2_climbOf_40 rfl)
theorem dX2_climbOf_51 : decode cX2_climbOf 51 = .ok (.iadd, 1) := dc_96 (dc_nn (k := 11) aX2_climbOf_40 rfl)
theorem dX2_climbOf_52 : decode cX2_climbOf 52 = .ok (.ireturn, 1) := dc_172 (dc_nn (k := 12) aX2_climbOf_40 rfl)
noncomputable def sX2_placeOf_83 : List Nat := 29 :: 104 :: 28 :: 17 :: 7 :: 8 :: 21 :: 4 :: 104 :: 100 :: 21 :: 5 :: 108 :: 96 :: 172 :: []
noncomputable def sX2_placeOf_41 : List Nat := 42 :: 180 :: 0 :: 11 :: 16 :: 13 :: 27 :: 104 :: 29 :: 96 :: 46 :: 54 :: 4 :: 42 :: 180 :: 0 :: 11 :: 16 :: 13 :: 27 :: 104 :: 29 :: 96 :: 4 :: 96 :: 46 :: 21 :: 4 :: 100 :: 54 :: 5 :: 21 :: 5 :: 4 :: 162 :: 0 :: 5 :: 3 :: 172 :: 17 :: 7 :: 8 :: sX2_placeOf_83
noncomputable def sX2_placeOf_0 : List Nat := 3 :: 62 :: 4 :: 54 :: 4 :: 21 :: 4 :: 16 :: 12 :: 162 :: 0 :: 32 :: 17 :: 7 :: 8 :: 42 :: 180 :: 0 :: 11 :: 16 :: 13 :: 27 :: 104 :: 21 :: 4 :: 96 :: 46 :: 104 :: 28 :: 163 :: 0 :: 12 :: 21 :: 4 :: 62 :: 132 :: 4 :: 1 :: 167 :: 255 :: 223 :: sX2_placeOf_41
theorem aX2_placeOf_0 : dc_at cX2_placeOf 0 sX2_placeOf_0 := dc_base (by decide +kernel)
theorem aX2_placeOf_41 : dc_at cX2_placeOf 41 sX2_placeOf_41 := dc_nn (k := 41) aX2_placeOf_0 rfl
theorem aX2_placeOf_83 : dc_at cX2_placeOf 83 sX2_placeOf_83 := dc_nn (k := 42) aX2_placeOf_41 rfl
theorem dX2_placeOf_0 : decode cX2_placeOf 0 = .ok (.iconst 0, 1) := dc_3 aX2_placeOf_0
theorem dX2_placeOf_1 : decode cX2_placeOf 1 = .ok (.istore_n 3, 1) := dc_62 (dc_nn (k := 1) aX2_placeOf_0 rfl)
theorem dX2_placeOf_2 : decode cX2_placeOf 2 = .ok (.iconst 1, 1) := dc_4 (dc_nn (k := 2) aX2_placeOf_0 rfl)
theorem dX2_placeOf_3 : decode cX2_placeOf 3 = .ok (.istore 4, 2) := dc_54 (a0 := 4) (dc_nn (k := 3) aX2_placeOf_0 rfl)
theorem dX2_placeOf_5 : decode cX2_placeOf 5 = .ok (.iload 4, 2) := dc_21 (a0 := 4) (dc_nn (k := 5) aX2_placeOf_0 rfl)
theorem dX2_placeOf_7 : decode cX2_placeOf 7 = .ok (.bipush 12, 2) := dc_16 (a0 := 12) (dc_nn (k := 7) aX2_placeOf_0 rfl) (by decide)
theorem dX2_placeOf_9 : decode cX2_placeOf 9 = .ok (.if_icmp .ge 32, 3) := dc_162 (a0 := 0) (b0 := 32) (dc_nn (k := 9) aX2_placeOf_0 rfl) (by decide)
theorem dX2_placeOf_12 : decode cX2_placeOf 12 = .ok (.sipush 1800, 3) := dc_17 (a0 := 7) (b0 := 8) (dc_nn (k := 12) aX2_placeOf_0 rfl) (by decide)
theorem dX2_placeOf_15 : decode cX2_placeOf 15 = .ok (.aload_n 0, 1) := dc_42 (dc_nn (k := 15) aX2_placeOf_0 rfl)
theorem dX2_placeOf_16 : decode cX2_placeOf 16 = .ok (.getfield 11, 3) := dc_180 (a0 := 0) (b0 := 11) (dc_nn (k := 16) aX2_placeOf_0 rfl)
theorem dX2_placeOf_19 : decode cX2_placeOf 19 = .ok (.bipush 13, 2) := dc_16 (a0 := 13) (dc_nn (k := 19) aX2_placeOf_0 rfl) (by decide)
theorem dX2_placeOf_21 : decode cX2_placeOf 21 = .ok (.iload_n 1, 1) := dc_27 (dc_nn (k := 21) aX2_placeOf_0 rfl)
theorem dX2_placeOf_22 : decode cX2_placeOf 22 = .ok (.imul, 1) := dc_104 (dc_nn (k := 22) aX2_placeOf_0 rfl)
theorem dX2_placeOf_23 : decode cX2_placeOf 23 = .ok (.iload 4, 2) := dc_21 (a0 := 4) (dc_nn (k := 23) aX2_placeOf_0 rfl)
theorem dX2_placeOf_25 : decode cX2_placeOf 25 = .ok (.iadd, 1) := dc_96 (dc_nn (k := 25) aX2_placeOf_0 rfl)
theorem dX2_placeOf_26 : decode cX2_placeOf 26 = .ok (.iaload, 1) := dc_46 (dc_nn (k := 26) aX2_placeOf_0 rfl)
theorem dX2_placeOf_27 : decode cX2_placeOf 27 = .ok (.imul, 1) := dc_104 (dc_nn (k := 27) aX2_placeOf_0 rfl)
theorem dX2_placeOf_28 : decode cX2_placeOf 28 = .ok (.iload_n 2, 1) := dc_28 (dc_nn (k := 28) aX2_placeOf_0 rfl)
theorem dX2_placeOf_29 : decode cX2_placeOf 29 = .ok (.if_icmp .gt 12, 3) := dc_163 (a0 := 0) (b0 := 12) (dc_nn (k := 29) aX2_placeOf_0 rfl) (by decide)
theorem dX2_placeOf_32 : decode cX2_placeOf 32 = .ok (.iload 4, 2) := dc_21 (a0 := 4) (dc_nn (k := 32) aX2_placeOf_0 rfl)
theorem dX2_placeOf_34 : decode cX2_placeOf 34 = .ok (.istore_n 3, 1) := dc_62 (dc_nn (k := 34) aX2_placeOf_0 rfl)
theorem dX2_placeOf_35 : decode cX2_placeOf 35 = .ok (.iinc 4 1, 3) := dc_132 (a0 := 4) (a1 := 1) (dc_nn (k := 35) aX2_placeOf_0 rfl) (by decide)
theorem dX2_placeOf_38 : decode cX2_placeOf 38 = .ok (.goto (-33), 3) := dc_167 (a0 := 255) (b0 := 223) (dc_nn (k := 38) aX2_placeOf_0 rfl) (by decide)
theorem dX2_placeOf_41 : decode cX2_placeOf 41 = .ok (.aload_n 0, 1) := dc_42 aX2_placeOf_41
theorem dX2_placeOf_42 : decode cX2_placeOf 42 = .ok (.getfield 11, 3) := dc_180 (a0 := 0) (b0 := 11) (dc_nn (k := 1) aX2_placeOf_41 rfl)
theorem dX2_placeOf_45 : decode cX2_placeOf 45 = .ok (.bipush 13, 2) := dc_16 (a0 := 13) (dc_nn (k := 4) aX2_placeOf_41 rfl) (by decide)
theorem dX2_placeOf_47 : decode cX2_placeOf 47 = .ok (.iload_n 1, 1) := dc_27 (dc_nn (k := 6) aX2_placeOf_41 rfl)
theorem dX2_placeOf_48 : decode cX2_placeOf 48 = .ok (.imul, 1) := dc_104 (dc_nn (k := 7) aX2_placeOf_41 rfl)
theorem dX2_placeOf_49 : decode cX2_placeOf 49 = .ok (.iload_n 3, 1) := dc_29 (dc_nn (k := 8) aX2_placeOf_41 rfl)
theorem dX2_placeOf_50 : decode cX2_placeOf 50 = .ok (.iadd, 1) := dc_96 (dc_nn (k := 9) aX2_placeOf_41 rfl)
theorem dX2_placeOf_51 : decode cX2_placeOf 51 = .ok (.iaload, 1) := dc_46 (dc_nn (k := 10) aX2_placeOf_41 rfl)
theorem dX2_placeOf_52 : decode cX2_placeOf 52 = .ok (.istore 4, 2) := dc_54 (a0 := 4) (dc_nn (k := 11) aX2_placeOf_41 rfl)
theorem dX2_placeOf_54 : decode cX2_placeOf 54 = .ok (.aload_n 0, 1) := dc_42 (dc_nn (k := 13) aX2_placeOf_41 rfl)
theorem dX2_placeOf_55 : decode cX2_placeOf 55 = .ok (.getfield 11, 3) := dc_180 (a0 := 0) (b0 := 11) (dc_nn (k := 14) aX2_placeOf_41 rfl)
theorem dX2_placeOf_58 : decode cX2_placeOf 58 = .ok (.bipush 13, 2) := dc_16 (a0 := 13) (dc_nn (k := 17) aX2_placeOf_41 rfl) (by decide)
theorem dX2_placeOf_60 : decode cX2_placeOf 60 = .ok (.iload_n 1, 1) := dc_27 (dc_nn (k := 19) aX2_placeOf_41 rfl)
theorem dX2_placeOf_61 : decode cX2_placeOf 61 = .ok (.imul, 1) := dc_104 (dc_nn (k := 20) aX2_placeOf_41 rfl)
theorem dX2_placeOf_62 : decode cX2_placeOf 62 = .ok (.iload_n 3, 1) := dc_29 (dc_nn (k := 21) aX2_placeOf_41 rfl)
theorem dX2_placeOf_63 : decode cX2_placeOf 63 = .ok (.iadd, 1) := dc_96 (dc_nn (k := 22) aX2_placeOf_41 rfl)
theorem dX2_placeOf_64 : decode cX2_placeOf 64 = .ok (.iconst 1, 1) := dc_4 (dc_nn (k := 23) aX2_placeOf_41 rfl)
theorem dX2_placeOf_65 : decode cX2_placeOf 65 = .ok (.iadd, 1) := dc_96 (dc_nn (k := 24) aX2_placeOf_41 rfl)
theorem dX2_placeOf_66 : decode cX2_placeOf 66 = .ok (.iaload, 1) := dc_46 (dc_nn (k := 25) aX2_placeOf_41 rfl)
theorem dX2_placeOf_67 : decode cX2_placeOf 67 = .ok (.iload 4, 2) := dc_21 (a0 := 4) (dc_nn (k := 26) aX2_placeOf_41 rfl)
theorem dX2_placeOf_69 : decode cX2_placeOf 69 = .ok (.isub, 1) := dc_100 (dc_nn (k := 28) aX2_placeOf_41 rfl)
theorem dX2_placeOf_70 : decode cX2_placeOf 70 = .ok (.istore 5, 2) := dc_54 (a0 := 5) (dc_nn (k := 29) aX2_placeOf_41 rfl)
theorem dX2_placeOf_72 : decode cX2_placeOf 72 = .ok (.iload 5, 2) := dc_21 (a0 := 5) (dc_nn (k := 31) aX2_placeOf_41 rfl)
theorem dX2_placeOf_74 : decode cX2_placeOf 74 = .ok (.iconst 1, 1) := dc_4 (dc_nn (k := 33) aX2_placeOf_41 rfl)
theorem dX2_placeOf_75 : decode cX2_placeOf 75 = .ok (.if_icmp .ge 5, 3) := dc_162 (a0 := 0) (b0 := 5) (dc_nn (k := 34) aX2_placeOf_41 rfl) (by decide)
theorem dX2_placeOf_78 : decode cX2_placeOf 78 = .ok (.iconst 0, 1) := dc_3 (dc_nn (k := 37) aX2_placeOf_41 rfl)
theorem dX2_placeOf_79 : decode cX2_placeOf 79 = .ok (.ireturn, 1) := dc_172 (dc_nn (k := 38) aX2_placeOf_41 rfl)
theorem dX2_placeOf_80 : decode cX2_placeOf 80 = .ok (.sipush 1800, 3) := dc_17 (a0 := 7) (b0 := 8) (dc_nn (k := 39) aX2_placeOf_41 rfl) (by decide)
theorem dX2_placeOf_83 : decode cX2_placeOf 83 = .ok (.iload_n 3, 1) := dc_29 aX2_placeOf_83
theorem dX2_placeOf_84 : decode cX2_placeOf 84 = .ok (.imul, 1) := dc_104 (dc_nn (k := 1) aX2_placeOf_83 rfl)
theorem dX2_placeOf_85 : decode cX2_placeOf 85 = .ok (.iload_n 2, 1) := dc_28 (dc_nn (k := 2) aX2_placeOf_83 rfl)
theorem dX2_placeOf_86 : decode cX2_placeOf 86 = .ok (.sipush 1800, 3) := dc_17 (a0 := 7) (b0 := 8) (dc_nn (k := 3) aX2_placeOf_83 rfl) (by decide)
theorem dX2_placeOf_89 : decode cX2_placeOf 89 = .ok (.iload 4, 2) := dc_21 (a0 := 4) (dc_nn (k := 6) aX2_placeOf_83 rfl)
theorem dX2_placeOf_91 : decode cX2_placeOf 91 = .ok (.imul, 1) := dc_104 (dc_nn (k := 8) aX2_placeOf_83 rfl)
theorem dX2_placeOf_92 : decode cX2_placeOf 92 = .ok (.isub, 1) := dc_100 (dc_nn (k := 9) aX2_placeOf_83 rfl)
theorem dX2_placeOf_93 : decode cX2_placeOf 93 = .ok (.iload 5, 2) := dc_21 (a0 := 5) (dc_nn (k := 10) aX2_placeOf_83 rfl)
theorem dX2_placeOf_95 : decode cX2_placeOf 95 = .ok (.idiv, 1) := dc_108 (dc_nn (k := 12) aX2_placeOf_83 rfl)
theorem dX2_placeOf_96 : decode cX2_placeOf 96 = .ok (.iadd, 1) := dc_96 (dc_nn (k := 13) aX2_placeOf_83 rfl)
theorem dX2_placeOf_97 : decode cX2_placeOf 97 = .ok (.ireturn, 1) := dc_172 (dc_nn (k := 14) aX2_placeOf_83 rfl)
set_option maxRecDepth 20000 in
theorem ggX2_risingAt_X2_climbOf : GoodIn wsX2_risingAt wsX2_climbOf := goodIn_k _ [[6, 0, 4, 0]] (by rfl) (by decide +kernel)
set_option maxRecDepth 20000 in
theorem gX2_risingAt_X2_climbOf : GoodIn wsX2_risingAt (wsV RX2 56 RX2 yX2_climbOf wsX2_climbOf) := goodIn_app (goodIn_k _ [[2, 0, 0, 0]] (by rfl) (gw_V _ _ _ _)) ggX2_risingAt_X2_climbOf
set_option maxRecDepth 20000 in
theorem ggX2_risingAt_X2_placeOf : GoodIn wsX2_risingAt wsX2_placeOf := goodIn_k _ [[11], [7, 4, 0]] (by rfl) (by decide +kernel)
set_option maxRecDepth 20000 in
theorem gX2_risingAt_X2_placeOf : GoodIn wsX2_risingAt (wsV RX2 60 RX2 yX2_placeOf wsX2_placeOf) := goodIn_app (goodIn_k _ [[8, 0, 0], [5]] (by rfl) (gw_V _ _ _ _)) ggX2_risingAt_X2_placeOf
noncomputable def sX2_risingAt_0 : List Nat := 42 :: 27 :: 42 :: 27 :: 28 :: 182 :: 0 :: 56 :: 17 :: 70 :: 80 :: 29 :: 104 :: 96 :: 18 :: 59 :: 112 :: 182 :: 0 :: 60 :: 172 :: []
theorem aX2_risingAt_0 : dc_at cX2_risingAt 0 sX2_risingAt_0 := dc_base (by decide +kernel)
theorem dX2_risingAt_0 : decode cX2_risingAt 0 = .ok (.aload_n 0, 1) := dc_42 aX2_risingAt_0
theorem dX2_risingAt_1 : decode cX2_risingAt 1 = .ok (.iload_n 1, 1) := dc_27 (dc_nn (k := 1) aX2_risingAt_0 rfl)
theorem dX2_risingAt_2 : decode cX2_risingAt 2 = .ok (.aload_n 0, 1) := dc_42 (dc_nn (k := 2) aX2_risingAt_0 rfl)
theorem dX2_risingAt_3 : decode cX2_risingAt 3 = .ok (.iload_n 1, 1) := dc_27 (dc_nn (k := 3) aX2_risingAt_0 rfl)
theorem dX2_risingAt_4 : decode cX2_risingAt 4 = .ok (.iload_n 2, 1) := dc_28 (dc_nn (k := 4) aX2_risingAt_0 rfl)
theorem dX2_risingAt_5 : decode cX2_risingAt 5 = .ok (.invokevirtual 56, 3) := dc_182 (a0 := 0) (b0 := 56) (dc_nn (k := 5) aX2_risingAt_0 rfl)
theorem dX2_risingAt_8 : decode cX2_risingAt 8 = .ok (.sipush 18000, 3) := dc_17 (a0 := 70) (b0 := 80) (dc_nn (k := 8) aX2_risingAt_0 rfl) (by decide)
theorem dX2_risingAt_11 : decode cX2_risingAt 11 = .ok (.iload_n 3, 1) := dc_29 (dc_nn (k := 11) aX2_risingAt_0 rfl)
theorem dX2_risingAt_12 : decode cX2_risingAt 12 = .ok (.imul, 1) := dc_104 (dc_nn (k := 12) aX2_risingAt_0 rfl)
theorem dX2_risingAt_13 : decode cX2_risingAt 13 = .ok (.iadd, 1) := dc_96 (dc_nn (k := 13) aX2_risingAt_0 rfl)
theorem dX2_risingAt_14 : decode cX2_risingAt 14 = .ok (.ldc 59, 2) := dc_18 (a0 := 59) (dc_nn (k := 14) aX2_risingAt_0 rfl)
theorem dX2_risingAt_16 : decode cX2_risingAt 16 = .ok (.irem, 1) := dc_112 (dc_nn (k := 16) aX2_risingAt_0 rfl)
theorem dX2_risingAt_17 : decode cX2_risingAt 17 = .ok (.invokevirtual 60, 3) := dc_182 (a0 := 0) (b0 := 60) (dc_nn (k := 17) aX2_risingAt_0 rfl)
theorem dX2_risingAt_20 : decode cX2_risingAt 20 = .ok (.ireturn, 1) := dc_172 (dc_nn (k := 20) aX2_risingAt_0 rfl)
set_option maxRecDepth 20000 in
theorem ggX2_middleOf_X2_climbOf : GoodIn wsX2_middleOf wsX2_climbOf := goodIn_k _ [[7, 0, 8, 0]] (by rfl) (by decide +kernel)
set_option maxRecDepth 20000 in
theorem gX2_middleOf_X2_climbOf : GoodIn wsX2_middleOf (wsV RX2 56 RX2 yX2_climbOf wsX2_climbOf) := goodIn_app (goodIn_k _ [[3, 0, 0, 0]] (by rfl) (gw_V _ _ _ _)) ggX2_middleOf_X2_climbOf
set_option maxRecDepth 20000 in
theorem ggX2_middleOf_J9_floorMod_7cf53 : GoodIn wsX2_middleOf wsJ9_floorMod_7cf53 := goodIn_k _ [[12]] (by rfl) (by decide +kernel)
set_option maxRecDepth 20000 in
theorem gX2_middleOf_J9_floorMod_7cf53 : GoodIn wsX2_middleOf (va_wsS RX2 64 yJ9_floorMod_7cf53 wsJ9_floorMod_7cf53) := goodIn_app (goodIn_k _ [[9, 0, 0]] (by rfl) (gw_S _ _ _ _)) ggX2_middleOf_J9_floorMod_7cf53
set_option maxRecDepth 20000 in
theorem ggX2_middleOf_X2_placeOf : GoodIn wsX2_middleOf wsX2_placeOf := goodIn_k _ [[16], [8, 8, 0]] (by rfl) (by decide +kernel)
set_option maxRecDepth 20000 in
theorem gX2_middleOf_X2_placeOf : GoodIn wsX2_middleOf (wsV RX2 60 RX2 yX2_placeOf wsX2_placeOf) := goodIn_app (goodIn_k _ [[13, 0, 0], [6]] (by rfl) (gw_V _ _ _ _)) ggX2_middleOf_X2_placeOf
noncomputable def sX2_middleOf_0 : List Nat := 42 :: 3 :: 42 :: 27 :: 28 :: 182 :: 0 :: 56 :: 18 :: 63 :: 100 :: 18 :: 59 :: 184 :: 0 :: 64 :: 182 :: 0 :: 60 :: 172 :: []
theorem aX2_middleOf_0 : dc_at cX2_middleOf 0 sX2_middleOf_0 := dc_base (by decide +kernel)
theorem dX2_middleOf_0 : decode cX2_middleOf 0 = .ok (.aload_n 0, 1) := dc_42 aX2_middleOf_0
theorem dX2_middleOf_1 : decode cX2_middleOf 1 = .ok (.iconst 0, 1) := dc_3 (dc_nn (k := 1) aX2_middleOf_0 rfl)
theorem dX2_middleOf_2 : decode cX2_middleOf 2 = .ok (.aload_n 0, 1) := dc_42 (dc_nn (k := 2) aX2_middleOf_0 rfl)
theorem dX2_middleOf_3 : decode cX2_middleOf 3 = .ok (.iload_n 1, 1) := dc_27 (dc_nn (k := 3) aX2_middleOf_0 rfl)
theorem dX2_middleOf_4 : decode cX2_middleOf 4 = .ok (.iload_n 2, 1) := dc_28 (dc_nn (k := 4) aX2_middleOf_0 rfl)
theorem dX2_middleOf_5 : decode cX2_middleOf 5 = .ok (.invokevirtual 56, 3) := dc_182 (a0 := 0) (b0 := 56) (dc_nn (k := 5) aX2_middleOf_0 rfl)
theorem dX2_middleOf_8 : decode cX2_middleOf 8 = .ok (.ldc 63, 2) := dc_18 (a0 := 63) (dc_nn (k := 8) aX2_middleOf_0 rfl)
theorem dX2_middleOf_10 : decode cX2_middleOf 10 = .ok (.isub, 1) := dc_100 (dc_nn (k := 10) aX2_middleOf_0 rfl)
theorem dX2_middleOf_11 : decode cX2_middleOf 11 = .ok (.ldc 59, 2) := dc_18 (a0 := 59) (dc_nn (k := 11) aX2_middleOf_0 rfl)
theorem dX2_middleOf_13 : decode cX2_middleOf 13 = .ok (.invokestatic 64, 3) := dc_184 (a0 := 0) (b0 := 64) (dc_nn (k := 13) aX2_middleOf_0 rfl)
theorem dX2_middleOf_16 : decode cX2_middleOf 16 = .ok (.invokevirtual 60, 3) := dc_182 (a0 := 0) (b0 := 60) (dc_nn (k := 16) aX2_middleOf_0 rfl)
theorem dX2_middleOf_19 : decode cX2_middleOf 19 = .ok (.ireturn, 1) := dc_172 (dc_nn (k := 19) aX2_middleOf_0 rfl)
set_option maxRecDepth 20000 in
theorem ggX2_isHour_X2_risingAt : GoodIn wsX2_isHour wsX2_risingAt := goodIn_k _ [[5, 0, 0, 0, 0], [4, 5, 0, 0, 0, 0, 0, 0, 0]] (by rfl) (by decide +kernel)
set_option maxRecDepth 20000 in
theorem gX2_isHour_X2_risingAt : GoodIn wsX2_isHour (wsV RX2 67 RX2 yX2_risingAt wsX2_risingAt) := goodIn_app (goodIn_k _ [[1, 0, 0, 0]] (by rfl) (gw_V _ _ _ _)) ggX2_isHour_X2_risingAt
noncomputable def sX2_isHour_0 : List Nat := 42 :: 27 :: 16 :: 60 :: 29 :: 104 :: 28 :: 182 :: 0 :: 67 :: 16 :: 60 :: 108 :: 21 :: 4 :: 160 :: 0 :: 7 :: 4 :: 167 :: 0 :: 4 :: 3 :: 172 :: []
theorem aX2_isHour_0 : dc_at cX2_isHour 0 sX2_isHour_0 := dc_base (by decide +kernel)
theorem dX2_isHour_0 : decode cX2_isHour 0 = .ok (.aload_n 0, 1) := dc_42 aX2_isHour_0
theorem dX2_isHour_1 : decode cX2_isHour 1 = .ok (.iload_n 1, 1) := dc_27 (dc_nn (k := 1) aX2_isHour_0 rfl)
theorem dX2_isHour_2 : decode cX2_isHour 2 = .ok (.bipush 60, 2) := dc_16 (a0 := 60) (dc_nn (k := 2) aX2_isHour_0 rfl) (by decide)
theorem dX2_isHour_4 : decode cX2_isHour 4 = .ok (.iload_n 3, 1) := dc_29 (dc_nn (k := 4) aX2_isHour_0 rfl)
theorem dX2_isHour_5 : decode cX2_isHour 5 = .ok (.imul, 1) := dc_104 (dc_nn (k := 5) aX2_isHour_0 rfl)
theorem dX2_isHour_6 : decode cX2_isHour 6 = .ok (.iload_n 2, 1) := dc_28 (dc_nn (k := 6) aX2_isHour_0 rfl)
theorem dX2_isHour_7 : decode cX2_isHour 7 = .ok (.invokevirtual 67, 3) := dc_182 (a0 := 0) (b0 := 67) (dc_nn (k := 7) aX2_isHour_0 rfl)
theorem dX2_isHour_10 : decode cX2_isHour 10 = .ok (.bipush 60, 2) := dc_16 (a0 := 60) (dc_nn (k := 10) aX2_isHour_0 rfl) (by decide)
theorem dX2_isHour_12 : decode cX2_isHour 12 = .ok (.idiv, 1) := dc_108 (dc_nn (k := 12) aX2_isHour_0 rfl)
theorem dX2_isHour_13 : decode cX2_isHour 13 = .ok (.iload 4, 2) := dc_21 (a0 := 4) (dc_nn (k := 13) aX2_isHour_0 rfl)
theorem dX2_isHour_15 : decode cX2_isHour 15 = .ok (.if_icmp .ne 7, 3) := dc_160 (a0 := 0) (b0 := 7) (dc_nn (k := 15) aX2_isHour_0 rfl) (by decide)
theorem dX2_isHour_18 : decode cX2_isHour 18 = .ok (.iconst 1, 1) := dc_4 (dc_nn (k := 18) aX2_isHour_0 rfl)
theorem dX2_isHour_19 : decode cX2_isHour 19 = .ok (.goto 4, 3) := dc_167 (a0 := 0) (b0 := 4) (dc_nn (k := 19) aX2_isHour_0 rfl) (by decide)
theorem dX2_isHour_22 : decode cX2_isHour 22 = .ok (.iconst 0, 1) := dc_3 (dc_nn (k := 22) aX2_isHour_0 rfl)
theorem dX2_isHour_23 : decode cX2_isHour 23 = .ok (.ireturn, 1) := dc_172 (dc_nn (k := 23) aX2_isHour_0 rfl)
set_option maxRecDepth 20000 in
theorem ggX2_hasHour_X2_isHour : GoodIn wsX2_hasHour wsX2_isHour := goodIn_k _ [[5, 0, 0, 0], [4, 4, 0, 0, 0, 0, 0, 0, 0, 0, 0, 0, 0, 0]] (by rfl) (by decide +kernel)
set_option maxRecDepth 20000 in
theorem gX2_hasHour_X2_isHour : GoodIn wsX2_hasHour (wsV RX2 71 RX2 yX2_isHour wsX2_isHour) := goodIn_app (goodIn_k _ [[1, 0, 0, 0]] (by rfl) (gw_V _ _ _ _)) ggX2_hasHour_X2_isHour
noncomputable def sX2_hasHour_0 : List Nat := 3 :: 54 :: 4 :: 21 :: 4 :: 17 :: 1 :: 104 :: 162 :: 0 :: 23 :: 42 :: 27 :: 21 :: 4 :: 28 :: 29 :: 182 :: 0 :: 71 :: 153 :: 0 :: 5 :: 4 :: 172 :: 132 :: 4 :: 1 :: 167 :: 255 :: 231 :: 3 :: 172 :: []
theorem aX2_hasHour_0 : dc_at cX2_hasHour 0 sX2_hasHour_0 := dc_base (by decide +kernel)
theorem dX2_hasHour_0 : decode cX2_hasHour 0 = .ok (.iconst 0, 1) := dc_3 aX2_hasHour_0
theorem dX2_hasHour_1 : decode cX2_hasHour 1 = .ok (.istore 4, 2) := dc_54 (a0 := 4) (dc_nn (k := 1) aX2_hasHour_0 rfl)
theorem dX2_hasHour_3 : decode cX2_hasHour 3 = .ok (.iload 4, 2) := dc_21 (a0 := 4) (dc_nn (k := 3) aX2_hasHour_0 rfl)
theorem dX2_hasHour_5 : decode cX2_hasHour 5 = .ok (.sipush 360, 3) := dc_17 (a0 := 1) (b0 := 104) (dc_nn (k := 5) aX2_hasHour_0 rfl) (by decide)
theorem dX2_hasHour_8 : decode cX2_hasHour 8 = .ok (.if_icmp .ge 23, 3) := dc_162 (a0 := 0) (b0 := 23) (dc_nn (k := 8) aX2_hasHour_0 rfl) (by decide)
theorem dX2_hasHour_11 : decode cX2_hasHour 11 = .ok (.aload_n 0, 1) := dc_42 (dc_nn (k := 11) aX2_hasHour_0 rfl)
theorem dX2_hasHour_12 : decode cX2_hasHour 12 = .ok (.iload_n 1, 1) := dc_27 (dc_nn (k := 12) aX2_hasHour_0 rfl)
theorem dX2_hasHour_13 : decode cX2_hasHour 13 = .ok (.iload 4, 2) := dc_21 (a0 := 4) (dc_nn (k := 13) aX2_hasHour_0 rfl)
theorem dX2_hasHour_15 : decode cX2_hasHour 15 = .ok (.iload_n 2, 1) := dc_28 (dc_nn (k := 15) aX2_hasHour_0 rfl)
theorem dX2_hasHour_16 : decode cX2_hasHour 16 = .ok (.iload_n 3, 1) := dc_29 (dc_nn (k := 16) aX2_hasHour_0 rfl)
theorem dX2_hasHour_17 : decode cX2_hasHour 17 = .ok (.invokevirtual 71, 3) := dc_182 (a0 := 0) (b0 := 71) (dc_nn (k := 17) aX2_hasHour_0 rfl)
theorem dX2_hasHour_20 : decode cX2_hasHour 20 = .ok (.ifCond .eq 5, 3) := dc_153 (a0 := 0) (b0 := 5) (dc_nn (k := 20) aX2_hasHour_0 rfl) (by decide)
theorem dX2_hasHour_23 : decode cX2_hasHour 23 = .ok (.iconst 1, 1) := dc_4 (dc_nn (k := 23) aX2_hasHour_0 rfl)
theorem dX2_hasHour_24 : decode cX2_hasHour 24 = .ok (.ireturn, 1) := dc_172 (dc_nn (k := 24) aX2_hasHour_0 rfl)
theorem dX2_hasHour_25 : decode cX2_hasHour 25 = .ok (.iinc 4 1, 3) := dc_132 (a0 := 4) (a1 := 1) (dc_nn (k := 25) aX2_hasHour_0 rfl) (by decide)
theorem dX2_hasHour_28 : decode cX2_hasHour 28 = .ok (.goto (-25), 3) := dc_167 (a0 := 255) (b0 := 231) (dc_nn (k := 28) aX2_hasHour_0 rfl) (by decide)
theorem dX2_hasHour_31 : decode cX2_hasHour 31 = .ok (.iconst 0, 1) := dc_3 (dc_nn (k := 31) aX2_hasHour_0 rfl)
theorem dX2_hasHour_32 : decode cX2_hasHour 32 = .ok (.ireturn, 1) := dc_172 (dc_nn (k := 32) aX2_hasHour_0 rfl)
set_option maxRecDepth 20000 in
theorem ggX2_howManyHours_X2_isHour : GoodIn wsX2_howManyHours wsX2_isHour := goodIn_k _ [[6, 0, 0, 0], [5, 4, 0, 0, 0, 0, 0, 0, 0, 0, 0, 0, 0, 0]] (by rfl) (by decide +kernel)
set_option maxRecDepth 20000 in
theorem gX2_howManyHours_X2_isHour : GoodIn wsX2_howManyHours (wsV RX2 71 RX2 yX2_isHour wsX2_isHour) := goodIn_app (goodIn_k _ [[2, 0, 0, 0]] (by rfl) (gw_V _ _ _ _)) ggX2_howManyHours_X2_isHour
noncomputable def sX2_howManyHours_42 : List Nat := 132 :: 4 :: 1 :: 167 :: 255 :: 216 :: 29 :: 172 :: []
noncomputable def sX2_howManyHours_0 : List Nat := 3 :: 62 :: 3 :: 54 :: 4 :: 21 :: 4 :: 17 :: 1 :: 104 :: 42 :: 180 :: 0 :: 21 :: 104 :: 162 :: 0 :: 33 :: 42 :: 21 :: 4 :: 17 :: 1 :: 104 :: 108 :: 21 :: 4 :: 17 :: 1 :: 104 :: 112 :: 27 :: 28 :: 182 :: 0 :: 71 :: 153 :: 0 :: 6 :: 132 :: 3 :: 1 :: sX2_howManyHours_42
theorem aX2_howManyHours_0 : dc_at cX2_howManyHours 0 sX2_howManyHours_0 := dc_base (by decide +kernel)
theorem aX2_howManyHours_42 : dc_at cX2_howManyHours 42 sX2_howManyHours_42 := dc_nn (k := 42) aX2_howManyHours_0 rfl
theorem dX2_howManyHours_0 : decode cX2_howManyHours 0 = .ok (.iconst 0, 1) := dc_3 aX2_howManyHours_0
theorem dX2_howManyHours_1 : decode cX2_howManyHours 1 = .ok (.istore_n 3, 1) := dc_62 (dc_nn (k := 1) aX2_howManyHours_0 rfl)
theorem dX2_howManyHours_2 : decode cX2_howManyHours 2 = .ok (.iconst 0, 1) := dc_3 (dc_nn (k := 2) aX2_howManyHours_0 rfl)
theorem dX2_howManyHours_3 : decode cX2_howManyHours 3 = .ok (.istore 4, 2) := dc_54 (a0 := 4) (dc_nn (k := 3) aX2_howManyHours_0 rfl)
theorem dX2_howManyHours_5 : decode cX2_howManyHours 5 = .ok (.iload 4, 2) := dc_21 (a0 := 4) (dc_nn (k := 5) aX2_howManyHours_0 rfl)
theorem dX2_howManyHours_7 : decode cX2_howManyHours 7 = .ok (.sipush 360, 3) := dc_17 (a0 := 1) (b0 := 104) (dc_nn (k := 7) aX2_howManyHours_0 rfl) (by decide)
theorem dX2_howManyHours_10 : decode cX2_howManyHours 10 = .ok (.aload_n 0, 1) := dc_42 (dc_nn (k := 10) aX2_howManyHours_0 rfl)
theorem dX2_howManyHours_11 : decode cX2_howManyHours 11 = .ok (.getfield 21, 3) := dc_180 (a0 := 0) (b0 := 21) (dc_nn (k := 11) aX2_howManyHours_0 rfl)
theorem dX2_howManyHours_14 : decode cX2_howManyHours 14 = .ok (.imul, 1) := dc_104 (dc_nn (k := 14) aX2_howManyHours_0 rfl)
theorem dX2_howManyHours_15 : decode cX2_howManyHours 15 = .ok (.if_icmp .ge 33, 3) := dc_162 (a0 := 0) (b0 := 33) (dc_nn (k := 15) aX2_howManyHours_0 rfl) (by decide)
theorem dX2_howManyHours_18 : decode cX2_howManyHours 18 = .ok (.aload_n 0, 1) := dc_42 (dc_nn (k := 18) aX2_howManyHours_0 rfl)
theorem dX2_howManyHours_19 : decode cX2_howManyHours 19 = .ok (.iload 4, 2) := dc_21 (a0 := 4) (dc_nn (k := 19) aX2_howManyHours_0 rfl)
theorem dX2_howManyHours_21 : decode cX2_howManyHours 21 = .ok (.sipush 360, 3) := dc_17 (a0 := 1) (b0 := 104) (dc_nn (k := 21) aX2_howManyHours_0 rfl) (by decide)
theorem dX2_howManyHours_24 : decode cX2_howManyHours 24 = .ok (.idiv, 1) := dc_108 (dc_nn (k := 24) aX2_howManyHours_0 rfl)
theorem dX2_howManyHours_25 : decode cX2_howManyHours 25 = .ok (.iload 4, 2) := dc_21 (a0 := 4) (dc_nn (k := 25) aX2_howManyHours_0 rfl)
theorem dX2_howManyHours_27 : decode cX2_howManyHours 27 = .ok (.sipush 360, 3) := dc_17 (a0 := 1) (b0 := 104) (dc_nn (k := 27) aX2_howManyHours_0 rfl) (by decide)
theorem dX2_howManyHours_30 : decode cX2_howManyHours 30 = .ok (.irem, 1) := dc_112 (dc_nn (k := 30) aX2_howManyHours_0 rfl)
theorem dX2_howManyHours_31 : decode cX2_howManyHours 31 = .ok (.iload_n 1, 1) := dc_27 (dc_nn (k := 31) aX2_howManyHours_0 rfl)
theorem dX2_howManyHours_32 : decode cX2_howManyHours 32 = .ok (.iload_n 2, 1) := dc_28 (dc_nn (k := 32) aX2_howManyHours_0 rfl)
theorem dX2_howManyHours_33 : decode cX2_howManyHours 33 = .ok (.invokevirtual 71, 3) := dc_182 (a0 := 0) (b0 := 71) (dc_nn (k := 33) aX2_howManyHours_0 rfl)
theorem dX2_howManyHours_36 : decode cX2_howManyHours 36 = .ok (.ifCond .eq 6, 3) := dc_153 (a0 := 0) (b0 := 6) (dc_nn (k := 36) aX2_howManyHours_0 rfl) (by decide)
theorem dX2_howManyHours_39 : decode cX2_howManyHours 39 = .ok (.iinc 3 1, 3) := dc_132 (a0 := 3) (a1 := 1) (dc_nn (k := 39) aX2_howManyHours_0 rfl) (by decide)
theorem dX2_howManyHours_42 : decode cX2_howManyHours 42 = .ok (.iinc 4 1, 3) := dc_132 (a0 := 4) (a1 := 1) aX2_howManyHours_42 (by decide)
theorem dX2_howManyHours_45 : decode cX2_howManyHours 45 = .ok (.goto (-40), 3) := dc_167 (a0 := 255) (b0 := 216) (dc_nn (k := 3) aX2_howManyHours_42 rfl) (by decide)
theorem dX2_howManyHours_48 : decode cX2_howManyHours 48 = .ok (.iload_n 3, 1) := dc_29 (dc_nn (k := 6) aX2_howManyHours_42 rfl)
theorem dX2_howManyHours_49 : decode cX2_howManyHours 49 = .ok (.ireturn, 1) := dc_172 (dc_nn (k := 7) aX2_howManyHours_42 rfl)
set_option maxRecDepth 20000 in
theorem ggX2_nthHour_X2_isHour : GoodIn wsX2_nthHour wsX2_isHour := goodIn_k _ [[6, 0, 0, 0], [5, 4, 0, 0, 0, 0, 0, 0, 0, 0, 0, 0, 0, 0]] (by rfl) (by decide +kernel)
set_option maxRecDepth 20000 in
theorem gX2_nthHour_X2_isHour : GoodIn wsX2_nthHour (wsV RX2 71 RX2 yX2_isHour wsX2_isHour) := goodIn_app (goodIn_k _ [[2, 0, 0, 0]] (by rfl) (gw_V _ _ _ _)) ggX2_nthHour_X2_isHour
noncomputable def sX2_nthHour_42 : List Nat := 153 :: 0 :: 14 :: 21 :: 4 :: 154 :: 0 :: 6 :: 21 :: 5 :: 172 :: 132 :: 4 :: 255 :: 132 :: 5 :: 1 :: 167 :: 255 :: 203 :: 2 :: 172 :: []
noncomputable def sX2_nthHour_0 : List Nat := 29 :: 54 :: 4 :: 3 :: 54 :: 5 :: 21 :: 5 :: 17 :: 1 :: 104 :: 42 :: 180 :: 0 :: 21 :: 104 :: 162 :: 0 :: 46 :: 21 :: 4 :: 155 :: 0 :: 41 :: 42 :: 21 :: 5 :: 17 :: 1 :: 104 :: 108 :: 21 :: 5 :: 17 :: 1 :: 104 :: 112 :: 27 :: 28 :: 182 :: 0 :: 71 :: sX2_nthHour_42
theorem aX2_nthHour_0 : dc_at cX2_nthHour 0 sX2_nthHour_0 := dc_base (by decide +kernel)
theorem aX2_nthHour_42 : dc_at cX2_nthHour 42 sX2_nthHour_42 := dc_nn (k := 42) aX2_nthHour_0 rfl
theorem dX2_nthHour_0 : decode cX2_nthHour 0 = .ok (.iload_n 3, 1) := dc_29 aX2_nthHour_0
theorem dX2_nthHour_1 : decode cX2_nthHour 1 = .ok (.istore 4, 2) := dc_54 (a0 := 4) (dc_nn (k := 1) aX2_nthHour_0 rfl)
theorem dX2_nthHour_3 : decode cX2_nthHour 3 = .ok (.iconst 0, 1) := dc_3 (dc_nn (k := 3) aX2_nthHour_0 rfl)
theorem dX2_nthHour_4 : decode cX2_nthHour 4 = .ok (.istore 5, 2) := dc_54 (a0 := 5) (dc_nn (k := 4) aX2_nthHour_0 rfl)
theorem dX2_nthHour_6 : decode cX2_nthHour 6 = .ok (.iload 5, 2) := dc_21 (a0 := 5) (dc_nn (k := 6) aX2_nthHour_0 rfl)
theorem dX2_nthHour_8 : decode cX2_nthHour 8 = .ok (.sipush 360, 3) := dc_17 (a0 := 1) (b0 := 104) (dc_nn (k := 8) aX2_nthHour_0 rfl) (by decide)
theorem dX2_nthHour_11 : decode cX2_nthHour 11 = .ok (.aload_n 0, 1) := dc_42 (dc_nn (k := 11) aX2_nthHour_0 rfl)
theorem dX2_nthHour_12 : decode cX2_nthHour 12 = .ok (.getfield 21, 3) := dc_180 (a0 := 0) (b0 := 21) (dc_nn (k := 12) aX2_nthHour_0 rfl)
theorem dX2_nthHour_15 : decode cX2_nthHour 15 = .ok (.imul, 1) := dc_104 (dc_nn (k := 15) aX2_nthHour_0 rfl)
theorem dX2_nthHour_16 : decode cX2_nthHour 16 = .ok (.if_icmp .ge 46, 3) := dc_162 (a0 := 0) (b0 := 46) (dc_nn (k := 16) aX2_nthHour_0 rfl) (by decide)
theorem dX2_nthHour_19 : decode cX2_nthHour 19 = .ok (.iload 4, 2) := dc_21 (a0 := 4) (dc_nn (k := 19) aX2_nthHour_0 rfl)
theorem dX2_nthHour_21 : decode cX2_nthHour 21 = .ok (.ifCond .lt 41, 3) := dc_155 (a0 := 0) (b0 := 41) (dc_nn (k := 21) aX2_nthHour_0 rfl) (by decide)
theorem dX2_nthHour_24 : decode cX2_nthHour 24 = .ok (.aload_n 0, 1) := dc_42 (dc_nn (k := 24) aX2_nthHour_0 rfl)
theorem dX2_nthHour_25 : decode cX2_nthHour 25 = .ok (.iload 5, 2) := dc_21 (a0 := 5) (dc_nn (k := 25) aX2_nthHour_0 rfl)
theorem dX2_nthHour_27 : decode cX2_nthHour 27 = .ok (.sipush 360, 3) := dc_17 (a0 := 1) (b0 := 104) (dc_nn (k := 27) aX2_nthHour_0 rfl) (by decide)
theorem dX2_nthHour_30 : decode cX2_nthHour 30 = .ok (.idiv, 1) := dc_108 (dc_nn (k := 30) aX2_nthHour_0 rfl)
theorem dX2_nthHour_31 : decode cX2_nthHour 31 = .ok (.iload 5, 2) := dc_21 (a0 := 5) (dc_nn (k := 31) aX2_nthHour_0 rfl)
theorem dX2_nthHour_33 : decode cX2_nthHour 33 = .ok (.sipush 360, 3) := dc_17 (a0 := 1) (b0 := 104) (dc_nn (k := 33) aX2_nthHour_0 rfl) (by decide)
theorem dX2_nthHour_36 : decode cX2_nthHour 36 = .ok (.irem, 1) := dc_112 (dc_nn (k := 36) aX2_nthHour_0 rfl)
theorem dX2_nthHour_37 : decode cX2_nthHour 37 = .ok (.iload_n 1, 1) := dc_27 (dc_nn (k := 37) aX2_nthHour_0 rfl)
theorem dX2_nthHour_38 : decode cX2_nthHour 38 = .ok (.iload_n 2, 1) := dc_28 (dc_nn (k := 38) aX2_nthHour_0 rfl)
theorem dX2_nthHour_39 : decode cX2_nthHour 39 = .ok (.invokevirtual 71, 3) := dc_182 (a0 := 0) (b0 := 71) (dc_nn (k := 39) aX2_nthHour_0 rfl)
theorem dX2_nthHour_42 : decode cX2_nthHour 42 = .ok (.ifCond .eq 14, 3) := dc_153 (a0 := 0) (b0 := 14) aX2_nthHour_42 (by decide)
theorem dX2_nthHour_45 : decode cX2_nthHour 45 = .ok (.iload 4, 2) := dc_21 (a0 := 4) (dc_nn (k := 3) aX2_nthHour_42 rfl)
theorem dX2_nthHour_47 : decode cX2_nthHour 47 = .ok (.ifCond .ne 6, 3) := dc_154 (a0 := 0) (b0 := 6) (dc_nn (k := 5) aX2_nthHour_42 rfl) (by decide)
theorem dX2_nthHour_50 : decode cX2_nthHour 50 = .ok (.iload 5, 2) := dc_21 (a0 := 5) (dc_nn (k := 8) aX2_nthHour_42 rfl)
theorem dX2_nthHour_52 : decode cX2_nthHour 52 = .ok (.ireturn, 1) := dc_172 (dc_nn (k := 10) aX2_nthHour_42 rfl)
theorem dX2_nthHour_53 : decode cX2_nthHour 53 = .ok (.iinc 4 (-1), 3) := dc_132 (a0 := 4) (a1 := 255) (dc_nn (k := 11) aX2_nthHour_42 rfl) (by decide)
theorem dX2_nthHour_56 : decode cX2_nthHour 56 = .ok (.iinc 5 1, 3) := dc_132 (a0 := 5) (a1 := 1) (dc_nn (k := 14) aX2_nthHour_42 rfl) (by decide)
theorem dX2_nthHour_59 : decode cX2_nthHour 59 = .ok (.goto (-53), 3) := dc_167 (a0 := 255) (b0 := 203) (dc_nn (k := 17) aX2_nthHour_42 rfl) (by decide)
theorem dX2_nthHour_62 : decode cX2_nthHour 62 = .ok (.iconst (-1), 1) := dc_2 (dc_nn (k := 20) aX2_nthHour_42 rfl)
theorem dX2_nthHour_63 : decode cX2_nthHour 63 = .ok (.ireturn, 1) := dc_172 (dc_nn (k := 21) aX2_nthHour_42 rfl)
set_option maxRecDepth 20000 in
theorem ggX2_houseDegree_X2_houseByMiddle : GoodIn wsX2_houseDegree wsX2_houseByMiddle := goodIn_k _ [[5, 0, 0, 0], [4, 4, 0, 0, 0, 0, 0, 0, 0, 0, 0, 0, 0, 0, 0, 0, 0, 0, 0]] (by rfl) (by decide +kernel)
set_option maxRecDepth 20000 in
theorem gX2_houseDegree_X2_houseByMiddle : GoodIn wsX2_houseDegree (wsV RX2 75 RX2 yX2_houseByMiddle wsX2_houseByMiddle) := goodIn_app (goodIn_k _ [[1, 0, 0, 0]] (by rfl) (gw_V _ _ _ _)) ggX2_houseDegree_X2_houseByMiddle
noncomputable def sX2_houseDegree_40 : List Nat := 27 :: 29 :: 21 :: 4 :: 182 :: 0 :: 75 :: 172 :: []
noncomputable def sX2_houseDegree_0 : List Nat := 28 :: 154 :: 0 :: 19 :: 27 :: 16 :: 30 :: 108 :: 21 :: 4 :: 96 :: 4 :: 100 :: 16 :: 12 :: 112 :: 16 :: 30 :: 104 :: 172 :: 28 :: 4 :: 160 :: 0 :: 17 :: 27 :: 16 :: 30 :: 21 :: 4 :: 4 :: 100 :: 104 :: 96 :: 17 :: 1 :: 104 :: 112 :: 172 :: 42 :: sX2_houseDegree_40
theorem aX2_houseDegree_0 : dc_at cX2_houseDegree 0 sX2_houseDegree_0 := dc_base (by decide +kernel)
theorem aX2_houseDegree_40 : dc_at cX2_houseDegree 40 sX2_houseDegree_40 := dc_nn (k := 40) aX2_houseDegree_0 rfl
theorem dX2_houseDegree_0 : decode cX2_houseDegree 0 = .ok (.iload_n 2, 1) := dc_28 aX2_houseDegree_0
theorem dX2_houseDegree_1 : decode cX2_houseDegree 1 = .ok (.ifCond .ne 19, 3) := dc_154 (a0 := 0) (b0 := 19) (dc_nn (k := 1) aX2_houseDegree_0 rfl) (by decide)
theorem dX2_houseDegree_4 : decode cX2_houseDegree 4 = .ok (.iload_n 1, 1) := dc_27 (dc_nn (k := 4) aX2_houseDegree_0 rfl)
theorem dX2_houseDegree_5 : decode cX2_houseDegree 5 = .ok (.bipush 30, 2) := dc_16 (a0 := 30) (dc_nn (k := 5) aX2_houseDegree_0 rfl) (by decide)
theorem dX2_houseDegree_7 : decode cX2_houseDegree 7 = .ok (.idiv, 1) := dc_108 (dc_nn (k := 7) aX2_houseDegree_0 rfl)
theorem dX2_houseDegree_8 : decode cX2_houseDegree 8 = .ok (.iload 4, 2) := dc_21 (a0 := 4) (dc_nn (k := 8) aX2_houseDegree_0 rfl)
theorem dX2_houseDegree_10 : decode cX2_houseDegree 10 = .ok (.iadd, 1) := dc_96 (dc_nn (k := 10) aX2_houseDegree_0 rfl)
theorem dX2_houseDegree_11 : decode cX2_houseDegree 11 = .ok (.iconst 1, 1) := dc_4 (dc_nn (k := 11) aX2_houseDegree_0 rfl)
theorem dX2_houseDegree_12 : decode cX2_houseDegree 12 = .ok (.isub, 1) := dc_100 (dc_nn (k := 12) aX2_houseDegree_0 rfl)
theorem dX2_houseDegree_13 : decode cX2_houseDegree 13 = .ok (.bipush 12, 2) := dc_16 (a0 := 12) (dc_nn (k := 13) aX2_houseDegree_0 rfl) (by decide)
theorem dX2_houseDegree_15 : decode cX2_houseDegree 15 = .ok (.irem, 1) := dc_112 (dc_nn (k := 15) aX2_houseDegree_0 rfl)
theorem dX2_houseDegree_16 : decode cX2_houseDegree 16 = .ok (.bipush 30, 2) := dc_16 (a0 := 30) (dc_nn (k := 16) aX2_houseDegree_0 rfl) (by decide)
theorem dX2_houseDegree_18 : decode cX2_houseDegree 18 = .ok (.imul, 1) := dc_104 (dc_nn (k := 18) aX2_houseDegree_0 rfl)
theorem dX2_houseDegree_19 : decode cX2_houseDegree 19 = .ok (.ireturn, 1) := dc_172 (dc_nn (k := 19) aX2_houseDegree_0 rfl)
theorem dX2_houseDegree_20 : decode cX2_houseDegree 20 = .ok (.iload_n 2, 1) := dc_28 (dc_nn (k := 20) aX2_houseDegree_0 rfl)
theorem dX2_houseDegree_21 : decode cX2_houseDegree 21 = .ok (.iconst 1, 1) := dc_4 (dc_nn (k := 21) aX2_houseDegree_0 rfl)
theorem dX2_houseDegree_22 : decode cX2_houseDegree 22 = .ok (.if_icmp .ne 17, 3) := dc_160 (a0 := 0) (b0 := 17) (dc_nn (k := 22) aX2_houseDegree_0 rfl) (by decide)
theorem dX2_houseDegree_25 : decode cX2_houseDegree 25 = .ok (.iload_n 1, 1) := dc_27 (dc_nn (k := 25) aX2_houseDegree_0 rfl)
theorem dX2_houseDegree_26 : decode cX2_houseDegree 26 = .ok (.bipush 30, 2) := dc_16 (a0 := 30) (dc_nn (k := 26) aX2_houseDegree_0 rfl) (by decide)
theorem dX2_houseDegree_28 : decode cX2_houseDegree 28 = .ok (.iload 4, 2) := dc_21 (a0 := 4) (dc_nn (k := 28) aX2_houseDegree_0 rfl)
theorem dX2_houseDegree_30 : decode cX2_houseDegree 30 = .ok (.iconst 1, 1) := dc_4 (dc_nn (k := 30) aX2_houseDegree_0 rfl)
theorem dX2_houseDegree_31 : decode cX2_houseDegree 31 = .ok (.isub, 1) := dc_100 (dc_nn (k := 31) aX2_houseDegree_0 rfl)
theorem dX2_houseDegree_32 : decode cX2_houseDegree 32 = .ok (.imul, 1) := dc_104 (dc_nn (k := 32) aX2_houseDegree_0 rfl)
theorem dX2_houseDegree_33 : decode cX2_houseDegree 33 = .ok (.iadd, 1) := dc_96 (dc_nn (k := 33) aX2_houseDegree_0 rfl)
theorem dX2_houseDegree_34 : decode cX2_houseDegree 34 = .ok (.sipush 360, 3) := dc_17 (a0 := 1) (b0 := 104) (dc_nn (k := 34) aX2_houseDegree_0 rfl) (by decide)
theorem dX2_houseDegree_37 : decode cX2_houseDegree 37 = .ok (.irem, 1) := dc_112 (dc_nn (k := 37) aX2_houseDegree_0 rfl)
theorem dX2_houseDegree_38 : decode cX2_houseDegree 38 = .ok (.ireturn, 1) := dc_172 (dc_nn (k := 38) aX2_houseDegree_0 rfl)
theorem dX2_houseDegree_39 : decode cX2_houseDegree 39 = .ok (.aload_n 0, 1) := dc_42 (dc_nn (k := 39) aX2_houseDegree_0 rfl)
theorem dX2_houseDegree_40 : decode cX2_houseDegree 40 = .ok (.iload_n 1, 1) := dc_27 aX2_houseDegree_40
theorem dX2_houseDegree_41 : decode cX2_houseDegree 41 = .ok (.iload_n 3, 1) := dc_29 (dc_nn (k := 1) aX2_houseDegree_40 rfl)
theorem dX2_houseDegree_42 : decode cX2_houseDegree 42 = .ok (.iload 4, 2) := dc_21 (a0 := 4) (dc_nn (k := 2) aX2_houseDegree_40 rfl)
theorem dX2_houseDegree_44 : decode cX2_houseDegree 44 = .ok (.invokevirtual 75, 3) := dc_182 (a0 := 0) (b0 := 75) (dc_nn (k := 4) aX2_houseDegree_40 rfl)
theorem dX2_houseDegree_47 : decode cX2_houseDegree 47 = .ok (.ireturn, 1) := dc_172 (dc_nn (k := 7) aX2_houseDegree_40 rfl)
set_option maxRecDepth 20000 in
theorem ggX2_houseByMiddle_X2_middleOf : GoodIn wsX2_houseByMiddle wsX2_middleOf := goodIn_k _ [[5, 0, 0, 0, 0, 0], [4, 6, 0, 0, 0, 0, 0, 0, 0, 0, 0, 0, 0]] (by rfl) (by decide +kernel)
set_option maxRecDepth 20000 in
theorem gX2_houseByMiddle_X2_middleOf : GoodIn wsX2_houseByMiddle (wsV RX2 78 RX2 yX2_middleOf wsX2_middleOf) := goodIn_app (goodIn_k _ [[1, 0, 0, 0]] (by rfl) (gw_V _ _ _ _)) ggX2_houseByMiddle_X2_middleOf
set_option maxRecDepth 20000 in
theorem ggX2_houseByMiddle_J9_floorMod_7cf53 : GoodIn wsX2_houseByMiddle wsJ9_floorMod_7cf53 := goodIn_k _ [[16]] (by rfl) (by decide +kernel)
set_option maxRecDepth 20000 in
theorem gX2_houseByMiddle_J9_floorMod_7cf53 : GoodIn wsX2_houseByMiddle (va_wsS RX2 64 yJ9_floorMod_7cf53 wsJ9_floorMod_7cf53) := goodIn_app (goodIn_k _ [[13, 0, 0]] (by rfl) (gw_S _ _ _ _)) ggX2_houseByMiddle_J9_floorMod_7cf53
noncomputable def sX2_houseByMiddle_123 : List Nat := 21 :: 7 :: 17 :: 0 :: 180 :: 96 :: 167 :: 0 :: 5 :: 21 :: 7 :: 17 :: 1 :: 104 :: 112 :: 172 :: []
noncomputable def sX2_houseByMiddle_81 : List Nat := 184 :: 0 :: 64 :: 104 :: 6 :: 108 :: 96 :: 54 :: 7 :: 167 :: 0 :: 28 :: 27 :: 21 :: 5 :: 4 :: 100 :: 21 :: 6 :: 17 :: 0 :: 180 :: 96 :: 27 :: 100 :: 17 :: 1 :: 104 :: 184 :: 0 :: 64 :: 104 :: 6 :: 108 :: 96 :: 54 :: 7 :: 21 :: 4 :: 153 :: 0 :: 12 :: sX2_houseByMiddle_123
noncomputable def sX2_houseByMiddle_40 : List Nat := 29 :: 16 :: 6 :: 100 :: 54 :: 5 :: 42 :: 28 :: 16 :: 60 :: 27 :: 104 :: 182 :: 0 :: 78 :: 16 :: 60 :: 108 :: 54 :: 6 :: 21 :: 5 :: 16 :: 10 :: 161 :: 0 :: 29 :: 21 :: 6 :: 21 :: 5 :: 16 :: 10 :: 100 :: 27 :: 21 :: 6 :: 100 :: 17 :: 1 :: 104 :: sX2_houseByMiddle_81
noncomputable def sX2_houseByMiddle_0 : List Nat := 29 :: 7 :: 161 :: 0 :: 13 :: 29 :: 16 :: 9 :: 163 :: 0 :: 7 :: 4 :: 167 :: 0 :: 4 :: 3 :: 54 :: 4 :: 21 :: 4 :: 154 :: 0 :: 7 :: 29 :: 167 :: 0 :: 20 :: 29 :: 16 :: 7 :: 162 :: 0 :: 10 :: 29 :: 16 :: 6 :: 96 :: 167 :: 0 :: 7 :: sX2_houseByMiddle_40
theorem aX2_houseByMiddle_0 : dc_at cX2_houseByMiddle 0 sX2_houseByMiddle_0 := dc_base (by decide +kernel)
theorem aX2_houseByMiddle_40 : dc_at cX2_houseByMiddle 40 sX2_houseByMiddle_40 := dc_nn (k := 40) aX2_houseByMiddle_0 rfl
theorem aX2_houseByMiddle_81 : dc_at cX2_houseByMiddle 81 sX2_houseByMiddle_81 := dc_nn (k := 41) aX2_houseByMiddle_40 rfl
theorem aX2_houseByMiddle_123 : dc_at cX2_houseByMiddle 123 sX2_houseByMiddle_123 := dc_nn (k := 42) aX2_houseByMiddle_81 rfl
theorem dX2_houseByMiddle_0 : decode cX2_houseByMiddle 0 = .ok (.iload_n 3, 1) := dc_29 aX2_houseByMiddle_0
theorem dX2_houseByMiddle_1 : decode cX2_houseByMiddle 1 = .ok (.iconst 4, 1) := dc_7 (dc_nn (k := 1) aX2_houseByMiddle_0 rfl)
theorem dX2_houseByMiddle_2 : decode cX2_houseByMiddle 2 = .ok (.if_icmp .lt 13, 3) := dc_161 (a0 := 0) (b0 := 13) (dc_nn (k := 2) aX2_houseByMiddle_0 rfl) (by decide)
theorem dX2_houseByMiddle_5 : decode cX2_houseByMiddle 5 = .ok (.iload_n 3, 1) := dc_29 (dc_nn (k := 5) aX2_houseByMiddle_0 rfl)
theorem dX2_houseByMiddle_6 : decode cX2_houseByMiddle 6 = .ok (.bipush 9, 2) := dc_16 (a0 := 9) (dc_nn (k := 6) aX2_houseByMiddle_0 rfl) (by decide)
theorem dX2_houseByMiddle_8 : decode cX2_houseByMiddle 8 = .ok (.if_icmp .gt 7, 3) := dc_163 (a0 := 0) (b0 := 7) (dc_nn (k := 8) aX2_houseByMiddle_0 rfl) (by decide)
theorem dX2_houseByMiddle_11 : decode cX2_houseByMiddle 11 = .ok (.iconst 1, 1) := dc_4 (dc_nn (k := 11) aX2_houseByMiddle_0 rfl)
theorem dX2_houseByMiddle_12 : decode cX2_houseByMiddle 12 = .ok (.goto 4, 3) := dc_167 (a0 := 0) (b0 := 4) (dc_nn (k := 12) aX2_houseByMiddle_0 rfl) (by decide)
theorem dX2_houseByMiddle_15 : decode cX2_houseByMiddle 15 = .ok (.iconst 0, 1) := dc_3 (dc_nn (k := 15) aX2_houseByMiddle_0 rfl)
theorem dX2_houseByMiddle_16 : decode cX2_houseByMiddle 16 = .ok (.istore 4, 2) := dc_54 (a0 := 4) (dc_nn (k := 16) aX2_houseByMiddle_0 rfl)
theorem dX2_houseByMiddle_18 : decode cX2_houseByMiddle 18 = .ok (.iload 4, 2) := dc_21 (a0 := 4) (dc_nn (k := 18) aX2_houseByMiddle_0 rfl)
theorem dX2_houseByMiddle_20 : decode cX2_houseByMiddle 20 = .ok (.ifCond .ne 7, 3) := dc_154 (a0 := 0) (b0 := 7) (dc_nn (k := 20) aX2_houseByMiddle_0 rfl) (by decide)
theorem dX2_houseByMiddle_23 : decode cX2_houseByMiddle 23 = .ok (.iload_n 3, 1) := dc_29 (dc_nn (k := 23) aX2_houseByMiddle_0 rfl)
theorem dX2_houseByMiddle_24 : decode cX2_houseByMiddle 24 = .ok (.goto 20, 3) := dc_167 (a0 := 0) (b0 := 20) (dc_nn (k := 24) aX2_houseByMiddle_0 rfl) (by decide)
theorem dX2_houseByMiddle_27 : decode cX2_houseByMiddle 27 = .ok (.iload_n 3, 1) := dc_29 (dc_nn (k := 27) aX2_houseByMiddle_0 rfl)
theorem dX2_houseByMiddle_28 : decode cX2_houseByMiddle 28 = .ok (.bipush 7, 2) := dc_16 (a0 := 7) (dc_nn (k := 28) aX2_houseByMiddle_0 rfl) (by decide)
theorem dX2_houseByMiddle_30 : decode cX2_houseByMiddle 30 = .ok (.if_icmp .ge 10, 3) := dc_162 (a0 := 0) (b0 := 10) (dc_nn (k := 30) aX2_houseByMiddle_0 rfl) (by decide)
theorem dX2_houseByMiddle_33 : decode cX2_houseByMiddle 33 = .ok (.iload_n 3, 1) := dc_29 (dc_nn (k := 33) aX2_houseByMiddle_0 rfl)
theorem dX2_houseByMiddle_34 : decode cX2_houseByMiddle 34 = .ok (.bipush 6, 2) := dc_16 (a0 := 6) (dc_nn (k := 34) aX2_houseByMiddle_0 rfl) (by decide)
theorem dX2_houseByMiddle_36 : decode cX2_houseByMiddle 36 = .ok (.iadd, 1) := dc_96 (dc_nn (k := 36) aX2_houseByMiddle_0 rfl)
theorem dX2_houseByMiddle_37 : decode cX2_houseByMiddle 37 = .ok (.goto 7, 3) := dc_167 (a0 := 0) (b0 := 7) (dc_nn (k := 37) aX2_houseByMiddle_0 rfl) (by decide)
theorem dX2_houseByMiddle_40 : decode cX2_houseByMiddle 40 = .ok (.iload_n 3, 1) := dc_29 aX2_houseByMiddle_40
theorem dX2_houseByMiddle_41 : decode cX2_houseByMiddle 41 = .ok (.bipush 6, 2) := dc_16 (a0 := 6) (dc_nn (k := 1) aX2_houseByMiddle_40 rfl) (by decide)
theorem dX2_houseByMiddle_43 : decode cX2_houseByMiddle 43 = .ok (.isub, 1) := dc_100 (dc_nn (k := 3) aX2_houseByMiddle_40 rfl)
theorem dX2_houseByMiddle_44 : decode cX2_houseByMiddle 44 = .ok (.istore 5, 2) := dc_54 (a0 := 5) (dc_nn (k := 4) aX2_houseByMiddle_40 rfl)
theorem dX2_houseByMiddle_46 : decode cX2_houseByMiddle 46 = .ok (.aload_n 0, 1) := dc_42 (dc_nn (k := 6) aX2_houseByMiddle_40 rfl)
theorem dX2_houseByMiddle_47 : decode cX2_houseByMiddle 47 = .ok (.iload_n 2, 1) := dc_28 (dc_nn (k := 7) aX2_houseByMiddle_40 rfl)
theorem dX2_houseByMiddle_48 : decode cX2_houseByMiddle 48 = .ok (.bipush 60, 2) := dc_16 (a0 := 60) (dc_nn (k := 8) aX2_houseByMiddle_40 rfl) (by decide)
theorem dX2_houseByMiddle_50 : decode cX2_houseByMiddle 50 = .ok (.iload_n 1, 1) := dc_27 (dc_nn (k := 10) aX2_houseByMiddle_40 rfl)
theorem dX2_houseByMiddle_51 : decode cX2_houseByMiddle 51 = .ok (.imul, 1) := dc_104 (dc_nn (k := 11) aX2_houseByMiddle_40 rfl)
theorem dX2_houseByMiddle_52 : decode cX2_houseByMiddle 52 = .ok (.invokevirtual 78, 3) := dc_182 (a0 := 0) (b0 := 78) (dc_nn (k := 12) aX2_houseByMiddle_40 rfl)
theorem dX2_houseByMiddle_55 : decode cX2_houseByMiddle 55 = .ok (.bipush 60, 2) := dc_16 (a0 := 60) (dc_nn (k := 15) aX2_houseByMiddle_40 rfl) (by decide)
theorem dX2_houseByMiddle_57 : decode cX2_houseByMiddle 57 = .ok (.idiv, 1) := dc_108 (dc_nn (k := 17) aX2_houseByMiddle_40 rfl)
theorem dX2_houseByMiddle_58 : decode cX2_houseByMiddle 58 = .ok (.istore 6, 2) := dc_54 (a0 := 6) (dc_nn (k := 18) aX2_houseByMiddle_40 rfl)
theorem dX2_houseByMiddle_60 : decode cX2_houseByMiddle 60 = .ok (.iload 5, 2) := dc_21 (a0 := 5) (dc_nn (k := 20) aX2_houseByMiddle_40 rfl)
theorem dX2_houseByMiddle_62 : decode cX2_houseByMiddle 62 = .ok (.bipush 10, 2) := dc_16 (a0 := 10) (dc_nn (k := 22) aX2_houseByMiddle_40 rfl) (by decide)
theorem dX2_houseByMiddle_64 : decode cX2_houseByMiddle 64 = .ok (.if_icmp .lt 29, 3) := dc_161 (a0 := 0) (b0 := 29) (dc_nn (k := 24) aX2_houseByMiddle_40 rfl) (by decide)
theorem dX2_houseByMiddle_67 : decode cX2_houseByMiddle 67 = .ok (.iload 6, 2) := dc_21 (a0 := 6) (dc_nn (k := 27) aX2_houseByMiddle_40 rfl)
theorem dX2_houseByMiddle_69 : decode cX2_houseByMiddle 69 = .ok (.iload 5, 2) := dc_21 (a0 := 5) (dc_nn (k := 29) aX2_houseByMiddle_40 rfl)
theorem dX2_houseByMiddle_71 : decode cX2_houseByMiddle 71 = .ok (.bipush 10, 2) := dc_16 (a0 := 10) (dc_nn (k := 31) aX2_houseByMiddle_40 rfl) (by decide)
theorem dX2_houseByMiddle_73 : decode cX2_houseByMiddle 73 = .ok (.isub, 1) := dc_100 (dc_nn (k := 33) aX2_houseByMiddle_40 rfl)
theorem dX2_houseByMiddle_74 : decode cX2_houseByMiddle 74 = .ok (.iload_n 1, 1) := dc_27 (dc_nn (k := 34) aX2_houseByMiddle_40 rfl)
theorem dX2_houseByMiddle_75 : decode cX2_houseByMiddle 75 = .ok (.iload 6, 2) := dc_21 (a0 := 6) (dc_nn (k := 35) aX2_houseByMiddle_40 rfl)
theorem dX2_houseByMiddle_77 : decode cX2_houseByMiddle 77 = .ok (.isub, 1) := dc_100 (dc_nn (k := 37) aX2_houseByMiddle_40 rfl)
theorem dX2_houseByMiddle_78 : decode cX2_houseByMiddle 78 = .ok (.sipush 360, 3) := dc_17 (a0 := 1) (b0 := 104) (dc_nn (k := 38) aX2_houseByMiddle_40 rfl) (by decide)
theorem dX2_houseByMiddle_81 : decode cX2_houseByMiddle 81 = .ok (.invokestatic 64, 3) := dc_184 (a0 := 0) (b0 := 64) aX2_houseByMiddle_81
theorem dX2_houseByMiddle_84 : decode cX2_houseByMiddle 84 = .ok (.imul, 1) := dc_104 (dc_nn (k := 3) aX2_houseByMiddle_81 rfl)
theorem dX2_houseByMiddle_85 : decode cX2_houseByMiddle 85 = .ok (.iconst 3, 1) := dc_6 (dc_nn (k := 4) aX2_houseByMiddle_81 rfl)
theorem dX2_houseByMiddle_86 : decode cX2_houseByMiddle 86 = .ok (.idiv, 1) := dc_108 (dc_nn (k := 5) aX2_houseByMiddle_81 rfl)
theorem dX2_houseByMiddle_87 : decode cX2_houseByMiddle 87 = .ok (.iadd, 1) := dc_96 (dc_nn (k := 6) aX2_houseByMiddle_81 rfl)
theorem dX2_houseByMiddle_88 : decode cX2_houseByMiddle 88 = .ok (.istore 7, 2) := dc_54 (a0 := 7) (dc_nn (k := 7) aX2_houseByMiddle_81 rfl)
theorem dX2_houseByMiddle_90 : decode cX2_houseByMiddle 90 = .ok (.goto 28, 3) := dc_167 (a0 := 0) (b0 := 28) (dc_nn (k := 9) aX2_houseByMiddle_81 rfl) (by decide)
theorem dX2_houseByMiddle_93 : decode cX2_houseByMiddle 93 = .ok (.iload_n 1, 1) := dc_27 (dc_nn (k := 12) aX2_houseByMiddle_81 rfl)
theorem dX2_houseByMiddle_94 : decode cX2_houseByMiddle 94 = .ok (.iload 5, 2) := dc_21 (a0 := 5) (dc_nn (k := 13) aX2_houseByMiddle_81 rfl)
theorem dX2_houseByMiddle_96 : decode cX2_houseByMiddle 96 = .ok (.iconst 1, 1) := dc_4 (dc_nn (k := 15) aX2_houseByMiddle_81 rfl)
theorem dX2_houseByMiddle_97 : decode cX2_houseByMiddle 97 = .ok (.isub, 1) := dc_100 (dc_nn (k := 16) aX2_houseByMiddle_81 rfl)
theorem dX2_houseByMiddle_98 : decode cX2_houseByMiddle 98 = .ok (.iload 6, 2) := dc_21 (a0 := 6) (dc_nn (k := 17) aX2_houseByMiddle_81 rfl)
theorem dX2_houseByMiddle_100 : decode cX2_houseByMiddle 100 = .ok (.sipush 180, 3) := dc_17 (a0 := 0) (b0 := 180) (dc_nn (k := 19) aX2_houseByMiddle_81 rfl) (by decide)
theorem dX2_houseByMiddle_103 : decode cX2_houseByMiddle 103 = .ok (.iadd, 1) := dc_96 (dc_nn (k := 22) aX2_houseByMiddle_81 rfl)
theorem dX2_houseByMiddle_104 : decode cX2_houseByMiddle 104 = .ok (.iload_n 1, 1) := dc_27 (dc_nn (k := 23) aX2_houseByMiddle_81 rfl)
theorem dX2_houseByMiddle_105 : decode cX2_houseByMiddle 105 = .ok (.isub, 1) := dc_100 (dc_nn (k := 24) aX2_houseByMiddle_81 rfl)
theorem dX2_houseByMiddle_106 : decode cX2_houseByMiddle 106 = .ok (.sipush 360, 3) := dc_17 (a0 := 1) (b0 := 104) (dc_nn (k := 25) aX2_houseByMiddle_81 rfl) (by decide)
theorem dX2_houseByMiddle_109 : decode cX2_houseByMiddle 109 = .ok (.invokestatic 64, 3) := dc_184 (a0 := 0) (b0 := 64) (dc_nn (k := 28) aX2_houseByMiddle_81 rfl)
theorem dX2_houseByMiddle_112 : decode cX2_houseByMiddle 112 = .ok (.imul, 1) := dc_104 (dc_nn (k := 31) aX2_houseByMiddle_81 rfl)
theorem dX2_houseByMiddle_113 : decode cX2_houseByMiddle 113 = .ok (.iconst 3, 1) := dc_6 (dc_nn (k := 32) aX2_houseByMiddle_81 rfl)
theorem dX2_houseByMiddle_114 : decode cX2_houseByMiddle 114 = .ok (.idiv, 1) := dc_108 (dc_nn (k := 33) aX2_houseByMiddle_81 rfl)
theorem dX2_houseByMiddle_115 : decode cX2_houseByMiddle 115 = .ok (.iadd, 1) := dc_96 (dc_nn (k := 34) aX2_houseByMiddle_81 rfl)
theorem dX2_houseByMiddle_116 : decode cX2_houseByMiddle 116 = .ok (.istore 7, 2) := dc_54 (a0 := 7) (dc_nn (k := 35) aX2_houseByMiddle_81 rfl)
theorem dX2_houseByMiddle_118 : decode cX2_houseByMiddle 118 = .ok (.iload 4, 2) := dc_21 (a0 := 4) (dc_nn (k := 37) aX2_houseByMiddle_81 rfl)
theorem dX2_houseByMiddle_120 : decode cX2_houseByMiddle 120 = .ok (.ifCond .eq 12, 3) := dc_153 (a0 := 0) (b0 := 12) (dc_nn (k := 39) aX2_houseByMiddle_81 rfl) (by decide)
theorem dX2_houseByMiddle_123 : decode cX2_houseByMiddle 123 = .ok (.iload 7, 2) := dc_21 (a0 := 7) aX2_houseByMiddle_123
theorem dX2_houseByMiddle_125 : decode cX2_houseByMiddle 125 = .ok (.sipush 180, 3) := dc_17 (a0 := 0) (b0 := 180) (dc_nn (k := 2) aX2_houseByMiddle_123 rfl) (by decide)
theorem dX2_houseByMiddle_128 : decode cX2_houseByMiddle 128 = .ok (.iadd, 1) := dc_96 (dc_nn (k := 5) aX2_houseByMiddle_123 rfl)
theorem dX2_houseByMiddle_129 : decode cX2_houseByMiddle 129 = .ok (.goto 5, 3) := dc_167 (a0 := 0) (b0 := 5) (dc_nn (k := 6) aX2_houseByMiddle_123 rfl) (by decide)
theorem dX2_houseByMiddle_132 : decode cX2_houseByMiddle 132 = .ok (.iload 7, 2) := dc_21 (a0 := 7) (dc_nn (k := 9) aX2_houseByMiddle_123 rfl)
theorem dX2_houseByMiddle_134 : decode cX2_houseByMiddle 134 = .ok (.sipush 360, 3) := dc_17 (a0 := 1) (b0 := 104) (dc_nn (k := 11) aX2_houseByMiddle_123 rfl) (by decide)
theorem dX2_houseByMiddle_137 : decode cX2_houseByMiddle 137 = .ok (.irem, 1) := dc_112 (dc_nn (k := 14) aX2_houseByMiddle_123 rfl)
theorem dX2_houseByMiddle_138 : decode cX2_houseByMiddle 138 = .ok (.ireturn, 1) := dc_172 (dc_nn (k := 15) aX2_houseByMiddle_123 rfl)
noncomputable def sX3_init_0 : List Nat := 42 :: 183 :: 0 :: 3 :: 42 :: 16 :: 7 :: 188 :: 10 :: 181 :: 0 :: 9 :: 177 :: []
theorem aX3_init_0 : dc_at cX3_init 0 sX3_init_0 := dc_base (by decide +kernel)
theorem dX3_init_0 : decode cX3_init 0 = .ok (.aload_n 0, 1) := dc_42 aX3_init_0
theorem dX3_init_1 : decode cX3_init 1 = .ok (.invokespecial 3, 3) := dc_183 (a0 := 0) (b0 := 3) (dc_nn (k := 1) aX3_init_0 rfl)
theorem dX3_init_4 : decode cX3_init 4 = .ok (.aload_n 0, 1) := dc_42 (dc_nn (k := 4) aX3_init_0 rfl)
theorem dX3_init_5 : decode cX3_init 5 = .ok (.bipush 7, 2) := dc_16 (a0 := 7) (dc_nn (k := 5) aX3_init_0 rfl) (by decide)
theorem dX3_init_7 : decode cX3_init 7 = .ok (.newarray .int, 2) := dc_188_10 (dc_nn (k := 7) aX3_init_0 rfl)
theorem dX3_init_9 : decode cX3_init 9 = .ok (.putfield 9, 3) := dc_181 (a0 := 0) (b0 := 9) (dc_nn (k := 9) aX3_init_0 rfl)
theorem dX3_init_12 : decode cX3_init 12 = .ok (.return_, 1) := dc_177 (dc_nn (k := 12) aX3_init_0 rfl)
set_option maxRecDepth 20000 in
theorem ggX3_costOn_X1_degreeOf : GoodIn wsX3_costOn wsX1_degreeOf := goodIn_k _ [[6, 0, 51, 0]] (by rfl) (by decide +kernel)
set_option maxRecDepth 20000 in
theorem gX3_costOn_X1_degreeOf : GoodIn wsX3_costOn (wsV RX3 15 RX1 yX1_degreeOf wsX1_degreeOf) := goodIn_app (goodIn_k _ [[2, 0, 0, 0]] (by rfl) (gw_V _ _ _ _)) ggX3_costOn_X1_degreeOf
set_option maxRecDepth 20000 in
theorem ggX3_costOn_X5_degreeOn : GoodIn wsX3_costOn wsX5_degreeOn := goodIn_k _ [[12, 0, 0, 0], [11, 4, 0, 0, 0, 0, 0, 0, 0, 0, 0, 0, 0, 0, 0, 0, 0, 0, 0, 0, 0, 0, 0, 0, 14, 0, 0, 0, 0, 0]] (by rfl) (by decide +kernel)
set_option maxRecDepth 20000 in
theorem gX3_costOn_X5_degreeOn : GoodIn wsX3_costOn (wsV RX3 27 RX5 yX5_degreeOn wsX5_degreeOn) := goodIn_app (goodIn_k _ [[8, 0, 0, 0]] (by rfl) (gw_V _ _ _ _)) ggX3_costOn_X5_degreeOn
set_option maxRecDepth 20000 in
theorem ggX3_costOn_X4_costBeside : GoodIn wsX3_costOn wsX4_costBeside := goodIn_k _ [[43, 0, 0, 0], [42, 4, 0, 0, 0, 0, 0, 8, 0]] (by rfl) (by decide +kernel)
set_option maxRecDepth 20000 in
theorem gX3_costOn_X4_costBeside : GoodIn wsX3_costOn (wsV RX3 31 RX4 yX4_costBeside wsX4_costBeside) := goodIn_app (goodIn_k _ [[39, 0, 0, 0]] (by rfl) (gw_V _ _ _ _)) ggX3_costOn_X4_costBeside
noncomputable def sX3_costOn_83 : List Nat := 182 :: 0 :: 31 :: 96 :: 54 :: 7 :: 132 :: 8 :: 1 :: 167 :: 255 :: 201 :: 21 :: 7 :: 172 :: []
noncomputable def sX3_costOn_41 : List Nat := 162 :: 0 :: 54 :: 21 :: 7 :: 21 :: 5 :: 163 :: 0 :: 47 :: 43 :: 28 :: 21 :: 8 :: 182 :: 0 :: 15 :: 54 :: 9 :: 21 :: 9 :: 2 :: 159 :: 0 :: 26 :: 21 :: 7 :: 42 :: 180 :: 0 :: 21 :: 21 :: 9 :: 42 :: 29 :: 21 :: 8 :: 21 :: 4 :: 182 :: 0 :: 27 :: sX3_costOn_83
noncomputable def sX3_costOn_0 : List Nat := 43 :: 28 :: 16 :: 21 :: 182 :: 0 :: 15 :: 54 :: 6 :: 21 :: 6 :: 2 :: 159 :: 0 :: 19 :: 21 :: 6 :: 21 :: 4 :: 17 :: 1 :: 109 :: 112 :: 159 :: 0 :: 8 :: 16 :: 30 :: 167 :: 0 :: 4 :: 3 :: 54 :: 7 :: 3 :: 54 :: 8 :: 21 :: 8 :: 16 :: 7 :: sX3_costOn_41
theorem aX3_costOn_0 : dc_at cX3_costOn 0 sX3_costOn_0 := dc_base (by decide +kernel)
theorem aX3_costOn_41 : dc_at cX3_costOn 41 sX3_costOn_41 := dc_nn (k := 41) aX3_costOn_0 rfl
theorem aX3_costOn_83 : dc_at cX3_costOn 83 sX3_costOn_83 := dc_nn (k := 42) aX3_costOn_41 rfl
theorem dX3_costOn_0 : decode cX3_costOn 0 = .ok (.aload_n 1, 1) := dc_43 aX3_costOn_0
theorem dX3_costOn_1 : decode cX3_costOn 1 = .ok (.iload_n 2, 1) := dc_28 (dc_nn (k := 1) aX3_costOn_0 rfl)
theorem dX3_costOn_2 : decode cX3_costOn 2 = .ok (.bipush 21, 2) := dc_16 (a0 := 21) (dc_nn (k := 2) aX3_costOn_0 rfl) (by decide)
theorem dX3_costOn_4 : decode cX3_costOn 4 = .ok (.invokevirtual 15, 3) := dc_182 (a0 := 0) (b0 := 15) (dc_nn (k := 4) aX3_costOn_0 rfl)
theorem dX3_costOn_7 : decode cX3_costOn 7 = .ok (.istore 6, 2) := dc_54 (a0 := 6) (dc_nn (k := 7) aX3_costOn_0 rfl)
theorem dX3_costOn_9 : decode cX3_costOn 9 = .ok (.iload 6, 2) := dc_21 (a0 := 6) (dc_nn (k := 9) aX3_costOn_0 rfl)
theorem dX3_costOn_11 : decode cX3_costOn 11 = .ok (.iconst (-1), 1) := dc_2 (dc_nn (k := 11) aX3_costOn_0 rfl)
theorem dX3_costOn_12 : decode cX3_costOn 12 = .ok (.if_icmp .eq 19, 3) := dc_159 (a0 := 0) (b0 := 19) (dc_nn (k := 12) aX3_costOn_0 rfl) (by decide)
theorem dX3_costOn_15 : decode cX3_costOn 15 = .ok (.iload 6, 2) := dc_21 (a0 := 6) (dc_nn (k := 15) aX3_costOn_0 rfl)
theorem dX3_costOn_17 : decode cX3_costOn 17 = .ok (.iload 4, 2) := dc_21 (a0 := 4) (dc_nn (k := 17) aX3_costOn_0 rfl)
theorem dX3_costOn_19 : decode cX3_costOn 19 = .ok (.sipush 365, 3) := dc_17 (a0 := 1) (b0 := 109) (dc_nn (k := 19) aX3_costOn_0 rfl) (by decide)
theorem dX3_costOn_22 : decode cX3_costOn 22 = .ok (.irem, 1) := dc_112 (dc_nn (k := 22) aX3_costOn_0 rfl)
theorem dX3_costOn_23 : decode cX3_costOn 23 = .ok (.if_icmp .eq 8, 3) := dc_159 (a0 := 0) (b0 := 8) (dc_nn (k := 23) aX3_costOn_0 rfl) (by decide)
theorem dX3_costOn_26 : decode cX3_costOn 26 = .ok (.bipush 30, 2) := dc_16 (a0 := 30) (dc_nn (k := 26) aX3_costOn_0 rfl) (by decide)
theorem dX3_costOn_28 : decode cX3_costOn 28 = .ok (.goto 4, 3) := dc_167 (a0 := 0) (b0 := 4) (dc_nn (k := 28) aX3_costOn_0 rfl) (by decide)
theorem dX3_costOn_31 : decode cX3_costOn 31 = .ok (.iconst 0, 1) := dc_3 (dc_nn (k := 31) aX3_costOn_0 rfl)
theorem dX3_costOn_32 : decode cX3_costOn 32 = .ok (.istore 7, 2) := dc_54 (a0 := 7) (dc_nn (k := 32) aX3_costOn_0 rfl)
theorem dX3_costOn_34 : decode cX3_costOn 34 = .ok (.iconst 0, 1) := dc_3 (dc_nn (k := 34) aX3_costOn_0 rfl)
theorem dX3_costOn_35 : decode cX3_costOn 35 = .ok (.istore 8, 2) := dc_54 (a0 := 8) (dc_nn (k := 35) aX3_costOn_0 rfl)
theorem dX3_costOn_37 : decode cX3_costOn 37 = .ok (.iload 8, 2) := dc_21 (a0 := 8) (dc_nn (k := 37) aX3_costOn_0 rfl)
theorem dX3_costOn_39 : decode cX3_costOn 39 = .ok (.bipush 7, 2) := dc_16 (a0 := 7) (dc_nn (k := 39) aX3_costOn_0 rfl) (by decide)
theorem dX3_costOn_41 : decode cX3_costOn 41 = .ok (.if_icmp .ge 54, 3) := dc_162 (a0 := 0) (b0 := 54) aX3_costOn_41 (by decide)
theorem dX3_costOn_44 : decode cX3_costOn 44 = .ok (.iload 7, 2) := dc_21 (a0 := 7) (dc_nn (k := 3) aX3_costOn_41 rfl)
theorem dX3_costOn_46 : decode cX3_costOn 46 = .ok (.iload 5, 2) := dc_21 (a0 := 5) (dc_nn (k := 5) aX3_costOn_41 rfl)
theorem dX3_costOn_48 : decode cX3_costOn 48 = .ok (.if_icmp .gt 47, 3) := dc_163 (a0 := 0) (b0 := 47) (dc_nn (k := 7) aX3_costOn_41 rfl) (by decide)
theorem dX3_costOn_51 : decode cX3_costOn 51 = .ok (.aload_n 1, 1) := dc_43 (dc_nn (k := 10) aX3_costOn_41 rfl)
theorem dX3_costOn_52 : decode cX3_costOn 52 = .ok (.iload_n 2, 1) := dc_28 (dc_nn (k := 11) aX3_costOn_41 rfl)
theorem dX3_costOn_53 : decode cX3_costOn 53 = .ok (.iload 8, 2) := dc_21 (a0 := 8) (dc_nn (k := 12) aX3_costOn_41 rfl)
theorem dX3_costOn_55 : decode cX3_costOn 55 = .ok (.invokevirtual 15, 3) := dc_182 (a0 := 0) (b0 := 15) (dc_nn (k := 14) aX3_costOn_41 rfl)
theorem dX3_costOn_58 : decode cX3_costOn 58 = .ok (.istore 9, 2) := dc_54 (a0 := 9) (dc_nn (k := 17) aX3_costOn_41 rfl)
theorem dX3_costOn_60 : decode cX3_costOn 60 = .ok (.iload 9, 2) := dc_21 (a0 := 9) (dc_nn (k := 19) aX3_costOn_41 rfl)
theorem dX3_costOn_62 : decode cX3_costOn 62 = .ok (.iconst (-1), 1) := dc_2 (dc_nn (k := 21) aX3_costOn_41 rfl)
theorem dX3_costOn_63 : decode cX3_costOn 63 = .ok (.if_icmp .eq 26, 3) := dc_159 (a0 := 0) (b0 := 26) (dc_nn (k := 22) aX3_costOn_41 rfl) (by decide)
theorem dX3_costOn_66 : decode cX3_costOn 66 = .ok (.iload 7, 2) := dc_21 (a0 := 7) (dc_nn (k := 25) aX3_costOn_41 rfl)
theorem dX3_costOn_68 : decode cX3_costOn 68 = .ok (.aload_n 0, 1) := dc_42 (dc_nn (k := 27) aX3_costOn_41 rfl)
theorem dX3_costOn_69 : decode cX3_costOn 69 = .ok (.getfield 21, 3) := dc_180 (a0 := 0) (b0 := 21) (dc_nn (k := 28) aX3_costOn_41 rfl)
theorem dX3_costOn_72 : decode cX3_costOn 72 = .ok (.iload 9, 2) := dc_21 (a0 := 9) (dc_nn (k := 31) aX3_costOn_41 rfl)
theorem dX3_costOn_74 : decode cX3_costOn 74 = .ok (.aload_n 0, 1) := dc_42 (dc_nn (k := 33) aX3_costOn_41 rfl)
theorem dX3_costOn_75 : decode cX3_costOn 75 = .ok (.iload_n 3, 1) := dc_29 (dc_nn (k := 34) aX3_costOn_41 rfl)
theorem dX3_costOn_76 : decode cX3_costOn 76 = .ok (.iload 8, 2) := dc_21 (a0 := 8) (dc_nn (k := 35) aX3_costOn_41 rfl)
theorem dX3_costOn_78 : decode cX3_costOn 78 = .ok (.iload 4, 2) := dc_21 (a0 := 4) (dc_nn (k := 37) aX3_costOn_41 rfl)
theorem dX3_costOn_80 : decode cX3_costOn 80 = .ok (.invokevirtual 27, 3) := dc_182 (a0 := 0) (b0 := 27) (dc_nn (k := 39) aX3_costOn_41 rfl)
theorem dX3_costOn_83 : decode cX3_costOn 83 = .ok (.invokevirtual 31, 3) := dc_182 (a0 := 0) (b0 := 31) aX3_costOn_83
theorem dX3_costOn_86 : decode cX3_costOn 86 = .ok (.iadd, 1) := dc_96 (dc_nn (k := 3) aX3_costOn_83 rfl)
theorem dX3_costOn_87 : decode cX3_costOn 87 = .ok (.istore 7, 2) := dc_54 (a0 := 7) (dc_nn (k := 4) aX3_costOn_83 rfl)
theorem dX3_costOn_89 : decode cX3_costOn 89 = .ok (.iinc 8 1, 3) := dc_132 (a0 := 8) (a1 := 1) (dc_nn (k := 6) aX3_costOn_83 rfl) (by decide)
theorem dX3_costOn_92 : decode cX3_costOn 92 = .ok (.goto (-55), 3) := dc_167 (a0 := 255) (b0 := 201) (dc_nn (k := 9) aX3_costOn_83 rfl) (by decide)
theorem dX3_costOn_95 : decode cX3_costOn 95 = .ok (.iload 7, 2) := dc_21 (a0 := 7) (dc_nn (k := 12) aX3_costOn_83 rfl)
theorem dX3_costOn_97 : decode cX3_costOn 97 = .ok (.ireturn, 1) := dc_172 (dc_nn (k := 14) aX3_costOn_83 rfl)
set_option maxRecDepth 20000 in
theorem ggX3_setsAt_X5_degreeOn : GoodIn wsX3_setsAt wsX5_degreeOn := goodIn_k _ [[5, 0, 0, 0], [4, 4, 0, 0, 0, 0, 0, 0, 0, 0, 0, 0, 0, 0, 0, 0, 0, 0, 0, 0, 0, 0, 0, 0, 0, 0, 0, 0, 0, 0]] (by rfl) (by decide +kernel)
set_option maxRecDepth 20000 in
theorem gX3_setsAt_X5_degreeOn : GoodIn wsX3_setsAt (wsV RX3 27 RX5 yX5_degreeOn wsX5_degreeOn) := goodIn_app (goodIn_k _ [[1, 0, 0, 0]] (by rfl) (gw_V _ _ _ _)) ggX3_setsAt_X5_degreeOn
noncomputable def sX3_setsAt_41 : List Nat := 172 :: []
noncomputable def sX3_setsAt_0 : List Nat := 3 :: 54 :: 4 :: 3 :: 54 :: 5 :: 21 :: 5 :: 7 :: 162 :: 0 :: 30 :: 42 :: 21 :: 5 :: 28 :: 29 :: 182 :: 0 :: 27 :: 27 :: 160 :: 0 :: 12 :: 21 :: 4 :: 4 :: 21 :: 5 :: 120 :: 128 :: 54 :: 4 :: 132 :: 5 :: 1 :: 167 :: 255 :: 226 :: 21 :: 4 :: sX3_setsAt_41
theorem aX3_setsAt_0 : dc_at cX3_setsAt 0 sX3_setsAt_0 := dc_base (by decide +kernel)
theorem aX3_setsAt_41 : dc_at cX3_setsAt 41 sX3_setsAt_41 := dc_nn (k := 41) aX3_setsAt_0 rfl
theorem dX3_setsAt_0 : decode cX3_setsAt 0 = .ok (.iconst 0, 1) := dc_3 aX3_setsAt_0
theorem dX3_setsAt_1 : decode cX3_setsAt 1 = .ok (.istore 4, 2) := dc_54 (a0 := 4) (dc_nn (k := 1) aX3_setsAt_0 rfl)
theorem dX3_setsAt_3 : decode cX3_setsAt 3 = .ok (.iconst 0, 1) := dc_3 (dc_nn (k := 3) aX3_setsAt_0 rfl)
theorem dX3_setsAt_4 : decode cX3_setsAt 4 = .ok (.istore 5, 2) := dc_54 (a0 := 5) (dc_nn (k := 4) aX3_setsAt_0 rfl)
theorem dX3_setsAt_6 : decode cX3_setsAt 6 = .ok (.iload 5, 2) := dc_21 (a0 := 5) (dc_nn (k := 6) aX3_setsAt_0 rfl)
theorem dX3_setsAt_8 : decode cX3_setsAt 8 = .ok (.iconst 4, 1) := dc_7 (dc_nn (k := 8) aX3_setsAt_0 rfl)
theorem dX3_setsAt_9 : decode cX3_setsAt 9 = .ok (.if_icmp .ge 30, 3) := dc_162 (a0 := 0) (b0 := 30) (dc_nn (k := 9) aX3_setsAt_0 rfl) (by decide)
theorem dX3_setsAt_12 : decode cX3_setsAt 12 = .ok (.aload_n 0, 1) := dc_42 (dc_nn (k := 12) aX3_setsAt_0 rfl)
theorem dX3_setsAt_13 : decode cX3_setsAt 13 = .ok (.iload 5, 2) := dc_21 (a0 := 5) (dc_nn (k := 13) aX3_setsAt_0 rfl)
theorem dX3_setsAt_15 : decode cX3_setsAt 15 = .ok (.iload_n 2, 1) := dc_28 (dc_nn (k := 15) aX3_setsAt_0 rfl)
theorem dX3_setsAt_16 : decode cX3_setsAt 16 = .ok (.iload_n 3, 1) := dc_29 (dc_nn (k := 16) aX3_setsAt_0 rfl)
theorem dX3_setsAt_17 : decode cX3_setsAt 17 = .ok (.invokevirtual 27, 3) := dc_182 (a0 := 0) (b0 := 27) (dc_nn (k := 17) aX3_setsAt_0 rfl)
theorem dX3_setsAt_20 : decode cX3_setsAt 20 = .ok (.iload_n 1, 1) := dc_27 (dc_nn (k := 20) aX3_setsAt_0 rfl)
theorem dX3_setsAt_21 : decode cX3_setsAt 21 = .ok (.if_icmp .ne 12, 3) := dc_160 (a0 := 0) (b0 := 12) (dc_nn (k := 21) aX3_setsAt_0 rfl) (by decide)
theorem dX3_setsAt_24 : decode cX3_setsAt 24 = .ok (.iload 4, 2) := dc_21 (a0 := 4) (dc_nn (k := 24) aX3_setsAt_0 rfl)
theorem dX3_setsAt_26 : decode cX3_setsAt 26 = .ok (.iconst 1, 1) := dc_4 (dc_nn (k := 26) aX3_setsAt_0 rfl)
theorem dX3_setsAt_27 : decode cX3_setsAt 27 = .ok (.iload 5, 2) := dc_21 (a0 := 5) (dc_nn (k := 27) aX3_setsAt_0 rfl)
theorem dX3_setsAt_29 : decode cX3_setsAt 29 = .ok (.ishl, 1) := dc_120 (dc_nn (k := 29) aX3_setsAt_0 rfl)
theorem dX3_setsAt_30 : decode cX3_setsAt 30 = .ok (.ior, 1) := dc_128 (dc_nn (k := 30) aX3_setsAt_0 rfl)
theorem dX3_setsAt_31 : decode cX3_setsAt 31 = .ok (.istore 4, 2) := dc_54 (a0 := 4) (dc_nn (k := 31) aX3_setsAt_0 rfl)
theorem dX3_setsAt_33 : decode cX3_setsAt 33 = .ok (.iinc 5 1, 3) := dc_132 (a0 := 5) (a1 := 1) (dc_nn (k := 33) aX3_setsAt_0 rfl) (by decide)
theorem dX3_setsAt_36 : decode cX3_setsAt 36 = .ok (.goto (-30), 3) := dc_167 (a0 := 255) (b0 := 226) (dc_nn (k := 36) aX3_setsAt_0 rfl) (by decide)
theorem dX3_setsAt_39 : decode cX3_setsAt 39 = .ok (.iload 4, 2) := dc_21 (a0 := 4) (dc_nn (k := 39) aX3_setsAt_0 rfl)
theorem dX3_setsAt_41 : decode cX3_setsAt 41 = .ok (.ireturn, 1) := dc_172 aX3_setsAt_41
set_option maxRecDepth 20000 in
theorem ggX3_isMixed_X1_degreeOf : GoodIn wsX3_isMixed wsX1_degreeOf := goodIn_k _ [[5, 0, 35, 0]] (by rfl) (by decide +kernel)
set_option maxRecDepth 20000 in
theorem gX3_isMixed_X1_degreeOf : GoodIn wsX3_isMixed (wsV RX3 15 RX1 yX1_degreeOf wsX1_degreeOf) := goodIn_app (goodIn_k _ [[1, 0, 0, 0]] (by rfl) (gw_V _ _ _ _)) ggX3_isMixed_X1_degreeOf
set_option maxRecDepth 20000 in
theorem ggX3_isMixed_X3_setsAt : GoodIn wsX3_isMixed wsX3_setsAt := goodIn_k _ [[10, 0, 0, 0, 0, 0, 0, 0, 0, 0, 0, 0, 0, 0, 0, 0, 0, 0, 0, 0, 0, 0, 0, 0, 0, 0, 0, 0, 0, 0, 0, 0, 2, 0, 0, 0, 0, 0]] (by rfl) (by decide +kernel)
set_option maxRecDepth 20000 in
theorem gX3_isMixed_X3_setsAt : GoodIn wsX3_isMixed (va_wsS RX3 36 yX3_setsAt wsX3_setsAt) := goodIn_app (goodIn_k _ [[7, 0, 0]] (by rfl) (gw_S _ _ _ _)) ggX3_isMixed_X3_setsAt
noncomputable def sX3_isMixed_40 : List Nat := 21 :: 7 :: 154 :: 0 :: 5 :: 3 :: 172 :: 21 :: 4 :: 21 :: 7 :: 126 :: 54 :: 4 :: 132 :: 5 :: 1 :: 167 :: 255 :: 206 :: 21 :: 4 :: 154 :: 0 :: 7 :: 4 :: 167 :: 0 :: 4 :: 3 :: 172 :: []
noncomputable def sX3_isMixed_0 : List Nat := 16 :: 15 :: 54 :: 4 :: 3 :: 54 :: 5 :: 21 :: 5 :: 16 :: 7 :: 162 :: 0 :: 49 :: 43 :: 28 :: 21 :: 5 :: 182 :: 0 :: 15 :: 54 :: 6 :: 21 :: 6 :: 2 :: 159 :: 0 :: 28 :: 42 :: 21 :: 6 :: 21 :: 5 :: 29 :: 184 :: 0 :: 36 :: 54 :: 7 :: sX3_isMixed_40
theorem aX3_isMixed_0 : dc_at cX3_isMixed 0 sX3_isMixed_0 := dc_base (by decide +kernel)
theorem aX3_isMixed_40 : dc_at cX3_isMixed 40 sX3_isMixed_40 := dc_nn (k := 40) aX3_isMixed_0 rfl
theorem dX3_isMixed_0 : decode cX3_isMixed 0 = .ok (.bipush 15, 2) := dc_16 (a0 := 15) aX3_isMixed_0 (by decide)
theorem dX3_isMixed_2 : decode cX3_isMixed 2 = .ok (.istore 4, 2) := dc_54 (a0 := 4) (dc_nn (k := 2) aX3_isMixed_0 rfl)
theorem dX3_isMixed_4 : decode cX3_isMixed 4 = .ok (.iconst 0, 1) := dc_3 (dc_nn (k := 4) aX3_isMixed_0 rfl)
theorem dX3_isMixed_5 : decode cX3_isMixed 5 = .ok (.istore 5, 2) := dc_54 (a0 := 5) (dc_nn (k := 5) aX3_isMixed_0 rfl)
theorem dX3_isMixed_7 : decode cX3_isMixed 7 = .ok (.iload 5, 2) := dc_21 (a0 := 5) (dc_nn (k := 7) aX3_isMixed_0 rfl)
theorem dX3_isMixed_9 : decode cX3_isMixed 9 = .ok (.bipush 7, 2) := dc_16 (a0 := 7) (dc_nn (k := 9) aX3_isMixed_0 rfl) (by decide)
theorem dX3_isMixed_11 : decode cX3_isMixed 11 = .ok (.if_icmp .ge 49, 3) := dc_162 (a0 := 0) (b0 := 49) (dc_nn (k := 11) aX3_isMixed_0 rfl) (by decide)
theorem dX3_isMixed_14 : decode cX3_isMixed 14 = .ok (.aload_n 1, 1) := dc_43 (dc_nn (k := 14) aX3_isMixed_0 rfl)
theorem dX3_isMixed_15 : decode cX3_isMixed 15 = .ok (.iload_n 2, 1) := dc_28 (dc_nn (k := 15) aX3_isMixed_0 rfl)
theorem dX3_isMixed_16 : decode cX3_isMixed 16 = .ok (.iload 5, 2) := dc_21 (a0 := 5) (dc_nn (k := 16) aX3_isMixed_0 rfl)
theorem dX3_isMixed_18 : decode cX3_isMixed 18 = .ok (.invokevirtual 15, 3) := dc_182 (a0 := 0) (b0 := 15) (dc_nn (k := 18) aX3_isMixed_0 rfl)
theorem dX3_isMixed_21 : decode cX3_isMixed 21 = .ok (.istore 6, 2) := dc_54 (a0 := 6) (dc_nn (k := 21) aX3_isMixed_0 rfl)
theorem dX3_isMixed_23 : decode cX3_isMixed 23 = .ok (.iload 6, 2) := dc_21 (a0 := 6) (dc_nn (k := 23) aX3_isMixed_0 rfl)
theorem dX3_isMixed_25 : decode cX3_isMixed 25 = .ok (.iconst (-1), 1) := dc_2 (dc_nn (k := 25) aX3_isMixed_0 rfl)
theorem dX3_isMixed_26 : decode cX3_isMixed 26 = .ok (.if_icmp .eq 28, 3) := dc_159 (a0 := 0) (b0 := 28) (dc_nn (k := 26) aX3_isMixed_0 rfl) (by decide)
theorem dX3_isMixed_29 : decode cX3_isMixed 29 = .ok (.aload_n 0, 1) := dc_42 (dc_nn (k := 29) aX3_isMixed_0 rfl)
theorem dX3_isMixed_30 : decode cX3_isMixed 30 = .ok (.iload 6, 2) := dc_21 (a0 := 6) (dc_nn (k := 30) aX3_isMixed_0 rfl)
theorem dX3_isMixed_32 : decode cX3_isMixed 32 = .ok (.iload 5, 2) := dc_21 (a0 := 5) (dc_nn (k := 32) aX3_isMixed_0 rfl)
theorem dX3_isMixed_34 : decode cX3_isMixed 34 = .ok (.iload_n 3, 1) := dc_29 (dc_nn (k := 34) aX3_isMixed_0 rfl)
theorem dX3_isMixed_35 : decode cX3_isMixed 35 = .ok (.invokestatic 36, 3) := dc_184 (a0 := 0) (b0 := 36) (dc_nn (k := 35) aX3_isMixed_0 rfl)
theorem dX3_isMixed_38 : decode cX3_isMixed 38 = .ok (.istore 7, 2) := dc_54 (a0 := 7) (dc_nn (k := 38) aX3_isMixed_0 rfl)
theorem dX3_isMixed_40 : decode cX3_isMixed 40 = .ok (.iload 7, 2) := dc_21 (a0 := 7) aX3_isMixed_40
theorem dX3_isMixed_42 : decode cX3_isMixed 42 = .ok (.ifCond .ne 5, 3) := dc_154 (a0 := 0) (b0 := 5) (dc_nn (k := 2) aX3_isMixed_40 rfl) (by decide)
theorem dX3_isMixed_45 : decode cX3_isMixed 45 = .ok (.iconst 0, 1) := dc_3 (dc_nn (k := 5) aX3_isMixed_40 rfl)
theorem dX3_isMixed_46 : decode cX3_isMixed 46 = .ok (.ireturn, 1) := dc_172 (dc_nn (k := 6) aX3_isMixed_40 rfl)
theorem dX3_isMixed_47 : decode cX3_isMixed 47 = .ok (.iload 4, 2) := dc_21 (a0 := 4) (dc_nn (k := 7) aX3_isMixed_40 rfl)
theorem dX3_isMixed_49 : decode cX3_isMixed 49 = .ok (.iload 7, 2) := dc_21 (a0 := 7) (dc_nn (k := 9) aX3_isMixed_40 rfl)
theorem dX3_isMixed_51 : decode cX3_isMixed 51 = .ok (.iand, 1) := dc_126 (dc_nn (k := 11) aX3_isMixed_40 rfl)
theorem dX3_isMixed_52 : decode cX3_isMixed 52 = .ok (.istore 4, 2) := dc_54 (a0 := 4) (dc_nn (k := 12) aX3_isMixed_40 rfl)
theorem dX3_isMixed_54 : decode cX3_isMixed 54 = .ok (.iinc 5 1, 3) := dc_132 (a0 := 5) (a1 := 1) (dc_nn (k := 14) aX3_isMixed_40 rfl) (by decide)
theorem dX3_isMixed_57 : decode cX3_isMixed 57 = .ok (.goto (-50), 3) := dc_167 (a0 := 255) (b0 := 206) (dc_nn (k := 17) aX3_isMixed_40 rfl) (by decide)
theorem dX3_isMixed_60 : decode cX3_isMixed 60 = .ok (.iload 4, 2) := dc_21 (a0 := 4) (dc_nn (k := 20) aX3_isMixed_40 rfl)
theorem dX3_isMixed_62 : decode cX3_isMixed 62 = .ok (.ifCond .ne 7, 3) := dc_154 (a0 := 0) (b0 := 7) (dc_nn (k := 22) aX3_isMixed_40 rfl) (by decide)
theorem dX3_isMixed_65 : decode cX3_isMixed 65 = .ok (.iconst 1, 1) := dc_4 (dc_nn (k := 25) aX3_isMixed_40 rfl)
theorem dX3_isMixed_66 : decode cX3_isMixed 66 = .ok (.goto 4, 3) := dc_167 (a0 := 0) (b0 := 4) (dc_nn (k := 26) aX3_isMixed_40 rfl) (by decide)
theorem dX3_isMixed_69 : decode cX3_isMixed 69 = .ok (.iconst 0, 1) := dc_3 (dc_nn (k := 29) aX3_isMixed_40 rfl)
theorem dX3_isMixed_70 : decode cX3_isMixed 70 = .ok (.ireturn, 1) := dc_172 (dc_nn (k := 30) aX3_isMixed_40 rfl)
set_option maxRecDepth 20000 in
theorem ggX3_setSharers_X1_degreeOf : GoodIn wsX3_setSharers wsX1_degreeOf := goodIn_k _ [[6, 0, 36, 0]] (by rfl) (by decide +kernel)
set_option maxRecDepth 20000 in
theorem gX3_setSharers_X1_degreeOf : GoodIn wsX3_setSharers (wsV RX3 15 RX1 yX1_degreeOf wsX1_degreeOf) := goodIn_app (goodIn_k _ [[2, 0, 0, 0]] (by rfl) (gw_V _ _ _ _)) ggX3_setSharers_X1_degreeOf
set_option maxRecDepth 20000 in
theorem ggX3_setSharers_X3_setsAt : GoodIn wsX3_setSharers wsX3_setsAt := goodIn_k _ [[11, 0, 0, 0, 0, 0, 0, 0, 0, 0, 0, 0, 0, 0, 0, 0, 0, 0, 0, 0, 0, 0, 0, 0, 0, 0, 0, 0, 0, 0, 0, 0, 3, 0, 0, 0, 0, 0]] (by rfl) (by decide +kernel)
set_option maxRecDepth 20000 in
theorem gX3_setSharers_X3_setsAt : GoodIn wsX3_setSharers (va_wsS RX3 36 yX3_setsAt wsX3_setsAt) := goodIn_app (goodIn_k _ [[8, 0, 0]] (by rfl) (gw_S _ _ _ _)) ggX3_setSharers_X3_setsAt
noncomputable def sX3_setSharers_41 : List Nat := 42 :: 180 :: 0 :: 9 :: 21 :: 5 :: 21 :: 7 :: 4 :: 126 :: 4 :: 160 :: 0 :: 7 :: 2 :: 167 :: 0 :: 5 :: 21 :: 7 :: 79 :: 132 :: 5 :: 1 :: 167 :: 255 :: 194 :: 177 :: []
noncomputable def sX3_setSharers_0 : List Nat := 3 :: 54 :: 5 :: 21 :: 5 :: 16 :: 7 :: 162 :: 0 :: 61 :: 44 :: 29 :: 21 :: 5 :: 182 :: 0 :: 15 :: 54 :: 6 :: 21 :: 6 :: 2 :: 160 :: 0 :: 7 :: 4 :: 167 :: 0 :: 13 :: 43 :: 21 :: 6 :: 21 :: 5 :: 21 :: 4 :: 184 :: 0 :: 36 :: 54 :: 7 :: sX3_setSharers_41
theorem aX3_setSharers_0 : dc_at cX3_setSharers 0 sX3_setSharers_0 := dc_base (by decide +kernel)
theorem aX3_setSharers_41 : dc_at cX3_setSharers 41 sX3_setSharers_41 := dc_nn (k := 41) aX3_setSharers_0 rfl
theorem dX3_setSharers_0 : decode cX3_setSharers 0 = .ok (.iconst 0, 1) := dc_3 aX3_setSharers_0
theorem dX3_setSharers_1 : decode cX3_setSharers 1 = .ok (.istore 5, 2) := dc_54 (a0 := 5) (dc_nn (k := 1) aX3_setSharers_0 rfl)
theorem dX3_setSharers_3 : decode cX3_setSharers 3 = .ok (.iload 5, 2) := dc_21 (a0 := 5) (dc_nn (k := 3) aX3_setSharers_0 rfl)
theorem dX3_setSharers_5 : decode cX3_setSharers 5 = .ok (.bipush 7, 2) := dc_16 (a0 := 7) (dc_nn (k := 5) aX3_setSharers_0 rfl) (by decide)
theorem dX3_setSharers_7 : decode cX3_setSharers 7 = .ok (.if_icmp .ge 61, 3) := dc_162 (a0 := 0) (b0 := 61) (dc_nn (k := 7) aX3_setSharers_0 rfl) (by decide)
theorem dX3_setSharers_10 : decode cX3_setSharers 10 = .ok (.aload_n 2, 1) := dc_44 (dc_nn (k := 10) aX3_setSharers_0 rfl)
theorem dX3_setSharers_11 : decode cX3_setSharers 11 = .ok (.iload_n 3, 1) := dc_29 (dc_nn (k := 11) aX3_setSharers_0 rfl)
theorem dX3_setSharers_12 : decode cX3_setSharers 12 = .ok (.iload 5, 2) := dc_21 (a0 := 5) (dc_nn (k := 12) aX3_setSharers_0 rfl)
theorem dX3_setSharers_14 : decode cX3_setSharers 14 = .ok (.invokevirtual 15, 3) := dc_182 (a0 := 0) (b0 := 15) (dc_nn (k := 14) aX3_setSharers_0 rfl)
theorem dX3_setSharers_17 : decode cX3_setSharers 17 = .ok (.istore 6, 2) := dc_54 (a0 := 6) (dc_nn (k := 17) aX3_setSharers_0 rfl)
theorem dX3_setSharers_19 : decode cX3_setSharers 19 = .ok (.iload 6, 2) := dc_21 (a0 := 6) (dc_nn (k := 19) aX3_setSharers_0 rfl)
theorem dX3_setSharers_21 : decode cX3_setSharers 21 = .ok (.iconst (-1), 1) := dc_2 (dc_nn (k := 21) aX3_setSharers_0 rfl)
theorem dX3_setSharers_22 : decode cX3_setSharers 22 = .ok (.if_icmp .ne 7, 3) := dc_160 (a0 := 0) (b0 := 7) (dc_nn (k := 22) aX3_setSharers_0 rfl) (by decide)
theorem dX3_setSharers_25 : decode cX3_setSharers 25 = .ok (.iconst 1, 1) := dc_4 (dc_nn (k := 25) aX3_setSharers_0 rfl)
theorem dX3_setSharers_26 : decode cX3_setSharers 26 = .ok (.goto 13, 3) := dc_167 (a0 := 0) (b0 := 13) (dc_nn (k := 26) aX3_setSharers_0 rfl) (by decide)
theorem dX3_setSharers_29 : decode cX3_setSharers 29 = .ok (.aload_n 1, 1) := dc_43 (dc_nn (k := 29) aX3_setSharers_0 rfl)
theorem dX3_setSharers_30 : decode cX3_setSharers 30 = .ok (.iload 6, 2) := dc_21 (a0 := 6) (dc_nn (k := 30) aX3_setSharers_0 rfl)
theorem dX3_setSharers_32 : decode cX3_setSharers 32 = .ok (.iload 5, 2) := dc_21 (a0 := 5) (dc_nn (k := 32) aX3_setSharers_0 rfl)
theorem dX3_setSharers_34 : decode cX3_setSharers 34 = .ok (.iload 4, 2) := dc_21 (a0 := 4) (dc_nn (k := 34) aX3_setSharers_0 rfl)
theorem dX3_setSharers_36 : decode cX3_setSharers 36 = .ok (.invokestatic 36, 3) := dc_184 (a0 := 0) (b0 := 36) (dc_nn (k := 36) aX3_setSharers_0 rfl)
theorem dX3_setSharers_39 : decode cX3_setSharers 39 = .ok (.istore 7, 2) := dc_54 (a0 := 7) (dc_nn (k := 39) aX3_setSharers_0 rfl)
theorem dX3_setSharers_41 : decode cX3_setSharers 41 = .ok (.aload_n 0, 1) := dc_42 aX3_setSharers_41
theorem dX3_setSharers_42 : decode cX3_setSharers 42 = .ok (.getfield 9, 3) := dc_180 (a0 := 0) (b0 := 9) (dc_nn (k := 1) aX3_setSharers_41 rfl)
theorem dX3_setSharers_45 : decode cX3_setSharers 45 = .ok (.iload 5, 2) := dc_21 (a0 := 5) (dc_nn (k := 4) aX3_setSharers_41 rfl)
theorem dX3_setSharers_47 : decode cX3_setSharers 47 = .ok (.iload 7, 2) := dc_21 (a0 := 7) (dc_nn (k := 6) aX3_setSharers_41 rfl)
theorem dX3_setSharers_49 : decode cX3_setSharers 49 = .ok (.iconst 1, 1) := dc_4 (dc_nn (k := 8) aX3_setSharers_41 rfl)
theorem dX3_setSharers_50 : decode cX3_setSharers 50 = .ok (.iand, 1) := dc_126 (dc_nn (k := 9) aX3_setSharers_41 rfl)
theorem dX3_setSharers_51 : decode cX3_setSharers 51 = .ok (.iconst 1, 1) := dc_4 (dc_nn (k := 10) aX3_setSharers_41 rfl)
theorem dX3_setSharers_52 : decode cX3_setSharers 52 = .ok (.if_icmp .ne 7, 3) := dc_160 (a0 := 0) (b0 := 7) (dc_nn (k := 11) aX3_setSharers_41 rfl) (by decide)
theorem dX3_setSharers_55 : decode cX3_setSharers 55 = .ok (.iconst (-1), 1) := dc_2 (dc_nn (k := 14) aX3_setSharers_41 rfl)
theorem dX3_setSharers_56 : decode cX3_setSharers 56 = .ok (.goto 5, 3) := dc_167 (a0 := 0) (b0 := 5) (dc_nn (k := 15) aX3_setSharers_41 rfl) (by decide)
theorem dX3_setSharers_59 : decode cX3_setSharers 59 = .ok (.iload 7, 2) := dc_21 (a0 := 7) (dc_nn (k := 18) aX3_setSharers_41 rfl)
theorem dX3_setSharers_61 : decode cX3_setSharers 61 = .ok (.iastore, 1) := dc_79 (dc_nn (k := 20) aX3_setSharers_41 rfl)
theorem dX3_setSharers_62 : decode cX3_setSharers 62 = .ok (.iinc 5 1, 3) := dc_132 (a0 := 5) (a1 := 1) (dc_nn (k := 21) aX3_setSharers_41 rfl) (by decide)
theorem dX3_setSharers_65 : decode cX3_setSharers 65 = .ok (.goto (-62), 3) := dc_167 (a0 := 255) (b0 := 194) (dc_nn (k := 24) aX3_setSharers_41 rfl) (by decide)
theorem dX3_setSharers_68 : decode cX3_setSharers 68 = .ok (.return_, 1) := dc_177 (dc_nn (k := 27) aX3_setSharers_41 rfl)
noncomputable def sX3_isShared_0 : List Nat := 42 :: 180 :: 0 :: 9 :: 27 :: 46 :: 2 :: 159 :: 0 :: 21 :: 42 :: 180 :: 0 :: 9 :: 27 :: 46 :: 28 :: 122 :: 4 :: 126 :: 4 :: 160 :: 0 :: 7 :: 4 :: 167 :: 0 :: 4 :: 3 :: 172 :: []
theorem aX3_isShared_0 : dc_at cX3_isShared 0 sX3_isShared_0 := dc_base (by decide +kernel)
theorem dX3_isShared_0 : decode cX3_isShared 0 = .ok (.aload_n 0, 1) := dc_42 aX3_isShared_0
theorem dX3_isShared_1 : decode cX3_isShared 1 = .ok (.getfield 9, 3) := dc_180 (a0 := 0) (b0 := 9) (dc_nn (k := 1) aX3_isShared_0 rfl)
theorem dX3_isShared_4 : decode cX3_isShared 4 = .ok (.iload_n 1, 1) := dc_27 (dc_nn (k := 4) aX3_isShared_0 rfl)
theorem dX3_isShared_5 : decode cX3_isShared 5 = .ok (.iaload, 1) := dc_46 (dc_nn (k := 5) aX3_isShared_0 rfl)
theorem dX3_isShared_6 : decode cX3_isShared 6 = .ok (.iconst (-1), 1) := dc_2 (dc_nn (k := 6) aX3_isShared_0 rfl)
theorem dX3_isShared_7 : decode cX3_isShared 7 = .ok (.if_icmp .eq 21, 3) := dc_159 (a0 := 0) (b0 := 21) (dc_nn (k := 7) aX3_isShared_0 rfl) (by decide)
theorem dX3_isShared_10 : decode cX3_isShared 10 = .ok (.aload_n 0, 1) := dc_42 (dc_nn (k := 10) aX3_isShared_0 rfl)
theorem dX3_isShared_11 : decode cX3_isShared 11 = .ok (.getfield 9, 3) := dc_180 (a0 := 0) (b0 := 9) (dc_nn (k := 11) aX3_isShared_0 rfl)
theorem dX3_isShared_14 : decode cX3_isShared 14 = .ok (.iload_n 1, 1) := dc_27 (dc_nn (k := 14) aX3_isShared_0 rfl)
theorem dX3_isShared_15 : decode cX3_isShared 15 = .ok (.iaload, 1) := dc_46 (dc_nn (k := 15) aX3_isShared_0 rfl)
theorem dX3_isShared_16 : decode cX3_isShared 16 = .ok (.iload_n 2, 1) := dc_28 (dc_nn (k := 16) aX3_isShared_0 rfl)
theorem dX3_isShared_17 : decode cX3_isShared 17 = .ok (.ishr, 1) := dc_122 (dc_nn (k := 17) aX3_isShared_0 rfl)
theorem dX3_isShared_18 : decode cX3_isShared 18 = .ok (.iconst 1, 1) := dc_4 (dc_nn (k := 18) aX3_isShared_0 rfl)
theorem dX3_isShared_19 : decode cX3_isShared 19 = .ok (.iand, 1) := dc_126 (dc_nn (k := 19) aX3_isShared_0 rfl)
theorem dX3_isShared_20 : decode cX3_isShared 20 = .ok (.iconst 1, 1) := dc_4 (dc_nn (k := 20) aX3_isShared_0 rfl)
theorem dX3_isShared_21 : decode cX3_isShared 21 = .ok (.if_icmp .ne 7, 3) := dc_160 (a0 := 0) (b0 := 7) (dc_nn (k := 21) aX3_isShared_0 rfl) (by decide)
theorem dX3_isShared_24 : decode cX3_isShared 24 = .ok (.iconst 1, 1) := dc_4 (dc_nn (k := 24) aX3_isShared_0 rfl)
theorem dX3_isShared_25 : decode cX3_isShared 25 = .ok (.goto 4, 3) := dc_167 (a0 := 0) (b0 := 4) (dc_nn (k := 25) aX3_isShared_0 rfl) (by decide)
theorem dX3_isShared_28 : decode cX3_isShared 28 = .ok (.iconst 0, 1) := dc_3 (dc_nn (k := 28) aX3_isShared_0 rfl)
theorem dX3_isShared_29 : decode cX3_isShared 29 = .ok (.ireturn, 1) := dc_172 (dc_nn (k := 29) aX3_isShared_0 rfl)
noncomputable def sX3_howManyErrors_0 : List Nat := 3 :: 60 :: 3 :: 61 :: 28 :: 16 :: 7 :: 162 :: 0 :: 22 :: 42 :: 180 :: 0 :: 9 :: 28 :: 46 :: 2 :: 159 :: 0 :: 6 :: 132 :: 1 :: 1 :: 132 :: 2 :: 1 :: 167 :: 255 :: 234 :: 27 :: 172 :: []
theorem aX3_howManyErrors_0 : dc_at cX3_howManyErrors 0 sX3_howManyErrors_0 := dc_base (by decide +kernel)
theorem dX3_howManyErrors_0 : decode cX3_howManyErrors 0 = .ok (.iconst 0, 1) := dc_3 aX3_howManyErrors_0
theorem dX3_howManyErrors_1 : decode cX3_howManyErrors 1 = .ok (.istore_n 1, 1) := dc_60 (dc_nn (k := 1) aX3_howManyErrors_0 rfl)
theorem dX3_howManyErrors_2 : decode cX3_howManyErrors 2 = .ok (.iconst 0, 1) := dc_3 (dc_nn (k := 2) aX3_howManyErrors_0 rfl)
theorem dX3_howManyErrors_3 : decode cX3_howManyErrors 3 = .ok (.istore_n 2, 1) := dc_61 (dc_nn (k := 3) aX3_howManyErrors_0 rfl)
theorem dX3_howManyErrors_4 : decode cX3_howManyErrors 4 = .ok (.iload_n 2, 1) := dc_28 (dc_nn (k := 4) aX3_howManyErrors_0 rfl)
theorem dX3_howManyErrors_5 : decode cX3_howManyErrors 5 = .ok (.bipush 7, 2) := dc_16 (a0 := 7) (dc_nn (k := 5) aX3_howManyErrors_0 rfl) (by decide)
theorem dX3_howManyErrors_7 : decode cX3_howManyErrors 7 = .ok (.if_icmp .ge 22, 3) := dc_162 (a0 := 0) (b0 := 22) (dc_nn (k := 7) aX3_howManyErrors_0 rfl) (by decide)
theorem dX3_howManyErrors_10 : decode cX3_howManyErrors 10 = .ok (.aload_n 0, 1) := dc_42 (dc_nn (k := 10) aX3_howManyErrors_0 rfl)
theorem dX3_howManyErrors_11 : decode cX3_howManyErrors 11 = .ok (.getfield 9, 3) := dc_180 (a0 := 0) (b0 := 9) (dc_nn (k := 11) aX3_howManyErrors_0 rfl)
theorem dX3_howManyErrors_14 : decode cX3_howManyErrors 14 = .ok (.iload_n 2, 1) := dc_28 (dc_nn (k := 14) aX3_howManyErrors_0 rfl)
theorem dX3_howManyErrors_15 : decode cX3_howManyErrors 15 = .ok (.iaload, 1) := dc_46 (dc_nn (k := 15) aX3_howManyErrors_0 rfl)
theorem dX3_howManyErrors_16 : decode cX3_howManyErrors 16 = .ok (.iconst (-1), 1) := dc_2 (dc_nn (k := 16) aX3_howManyErrors_0 rfl)
theorem dX3_howManyErrors_17 : decode cX3_howManyErrors 17 = .ok (.if_icmp .eq 6, 3) := dc_159 (a0 := 0) (b0 := 6) (dc_nn (k := 17) aX3_howManyErrors_0 rfl) (by decide)
theorem dX3_howManyErrors_20 : decode cX3_howManyErrors 20 = .ok (.iinc 1 1, 3) := dc_132 (a0 := 1) (a1 := 1) (dc_nn (k := 20) aX3_howManyErrors_0 rfl) (by decide)
theorem dX3_howManyErrors_23 : decode cX3_howManyErrors 23 = .ok (.iinc 2 1, 3) := dc_132 (a0 := 2) (a1 := 1) (dc_nn (k := 23) aX3_howManyErrors_0 rfl) (by decide)
theorem dX3_howManyErrors_26 : decode cX3_howManyErrors 26 = .ok (.goto (-22), 3) := dc_167 (a0 := 255) (b0 := 234) (dc_nn (k := 26) aX3_howManyErrors_0 rfl) (by decide)
theorem dX3_howManyErrors_29 : decode cX3_howManyErrors 29 = .ok (.iload_n 1, 1) := dc_27 (dc_nn (k := 29) aX3_howManyErrors_0 rfl)
theorem dX3_howManyErrors_30 : decode cX3_howManyErrors 30 = .ok (.ireturn, 1) := dc_172 (dc_nn (k := 30) aX3_howManyErrors_0 rfl)
set_option maxRecDepth 20000 in
theorem ggX3_howManyShared_X3_isShared : GoodIn wsX3_howManyShared wsX3_isShared := goodIn_k _ [[5, 0, 0]] (by rfl) (by decide +kernel)
set_option maxRecDepth 20000 in
theorem gX3_howManyShared_X3_isShared : GoodIn wsX3_howManyShared (wsV RX3 40 RX3 yX3_isShared wsX3_isShared) := goodIn_app (goodIn_k _ [[1, 0, 0, 0]] (by rfl) (gw_V _ _ _ _)) ggX3_howManyShared_X3_isShared
noncomputable def sX3_howManyShared_0 : List Nat := 3 :: 61 :: 3 :: 62 :: 29 :: 16 :: 7 :: 162 :: 0 :: 21 :: 42 :: 29 :: 27 :: 182 :: 0 :: 40 :: 153 :: 0 :: 6 :: 132 :: 2 :: 1 :: 132 :: 3 :: 1 :: 167 :: 255 :: 235 :: 28 :: 172 :: []
theorem aX3_howManyShared_0 : dc_at cX3_howManyShared 0 sX3_howManyShared_0 := dc_base (by decide +kernel)
theorem dX3_howManyShared_0 : decode cX3_howManyShared 0 = .ok (.iconst 0, 1) := dc_3 aX3_howManyShared_0
theorem dX3_howManyShared_1 : decode cX3_howManyShared 1 = .ok (.istore_n 2, 1) := dc_61 (dc_nn (k := 1) aX3_howManyShared_0 rfl)
theorem dX3_howManyShared_2 : decode cX3_howManyShared 2 = .ok (.iconst 0, 1) := dc_3 (dc_nn (k := 2) aX3_howManyShared_0 rfl)
theorem dX3_howManyShared_3 : decode cX3_howManyShared 3 = .ok (.istore_n 3, 1) := dc_62 (dc_nn (k := 3) aX3_howManyShared_0 rfl)
theorem dX3_howManyShared_4 : decode cX3_howManyShared 4 = .ok (.iload_n 3, 1) := dc_29 (dc_nn (k := 4) aX3_howManyShared_0 rfl)
theorem dX3_howManyShared_5 : decode cX3_howManyShared 5 = .ok (.bipush 7, 2) := dc_16 (a0 := 7) (dc_nn (k := 5) aX3_howManyShared_0 rfl) (by decide)
theorem dX3_howManyShared_7 : decode cX3_howManyShared 7 = .ok (.if_icmp .ge 21, 3) := dc_162 (a0 := 0) (b0 := 21) (dc_nn (k := 7) aX3_howManyShared_0 rfl) (by decide)
theorem dX3_howManyShared_10 : decode cX3_howManyShared 10 = .ok (.aload_n 0, 1) := dc_42 (dc_nn (k := 10) aX3_howManyShared_0 rfl)
theorem dX3_howManyShared_11 : decode cX3_howManyShared 11 = .ok (.iload_n 3, 1) := dc_29 (dc_nn (k := 11) aX3_howManyShared_0 rfl)
theorem dX3_howManyShared_12 : decode cX3_howManyShared 12 = .ok (.iload_n 1, 1) := dc_27 (dc_nn (k := 12) aX3_howManyShared_0 rfl)
theorem dX3_howManyShared_13 : decode cX3_howManyShared 13 = .ok (.invokevirtual 40, 3) := dc_182 (a0 := 0) (b0 := 40) (dc_nn (k := 13) aX3_howManyShared_0 rfl)
theorem dX3_howManyShared_16 : decode cX3_howManyShared 16 = .ok (.ifCond .eq 6, 3) := dc_153 (a0 := 0) (b0 := 6) (dc_nn (k := 16) aX3_howManyShared_0 rfl) (by decide)
theorem dX3_howManyShared_19 : decode cX3_howManyShared 19 = .ok (.iinc 2 1, 3) := dc_132 (a0 := 2) (a1 := 1) (dc_nn (k := 19) aX3_howManyShared_0 rfl) (by decide)
theorem dX3_howManyShared_22 : decode cX3_howManyShared 22 = .ok (.iinc 3 1, 3) := dc_132 (a0 := 3) (a1 := 1) (dc_nn (k := 22) aX3_howManyShared_0 rfl) (by decide)
theorem dX3_howManyShared_25 : decode cX3_howManyShared 25 = .ok (.goto (-21), 3) := dc_167 (a0 := 255) (b0 := 235) (dc_nn (k := 25) aX3_howManyShared_0 rfl) (by decide)
theorem dX3_howManyShared_28 : decode cX3_howManyShared 28 = .ok (.iload_n 2, 1) := dc_28 (dc_nn (k := 28) aX3_howManyShared_0 rfl)
theorem dX3_howManyShared_29 : decode cX3_howManyShared 29 = .ok (.ireturn, 1) := dc_172 (dc_nn (k := 29) aX3_howManyShared_0 rfl)
noncomputable def sX3_howManyAlone_0 : List Nat := 3 :: 61 :: 3 :: 62 :: 29 :: 16 :: 7 :: 162 :: 0 :: 24 :: 42 :: 180 :: 0 :: 9 :: 29 :: 46 :: 4 :: 27 :: 120 :: 160 :: 0 :: 6 :: 132 :: 2 :: 1 :: 132 :: 3 :: 1 :: 167 :: 255 :: 232 :: 28 :: 172 :: []
theorem aX3_howManyAlone_0 : dc_at cX3_howManyAlone 0 sX3_howManyAlone_0 := dc_base (by decide +kernel)
theorem dX3_howManyAlone_0 : decode cX3_howManyAlone 0 = .ok (.iconst 0, 1) := dc_3 aX3_howManyAlone_0
theorem dX3_howManyAlone_1 : decode cX3_howManyAlone 1 = .ok (.istore_n 2, 1) := dc_61 (dc_nn (k := 1) aX3_howManyAlone_0 rfl)
theorem dX3_howManyAlone_2 : decode cX3_howManyAlone 2 = .ok (.iconst 0, 1) := dc_3 (dc_nn (k := 2) aX3_howManyAlone_0 rfl)
theorem dX3_howManyAlone_3 : decode cX3_howManyAlone 3 = .ok (.istore_n 3, 1) := dc_62 (dc_nn (k := 3) aX3_howManyAlone_0 rfl)
theorem dX3_howManyAlone_4 : decode cX3_howManyAlone 4 = .ok (.iload_n 3, 1) := dc_29 (dc_nn (k := 4) aX3_howManyAlone_0 rfl)
theorem dX3_howManyAlone_5 : decode cX3_howManyAlone 5 = .ok (.bipush 7, 2) := dc_16 (a0 := 7) (dc_nn (k := 5) aX3_howManyAlone_0 rfl) (by decide)
theorem dX3_howManyAlone_7 : decode cX3_howManyAlone 7 = .ok (.if_icmp .ge 24, 3) := dc_162 (a0 := 0) (b0 := 24) (dc_nn (k := 7) aX3_howManyAlone_0 rfl) (by decide)
theorem dX3_howManyAlone_10 : decode cX3_howManyAlone 10 = .ok (.aload_n 0, 1) := dc_42 (dc_nn (k := 10) aX3_howManyAlone_0 rfl)
theorem dX3_howManyAlone_11 : decode cX3_howManyAlone 11 = .ok (.getfield 9, 3) := dc_180 (a0 := 0) (b0 := 9) (dc_nn (k := 11) aX3_howManyAlone_0 rfl)
theorem dX3_howManyAlone_14 : decode cX3_howManyAlone 14 = .ok (.iload_n 3, 1) := dc_29 (dc_nn (k := 14) aX3_howManyAlone_0 rfl)
theorem dX3_howManyAlone_15 : decode cX3_howManyAlone 15 = .ok (.iaload, 1) := dc_46 (dc_nn (k := 15) aX3_howManyAlone_0 rfl)
theorem dX3_howManyAlone_16 : decode cX3_howManyAlone 16 = .ok (.iconst 1, 1) := dc_4 (dc_nn (k := 16) aX3_howManyAlone_0 rfl)
theorem dX3_howManyAlone_17 : decode cX3_howManyAlone 17 = .ok (.iload_n 1, 1) := dc_27 (dc_nn (k := 17) aX3_howManyAlone_0 rfl)
theorem dX3_howManyAlone_18 : decode cX3_howManyAlone 18 = .ok (.ishl, 1) := dc_120 (dc_nn (k := 18) aX3_howManyAlone_0 rfl)
theorem dX3_howManyAlone_19 : decode cX3_howManyAlone 19 = .ok (.if_icmp .ne 6, 3) := dc_160 (a0 := 0) (b0 := 6) (dc_nn (k := 19) aX3_howManyAlone_0 rfl) (by decide)
theorem dX3_howManyAlone_22 : decode cX3_howManyAlone 22 = .ok (.iinc 2 1, 3) := dc_132 (a0 := 2) (a1 := 1) (dc_nn (k := 22) aX3_howManyAlone_0 rfl) (by decide)
theorem dX3_howManyAlone_25 : decode cX3_howManyAlone 25 = .ok (.iinc 3 1, 3) := dc_132 (a0 := 3) (a1 := 1) (dc_nn (k := 25) aX3_howManyAlone_0 rfl) (by decide)
theorem dX3_howManyAlone_28 : decode cX3_howManyAlone 28 = .ok (.goto (-24), 3) := dc_167 (a0 := 255) (b0 := 232) (dc_nn (k := 28) aX3_howManyAlone_0 rfl) (by decide)
theorem dX3_howManyAlone_31 : decode cX3_howManyAlone 31 = .ok (.iload_n 2, 1) := dc_28 (dc_nn (k := 31) aX3_howManyAlone_0 rfl)
theorem dX3_howManyAlone_32 : decode cX3_howManyAlone 32 = .ok (.ireturn, 1) := dc_172 (dc_nn (k := 32) aX3_howManyAlone_0 rfl)
set_option maxRecDepth 20000 in
theorem ggX3_weightOf_J6_bitCount_0f7a4 : GoodIn wsX3_weightOf wsJ6_bitCount_0f7a4 := goodIn_k _ [[5, 0, 0, 0]] (by rfl) (by decide +kernel)
set_option maxRecDepth 20000 in
theorem gX3_weightOf_J6_bitCount_0f7a4 : GoodIn wsX3_weightOf (va_wsS RX3 44 yJ6_bitCount_0f7a4 wsJ6_bitCount_0f7a4) := goodIn_app (goodIn_k _ [[2, 0, 0]] (by rfl) (gw_S _ _ _ _)) ggX3_weightOf_J6_bitCount_0f7a4
set_option maxRecDepth 20000 in
theorem ggX3_weightOf_X3_isShared : GoodIn wsX3_weightOf wsX3_isShared := goodIn_k _ [[13], [1, 12]] (by rfl) (by decide +kernel)
set_option maxRecDepth 20000 in
theorem gX3_weightOf_X3_isShared : GoodIn wsX3_weightOf (wsV RX3 40 RX3 yX3_isShared wsX3_isShared) := goodIn_app (goodIn_k _ [[9, 0, 0, 0]] (by rfl) (gw_V _ _ _ _)) ggX3_weightOf_X3_isShared
noncomputable def sX3_weightOf_40 : List Nat := 108 :: 96 :: 61 :: 132 :: 3 :: 1 :: 167 :: 255 :: 214 :: 28 :: 172 :: []
noncomputable def sX3_weightOf_0 : List Nat := 3 :: 61 :: 3 :: 62 :: 29 :: 16 :: 7 :: 162 :: 0 :: 42 :: 42 :: 180 :: 0 :: 9 :: 29 :: 46 :: 184 :: 0 :: 44 :: 54 :: 4 :: 42 :: 29 :: 27 :: 182 :: 0 :: 40 :: 153 :: 0 :: 16 :: 21 :: 4 :: 158 :: 0 :: 11 :: 28 :: 16 :: 6 :: 21 :: 4 :: sX3_weightOf_40
theorem aX3_weightOf_0 : dc_at cX3_weightOf 0 sX3_weightOf_0 := dc_base (by decide +kernel)
theorem aX3_weightOf_40 : dc_at cX3_weightOf 40 sX3_weightOf_40 := dc_nn (k := 40) aX3_weightOf_0 rfl
theorem dX3_weightOf_0 : decode cX3_weightOf 0 = .ok (.iconst 0, 1) := dc_3 aX3_weightOf_0
theorem dX3_weightOf_1 : decode cX3_weightOf 1 = .ok (.istore_n 2, 1) := dc_61 (dc_nn (k := 1) aX3_weightOf_0 rfl)
theorem dX3_weightOf_2 : decode cX3_weightOf 2 = .ok (.iconst 0, 1) := dc_3 (dc_nn (k := 2) aX3_weightOf_0 rfl)
theorem dX3_weightOf_3 : decode cX3_weightOf 3 = .ok (.istore_n 3, 1) := dc_62 (dc_nn (k := 3) aX3_weightOf_0 rfl)
theorem dX3_weightOf_4 : decode cX3_weightOf 4 = .ok (.iload_n 3, 1) := dc_29 (dc_nn (k := 4) aX3_weightOf_0 rfl)
theorem dX3_weightOf_5 : decode cX3_weightOf 5 = .ok (.bipush 7, 2) := dc_16 (a0 := 7) (dc_nn (k := 5) aX3_weightOf_0 rfl) (by decide)
theorem dX3_weightOf_7 : decode cX3_weightOf 7 = .ok (.if_icmp .ge 42, 3) := dc_162 (a0 := 0) (b0 := 42) (dc_nn (k := 7) aX3_weightOf_0 rfl) (by decide)
theorem dX3_weightOf_10 : decode cX3_weightOf 10 = .ok (.aload_n 0, 1) := dc_42 (dc_nn (k := 10) aX3_weightOf_0 rfl)
theorem dX3_weightOf_11 : decode cX3_weightOf 11 = .ok (.getfield 9, 3) := dc_180 (a0 := 0) (b0 := 9) (dc_nn (k := 11) aX3_weightOf_0 rfl)
theorem dX3_weightOf_14 : decode cX3_weightOf 14 = .ok (.iload_n 3, 1) := dc_29 (dc_nn (k := 14) aX3_weightOf_0 rfl)
theorem dX3_weightOf_15 : decode cX3_weightOf 15 = .ok (.iaload, 1) := dc_46 (dc_nn (k := 15) aX3_weightOf_0 rfl)
theorem dX3_weightOf_16 : decode cX3_weightOf 16 = .ok (.invokestatic 44, 3) := dc_184 (a0 := 0) (b0 := 44) (dc_nn (k := 16) aX3_weightOf_0 rfl)
theorem dX3_weightOf_19 : decode cX3_weightOf 19 = .ok (.istore 4, 2) := dc_54 (a0 := 4) (dc_nn (k := 19) aX3_weightOf_0 rfl)
theorem dX3_weightOf_21 : decode cX3_weightOf 21 = .ok (.aload_n 0, 1) := dc_42 (dc_nn (k := 21) aX3_weightOf_0 rfl)
theorem dX3_weightOf_22 : decode cX3_weightOf 22 = .ok (.iload_n 3, 1) := dc_29 (dc_nn (k := 22) aX3_weightOf_0 rfl)
theorem dX3_weightOf_23 : decode cX3_weightOf 23 = .ok (.iload_n 1, 1) := dc_27 (dc_nn (k := 23) aX3_weightOf_0 rfl)
theorem dX3_weightOf_24 : decode cX3_weightOf 24 = .ok (.invokevirtual 40, 3) := dc_182 (a0 := 0) (b0 := 40) (dc_nn (k := 24) aX3_weightOf_0 rfl)
theorem dX3_weightOf_27 : decode cX3_weightOf 27 = .ok (.ifCond .eq 16, 3) := dc_153 (a0 := 0) (b0 := 16) (dc_nn (k := 27) aX3_weightOf_0 rfl) (by decide)
theorem dX3_weightOf_30 : decode cX3_weightOf 30 = .ok (.iload 4, 2) := dc_21 (a0 := 4) (dc_nn (k := 30) aX3_weightOf_0 rfl)
theorem dX3_weightOf_32 : decode cX3_weightOf 32 = .ok (.ifCond .le 11, 3) := dc_158 (a0 := 0) (b0 := 11) (dc_nn (k := 32) aX3_weightOf_0 rfl) (by decide)
theorem dX3_weightOf_35 : decode cX3_weightOf 35 = .ok (.iload_n 2, 1) := dc_28 (dc_nn (k := 35) aX3_weightOf_0 rfl)
theorem dX3_weightOf_36 : decode cX3_weightOf 36 = .ok (.bipush 6, 2) := dc_16 (a0 := 6) (dc_nn (k := 36) aX3_weightOf_0 rfl) (by decide)
theorem dX3_weightOf_38 : decode cX3_weightOf 38 = .ok (.iload 4, 2) := dc_21 (a0 := 4) (dc_nn (k := 38) aX3_weightOf_0 rfl)
theorem dX3_weightOf_40 : decode cX3_weightOf 40 = .ok (.idiv, 1) := dc_108 aX3_weightOf_40
theorem dX3_weightOf_41 : decode cX3_weightOf 41 = .ok (.iadd, 1) := dc_96 (dc_nn (k := 1) aX3_weightOf_40 rfl)
theorem dX3_weightOf_42 : decode cX3_weightOf 42 = .ok (.istore_n 2, 1) := dc_61 (dc_nn (k := 2) aX3_weightOf_40 rfl)
theorem dX3_weightOf_43 : decode cX3_weightOf 43 = .ok (.iinc 3 1, 3) := dc_132 (a0 := 3) (a1 := 1) (dc_nn (k := 3) aX3_weightOf_40 rfl) (by decide)
theorem dX3_weightOf_46 : decode cX3_weightOf 46 = .ok (.goto (-42), 3) := dc_167 (a0 := 255) (b0 := 214) (dc_nn (k := 6) aX3_weightOf_40 rfl) (by decide)
theorem dX3_weightOf_49 : decode cX3_weightOf 49 = .ok (.iload_n 2, 1) := dc_28 (dc_nn (k := 9) aX3_weightOf_40 rfl)
theorem dX3_weightOf_50 : decode cX3_weightOf 50 = .ok (.ireturn, 1) := dc_172 (dc_nn (k := 10) aX3_weightOf_40 rfl)
set_option maxRecDepth 20000 in
theorem ggX3_setFollowed_X3_weightOf : GoodIn wsX3_setFollowed wsX3_weightOf := goodIn_k _ [[5, 0, 0, 0, 0, 0, 0, 0, 0, 0, 0, 0], [4, 12, 0]] (by rfl) (by decide +kernel)
set_option maxRecDepth 20000 in
theorem gX3_setFollowed_X3_weightOf : GoodIn wsX3_setFollowed (wsV RX3 50 RX3 yX3_weightOf wsX3_weightOf) := goodIn_app (goodIn_k _ [[1, 0, 0, 0]] (by rfl) (gw_V _ _ _ _)) ggX3_setFollowed_X3_weightOf
noncomputable def sX3_setFollowed_0 : List Nat := 3 :: 60 :: 2 :: 61 :: 4 :: 62 :: 29 :: 7 :: 162 :: 0 :: 27 :: 42 :: 29 :: 182 :: 0 :: 50 :: 54 :: 4 :: 21 :: 4 :: 27 :: 164 :: 0 :: 8 :: 21 :: 4 :: 60 :: 29 :: 61 :: 132 :: 3 :: 1 :: 167 :: 255 :: 230 :: 28 :: 172 :: []
theorem aX3_setFollowed_0 : dc_at cX3_setFollowed 0 sX3_setFollowed_0 := dc_base (by decide +kernel)
theorem dX3_setFollowed_0 : decode cX3_setFollowed 0 = .ok (.iconst 0, 1) := dc_3 aX3_setFollowed_0
theorem dX3_setFollowed_1 : decode cX3_setFollowed 1 = .ok (.istore_n 1, 1) := dc_60 (dc_nn (k := 1) aX3_setFollowed_0 rfl)
theorem dX3_setFollowed_2 : decode cX3_setFollowed 2 = .ok (.iconst (-1), 1) := dc_2 (dc_nn (k := 2) aX3_setFollowed_0 rfl)
theorem dX3_setFollowed_3 : decode cX3_setFollowed 3 = .ok (.istore_n 2, 1) := dc_61 (dc_nn (k := 3) aX3_setFollowed_0 rfl)
theorem dX3_setFollowed_4 : decode cX3_setFollowed 4 = .ok (.iconst 1, 1) := dc_4 (dc_nn (k := 4) aX3_setFollowed_0 rfl)
theorem dX3_setFollowed_5 : decode cX3_setFollowed 5 = .ok (.istore_n 3, 1) := dc_62 (dc_nn (k := 5) aX3_setFollowed_0 rfl)
theorem dX3_setFollowed_6 : decode cX3_setFollowed 6 = .ok (.iload_n 3, 1) := dc_29 (dc_nn (k := 6) aX3_setFollowed_0 rfl)
theorem dX3_setFollowed_7 : decode cX3_setFollowed 7 = .ok (.iconst 4, 1) := dc_7 (dc_nn (k := 7) aX3_setFollowed_0 rfl)
theorem dX3_setFollowed_8 : decode cX3_setFollowed 8 = .ok (.if_icmp .ge 27, 3) := dc_162 (a0 := 0) (b0 := 27) (dc_nn (k := 8) aX3_setFollowed_0 rfl) (by decide)
theorem dX3_setFollowed_11 : decode cX3_setFollowed 11 = .ok (.aload_n 0, 1) := dc_42 (dc_nn (k := 11) aX3_setFollowed_0 rfl)
theorem dX3_setFollowed_12 : decode cX3_setFollowed 12 = .ok (.iload_n 3, 1) := dc_29 (dc_nn (k := 12) aX3_setFollowed_0 rfl)
theorem dX3_setFollowed_13 : decode cX3_setFollowed 13 = .ok (.invokevirtual 50, 3) := dc_182 (a0 := 0) (b0 := 50) (dc_nn (k := 13) aX3_setFollowed_0 rfl)
theorem dX3_setFollowed_16 : decode cX3_setFollowed 16 = .ok (.istore 4, 2) := dc_54 (a0 := 4) (dc_nn (k := 16) aX3_setFollowed_0 rfl)
theorem dX3_setFollowed_18 : decode cX3_setFollowed 18 = .ok (.iload 4, 2) := dc_21 (a0 := 4) (dc_nn (k := 18) aX3_setFollowed_0 rfl)
theorem dX3_setFollowed_20 : decode cX3_setFollowed 20 = .ok (.iload_n 1, 1) := dc_27 (dc_nn (k := 20) aX3_setFollowed_0 rfl)
theorem dX3_setFollowed_21 : decode cX3_setFollowed 21 = .ok (.if_icmp .le 8, 3) := dc_164 (a0 := 0) (b0 := 8) (dc_nn (k := 21) aX3_setFollowed_0 rfl) (by decide)
theorem dX3_setFollowed_24 : decode cX3_setFollowed 24 = .ok (.iload 4, 2) := dc_21 (a0 := 4) (dc_nn (k := 24) aX3_setFollowed_0 rfl)
theorem dX3_setFollowed_26 : decode cX3_setFollowed 26 = .ok (.istore_n 1, 1) := dc_60 (dc_nn (k := 26) aX3_setFollowed_0 rfl)
theorem dX3_setFollowed_27 : decode cX3_setFollowed 27 = .ok (.iload_n 3, 1) := dc_29 (dc_nn (k := 27) aX3_setFollowed_0 rfl)
theorem dX3_setFollowed_28 : decode cX3_setFollowed 28 = .ok (.istore_n 2, 1) := dc_61 (dc_nn (k := 28) aX3_setFollowed_0 rfl)
theorem dX3_setFollowed_29 : decode cX3_setFollowed 29 = .ok (.iinc 3 1, 3) := dc_132 (a0 := 3) (a1 := 1) (dc_nn (k := 29) aX3_setFollowed_0 rfl) (by decide)
theorem dX3_setFollowed_32 : decode cX3_setFollowed 32 = .ok (.goto (-26), 3) := dc_167 (a0 := 255) (b0 := 230) (dc_nn (k := 32) aX3_setFollowed_0 rfl) (by decide)
theorem dX3_setFollowed_35 : decode cX3_setFollowed 35 = .ok (.iload_n 2, 1) := dc_28 (dc_nn (k := 35) aX3_setFollowed_0 rfl)
theorem dX3_setFollowed_36 : decode cX3_setFollowed 36 = .ok (.ireturn, 1) := dc_172 (dc_nn (k := 36) aX3_setFollowed_0 rfl)
noncomputable def sX4_init_0 : List Nat := 42 :: 183 :: 0 :: 3 :: 42 :: 16 :: 30 :: 188 :: 10 :: 181 :: 0 :: 9 :: 177 :: []
theorem aX4_init_0 : dc_at cX4_init 0 sX4_init_0 := dc_base (by decide +kernel)
theorem dX4_init_0 : decode cX4_init 0 = .ok (.aload_n 0, 1) := dc_42 aX4_init_0
theorem dX4_init_1 : decode cX4_init 1 = .ok (.invokespecial 3, 3) := dc_183 (a0 := 0) (b0 := 3) (dc_nn (k := 1) aX4_init_0 rfl)
theorem dX4_init_4 : decode cX4_init 4 = .ok (.aload_n 0, 1) := dc_42 (dc_nn (k := 4) aX4_init_0 rfl)
theorem dX4_init_5 : decode cX4_init 5 = .ok (.bipush 30, 2) := dc_16 (a0 := 30) (dc_nn (k := 5) aX4_init_0 rfl) (by decide)
theorem dX4_init_7 : decode cX4_init 7 = .ok (.newarray .int, 2) := dc_188_10 (dc_nn (k := 7) aX4_init_0 rfl)
theorem dX4_init_9 : decode cX4_init 9 = .ok (.putfield 9, 3) := dc_181 (a0 := 0) (b0 := 9) (dc_nn (k := 9) aX4_init_0 rfl)
theorem dX4_init_12 : decode cX4_init 12 = .ok (.return_, 1) := dc_177 (dc_nn (k := 12) aX4_init_0 rfl)
noncomputable def sX4_copyFrom_0 : List Nat := 43 :: 180 :: 0 :: 9 :: 3 :: 42 :: 180 :: 0 :: 9 :: 3 :: 16 :: 30 :: 184 :: 0 :: 15 :: 42 :: 43 :: 180 :: 0 :: 21 :: 181 :: 0 :: 21 :: 177 :: []
theorem aX4_copyFrom_0 : dc_at cX4_copyFrom 0 sX4_copyFrom_0 := dc_base (by decide +kernel)
theorem dX4_copyFrom_0 : decode cX4_copyFrom 0 = .ok (.aload_n 1, 1) := dc_43 aX4_copyFrom_0
theorem dX4_copyFrom_1 : decode cX4_copyFrom 1 = .ok (.getfield 9, 3) := dc_180 (a0 := 0) (b0 := 9) (dc_nn (k := 1) aX4_copyFrom_0 rfl)
theorem dX4_copyFrom_4 : decode cX4_copyFrom 4 = .ok (.iconst 0, 1) := dc_3 (dc_nn (k := 4) aX4_copyFrom_0 rfl)
theorem dX4_copyFrom_5 : decode cX4_copyFrom 5 = .ok (.aload_n 0, 1) := dc_42 (dc_nn (k := 5) aX4_copyFrom_0 rfl)
theorem dX4_copyFrom_6 : decode cX4_copyFrom 6 = .ok (.getfield 9, 3) := dc_180 (a0 := 0) (b0 := 9) (dc_nn (k := 6) aX4_copyFrom_0 rfl)
theorem dX4_copyFrom_9 : decode cX4_copyFrom 9 = .ok (.iconst 0, 1) := dc_3 (dc_nn (k := 9) aX4_copyFrom_0 rfl)
theorem dX4_copyFrom_10 : decode cX4_copyFrom 10 = .ok (.bipush 30, 2) := dc_16 (a0 := 30) (dc_nn (k := 10) aX4_copyFrom_0 rfl) (by decide)
theorem dX4_copyFrom_12 : decode cX4_copyFrom 12 = .ok (.invokestatic 15, 3) := dc_184 (a0 := 0) (b0 := 15) (dc_nn (k := 12) aX4_copyFrom_0 rfl)
theorem dX4_copyFrom_15 : decode cX4_copyFrom 15 = .ok (.aload_n 0, 1) := dc_42 (dc_nn (k := 15) aX4_copyFrom_0 rfl)
theorem dX4_copyFrom_16 : decode cX4_copyFrom 16 = .ok (.aload_n 1, 1) := dc_43 (dc_nn (k := 16) aX4_copyFrom_0 rfl)
theorem dX4_copyFrom_17 : decode cX4_copyFrom 17 = .ok (.getfield 21, 3) := dc_180 (a0 := 0) (b0 := 21) (dc_nn (k := 17) aX4_copyFrom_0 rfl)
theorem dX4_copyFrom_20 : decode cX4_copyFrom 20 = .ok (.putfield 21, 3) := dc_181 (a0 := 0) (b0 := 21) (dc_nn (k := 20) aX4_copyFrom_0 rfl)
theorem dX4_copyFrom_23 : decode cX4_copyFrom 23 = .ok (.return_, 1) := dc_177 (dc_nn (k := 23) aX4_copyFrom_0 rfl)
set_option maxRecDepth 20000 in
theorem ggX4_readHand_X9_refuse : GoodIn wsX4_readHand wsX9_refuse := goodIn_k _ [[8, 0, 0, 0, 92, 0, 0, 0, 0, 0, 0, 0, 0, 0]] (by rfl) (by decide +kernel)
set_option maxRecDepth 20000 in
theorem gX4_readHand_X9_refuse : GoodIn wsX4_readHand (wsV RX4 27 RX9 yX9_refuse wsX9_refuse) := goodIn_app (goodIn_k _ [[4, 0, 0, 0]] (by rfl) (gw_V _ _ _ _)) ggX4_readHand_X9_refuse
set_option maxRecDepth 20000 in
theorem ggX4_readHand_X9_step : GoodIn wsX4_readHand wsX9_step := goodIn_k _ [[15, 0, 0, 0], [10, 8, 0, 0, 0], [7, 15, 0, 0, 0, 0, 0, 0, 74, 0, 0, 0, 0, 0, 0, 0, 0, 0]] (by rfl) (by decide +kernel)
set_option maxRecDepth 20000 in
theorem gX4_readHand_X9_step : GoodIn wsX4_readHand (wsV RX4 31 RX9 yX9_step wsX9_step) := goodIn_app (goodIn_k _ [[12, 0, 0], [7]] (by rfl) (gw_V _ _ _ _)) ggX4_readHand_X9_step
set_option maxRecDepth 20000 in
theorem ggX4_readHand_X9_takeNumber : GoodIn wsX4_readHand wsX9_takeNumber := goodIn_k _ [[33, 0, 0, 0], [7, 29], [19], [16], [10, 9, 17, 0], [5, 0, 1, 0, 1, 28], [13, 0, 0, 1, 0, 2, 0, 0, 0, 0, 0, 0, 0, 0, 74, 0, 0, 0, 0, 0, 0, 0, 0, 0]] (by rfl) (by decide +kernel)
set_option maxRecDepth 20000 in
theorem gX4_readHand_X9_takeNumber : GoodIn wsX4_readHand (wsV RX4 34 RX9 yX9_takeNumber wsX9_takeNumber) := goodIn_app (goodIn_k _ [[30, 0, 0], [7]] (by rfl) (gw_V _ _ _ _)) ggX4_readHand_X9_takeNumber
set_option maxRecDepth 20000 in
theorem ggX4_readHand_X9_takeWord : GoodIn wsX4_readHand wsX9_takeWord := goodIn_k _ [[44, 0, 0, 0], [7, 40], [19], [16], [10, 7, 30, 0, 0, 0, 0, 0, 0, 0, 0, 0, 0, 0, 0, 0, 0, 0, 0, 0, 0, 0, 0, 0, 0, 0, 0, 0, 0, 0, 0, 0, 0, 0, 0, 0, 0, 0, 0, 0, 0, 0, 0, 0, 0, 0, 0, 0, 0, 0, 0], [39], [5, 0, 1, 0, 1, 28], [13, 0, 0, 1, 2, 0, 0, 0, 0, 0, 0, 0, 0, 0, 74, 0, 0, 0, 0, 0, 0, 0, 0, 0]] (by rfl) (by decide +kernel)
set_option maxRecDepth 20000 in
theorem gX4_readHand_X9_takeWord : GoodIn wsX4_readHand (wsV RX4 43 RX9 yX9_takeWord wsX9_takeWord) := goodIn_app (goodIn_k _ [[41, 0, 0], [7]] (by rfl) (gw_V _ _ _ _)) ggX4_readHand_X9_takeWord
set_option maxRecDepth 20000 in
theorem ggX4_readHand_X9_takeStop : GoodIn wsX4_readHand wsX9_takeStop := goodIn_k _ [[101], [19, 19], [5, 0, 0, 0, 0, 0, 0, 28], [13, 0, 0, 0, 0, 0, 1, 0, 0, 0, 0, 0, 0, 0, 0, 0, 74, 0, 0, 0, 0, 0, 0, 0, 0, 0]] (by rfl) (by decide +kernel)
set_option maxRecDepth 20000 in
theorem gX4_readHand_X9_takeStop : GoodIn wsX4_readHand (wsV RX4 47 RX9 yX9_takeStop wsX9_takeStop) := goodIn_app (goodIn_k _ [[98, 0, 0], [7]] (by rfl) (gw_V _ _ _ _)) ggX4_readHand_X9_takeStop
noncomputable def sX4_readHand_82 : List Nat := 43 :: 182 :: 0 :: 47 :: 172 :: []
noncomputable def sX4_readHand_42 : List Nat := 153 :: 0 :: 13 :: 43 :: 3 :: 16 :: 29 :: 182 :: 0 :: 34 :: 154 :: 0 :: 5 :: 3 :: 172 :: 42 :: 180 :: 0 :: 9 :: 28 :: 92 :: 46 :: 4 :: 43 :: 180 :: 0 :: 38 :: 120 :: 128 :: 79 :: 42 :: 89 :: 180 :: 0 :: 21 :: 4 :: 96 :: 181 :: 0 :: 21 :: sX4_readHand_82
noncomputable def sX4_readHand_0 : List Nat := 42 :: 180 :: 0 :: 21 :: 16 :: 30 :: 161 :: 0 :: 9 :: 43 :: 5 :: 182 :: 0 :: 27 :: 172 :: 43 :: 182 :: 0 :: 31 :: 43 :: 3 :: 16 :: 29 :: 182 :: 0 :: 34 :: 154 :: 0 :: 5 :: 3 :: 172 :: 43 :: 180 :: 0 :: 38 :: 61 :: 43 :: 18 :: 41 :: 182 :: 0 :: 43 :: sX4_readHand_42
theorem aX4_readHand_0 : dc_at cX4_readHand 0 sX4_readHand_0 := dc_base (by decide +kernel)
theorem aX4_readHand_42 : dc_at cX4_readHand 42 sX4_readHand_42 := dc_nn (k := 42) aX4_readHand_0 rfl
theorem aX4_readHand_82 : dc_at cX4_readHand 82 sX4_readHand_82 := dc_nn (k := 40) aX4_readHand_42 rfl
theorem dX4_readHand_0 : decode cX4_readHand 0 = .ok (.aload_n 0, 1) := dc_42 aX4_readHand_0
theorem dX4_readHand_1 : decode cX4_readHand 1 = .ok (.getfield 21, 3) := dc_180 (a0 := 0) (b0 := 21) (dc_nn (k := 1) aX4_readHand_0 rfl)
theorem dX4_readHand_4 : decode cX4_readHand 4 = .ok (.bipush 30, 2) := dc_16 (a0 := 30) (dc_nn (k := 4) aX4_readHand_0 rfl) (by decide)
theorem dX4_readHand_6 : decode cX4_readHand 6 = .ok (.if_icmp .lt 9, 3) := dc_161 (a0 := 0) (b0 := 9) (dc_nn (k := 6) aX4_readHand_0 rfl) (by decide)
theorem dX4_readHand_9 : decode cX4_readHand 9 = .ok (.aload_n 1, 1) := dc_43 (dc_nn (k := 9) aX4_readHand_0 rfl)
theorem dX4_readHand_10 : decode cX4_readHand 10 = .ok (.iconst 2, 1) := dc_5 (dc_nn (k := 10) aX4_readHand_0 rfl)
theorem dX4_readHand_11 : decode cX4_readHand 11 = .ok (.invokevirtual 27, 3) := dc_182 (a0 := 0) (b0 := 27) (dc_nn (k := 11) aX4_readHand_0 rfl)
theorem dX4_readHand_14 : decode cX4_readHand 14 = .ok (.ireturn, 1) := dc_172 (dc_nn (k := 14) aX4_readHand_0 rfl)
theorem dX4_readHand_15 : decode cX4_readHand 15 = .ok (.aload_n 1, 1) := dc_43 (dc_nn (k := 15) aX4_readHand_0 rfl)
theorem dX4_readHand_16 : decode cX4_readHand 16 = .ok (.invokevirtual 31, 3) := dc_182 (a0 := 0) (b0 := 31) (dc_nn (k := 16) aX4_readHand_0 rfl)
theorem dX4_readHand_19 : decode cX4_readHand 19 = .ok (.aload_n 1, 1) := dc_43 (dc_nn (k := 19) aX4_readHand_0 rfl)
theorem dX4_readHand_20 : decode cX4_readHand 20 = .ok (.iconst 0, 1) := dc_3 (dc_nn (k := 20) aX4_readHand_0 rfl)
theorem dX4_readHand_21 : decode cX4_readHand 21 = .ok (.bipush 29, 2) := dc_16 (a0 := 29) (dc_nn (k := 21) aX4_readHand_0 rfl) (by decide)
theorem dX4_readHand_23 : decode cX4_readHand 23 = .ok (.invokevirtual 34, 3) := dc_182 (a0 := 0) (b0 := 34) (dc_nn (k := 23) aX4_readHand_0 rfl)
theorem dX4_readHand_26 : decode cX4_readHand 26 = .ok (.ifCond .ne 5, 3) := dc_154 (a0 := 0) (b0 := 5) (dc_nn (k := 26) aX4_readHand_0 rfl) (by decide)
theorem dX4_readHand_29 : decode cX4_readHand 29 = .ok (.iconst 0, 1) := dc_3 (dc_nn (k := 29) aX4_readHand_0 rfl)
theorem dX4_readHand_30 : decode cX4_readHand 30 = .ok (.ireturn, 1) := dc_172 (dc_nn (k := 30) aX4_readHand_0 rfl)
theorem dX4_readHand_31 : decode cX4_readHand 31 = .ok (.aload_n 1, 1) := dc_43 (dc_nn (k := 31) aX4_readHand_0 rfl)
theorem dX4_readHand_32 : decode cX4_readHand 32 = .ok (.getfield 38, 3) := dc_180 (a0 := 0) (b0 := 38) (dc_nn (k := 32) aX4_readHand_0 rfl)
theorem dX4_readHand_35 : decode cX4_readHand 35 = .ok (.istore_n 2, 1) := dc_61 (dc_nn (k := 35) aX4_readHand_0 rfl)
theorem dX4_readHand_36 : decode cX4_readHand 36 = .ok (.aload_n 1, 1) := dc_43 (dc_nn (k := 36) aX4_readHand_0 rfl)
theorem dX4_readHand_37 : decode cX4_readHand 37 = .ok (.ldc 41, 2) := dc_18 (a0 := 41) (dc_nn (k := 37) aX4_readHand_0 rfl)
theorem dX4_readHand_39 : decode cX4_readHand 39 = .ok (.invokevirtual 43, 3) := dc_182 (a0 := 0) (b0 := 43) (dc_nn (k := 39) aX4_readHand_0 rfl)
theorem dX4_readHand_42 : decode cX4_readHand 42 = .ok (.ifCond .eq 13, 3) := dc_153 (a0 := 0) (b0 := 13) aX4_readHand_42 (by decide)
theorem dX4_readHand_45 : decode cX4_readHand 45 = .ok (.aload_n 1, 1) := dc_43 (dc_nn (k := 3) aX4_readHand_42 rfl)
theorem dX4_readHand_46 : decode cX4_readHand 46 = .ok (.iconst 0, 1) := dc_3 (dc_nn (k := 4) aX4_readHand_42 rfl)
theorem dX4_readHand_47 : decode cX4_readHand 47 = .ok (.bipush 29, 2) := dc_16 (a0 := 29) (dc_nn (k := 5) aX4_readHand_42 rfl) (by decide)
theorem dX4_readHand_49 : decode cX4_readHand 49 = .ok (.invokevirtual 34, 3) := dc_182 (a0 := 0) (b0 := 34) (dc_nn (k := 7) aX4_readHand_42 rfl)
theorem dX4_readHand_52 : decode cX4_readHand 52 = .ok (.ifCond .ne 5, 3) := dc_154 (a0 := 0) (b0 := 5) (dc_nn (k := 10) aX4_readHand_42 rfl) (by decide)
theorem dX4_readHand_55 : decode cX4_readHand 55 = .ok (.iconst 0, 1) := dc_3 (dc_nn (k := 13) aX4_readHand_42 rfl)
theorem dX4_readHand_56 : decode cX4_readHand 56 = .ok (.ireturn, 1) := dc_172 (dc_nn (k := 14) aX4_readHand_42 rfl)
theorem dX4_readHand_57 : decode cX4_readHand 57 = .ok (.aload_n 0, 1) := dc_42 (dc_nn (k := 15) aX4_readHand_42 rfl)
theorem dX4_readHand_58 : decode cX4_readHand 58 = .ok (.getfield 9, 3) := dc_180 (a0 := 0) (b0 := 9) (dc_nn (k := 16) aX4_readHand_42 rfl)
theorem dX4_readHand_61 : decode cX4_readHand 61 = .ok (.iload_n 2, 1) := dc_28 (dc_nn (k := 19) aX4_readHand_42 rfl)
theorem dX4_readHand_62 : decode cX4_readHand 62 = .ok (.dup2, 1) := dc_92 (dc_nn (k := 20) aX4_readHand_42 rfl)
theorem dX4_readHand_63 : decode cX4_readHand 63 = .ok (.iaload, 1) := dc_46 (dc_nn (k := 21) aX4_readHand_42 rfl)
theorem dX4_readHand_64 : decode cX4_readHand 64 = .ok (.iconst 1, 1) := dc_4 (dc_nn (k := 22) aX4_readHand_42 rfl)
theorem dX4_readHand_65 : decode cX4_readHand 65 = .ok (.aload_n 1, 1) := dc_43 (dc_nn (k := 23) aX4_readHand_42 rfl)
theorem dX4_readHand_66 : decode cX4_readHand 66 = .ok (.getfield 38, 3) := dc_180 (a0 := 0) (b0 := 38) (dc_nn (k := 24) aX4_readHand_42 rfl)
theorem dX4_readHand_69 : decode cX4_readHand 69 = .ok (.ishl, 1) := dc_120 (dc_nn (k := 27) aX4_readHand_42 rfl)
theorem dX4_readHand_70 : decode cX4_readHand 70 = .ok (.ior, 1) := dc_128 (dc_nn (k := 28) aX4_readHand_42 rfl)
theorem dX4_readHand_71 : decode cX4_readHand 71 = .ok (.iastore, 1) := dc_79 (dc_nn (k := 29) aX4_readHand_42 rfl)
theorem dX4_readHand_72 : decode cX4_readHand 72 = .ok (.aload_n 0, 1) := dc_42 (dc_nn (k := 30) aX4_readHand_42 rfl)
theorem dX4_readHand_73 : decode cX4_readHand 73 = .ok (.dup, 1) := dc_89 (dc_nn (k := 31) aX4_readHand_42 rfl)
theorem dX4_readHand_74 : decode cX4_readHand 74 = .ok (.getfield 21, 3) := dc_180 (a0 := 0) (b0 := 21) (dc_nn (k := 32) aX4_readHand_42 rfl)
theorem dX4_readHand_77 : decode cX4_readHand 77 = .ok (.iconst 1, 1) := dc_4 (dc_nn (k := 35) aX4_readHand_42 rfl)
theorem dX4_readHand_78 : decode cX4_readHand 78 = .ok (.iadd, 1) := dc_96 (dc_nn (k := 36) aX4_readHand_42 rfl)
theorem dX4_readHand_79 : decode cX4_readHand 79 = .ok (.putfield 21, 3) := dc_181 (a0 := 0) (b0 := 21) (dc_nn (k := 37) aX4_readHand_42 rfl)
theorem dX4_readHand_82 : decode cX4_readHand 82 = .ok (.aload_n 1, 1) := dc_43 aX4_readHand_82
theorem dX4_readHand_83 : decode cX4_readHand 83 = .ok (.invokevirtual 47, 3) := dc_182 (a0 := 0) (b0 := 47) (dc_nn (k := 1) aX4_readHand_82 rfl)
theorem dX4_readHand_86 : decode cX4_readHand 86 = .ok (.ireturn, 1) := dc_172 (dc_nn (k := 4) aX4_readHand_82 rfl)
noncomputable def sX4_isRead_0 : List Nat := 42 :: 180 :: 0 :: 9 :: 27 :: 46 :: 28 :: 122 :: 4 :: 126 :: 4 :: 160 :: 0 :: 7 :: 4 :: 167 :: 0 :: 4 :: 3 :: 172 :: []
theorem aX4_isRead_0 : dc_at cX4_isRead 0 sX4_isRead_0 := dc_base (by decide +kernel)
theorem dX4_isRead_0 : decode cX4_isRead 0 = .ok (.aload_n 0, 1) := dc_42 aX4_isRead_0
theorem dX4_isRead_1 : decode cX4_isRead 1 = .ok (.getfield 9, 3) := dc_180 (a0 := 0) (b0 := 9) (dc_nn (k := 1) aX4_isRead_0 rfl)
theorem dX4_isRead_4 : decode cX4_isRead 4 = .ok (.iload_n 1, 1) := dc_27 (dc_nn (k := 4) aX4_isRead_0 rfl)
theorem dX4_isRead_5 : decode cX4_isRead 5 = .ok (.iaload, 1) := dc_46 (dc_nn (k := 5) aX4_isRead_0 rfl)
theorem dX4_isRead_6 : decode cX4_isRead 6 = .ok (.iload_n 2, 1) := dc_28 (dc_nn (k := 6) aX4_isRead_0 rfl)
theorem dX4_isRead_7 : decode cX4_isRead 7 = .ok (.ishr, 1) := dc_122 (dc_nn (k := 7) aX4_isRead_0 rfl)
theorem dX4_isRead_8 : decode cX4_isRead 8 = .ok (.iconst 1, 1) := dc_4 (dc_nn (k := 8) aX4_isRead_0 rfl)
theorem dX4_isRead_9 : decode cX4_isRead 9 = .ok (.iand, 1) := dc_126 (dc_nn (k := 9) aX4_isRead_0 rfl)
theorem dX4_isRead_10 : decode cX4_isRead 10 = .ok (.iconst 1, 1) := dc_4 (dc_nn (k := 10) aX4_isRead_0 rfl)
theorem dX4_isRead_11 : decode cX4_isRead 11 = .ok (.if_icmp .ne 7, 3) := dc_160 (a0 := 0) (b0 := 7) (dc_nn (k := 11) aX4_isRead_0 rfl) (by decide)
theorem dX4_isRead_14 : decode cX4_isRead 14 = .ok (.iconst 1, 1) := dc_4 (dc_nn (k := 14) aX4_isRead_0 rfl)
theorem dX4_isRead_15 : decode cX4_isRead 15 = .ok (.goto 4, 3) := dc_167 (a0 := 0) (b0 := 4) (dc_nn (k := 15) aX4_isRead_0 rfl) (by decide)
theorem dX4_isRead_18 : decode cX4_isRead 18 = .ok (.iconst 0, 1) := dc_3 (dc_nn (k := 18) aX4_isRead_0 rfl)
theorem dX4_isRead_19 : decode cX4_isRead 19 = .ok (.ireturn, 1) := dc_172 (dc_nn (k := 19) aX4_isRead_0 rfl)
set_option maxRecDepth 20000 in
theorem ggX4_misreading_X4_isRead : GoodIn wsX4_misreading wsX4_isRead := goodIn_k _ [[5, 0, 0, 0]] (by rfl) (by decide +kernel)
set_option maxRecDepth 20000 in
theorem gX4_misreading_X4_isRead : GoodIn wsX4_misreading (wsV RX4 51 RX4 yX4_isRead wsX4_isRead) := goodIn_app (goodIn_k _ [[1, 0, 0, 0]] (by rfl) (gw_V _ _ _ _)) ggX4_misreading_X4_isRead
noncomputable def sX4_misreading_80 : List Nat := 16 :: 9 :: 172 :: []
noncomputable def sX4_misreading_40 : List Nat := 27 :: 16 :: 30 :: 112 :: 28 :: 16 :: 30 :: 112 :: 160 :: 0 :: 22 :: 42 :: 27 :: 16 :: 30 :: 108 :: 28 :: 16 :: 30 :: 108 :: 182 :: 0 :: 51 :: 153 :: 0 :: 7 :: 4 :: 167 :: 0 :: 4 :: 3 :: 62 :: 29 :: 153 :: 0 :: 7 :: 5 :: 167 :: 0 :: 5 :: sX4_misreading_80
noncomputable def sX4_misreading_0 : List Nat := 27 :: 28 :: 160 :: 0 :: 5 :: 3 :: 172 :: 27 :: 16 :: 30 :: 108 :: 28 :: 16 :: 30 :: 108 :: 160 :: 0 :: 25 :: 42 :: 27 :: 16 :: 30 :: 112 :: 28 :: 16 :: 30 :: 112 :: 182 :: 0 :: 51 :: 153 :: 0 :: 7 :: 4 :: 167 :: 0 :: 5 :: 16 :: 9 :: 172 :: sX4_misreading_40
theorem aX4_misreading_0 : dc_at cX4_misreading 0 sX4_misreading_0 := dc_base (by decide +kernel)
theorem aX4_misreading_40 : dc_at cX4_misreading 40 sX4_misreading_40 := dc_nn (k := 40) aX4_misreading_0 rfl
theorem aX4_misreading_80 : dc_at cX4_misreading 80 sX4_misreading_80 := dc_nn (k := 40) aX4_misreading_40 rfl
theorem dX4_misreading_0 : decode cX4_misreading 0 = .ok (.iload_n 1, 1) := dc_27 aX4_misreading_0
theorem dX4_misreading_1 : decode cX4_misreading 1 = .ok (.iload_n 2, 1) := dc_28 (dc_nn (k := 1) aX4_misreading_0 rfl)
theorem dX4_misreading_2 : decode cX4_misreading 2 = .ok (.if_icmp .ne 5, 3) := dc_160 (a0 := 0) (b0 := 5) (dc_nn (k := 2) aX4_misreading_0 rfl) (by decide)
theorem dX4_misreading_5 : decode cX4_misreading 5 = .ok (.iconst 0, 1) := dc_3 (dc_nn (k := 5) aX4_misreading_0 rfl)
theorem dX4_misreading_6 : decode cX4_misreading 6 = .ok (.ireturn, 1) := dc_172 (dc_nn (k := 6) aX4_misreading_0 rfl)
theorem dX4_misreading_7 : decode cX4_misreading 7 = .ok (.iload_n 1, 1) := dc_27 (dc_nn (k := 7) aX4_misreading_0 rfl)
theorem dX4_misreading_8 : decode cX4_misreading 8 = .ok (.bipush 30, 2) := dc_16 (a0 := 30) (dc_nn (k := 8) aX4_misreading_0 rfl) (by decide)
theorem dX4_misreading_10 : decode cX4_misreading 10 = .ok (.idiv, 1) := dc_108 (dc_nn (k := 10) aX4_misreading_0 rfl)
theorem dX4_misreading_11 : decode cX4_misreading 11 = .ok (.iload_n 2, 1) := dc_28 (dc_nn (k := 11) aX4_misreading_0 rfl)
theorem dX4_misreading_12 : decode cX4_misreading 12 = .ok (.bipush 30, 2) := dc_16 (a0 := 30) (dc_nn (k := 12) aX4_misreading_0 rfl) (by decide)
theorem dX4_misreading_14 : decode cX4_misreading 14 = .ok (.idiv, 1) := dc_108 (dc_nn (k := 14) aX4_misreading_0 rfl)
theorem dX4_misreading_15 : decode cX4_misreading 15 = .ok (.if_icmp .ne 25, 3) := dc_160 (a0 := 0) (b0 := 25) (dc_nn (k := 15) aX4_misreading_0 rfl) (by decide)
theorem dX4_misreading_18 : decode cX4_misreading 18 = .ok (.aload_n 0, 1) := dc_42 (dc_nn (k := 18) aX4_misreading_0 rfl)
theorem dX4_misreading_19 : decode cX4_misreading 19 = .ok (.iload_n 1, 1) := dc_27 (dc_nn (k := 19) aX4_misreading_0 rfl)
theorem dX4_misreading_20 : decode cX4_misreading 20 = .ok (.bipush 30, 2) := dc_16 (a0 := 30) (dc_nn (k := 20) aX4_misreading_0 rfl) (by decide)
theorem dX4_misreading_22 : decode cX4_misreading 22 = .ok (.irem, 1) := dc_112 (dc_nn (k := 22) aX4_misreading_0 rfl)
theorem dX4_misreading_23 : decode cX4_misreading 23 = .ok (.iload_n 2, 1) := dc_28 (dc_nn (k := 23) aX4_misreading_0 rfl)
theorem dX4_misreading_24 : decode cX4_misreading 24 = .ok (.bipush 30, 2) := dc_16 (a0 := 30) (dc_nn (k := 24) aX4_misreading_0 rfl) (by decide)
theorem dX4_misreading_26 : decode cX4_misreading 26 = .ok (.irem, 1) := dc_112 (dc_nn (k := 26) aX4_misreading_0 rfl)
theorem dX4_misreading_27 : decode cX4_misreading 27 = .ok (.invokevirtual 51, 3) := dc_182 (a0 := 0) (b0 := 51) (dc_nn (k := 27) aX4_misreading_0 rfl)
theorem dX4_misreading_30 : decode cX4_misreading 30 = .ok (.ifCond .eq 7, 3) := dc_153 (a0 := 0) (b0 := 7) (dc_nn (k := 30) aX4_misreading_0 rfl) (by decide)
theorem dX4_misreading_33 : decode cX4_misreading 33 = .ok (.iconst 1, 1) := dc_4 (dc_nn (k := 33) aX4_misreading_0 rfl)
theorem dX4_misreading_34 : decode cX4_misreading 34 = .ok (.goto 5, 3) := dc_167 (a0 := 0) (b0 := 5) (dc_nn (k := 34) aX4_misreading_0 rfl) (by decide)
theorem dX4_misreading_37 : decode cX4_misreading 37 = .ok (.bipush 9, 2) := dc_16 (a0 := 9) (dc_nn (k := 37) aX4_misreading_0 rfl) (by decide)
theorem dX4_misreading_39 : decode cX4_misreading 39 = .ok (.ireturn, 1) := dc_172 (dc_nn (k := 39) aX4_misreading_0 rfl)
theorem dX4_misreading_40 : decode cX4_misreading 40 = .ok (.iload_n 1, 1) := dc_27 aX4_misreading_40
theorem dX4_misreading_41 : decode cX4_misreading 41 = .ok (.bipush 30, 2) := dc_16 (a0 := 30) (dc_nn (k := 1) aX4_misreading_40 rfl) (by decide)
theorem dX4_misreading_43 : decode cX4_misreading 43 = .ok (.irem, 1) := dc_112 (dc_nn (k := 3) aX4_misreading_40 rfl)
theorem dX4_misreading_44 : decode cX4_misreading 44 = .ok (.iload_n 2, 1) := dc_28 (dc_nn (k := 4) aX4_misreading_40 rfl)
theorem dX4_misreading_45 : decode cX4_misreading 45 = .ok (.bipush 30, 2) := dc_16 (a0 := 30) (dc_nn (k := 5) aX4_misreading_40 rfl) (by decide)
theorem dX4_misreading_47 : decode cX4_misreading 47 = .ok (.irem, 1) := dc_112 (dc_nn (k := 7) aX4_misreading_40 rfl)
theorem dX4_misreading_48 : decode cX4_misreading 48 = .ok (.if_icmp .ne 22, 3) := dc_160 (a0 := 0) (b0 := 22) (dc_nn (k := 8) aX4_misreading_40 rfl) (by decide)
theorem dX4_misreading_51 : decode cX4_misreading 51 = .ok (.aload_n 0, 1) := dc_42 (dc_nn (k := 11) aX4_misreading_40 rfl)
theorem dX4_misreading_52 : decode cX4_misreading 52 = .ok (.iload_n 1, 1) := dc_27 (dc_nn (k := 12) aX4_misreading_40 rfl)
theorem dX4_misreading_53 : decode cX4_misreading 53 = .ok (.bipush 30, 2) := dc_16 (a0 := 30) (dc_nn (k := 13) aX4_misreading_40 rfl) (by decide)
theorem dX4_misreading_55 : decode cX4_misreading 55 = .ok (.idiv, 1) := dc_108 (dc_nn (k := 15) aX4_misreading_40 rfl)
theorem dX4_misreading_56 : decode cX4_misreading 56 = .ok (.iload_n 2, 1) := dc_28 (dc_nn (k := 16) aX4_misreading_40 rfl)
theorem dX4_misreading_57 : decode cX4_misreading 57 = .ok (.bipush 30, 2) := dc_16 (a0 := 30) (dc_nn (k := 17) aX4_misreading_40 rfl) (by decide)
theorem dX4_misreading_59 : decode cX4_misreading 59 = .ok (.idiv, 1) := dc_108 (dc_nn (k := 19) aX4_misreading_40 rfl)
theorem dX4_misreading_60 : decode cX4_misreading 60 = .ok (.invokevirtual 51, 3) := dc_182 (a0 := 0) (b0 := 51) (dc_nn (k := 20) aX4_misreading_40 rfl)
theorem dX4_misreading_63 : decode cX4_misreading 63 = .ok (.ifCond .eq 7, 3) := dc_153 (a0 := 0) (b0 := 7) (dc_nn (k := 23) aX4_misreading_40 rfl) (by decide)
theorem dX4_misreading_66 : decode cX4_misreading 66 = .ok (.iconst 1, 1) := dc_4 (dc_nn (k := 26) aX4_misreading_40 rfl)
theorem dX4_misreading_67 : decode cX4_misreading 67 = .ok (.goto 4, 3) := dc_167 (a0 := 0) (b0 := 4) (dc_nn (k := 27) aX4_misreading_40 rfl) (by decide)
theorem dX4_misreading_70 : decode cX4_misreading 70 = .ok (.iconst 0, 1) := dc_3 (dc_nn (k := 30) aX4_misreading_40 rfl)
theorem dX4_misreading_71 : decode cX4_misreading 71 = .ok (.istore_n 3, 1) := dc_62 (dc_nn (k := 31) aX4_misreading_40 rfl)
theorem dX4_misreading_72 : decode cX4_misreading 72 = .ok (.iload_n 3, 1) := dc_29 (dc_nn (k := 32) aX4_misreading_40 rfl)
theorem dX4_misreading_73 : decode cX4_misreading 73 = .ok (.ifCond .eq 7, 3) := dc_153 (a0 := 0) (b0 := 7) (dc_nn (k := 33) aX4_misreading_40 rfl) (by decide)
theorem dX4_misreading_76 : decode cX4_misreading 76 = .ok (.iconst 2, 1) := dc_5 (dc_nn (k := 36) aX4_misreading_40 rfl)
theorem dX4_misreading_77 : decode cX4_misreading 77 = .ok (.goto 5, 3) := dc_167 (a0 := 0) (b0 := 5) (dc_nn (k := 37) aX4_misreading_40 rfl) (by decide)
theorem dX4_misreading_80 : decode cX4_misreading 80 = .ok (.bipush 9, 2) := dc_16 (a0 := 9) aX4_misreading_80 (by decide)
theorem dX4_misreading_82 : decode cX4_misreading 82 = .ok (.ireturn, 1) := dc_172 (dc_nn (k := 2) aX4_misreading_80 rfl)
set_option maxRecDepth 20000 in
theorem ggX4_costBeside_X4_misreading : GoodIn wsX4_costBeside wsX4_misreading := goodIn_k _ [[5, 0, 0, 0], [4, 4, 0, 0, 0]] (by rfl) (by decide +kernel)
set_option maxRecDepth 20000 in
theorem gX4_costBeside_X4_misreading : GoodIn wsX4_costBeside (wsV RX4 54 RX4 yX4_misreading wsX4_misreading) := goodIn_app (goodIn_k _ [[1, 0, 0, 0]] (by rfl) (gw_V _ _ _ _)) ggX4_costBeside_X4_misreading
noncomputable def sX4_costBeside_0 : List Nat := 42 :: 27 :: 28 :: 182 :: 0 :: 54 :: 62 :: 29 :: 5 :: 160 :: 0 :: 7 :: 4 :: 167 :: 0 :: 4 :: 29 :: 172 :: []
theorem aX4_costBeside_0 : dc_at cX4_costBeside 0 sX4_costBeside_0 := dc_base (by decide +kernel)
theorem dX4_costBeside_0 : decode cX4_costBeside 0 = .ok (.aload_n 0, 1) := dc_42 aX4_costBeside_0
theorem dX4_costBeside_1 : decode cX4_costBeside 1 = .ok (.iload_n 1, 1) := dc_27 (dc_nn (k := 1) aX4_costBeside_0 rfl)
theorem dX4_costBeside_2 : decode cX4_costBeside 2 = .ok (.iload_n 2, 1) := dc_28 (dc_nn (k := 2) aX4_costBeside_0 rfl)
theorem dX4_costBeside_3 : decode cX4_costBeside 3 = .ok (.invokevirtual 54, 3) := dc_182 (a0 := 0) (b0 := 54) (dc_nn (k := 3) aX4_costBeside_0 rfl)
theorem dX4_costBeside_6 : decode cX4_costBeside 6 = .ok (.istore_n 3, 1) := dc_62 (dc_nn (k := 6) aX4_costBeside_0 rfl)
theorem dX4_costBeside_7 : decode cX4_costBeside 7 = .ok (.iload_n 3, 1) := dc_29 (dc_nn (k := 7) aX4_costBeside_0 rfl)
theorem dX4_costBeside_8 : decode cX4_costBeside 8 = .ok (.iconst 2, 1) := dc_5 (dc_nn (k := 8) aX4_costBeside_0 rfl)
theorem dX4_costBeside_9 : decode cX4_costBeside 9 = .ok (.if_icmp .ne 7, 3) := dc_160 (a0 := 0) (b0 := 7) (dc_nn (k := 9) aX4_costBeside_0 rfl) (by decide)
theorem dX4_costBeside_12 : decode cX4_costBeside 12 = .ok (.iconst 1, 1) := dc_4 (dc_nn (k := 12) aX4_costBeside_0 rfl)
theorem dX4_costBeside_13 : decode cX4_costBeside 13 = .ok (.goto 4, 3) := dc_167 (a0 := 0) (b0 := 4) (dc_nn (k := 13) aX4_costBeside_0 rfl) (by decide)
theorem dX4_costBeside_16 : decode cX4_costBeside 16 = .ok (.iload_n 3, 1) := dc_29 (dc_nn (k := 16) aX4_costBeside_0 rfl)
theorem dX4_costBeside_17 : decode cX4_costBeside 17 = .ok (.ireturn, 1) := dc_172 (dc_nn (k := 17) aX4_costBeside_0 rfl)
set_option maxRecDepth 20000 in
theorem ggX5_init_X2_init : GoodIn wsX5_init wsX2_init := goodIn_k _ [[18, 0], [2, 0, 0, 15, 14, 0]] (by rfl) (by decide +kernel)
set_option maxRecDepth 20000 in
theorem gX5_init_X2_init_n26 : GoodIn wsX5_init (wsX2_init) := ggX5_init_X2_init
set_option maxRecDepth 20000 in
theorem ggX5_init_X4_init : GoodIn wsX5_init wsX4_init := goodIn_k _ [[22, 0], [2, 0, 0, 19, 12, 0]] (by rfl) (by decide +kernel)
set_option maxRecDepth 20000 in
theorem gX5_init_X4_init_n33 : GoodIn wsX5_init (wsX4_init) := ggX5_init_X4_init
set_option maxRecDepth 20000 in
theorem ggX5_init_J7_fill_53178 : GoodIn wsX5_init wsJ7_fill_53178 := goodIn_k _ [[28]] (by rfl) (by decide +kernel)
set_option maxRecDepth 20000 in
theorem gX5_init_J7_fill_53178 : GoodIn wsX5_init (va_wsS RX5 38 yJ7_fill_53178 wsJ7_fill_53178) := goodIn_app (goodIn_k _ [[25, 0, 0]] (by rfl) (gw_S _ _ _ _)) ggX5_init_J7_fill_53178
noncomputable def sX5_init_40 : List Nat := 89 :: 183 :: 0 :: 26 :: 181 :: 0 :: 27 :: 42 :: 187 :: 0 :: 31 :: 89 :: 183 :: 0 :: 33 :: 181 :: 0 :: 34 :: 42 :: 180 :: 0 :: 21 :: 4 :: 184 :: 0 :: 38 :: 177 :: []
noncomputable def sX5_init_0 : List Nat := 42 :: 183 :: 0 :: 3 :: 42 :: 16 :: 28 :: 188 :: 10 :: 181 :: 0 :: 11 :: 42 :: 16 :: 28 :: 188 :: 10 :: 181 :: 0 :: 15 :: 42 :: 16 :: 28 :: 188 :: 10 :: 181 :: 0 :: 18 :: 42 :: 16 :: 28 :: 188 :: 10 :: 181 :: 0 :: 21 :: 42 :: 187 :: 0 :: 24 :: sX5_init_40
theorem aX5_init_0 : dc_at cX5_init 0 sX5_init_0 := dc_base (by decide +kernel)
theorem aX5_init_40 : dc_at cX5_init 40 sX5_init_40 := dc_nn (k := 40) aX5_init_0 rfl
theorem dX5_init_0 : decode cX5_init 0 = .ok (.aload_n 0, 1) := dc_42 aX5_init_0
theorem dX5_init_1 : decode cX5_init 1 = .ok (.invokespecial 3, 3) := dc_183 (a0 := 0) (b0 := 3) (dc_nn (k := 1) aX5_init_0 rfl)
theorem dX5_init_4 : decode cX5_init 4 = .ok (.aload_n 0, 1) := dc_42 (dc_nn (k := 4) aX5_init_0 rfl)
theorem dX5_init_5 : decode cX5_init 5 = .ok (.bipush 28, 2) := dc_16 (a0 := 28) (dc_nn (k := 5) aX5_init_0 rfl) (by decide)
theorem dX5_init_7 : decode cX5_init 7 = .ok (.newarray .int, 2) := dc_188_10 (dc_nn (k := 7) aX5_init_0 rfl)
theorem dX5_init_9 : decode cX5_init 9 = .ok (.putfield 11, 3) := dc_181 (a0 := 0) (b0 := 11) (dc_nn (k := 9) aX5_init_0 rfl)
theorem dX5_init_12 : decode cX5_init 12 = .ok (.aload_n 0, 1) := dc_42 (dc_nn (k := 12) aX5_init_0 rfl)
theorem dX5_init_13 : decode cX5_init 13 = .ok (.bipush 28, 2) := dc_16 (a0 := 28) (dc_nn (k := 13) aX5_init_0 rfl) (by decide)
theorem dX5_init_15 : decode cX5_init 15 = .ok (.newarray .int, 2) := dc_188_10 (dc_nn (k := 15) aX5_init_0 rfl)
theorem dX5_init_17 : decode cX5_init 17 = .ok (.putfield 15, 3) := dc_181 (a0 := 0) (b0 := 15) (dc_nn (k := 17) aX5_init_0 rfl)
theorem dX5_init_20 : decode cX5_init 20 = .ok (.aload_n 0, 1) := dc_42 (dc_nn (k := 20) aX5_init_0 rfl)
theorem dX5_init_21 : decode cX5_init 21 = .ok (.bipush 28, 2) := dc_16 (a0 := 28) (dc_nn (k := 21) aX5_init_0 rfl) (by decide)
theorem dX5_init_23 : decode cX5_init 23 = .ok (.newarray .int, 2) := dc_188_10 (dc_nn (k := 23) aX5_init_0 rfl)
theorem dX5_init_25 : decode cX5_init 25 = .ok (.putfield 18, 3) := dc_181 (a0 := 0) (b0 := 18) (dc_nn (k := 25) aX5_init_0 rfl)
theorem dX5_init_28 : decode cX5_init 28 = .ok (.aload_n 0, 1) := dc_42 (dc_nn (k := 28) aX5_init_0 rfl)
theorem dX5_init_29 : decode cX5_init 29 = .ok (.bipush 28, 2) := dc_16 (a0 := 28) (dc_nn (k := 29) aX5_init_0 rfl) (by decide)
theorem dX5_init_31 : decode cX5_init 31 = .ok (.newarray .int, 2) := dc_188_10 (dc_nn (k := 31) aX5_init_0 rfl)
theorem dX5_init_33 : decode cX5_init 33 = .ok (.putfield 21, 3) := dc_181 (a0 := 0) (b0 := 21) (dc_nn (k := 33) aX5_init_0 rfl)
theorem dX5_init_36 : decode cX5_init 36 = .ok (.aload_n 0, 1) := dc_42 (dc_nn (k := 36) aX5_init_0 rfl)
theorem dX5_init_37 : decode cX5_init 37 = .ok (.new 24, 3) := dc_187 (a0 := 0) (b0 := 24) (dc_nn (k := 37) aX5_init_0 rfl)
theorem dX5_init_40 : decode cX5_init 40 = .ok (.dup, 1) := dc_89 aX5_init_40
theorem dX5_init_41 : decode cX5_init 41 = .ok (.invokespecial 26, 3) := dc_183 (a0 := 0) (b0 := 26) (dc_nn (k := 1) aX5_init_40 rfl)
theorem dX5_init_44 : decode cX5_init 44 = .ok (.putfield 27, 3) := dc_181 (a0 := 0) (b0 := 27) (dc_nn (k := 4) aX5_init_40 rfl)
theorem dX5_init_47 : decode cX5_init 47 = .ok (.aload_n 0, 1) := dc_42 (dc_nn (k := 7) aX5_init_40 rfl)
theorem dX5_init_48 : decode cX5_init 48 = .ok (.new 31, 3) := dc_187 (a0 := 0) (b0 := 31) (dc_nn (k := 8) aX5_init_40 rfl)
theorem dX5_init_51 : decode cX5_init 51 = .ok (.dup, 1) := dc_89 (dc_nn (k := 11) aX5_init_40 rfl)
theorem dX5_init_52 : decode cX5_init 52 = .ok (.invokespecial 33, 3) := dc_183 (a0 := 0) (b0 := 33) (dc_nn (k := 12) aX5_init_40 rfl)
theorem dX5_init_55 : decode cX5_init 55 = .ok (.putfield 34, 3) := dc_181 (a0 := 0) (b0 := 34) (dc_nn (k := 15) aX5_init_40 rfl)
theorem dX5_init_58 : decode cX5_init 58 = .ok (.aload_n 0, 1) := dc_42 (dc_nn (k := 18) aX5_init_40 rfl)
theorem dX5_init_59 : decode cX5_init 59 = .ok (.getfield 21, 3) := dc_180 (a0 := 0) (b0 := 21) (dc_nn (k := 19) aX5_init_40 rfl)
theorem dX5_init_62 : decode cX5_init 62 = .ok (.iconst 1, 1) := dc_4 (dc_nn (k := 22) aX5_init_40 rfl)
theorem dX5_init_63 : decode cX5_init 63 = .ok (.invokestatic 38, 3) := dc_184 (a0 := 0) (b0 := 38) (dc_nn (k := 23) aX5_init_40 rfl)
theorem dX5_init_66 : decode cX5_init 66 = .ok (.return_, 1) := dc_177 (dc_nn (k := 26) aX5_init_40 rfl)
set_option maxRecDepth 20000 in
theorem ggX5_copyFrom_X2_copyFrom : GoodIn wsX5_copyFrom wsX2_copyFrom := goodIn_k _ [[15, 0, 0], [3, 0, 0, 12, 14, 0]] (by rfl) (by decide +kernel)
set_option maxRecDepth 20000 in
theorem gX5_copyFrom_X2_copyFrom : GoodIn wsX5_copyFrom (wsV RX5 50 RX2 yX2_copyFrom wsX2_copyFrom) := goodIn_app (goodIn_k _ [[11, 0, 0, 0]] (by rfl) (gw_V _ _ _ _)) ggX5_copyFrom_X2_copyFrom
set_option maxRecDepth 20000 in
theorem ggX5_copyFrom_X4_copyFrom : GoodIn wsX5_copyFrom wsX4_copyFrom := goodIn_k _ [[23, 0, 0], [3, 0, 0, 20, 8, 0]] (by rfl) (by decide +kernel)
set_option maxRecDepth 20000 in
theorem gX5_copyFrom_X4_copyFrom : GoodIn wsX5_copyFrom (wsV RX5 54 RX4 yX4_copyFrom wsX4_copyFrom) := goodIn_app (goodIn_k _ [[19, 0, 0, 0]] (by rfl) (gw_V _ _ _ _)) ggX5_copyFrom_X4_copyFrom
noncomputable def sX5_copyFrom_82 : List Nat := 177 :: []
noncomputable def sX5_copyFrom_40 : List Nat := 16 :: 28 :: 184 :: 0 :: 44 :: 43 :: 180 :: 0 :: 21 :: 3 :: 42 :: 180 :: 0 :: 21 :: 3 :: 16 :: 28 :: 184 :: 0 :: 44 :: 42 :: 180 :: 0 :: 27 :: 43 :: 180 :: 0 :: 27 :: 182 :: 0 :: 50 :: 42 :: 180 :: 0 :: 34 :: 43 :: 180 :: 0 :: 34 :: 182 :: 0 :: 54 :: sX5_copyFrom_82
noncomputable def sX5_copyFrom_0 : List Nat := 43 :: 180 :: 0 :: 11 :: 3 :: 42 :: 180 :: 0 :: 11 :: 3 :: 16 :: 28 :: 184 :: 0 :: 44 :: 43 :: 180 :: 0 :: 15 :: 3 :: 42 :: 180 :: 0 :: 15 :: 3 :: 16 :: 28 :: 184 :: 0 :: 44 :: 43 :: 180 :: 0 :: 18 :: 3 :: 42 :: 180 :: 0 :: 18 :: 3 :: sX5_copyFrom_40
theorem aX5_copyFrom_0 : dc_at cX5_copyFrom 0 sX5_copyFrom_0 := dc_base (by decide +kernel)
theorem aX5_copyFrom_40 : dc_at cX5_copyFrom 40 sX5_copyFrom_40 := dc_nn (k := 40) aX5_copyFrom_0 rfl
theorem aX5_copyFrom_82 : dc_at cX5_copyFrom 82 sX5_copyFrom_82 := dc_nn (k := 42) aX5_copyFrom_40 rfl
theorem dX5_copyFrom_0 : decode cX5_copyFrom 0 = .ok (.aload_n 1, 1) := dc_43 aX5_copyFrom_0
theorem dX5_copyFrom_1 : decode cX5_copyFrom 1 = .ok (.getfield 11, 3) := dc_180 (a0 := 0) (b0 := 11) (dc_nn (k := 1) aX5_copyFrom_0 rfl)
theorem dX5_copyFrom_4 : decode cX5_copyFrom 4 = .ok (.iconst 0, 1) := dc_3 (dc_nn (k := 4) aX5_copyFrom_0 rfl)
theorem dX5_copyFrom_5 : decode cX5_copyFrom 5 = .ok (.aload_n 0, 1) := dc_42 (dc_nn (k := 5) aX5_copyFrom_0 rfl)
theorem dX5_copyFrom_6 : decode cX5_copyFrom 6 = .ok (.getfield 11, 3) := dc_180 (a0 := 0) (b0 := 11) (dc_nn (k := 6) aX5_copyFrom_0 rfl)
theorem dX5_copyFrom_9 : decode cX5_copyFrom 9 = .ok (.iconst 0, 1) := dc_3 (dc_nn (k := 9) aX5_copyFrom_0 rfl)
theorem dX5_copyFrom_10 : decode cX5_copyFrom 10 = .ok (.bipush 28, 2) := dc_16 (a0 := 28) (dc_nn (k := 10) aX5_copyFrom_0 rfl) (by decide)
theorem dX5_copyFrom_12 : decode cX5_copyFrom 12 = .ok (.invokestatic 44, 3) := dc_184 (a0 := 0) (b0 := 44) (dc_nn (k := 12) aX5_copyFrom_0 rfl)
theorem dX5_copyFrom_15 : decode cX5_copyFrom 15 = .ok (.aload_n 1, 1) := dc_43 (dc_nn (k := 15) aX5_copyFrom_0 rfl)
theorem dX5_copyFrom_16 : decode cX5_copyFrom 16 = .ok (.getfield 15, 3) := dc_180 (a0 := 0) (b0 := 15) (dc_nn (k := 16) aX5_copyFrom_0 rfl)
theorem dX5_copyFrom_19 : decode cX5_copyFrom 19 = .ok (.iconst 0, 1) := dc_3 (dc_nn (k := 19) aX5_copyFrom_0 rfl)
theorem dX5_copyFrom_20 : decode cX5_copyFrom 20 = .ok (.aload_n 0, 1) := dc_42 (dc_nn (k := 20) aX5_copyFrom_0 rfl)
theorem dX5_copyFrom_21 : decode cX5_copyFrom 21 = .ok (.getfield 15, 3) := dc_180 (a0 := 0) (b0 := 15) (dc_nn (k := 21) aX5_copyFrom_0 rfl)
theorem dX5_copyFrom_24 : decode cX5_copyFrom 24 = .ok (.iconst 0, 1) := dc_3 (dc_nn (k := 24) aX5_copyFrom_0 rfl)
theorem dX5_copyFrom_25 : decode cX5_copyFrom 25 = .ok (.bipush 28, 2) := dc_16 (a0 := 28) (dc_nn (k := 25) aX5_copyFrom_0 rfl) (by decide)
theorem dX5_copyFrom_27 : decode cX5_copyFrom 27 = .ok (.invokestatic 44, 3) := dc_184 (a0 := 0) (b0 := 44) (dc_nn (k := 27) aX5_copyFrom_0 rfl)
theorem dX5_copyFrom_30 : decode cX5_copyFrom 30 = .ok (.aload_n 1, 1) := dc_43 (dc_nn (k := 30) aX5_copyFrom_0 rfl)
theorem dX5_copyFrom_31 : decode cX5_copyFrom 31 = .ok (.getfield 18, 3) := dc_180 (a0 := 0) (b0 := 18) (dc_nn (k := 31) aX5_copyFrom_0 rfl)
theorem dX5_copyFrom_34 : decode cX5_copyFrom 34 = .ok (.iconst 0, 1) := dc_3 (dc_nn (k := 34) aX5_copyFrom_0 rfl)
theorem dX5_copyFrom_35 : decode cX5_copyFrom 35 = .ok (.aload_n 0, 1) := dc_42 (dc_nn (k := 35) aX5_copyFrom_0 rfl)
theorem dX5_copyFrom_36 : decode cX5_copyFrom 36 = .ok (.getfield 18, 3) := dc_180 (a0 := 0) (b0 := 18) (dc_nn (k := 36) aX5_copyFrom_0 rfl)
theorem dX5_copyFrom_39 : decode cX5_copyFrom 39 = .ok (.iconst 0, 1) := dc_3 (dc_nn (k := 39) aX5_copyFrom_0 rfl)
theorem dX5_copyFrom_40 : decode cX5_copyFrom 40 = .ok (.bipush 28, 2) := dc_16 (a0 := 28) aX5_copyFrom_40 (by decide)
theorem dX5_copyFrom_42 : decode cX5_copyFrom 42 = .ok (.invokestatic 44, 3) := dc_184 (a0 := 0) (b0 := 44) (dc_nn (k := 2) aX5_copyFrom_40 rfl)
theorem dX5_copyFrom_45 : decode cX5_copyFrom 45 = .ok (.aload_n 1, 1) := dc_43 (dc_nn (k := 5) aX5_copyFrom_40 rfl)
theorem dX5_copyFrom_46 : decode cX5_copyFrom 46 = .ok (.getfield 21, 3) := dc_180 (a0 := 0) (b0 := 21) (dc_nn (k := 6) aX5_copyFrom_40 rfl)
theorem dX5_copyFrom_49 : decode cX5_copyFrom 49 = .ok (.iconst 0, 1) := dc_3 (dc_nn (k := 9) aX5_copyFrom_40 rfl)
theorem dX5_copyFrom_50 : decode cX5_copyFrom 50 = .ok (.aload_n 0, 1) := dc_42 (dc_nn (k := 10) aX5_copyFrom_40 rfl)
theorem dX5_copyFrom_51 : decode cX5_copyFrom 51 = .ok (.getfield 21, 3) := dc_180 (a0 := 0) (b0 := 21) (dc_nn (k := 11) aX5_copyFrom_40 rfl)
theorem dX5_copyFrom_54 : decode cX5_copyFrom 54 = .ok (.iconst 0, 1) := dc_3 (dc_nn (k := 14) aX5_copyFrom_40 rfl)
theorem dX5_copyFrom_55 : decode cX5_copyFrom 55 = .ok (.bipush 28, 2) := dc_16 (a0 := 28) (dc_nn (k := 15) aX5_copyFrom_40 rfl) (by decide)
theorem dX5_copyFrom_57 : decode cX5_copyFrom 57 = .ok (.invokestatic 44, 3) := dc_184 (a0 := 0) (b0 := 44) (dc_nn (k := 17) aX5_copyFrom_40 rfl)
theorem dX5_copyFrom_60 : decode cX5_copyFrom 60 = .ok (.aload_n 0, 1) := dc_42 (dc_nn (k := 20) aX5_copyFrom_40 rfl)
theorem dX5_copyFrom_61 : decode cX5_copyFrom 61 = .ok (.getfield 27, 3) := dc_180 (a0 := 0) (b0 := 27) (dc_nn (k := 21) aX5_copyFrom_40 rfl)
theorem dX5_copyFrom_64 : decode cX5_copyFrom 64 = .ok (.aload_n 1, 1) := dc_43 (dc_nn (k := 24) aX5_copyFrom_40 rfl)
theorem dX5_copyFrom_65 : decode cX5_copyFrom 65 = .ok (.getfield 27, 3) := dc_180 (a0 := 0) (b0 := 27) (dc_nn (k := 25) aX5_copyFrom_40 rfl)
theorem dX5_copyFrom_68 : decode cX5_copyFrom 68 = .ok (.invokevirtual 50, 3) := dc_182 (a0 := 0) (b0 := 50) (dc_nn (k := 28) aX5_copyFrom_40 rfl)
theorem dX5_copyFrom_71 : decode cX5_copyFrom 71 = .ok (.aload_n 0, 1) := dc_42 (dc_nn (k := 31) aX5_copyFrom_40 rfl)
theorem dX5_copyFrom_72 : decode cX5_copyFrom 72 = .ok (.getfield 34, 3) := dc_180 (a0 := 0) (b0 := 34) (dc_nn (k := 32) aX5_copyFrom_40 rfl)
theorem dX5_copyFrom_75 : decode cX5_copyFrom 75 = .ok (.aload_n 1, 1) := dc_43 (dc_nn (k := 35) aX5_copyFrom_40 rfl)
theorem dX5_copyFrom_76 : decode cX5_copyFrom 76 = .ok (.getfield 34, 3) := dc_180 (a0 := 0) (b0 := 34) (dc_nn (k := 36) aX5_copyFrom_40 rfl)
theorem dX5_copyFrom_79 : decode cX5_copyFrom 79 = .ok (.invokevirtual 54, 3) := dc_182 (a0 := 0) (b0 := 54) (dc_nn (k := 39) aX5_copyFrom_40 rfl)
theorem dX5_copyFrom_82 : decode cX5_copyFrom 82 = .ok (.return_, 1) := dc_177 aX5_copyFrom_82
set_option maxRecDepth 20000 in
theorem ggX5_readLines_X9_isAtEnd : GoodIn wsX5_readLines wsX9_isAtEnd := goodIn_k _ [[7, 0, 160, 0, 0, 0, 0, 0, 0, 0, 0, 0]] (by rfl) (by decide +kernel)
set_option maxRecDepth 20000 in
theorem gX5_readLines_X9_isAtEnd : GoodIn wsX5_readLines (wsV RX5 59 RX9 yX9_isAtEnd wsX9_isAtEnd) := goodIn_app (goodIn_k _ [[3, 0, 0, 0]] (by rfl) (gw_V _ _ _ _)) ggX5_readLines_X9_isAtEnd
set_option maxRecDepth 20000 in
theorem ggX5_readLines_X9_isWord : GoodIn wsX5_readLines wsX9_isWord := goodIn_k _ [[12], [8, 4, 0, 0, 0, 0, 0, 0, 0, 0, 0, 0, 0, 0, 0, 0, 0, 0, 0, 0, 0, 0, 0, 0, 0, 0, 0, 0, 0, 0, 0, 0, 0, 0, 0, 0, 0, 0, 0, 0, 0, 0, 0, 0, 0, 0, 0, 0, 0, 0, 0, 0, 0, 104, 0, 0, 0, 0, 0, 0, 0, 0, 0]] (by rfl) (by decide +kernel)
set_option maxRecDepth 20000 in
theorem gX5_readLines_X9_isWord : GoodIn wsX5_readLines (wsV RX5 65 RX9 yX9_isWord wsX9_isWord) := goodIn_app (goodIn_k _ [[9, 0, 0], [6]] (by rfl) (gw_V _ _ _ _)) ggX5_readLines_X9_isWord
set_option maxRecDepth 20000 in
theorem ggX5_readLines_X5_readSet : GoodIn wsX5_readLines wsX5_readSet := goodIn_k _ [[69, 0, 0, 0, 0], [6, 67], [13, 61], [15], [14], [8, 67, 0, 0, 0, 0, 0, 0, 0, 0, 0, 0, 0, 0, 0, 0, 0, 0, 0, 0, 0, 0, 0, 0, 0, 0, 0, 0, 0, 0, 0, 0, 0, 0, 0], [10, 0, 0, 3, 0, 0, 0, 0, 0, 0, 0, 0, 0, 0, 0, 0, 0, 0, 0, 0, 0, 0, 0, 0, 0, 0, 0, 0, 0, 0, 0, 0, 0, 0, 0, 0, 0, 0, 0, 0, 0, 0, 0, 0, 0, 0, 0, 0, 0, 0, 0, 0, 45, 0, 0, 0], [68, 45, 0, 0, 0, 0, 0, 0, 0, 0, 0, 0], [9, 115, 0, 0, 0, 40, 0, 0, 0, 0, 0, 0, 0, 0, 0], [163, 0, 0, 0, 0, 0]] (by rfl) (by decide +kernel)
set_option maxRecDepth 20000 in
theorem gX5_readLines_X5_readSet : GoodIn wsX5_readLines (wsV RX5 69 RX5 yX5_readSet wsX5_readSet) := goodIn_app (goodIn_k _ [[65, 0, 0, 0]] (by rfl) (gw_V _ _ _ _)) ggX5_readLines_X5_readSet
set_option maxRecDepth 20000 in
theorem ggX5_readLines_X2_readClimate : GoodIn wsX5_readLines wsX2_readClimate := goodIn_k _ [[133, 0, 0], [96, 0], [6, 91, 0], [14, 85, 35], [72, 0, 0], [13, 61], [15], [8, 67, 0, 0, 0, 0, 0, 0, 0, 0, 0, 51], [87, 0, 0, 0, 0, 0, 0, 0, 0, 5, 36, 0, 0], [132, 8, 0, 0, 0, 0, 0, 0, 0, 0], [126, 0, 0, 50, 0], [169, 0, 0, 0, 0, 0, 0, 0, 0, 0]] (by rfl) (by decide +kernel)
set_option maxRecDepth 20000 in
theorem gX5_readLines_X2_readClimate : GoodIn wsX5_readLines (wsV RX5 75 RX2 yX2_readClimate wsX2_readClimate) := goodIn_app (goodIn_k _ [[129, 0, 0, 0]] (by rfl) (gw_V _ _ _ _)) ggX5_readLines_X2_readClimate
set_option maxRecDepth 20000 in
theorem ggX5_readLines_X4_readHand : GoodIn wsX5_readLines wsX4_readHand := goodIn_k _ [[154, 0, 0, 0, 0], [96, 0], [6, 91, 0], [14, 85, 58], [72, 0, 0], [13, 61], [15], [8, 67, 0, 0, 0, 0, 0, 0, 0, 0, 0, 74], [87, 0, 0, 0, 0, 0, 0, 0, 0, 5, 59], [122, 0, 0], [109], [10, 0, 0, 3, 0, 0, 0, 0, 0, 0, 0, 0, 0, 0, 0, 0, 0, 0, 0, 0, 0, 0, 0, 0, 0, 0, 0, 0, 0, 0, 0, 0, 0, 0, 0, 0, 0, 0, 0, 0, 0, 0, 0, 0, 0, 0, 0, 0, 0, 0, 0, 0, 97], [126, 0, 0, 52, 0], [169, 0, 0, 0, 0, 0, 0, 0, 0, 0]] (by rfl) (by decide +kernel)
set_option maxRecDepth 20000 in
theorem gX5_readLines_X4_readHand : GoodIn wsX5_readLines (wsV RX5 80 RX4 yX4_readHand wsX4_readHand) := goodIn_app (goodIn_k _ [[150, 0, 0, 0]] (by rfl) (gw_V _ _ _ _)) ggX5_readLines_X4_readHand
set_option maxRecDepth 20000 in
theorem ggX5_readLines_X9_refuse : GoodIn wsX5_readLines wsX9_refuse := goodIn_k _ [[98, 0], [14, 85, 68, 0, 0, 0, 0, 0, 0, 0, 0, 0]] (by rfl) (by decide +kernel)
set_option maxRecDepth 20000 in
theorem gX5_readLines_X9_refuse : GoodIn wsX5_readLines (wsV RX5 83 RX9 yX9_refuse wsX9_refuse) := goodIn_app (goodIn_k _ [[110], [96, 0], [6]] (by rfl) (gw_V _ _ _ _)) ggX5_readLines_X9_refuse
noncomputable def sX5_readLines_82 : List Nat := 43 :: 4 :: 182 :: 0 :: 83 :: 61 :: 132 :: 3 :: 1 :: 167 :: 255 :: 169 :: 28 :: 172 :: []
noncomputable def sX5_readLines_40 : List Nat := 43 :: 18 :: 73 :: 182 :: 0 :: 65 :: 153 :: 0 :: 15 :: 42 :: 180 :: 0 :: 27 :: 43 :: 182 :: 0 :: 75 :: 61 :: 167 :: 0 :: 30 :: 43 :: 18 :: 78 :: 182 :: 0 :: 65 :: 153 :: 0 :: 15 :: 42 :: 180 :: 0 :: 34 :: 43 :: 182 :: 0 :: 80 :: 61 :: 167 :: 0 :: 9 :: sX5_readLines_82
noncomputable def sX5_readLines_0 : List Nat := 4 :: 61 :: 3 :: 62 :: 29 :: 17 :: 2 :: 88 :: 162 :: 0 :: 86 :: 28 :: 153 :: 0 :: 82 :: 43 :: 182 :: 0 :: 59 :: 154 :: 0 :: 75 :: 43 :: 18 :: 63 :: 182 :: 0 :: 65 :: 153 :: 0 :: 12 :: 42 :: 43 :: 182 :: 0 :: 69 :: 61 :: 167 :: 0 :: 51 :: sX5_readLines_40
theorem aX5_readLines_0 : dc_at cX5_readLines 0 sX5_readLines_0 := dc_base (by decide +kernel)
theorem aX5_readLines_40 : dc_at cX5_readLines 40 sX5_readLines_40 := dc_nn (k := 40) aX5_readLines_0 rfl
theorem aX5_readLines_82 : dc_at cX5_readLines 82 sX5_readLines_82 := dc_nn (k := 42) aX5_readLines_40 rfl
theorem dX5_readLines_0 : decode cX5_readLines 0 = .ok (.iconst 1, 1) := dc_4 aX5_readLines_0
theorem dX5_readLines_1 : decode cX5_readLines 1 = .ok (.istore_n 2, 1) := dc_61 (dc_nn (k := 1) aX5_readLines_0 rfl)
theorem dX5_readLines_2 : decode cX5_readLines 2 = .ok (.iconst 0, 1) := dc_3 (dc_nn (k := 2) aX5_readLines_0 rfl)
theorem dX5_readLines_3 : decode cX5_readLines 3 = .ok (.istore_n 3, 1) := dc_62 (dc_nn (k := 3) aX5_readLines_0 rfl)
theorem dX5_readLines_4 : decode cX5_readLines 4 = .ok (.iload_n 3, 1) := dc_29 (dc_nn (k := 4) aX5_readLines_0 rfl)
theorem dX5_readLines_5 : decode cX5_readLines 5 = .ok (.sipush 600, 3) := dc_17 (a0 := 2) (b0 := 88) (dc_nn (k := 5) aX5_readLines_0 rfl) (by decide)
theorem dX5_readLines_8 : decode cX5_readLines 8 = .ok (.if_icmp .ge 86, 3) := dc_162 (a0 := 0) (b0 := 86) (dc_nn (k := 8) aX5_readLines_0 rfl) (by decide)
theorem dX5_readLines_11 : decode cX5_readLines 11 = .ok (.iload_n 2, 1) := dc_28 (dc_nn (k := 11) aX5_readLines_0 rfl)
theorem dX5_readLines_12 : decode cX5_readLines 12 = .ok (.ifCond .eq 82, 3) := dc_153 (a0 := 0) (b0 := 82) (dc_nn (k := 12) aX5_readLines_0 rfl) (by decide)
theorem dX5_readLines_15 : decode cX5_readLines 15 = .ok (.aload_n 1, 1) := dc_43 (dc_nn (k := 15) aX5_readLines_0 rfl)
theorem dX5_readLines_16 : decode cX5_readLines 16 = .ok (.invokevirtual 59, 3) := dc_182 (a0 := 0) (b0 := 59) (dc_nn (k := 16) aX5_readLines_0 rfl)
theorem dX5_readLines_19 : decode cX5_readLines 19 = .ok (.ifCond .ne 75, 3) := dc_154 (a0 := 0) (b0 := 75) (dc_nn (k := 19) aX5_readLines_0 rfl) (by decide)
theorem dX5_readLines_22 : decode cX5_readLines 22 = .ok (.aload_n 1, 1) := dc_43 (dc_nn (k := 22) aX5_readLines_0 rfl)
theorem dX5_readLines_23 : decode cX5_readLines 23 = .ok (.ldc 63, 2) := dc_18 (a0 := 63) (dc_nn (k := 23) aX5_readLines_0 rfl)
theorem dX5_readLines_25 : decode cX5_readLines 25 = .ok (.invokevirtual 65, 3) := dc_182 (a0 := 0) (b0 := 65) (dc_nn (k := 25) aX5_readLines_0 rfl)
theorem dX5_readLines_28 : decode cX5_readLines 28 = .ok (.ifCond .eq 12, 3) := dc_153 (a0 := 0) (b0 := 12) (dc_nn (k := 28) aX5_readLines_0 rfl) (by decide)
theorem dX5_readLines_31 : decode cX5_readLines 31 = .ok (.aload_n 0, 1) := dc_42 (dc_nn (k := 31) aX5_readLines_0 rfl)
theorem dX5_readLines_32 : decode cX5_readLines 32 = .ok (.aload_n 1, 1) := dc_43 (dc_nn (k := 32) aX5_readLines_0 rfl)
theorem dX5_readLines_33 : decode cX5_readLines 33 = .ok (.invokevirtual 69, 3) := dc_182 (a0 := 0) (b0 := 69) (dc_nn (k := 33) aX5_readLines_0 rfl)
theorem dX5_readLines_36 : decode cX5_readLines 36 = .ok (.istore_n 2, 1) := dc_61 (dc_nn (k := 36) aX5_readLines_0 rfl)
theorem dX5_readLines_37 : decode cX5_readLines 37 = .ok (.goto 51, 3) := dc_167 (a0 := 0) (b0 := 51) (dc_nn (k := 37) aX5_readLines_0 rfl) (by decide)
theorem dX5_readLines_40 : decode cX5_readLines 40 = .ok (.aload_n 1, 1) := dc_43 aX5_readLines_40
theorem dX5_readLines_41 : decode cX5_readLines 41 = .ok (.ldc 73, 2) := dc_18 (a0 := 73) (dc_nn (k := 1) aX5_readLines_40 rfl)
theorem dX5_readLines_43 : decode cX5_readLines 43 = .ok (.invokevirtual 65, 3) := dc_182 (a0 := 0) (b0 := 65) (dc_nn (k := 3) aX5_readLines_40 rfl)
theorem dX5_readLines_46 : decode cX5_readLines 46 = .ok (.ifCond .eq 15, 3) := dc_153 (a0 := 0) (b0 := 15) (dc_nn (k := 6) aX5_readLines_40 rfl) (by decide)
theorem dX5_readLines_49 : decode cX5_readLines 49 = .ok (.aload_n 0, 1) := dc_42 (dc_nn (k := 9) aX5_readLines_40 rfl)
theorem dX5_readLines_50 : decode cX5_readLines 50 = .ok (.getfield 27, 3) := dc_180 (a0 := 0) (b0 := 27) (dc_nn (k := 10) aX5_readLines_40 rfl)
theorem dX5_readLines_53 : decode cX5_readLines 53 = .ok (.aload_n 1, 1) := dc_43 (dc_nn (k := 13) aX5_readLines_40 rfl)
theorem dX5_readLines_54 : decode cX5_readLines 54 = .ok (.invokevirtual 75, 3) := dc_182 (a0 := 0) (b0 := 75) (dc_nn (k := 14) aX5_readLines_40 rfl)
theorem dX5_readLines_57 : decode cX5_readLines 57 = .ok (.istore_n 2, 1) := dc_61 (dc_nn (k := 17) aX5_readLines_40 rfl)
theorem dX5_readLines_58 : decode cX5_readLines 58 = .ok (.goto 30, 3) := dc_167 (a0 := 0) (b0 := 30) (dc_nn (k := 18) aX5_readLines_40 rfl) (by decide)
theorem dX5_readLines_61 : decode cX5_readLines 61 = .ok (.aload_n 1, 1) := dc_43 (dc_nn (k := 21) aX5_readLines_40 rfl)
theorem dX5_readLines_62 : decode cX5_readLines 62 = .ok (.ldc 78, 2) := dc_18 (a0 := 78) (dc_nn (k := 22) aX5_readLines_40 rfl)
theorem dX5_readLines_64 : decode cX5_readLines 64 = .ok (.invokevirtual 65, 3) := dc_182 (a0 := 0) (b0 := 65) (dc_nn (k := 24) aX5_readLines_40 rfl)
theorem dX5_readLines_67 : decode cX5_readLines 67 = .ok (.ifCond .eq 15, 3) := dc_153 (a0 := 0) (b0 := 15) (dc_nn (k := 27) aX5_readLines_40 rfl) (by decide)
theorem dX5_readLines_70 : decode cX5_readLines 70 = .ok (.aload_n 0, 1) := dc_42 (dc_nn (k := 30) aX5_readLines_40 rfl)
theorem dX5_readLines_71 : decode cX5_readLines 71 = .ok (.getfield 34, 3) := dc_180 (a0 := 0) (b0 := 34) (dc_nn (k := 31) aX5_readLines_40 rfl)
theorem dX5_readLines_74 : decode cX5_readLines 74 = .ok (.aload_n 1, 1) := dc_43 (dc_nn (k := 34) aX5_readLines_40 rfl)
theorem dX5_readLines_75 : decode cX5_readLines 75 = .ok (.invokevirtual 80, 3) := dc_182 (a0 := 0) (b0 := 80) (dc_nn (k := 35) aX5_readLines_40 rfl)
theorem dX5_readLines_78 : decode cX5_readLines 78 = .ok (.istore_n 2, 1) := dc_61 (dc_nn (k := 38) aX5_readLines_40 rfl)
theorem dX5_readLines_79 : decode cX5_readLines 79 = .ok (.goto 9, 3) := dc_167 (a0 := 0) (b0 := 9) (dc_nn (k := 39) aX5_readLines_40 rfl) (by decide)
theorem dX5_readLines_82 : decode cX5_readLines 82 = .ok (.aload_n 1, 1) := dc_43 aX5_readLines_82
theorem dX5_readLines_83 : decode cX5_readLines 83 = .ok (.iconst 1, 1) := dc_4 (dc_nn (k := 1) aX5_readLines_82 rfl)
theorem dX5_readLines_84 : decode cX5_readLines 84 = .ok (.invokevirtual 83, 3) := dc_182 (a0 := 0) (b0 := 83) (dc_nn (k := 2) aX5_readLines_82 rfl)
theorem dX5_readLines_87 : decode cX5_readLines 87 = .ok (.istore_n 2, 1) := dc_61 (dc_nn (k := 5) aX5_readLines_82 rfl)
theorem dX5_readLines_88 : decode cX5_readLines 88 = .ok (.iinc 3 1, 3) := dc_132 (a0 := 3) (a1 := 1) (dc_nn (k := 6) aX5_readLines_82 rfl) (by decide)
theorem dX5_readLines_91 : decode cX5_readLines 91 = .ok (.goto (-87), 3) := dc_167 (a0 := 255) (b0 := 169) (dc_nn (k := 9) aX5_readLines_82 rfl) (by decide)
theorem dX5_readLines_94 : decode cX5_readLines 94 = .ok (.iload_n 2, 1) := dc_28 (dc_nn (k := 12) aX5_readLines_82 rfl)
theorem dX5_readLines_95 : decode cX5_readLines 95 = .ok (.ireturn, 1) := dc_172 (dc_nn (k := 13) aX5_readLines_82 rfl)
set_option maxRecDepth 20000 in
theorem ggX5_readSet_X9_step : GoodIn wsX5_readSet wsX9_step := goodIn_k _ [[6, 0, 0, 0, 0, 0, 0, 0, 0], [5, 9, 0, 0, 0, 0, 0, 0, 97, 0, 0, 0, 0, 0, 0, 0, 0, 0]] (by rfl) (by decide +kernel)
set_option maxRecDepth 20000 in
theorem gX5_readSet_X9_step : GoodIn wsX5_readSet (wsV RX5 87 RX9 yX9_step wsX9_step) := goodIn_app (goodIn_k _ [[2, 0, 0, 0]] (by rfl) (gw_V _ _ _ _)) ggX5_readSet_X9_step
set_option maxRecDepth 20000 in
theorem ggX5_readSet_X9_takeNumber : GoodIn wsX5_readSet wsX9_takeNumber := goodIn_k _ [[25, 0, 0, 0], [5, 23], [11], [7, 2, 1, 17, 0, 0, 0, 0, 0, 0, 0], [3, 0, 1, 1, 0, 3, 0, 0, 0, 0, 0, 0, 0, 0, 97, 0, 0, 0, 0, 0, 0, 0, 0, 0]] (by rfl) (by decide +kernel)
set_option maxRecDepth 20000 in
theorem gX5_readSet_X9_takeNumber : GoodIn wsX5_readSet (wsV RX5 90 RX9 yX9_takeNumber wsX9_takeNumber) := goodIn_app (goodIn_k _ [[22, 0, 0], [5]] (by rfl) (gw_V _ _ _ _)) ggX5_readSet_X9_takeNumber
set_option maxRecDepth 20000 in
theorem ggX5_readSet_X9_namedOf : GoodIn wsX5_readSet wsX9_namedOf := goodIn_k _ [[41, 0, 0], [5, 38, 0, 0, 0, 0], [11], [7, 2], [9, 39, 0, 0, 0, 0, 0, 0, 0, 0, 0, 0, 0, 0, 0, 0, 0, 0, 0, 0, 0, 0, 0, 0, 0, 0, 0, 0, 0, 0, 0, 0, 0, 0, 0, 0, 0, 0, 0, 0, 0, 0, 0, 0, 0, 0, 0, 0, 0, 0, 21, 0, 0, 0, 0, 0, 0, 0, 0, 0]] (by rfl) (by decide +kernel)
set_option maxRecDepth 20000 in
theorem gX5_readSet_X9_namedOf : GoodIn wsX5_readSet (wsV RX5 98 RX9 yX9_namedOf wsX9_namedOf) := goodIn_app (goodIn_k _ [[38, 0, 0], [5]] (by rfl) (gw_V _ _ _ _)) ggX5_readSet_X9_namedOf
set_option maxRecDepth 20000 in
theorem ggX5_readSet_X9_refuse : GoodIn wsX5_readSet wsX9_refuse := goodIn_k _ [[34, 0], [10, 25, 82, 0, 0, 0, 0, 0, 0, 0, 0, 0]] (by rfl) (by decide +kernel)
set_option maxRecDepth 20000 in
theorem gX5_readSet_X9_refuse : GoodIn wsX5_readSet (wsV RX5 83 RX9 yX9_refuse wsX9_refuse) := goodIn_app (goodIn_k _ [[98], [32, 0], [5]] (by rfl) (gw_V _ _ _ _)) ggX5_readSet_X9_refuse
set_option maxRecDepth 20000 in
theorem ggX5_readSet_X5_readTable : GoodIn wsX5_readSet wsX5_readTable := goodIn_k _ [[103, 0], [1, 103, 0, 0, 0, 0, 0, 0, 0], [5, 107], [45, 0, 0, 0], [11], [7, 2], [9, 39, 0, 0, 0, 0, 0, 0, 0, 0, 0, 0, 0, 0, 0, 0, 0, 0, 0, 0, 0, 0, 0, 0, 0, 0, 0, 0, 0, 0, 0, 0, 0, 0, 0, 0, 0, 0, 0, 0, 0, 0, 0, 0, 0, 0, 0, 0, 0, 0], [31, 0, 0, 0, 0, 0, 0], [3, 0, 1, 1, 3, 0, 0, 0, 0, 0, 0, 0, 0, 0, 0, 0, 0, 0, 0, 0, 0, 0, 0, 83], [2, 126, 0, 0, 0, 0, 0], [119, 0, 0, 0, 0, 0, 0, 0, 0, 0]] (by rfl) (by decide +kernel)
set_option maxRecDepth 20000 in
theorem gX5_readSet_X5_readTable : GoodIn wsX5_readSet (wsV RX5 102 RX5 yX5_readTable wsX5_readTable) := goodIn_app (goodIn_k _ [[99, 0, 0, 0]] (by rfl) (gw_V _ _ _ _)) ggX5_readSet_X5_readTable
set_option maxRecDepth 20000 in
theorem ggX5_readSet_X9_takeStop : GoodIn wsX5_readSet wsX9_takeStop := goodIn_k _ [[118], [11, 19, 0, 0], [5, 28, 0], [10, 25, 0], [3, 0, 1, 0, 0, 0, 2, 0, 0, 0, 0, 0, 0, 0, 0, 0, 97, 0, 0, 0, 0, 0, 0, 0, 0, 0]] (by rfl) (by decide +kernel)
set_option maxRecDepth 20000 in
theorem gX5_readSet_X9_takeStop : GoodIn wsX5_readSet (wsV RX5 106 RX9 yX9_takeStop wsX9_takeStop) := goodIn_app (goodIn_k _ [[115, 0, 0], [5]] (by rfl) (gw_V _ _ _ _)) ggX5_readSet_X9_takeStop
noncomputable def sX5_readSet_42 : List Nat := 42 :: 43 :: 16 :: 7 :: 28 :: 104 :: 29 :: 96 :: 182 :: 0 :: 102 :: 153 :: 0 :: 14 :: 43 :: 182 :: 0 :: 106 :: 153 :: 0 :: 7 :: 4 :: 167 :: 0 :: 4 :: 3 :: 172 :: []
noncomputable def sX5_readSet_0 : List Nat := 43 :: 182 :: 0 :: 87 :: 43 :: 3 :: 6 :: 182 :: 0 :: 90 :: 154 :: 0 :: 5 :: 3 :: 172 :: 43 :: 180 :: 0 :: 94 :: 61 :: 43 :: 16 :: 7 :: 182 :: 0 :: 98 :: 62 :: 29 :: 2 :: 160 :: 0 :: 9 :: 43 :: 4 :: 182 :: 0 :: 83 :: 172 :: 43 :: 182 :: 0 :: 87 :: sX5_readSet_42
theorem aX5_readSet_0 : dc_at cX5_readSet 0 sX5_readSet_0 := dc_base (by decide +kernel)
theorem aX5_readSet_42 : dc_at cX5_readSet 42 sX5_readSet_42 := dc_nn (k := 42) aX5_readSet_0 rfl
theorem dX5_readSet_0 : decode cX5_readSet 0 = .ok (.aload_n 1, 1) := dc_43 aX5_readSet_0
theorem dX5_readSet_1 : decode cX5_readSet 1 = .ok (.invokevirtual 87, 3) := dc_182 (a0 := 0) (b0 := 87) (dc_nn (k := 1) aX5_readSet_0 rfl)
theorem dX5_readSet_4 : decode cX5_readSet 4 = .ok (.aload_n 1, 1) := dc_43 (dc_nn (k := 4) aX5_readSet_0 rfl)
theorem dX5_readSet_5 : decode cX5_readSet 5 = .ok (.iconst 0, 1) := dc_3 (dc_nn (k := 5) aX5_readSet_0 rfl)
theorem dX5_readSet_6 : decode cX5_readSet 6 = .ok (.iconst 3, 1) := dc_6 (dc_nn (k := 6) aX5_readSet_0 rfl)
theorem dX5_readSet_7 : decode cX5_readSet 7 = .ok (.invokevirtual 90, 3) := dc_182 (a0 := 0) (b0 := 90) (dc_nn (k := 7) aX5_readSet_0 rfl)
theorem dX5_readSet_10 : decode cX5_readSet 10 = .ok (.ifCond .ne 5, 3) := dc_154 (a0 := 0) (b0 := 5) (dc_nn (k := 10) aX5_readSet_0 rfl) (by decide)
theorem dX5_readSet_13 : decode cX5_readSet 13 = .ok (.iconst 0, 1) := dc_3 (dc_nn (k := 13) aX5_readSet_0 rfl)
theorem dX5_readSet_14 : decode cX5_readSet 14 = .ok (.ireturn, 1) := dc_172 (dc_nn (k := 14) aX5_readSet_0 rfl)
theorem dX5_readSet_15 : decode cX5_readSet 15 = .ok (.aload_n 1, 1) := dc_43 (dc_nn (k := 15) aX5_readSet_0 rfl)
theorem dX5_readSet_16 : decode cX5_readSet 16 = .ok (.getfield 94, 3) := dc_180 (a0 := 0) (b0 := 94) (dc_nn (k := 16) aX5_readSet_0 rfl)
theorem dX5_readSet_19 : decode cX5_readSet 19 = .ok (.istore_n 2, 1) := dc_61 (dc_nn (k := 19) aX5_readSet_0 rfl)
theorem dX5_readSet_20 : decode cX5_readSet 20 = .ok (.aload_n 1, 1) := dc_43 (dc_nn (k := 20) aX5_readSet_0 rfl)
theorem dX5_readSet_21 : decode cX5_readSet 21 = .ok (.bipush 7, 2) := dc_16 (a0 := 7) (dc_nn (k := 21) aX5_readSet_0 rfl) (by decide)
theorem dX5_readSet_23 : decode cX5_readSet 23 = .ok (.invokevirtual 98, 3) := dc_182 (a0 := 0) (b0 := 98) (dc_nn (k := 23) aX5_readSet_0 rfl)
theorem dX5_readSet_26 : decode cX5_readSet 26 = .ok (.istore_n 3, 1) := dc_62 (dc_nn (k := 26) aX5_readSet_0 rfl)
theorem dX5_readSet_27 : decode cX5_readSet 27 = .ok (.iload_n 3, 1) := dc_29 (dc_nn (k := 27) aX5_readSet_0 rfl)
theorem dX5_readSet_28 : decode cX5_readSet 28 = .ok (.iconst (-1), 1) := dc_2 (dc_nn (k := 28) aX5_readSet_0 rfl)
theorem dX5_readSet_29 : decode cX5_readSet 29 = .ok (.if_icmp .ne 9, 3) := dc_160 (a0 := 0) (b0 := 9) (dc_nn (k := 29) aX5_readSet_0 rfl) (by decide)
theorem dX5_readSet_32 : decode cX5_readSet 32 = .ok (.aload_n 1, 1) := dc_43 (dc_nn (k := 32) aX5_readSet_0 rfl)
theorem dX5_readSet_33 : decode cX5_readSet 33 = .ok (.iconst 1, 1) := dc_4 (dc_nn (k := 33) aX5_readSet_0 rfl)
theorem dX5_readSet_34 : decode cX5_readSet 34 = .ok (.invokevirtual 83, 3) := dc_182 (a0 := 0) (b0 := 83) (dc_nn (k := 34) aX5_readSet_0 rfl)
theorem dX5_readSet_37 : decode cX5_readSet 37 = .ok (.ireturn, 1) := dc_172 (dc_nn (k := 37) aX5_readSet_0 rfl)
theorem dX5_readSet_38 : decode cX5_readSet 38 = .ok (.aload_n 1, 1) := dc_43 (dc_nn (k := 38) aX5_readSet_0 rfl)
theorem dX5_readSet_39 : decode cX5_readSet 39 = .ok (.invokevirtual 87, 3) := dc_182 (a0 := 0) (b0 := 87) (dc_nn (k := 39) aX5_readSet_0 rfl)
theorem dX5_readSet_42 : decode cX5_readSet 42 = .ok (.aload_n 0, 1) := dc_42 aX5_readSet_42
theorem dX5_readSet_43 : decode cX5_readSet 43 = .ok (.aload_n 1, 1) := dc_43 (dc_nn (k := 1) aX5_readSet_42 rfl)
theorem dX5_readSet_44 : decode cX5_readSet 44 = .ok (.bipush 7, 2) := dc_16 (a0 := 7) (dc_nn (k := 2) aX5_readSet_42 rfl) (by decide)
theorem dX5_readSet_46 : decode cX5_readSet 46 = .ok (.iload_n 2, 1) := dc_28 (dc_nn (k := 4) aX5_readSet_42 rfl)
theorem dX5_readSet_47 : decode cX5_readSet 47 = .ok (.imul, 1) := dc_104 (dc_nn (k := 5) aX5_readSet_42 rfl)
theorem dX5_readSet_48 : decode cX5_readSet 48 = .ok (.iload_n 3, 1) := dc_29 (dc_nn (k := 6) aX5_readSet_42 rfl)
theorem dX5_readSet_49 : decode cX5_readSet 49 = .ok (.iadd, 1) := dc_96 (dc_nn (k := 7) aX5_readSet_42 rfl)
theorem dX5_readSet_50 : decode cX5_readSet 50 = .ok (.invokevirtual 102, 3) := dc_182 (a0 := 0) (b0 := 102) (dc_nn (k := 8) aX5_readSet_42 rfl)
theorem dX5_readSet_53 : decode cX5_readSet 53 = .ok (.ifCond .eq 14, 3) := dc_153 (a0 := 0) (b0 := 14) (dc_nn (k := 11) aX5_readSet_42 rfl) (by decide)
theorem dX5_readSet_56 : decode cX5_readSet 56 = .ok (.aload_n 1, 1) := dc_43 (dc_nn (k := 14) aX5_readSet_42 rfl)
theorem dX5_readSet_57 : decode cX5_readSet 57 = .ok (.invokevirtual 106, 3) := dc_182 (a0 := 0) (b0 := 106) (dc_nn (k := 15) aX5_readSet_42 rfl)
theorem dX5_readSet_60 : decode cX5_readSet 60 = .ok (.ifCond .eq 7, 3) := dc_153 (a0 := 0) (b0 := 7) (dc_nn (k := 18) aX5_readSet_42 rfl) (by decide)
theorem dX5_readSet_63 : decode cX5_readSet 63 = .ok (.iconst 1, 1) := dc_4 (dc_nn (k := 21) aX5_readSet_42 rfl)
theorem dX5_readSet_64 : decode cX5_readSet 64 = .ok (.goto 4, 3) := dc_167 (a0 := 0) (b0 := 4) (dc_nn (k := 22) aX5_readSet_42 rfl) (by decide)
theorem dX5_readSet_67 : decode cX5_readSet 67 = .ok (.iconst 0, 1) := dc_3 (dc_nn (k := 25) aX5_readSet_42 rfl)
theorem dX5_readSet_68 : decode cX5_readSet 68 = .ok (.ireturn, 1) := dc_172 (dc_nn (k := 26) aX5_readSet_42 rfl)
set_option maxRecDepth 20000 in
theorem ggX5_readTable_X9_takeWord : GoodIn wsX5_readTable wsX9_takeWord := goodIn_k _ [[12, 0, 0, 0], [11, 4, 0, 0, 0, 0, 0, 0, 0, 0, 0, 0, 0, 0, 0, 0, 0, 0, 0, 0, 0, 0, 0, 0, 0, 0, 0, 0, 0, 0, 0, 0, 0, 0, 0, 0, 0, 0, 0, 0, 0, 0, 0, 0, 0, 0, 0, 0, 0, 0, 0, 0, 0, 0, 0, 0, 0, 0, 0, 0, 0, 0, 0, 0, 0, 0, 0, 0, 0, 0, 0, 0, 0, 0, 0, 0, 17, 0, 0, 0, 0, 0, 0, 0, 0, 0]] (by rfl) (by decide +kernel)
set_option maxRecDepth 20000 in
theorem gX5_readTable_X9_takeWord : GoodIn wsX5_readTable (wsV RX5 110 RX9 yX9_takeWord wsX9_takeWord) := goodIn_app (goodIn_k _ [[8, 0, 0, 0]] (by rfl) (gw_V _ _ _ _)) ggX5_readTable_X9_takeWord
set_option maxRecDepth 20000 in
theorem ggX5_readTable_X9_takeNumber : GoodIn wsX5_readTable wsX9_takeNumber := goodIn_k _ [[94, 0, 0, 0], [11, 86], [17, 0, 0, 61, 17], [70, 0, 0, 0, 0, 0, 0, 0, 0, 0, 0], [20, 61, 0, 0, 0, 0, 0, 0, 0, 0, 17, 0, 0, 0, 0, 0, 0, 0, 0, 0]] (by rfl) (by decide +kernel)
set_option maxRecDepth 20000 in
theorem gX5_readTable_X9_takeNumber : GoodIn wsX5_readTable (wsV RX5 90 RX9 yX9_takeNumber wsX9_takeNumber) := goodIn_app (goodIn_k _ [[91, 0, 0], [11]] (by rfl) (gw_V _ _ _ _)) ggX5_readTable_X9_takeNumber
set_option maxRecDepth 20000 in
theorem ggX5_readTable_X9_isWord : GoodIn wsX5_readTable wsX9_isWord := goodIn_k _ [[16, 0, 0, 0, 0, 0, 0, 0, 0, 0, 0, 0, 0, 0, 0, 0, 0, 0, 0, 0, 0, 0, 0, 0, 0, 0, 0, 0, 0, 0, 0, 0, 0, 0, 0, 0, 0, 0, 0, 0, 0, 0, 0, 0, 0, 0, 0, 0, 0, 0, 0, 0, 0, 0, 38, 0, 0, 0, 0, 0, 0, 0, 0, 0]] (by rfl) (by decide +kernel)
set_option maxRecDepth 20000 in
theorem gX5_readTable_X9_isWord : GoodIn wsX5_readTable (wsV RX5 65 RX9 yX9_isWord wsX9_isWord) := goodIn_app (goodIn_k _ [[100], [14, 0], [11]] (by rfl) (gw_V _ _ _ _)) ggX5_readTable_X9_isWord
set_option maxRecDepth 20000 in
theorem ggX5_readTable_X9_step : GoodIn wsX5_readTable wsX9_step := goodIn_k _ [[79], [18, 61], [20], [19], [17, 63, 0, 0], [11, 72, 0, 0, 0, 0, 0, 0, 17, 0, 0, 0, 0, 0, 0, 0, 0, 0]] (by rfl) (by decide +kernel)
set_option maxRecDepth 20000 in
theorem gX5_readTable_X9_step : GoodIn wsX5_readTable (wsV RX5 87 RX9 yX9_step wsX9_step) := goodIn_app (goodIn_k _ [[101], [77, 0], [11]] (by rfl) (gw_V _ _ _ _)) ggX5_readTable_X9_step
noncomputable def sX5_readTable_124 : List Nat := 43 :: 5 :: 18 :: 118 :: 182 :: 0 :: 90 :: 154 :: 0 :: 5 :: 3 :: 172 :: 42 :: 180 :: 0 :: 21 :: 28 :: 43 :: 180 :: 0 :: 94 :: 79 :: 4 :: 172 :: []
noncomputable def sX5_readTable_83 : List Nat := 154 :: 0 :: 5 :: 4 :: 172 :: 43 :: 182 :: 0 :: 87 :: 43 :: 3 :: 17 :: 42 :: 48 :: 182 :: 0 :: 90 :: 154 :: 0 :: 5 :: 3 :: 172 :: 42 :: 180 :: 0 :: 18 :: 28 :: 43 :: 180 :: 0 :: 94 :: 79 :: 43 :: 18 :: 116 :: 182 :: 0 :: 110 :: 153 :: 0 :: 13 :: sX5_readTable_124
noncomputable def sX5_readTable_41 : List Nat := 43 :: 3 :: 18 :: 114 :: 182 :: 0 :: 90 :: 154 :: 0 :: 5 :: 3 :: 172 :: 42 :: 180 :: 0 :: 15 :: 28 :: 43 :: 180 :: 0 :: 94 :: 79 :: 42 :: 180 :: 0 :: 18 :: 28 :: 3 :: 79 :: 42 :: 180 :: 0 :: 21 :: 28 :: 4 :: 79 :: 43 :: 18 :: 115 :: 182 :: 0 :: 65 :: sX5_readTable_83
noncomputable def sX5_readTable_0 : List Nat := 43 :: 18 :: 109 :: 182 :: 0 :: 110 :: 153 :: 0 :: 14 :: 43 :: 3 :: 17 :: 84 :: 95 :: 182 :: 0 :: 90 :: 154 :: 0 :: 5 :: 3 :: 172 :: 42 :: 180 :: 0 :: 11 :: 28 :: 43 :: 180 :: 0 :: 94 :: 79 :: 43 :: 18 :: 113 :: 182 :: 0 :: 110 :: 153 :: 0 :: 13 :: sX5_readTable_41
theorem aX5_readTable_0 : dc_at cX5_readTable 0 sX5_readTable_0 := dc_base (by decide +kernel)
theorem aX5_readTable_41 : dc_at cX5_readTable 41 sX5_readTable_41 := dc_nn (k := 41) aX5_readTable_0 rfl
theorem aX5_readTable_83 : dc_at cX5_readTable 83 sX5_readTable_83 := dc_nn (k := 42) aX5_readTable_41 rfl
theorem aX5_readTable_124 : dc_at cX5_readTable 124 sX5_readTable_124 := dc_nn (k := 41) aX5_readTable_83 rfl
theorem dX5_readTable_0 : decode cX5_readTable 0 = .ok (.aload_n 1, 1) := dc_43 aX5_readTable_0
theorem dX5_readTable_1 : decode cX5_readTable 1 = .ok (.ldc 109, 2) := dc_18 (a0 := 109) (dc_nn (k := 1) aX5_readTable_0 rfl)
theorem dX5_readTable_3 : decode cX5_readTable 3 = .ok (.invokevirtual 110, 3) := dc_182 (a0 := 0) (b0 := 110) (dc_nn (k := 3) aX5_readTable_0 rfl)
theorem dX5_readTable_6 : decode cX5_readTable 6 = .ok (.ifCond .eq 14, 3) := dc_153 (a0 := 0) (b0 := 14) (dc_nn (k := 6) aX5_readTable_0 rfl) (by decide)
theorem dX5_readTable_9 : decode cX5_readTable 9 = .ok (.aload_n 1, 1) := dc_43 (dc_nn (k := 9) aX5_readTable_0 rfl)
theorem dX5_readTable_10 : decode cX5_readTable 10 = .ok (.iconst 0, 1) := dc_3 (dc_nn (k := 10) aX5_readTable_0 rfl)
theorem dX5_readTable_11 : decode cX5_readTable 11 = .ok (.sipush 21599, 3) := dc_17 (a0 := 84) (b0 := 95) (dc_nn (k := 11) aX5_readTable_0 rfl) (by decide)
theorem dX5_readTable_14 : decode cX5_readTable 14 = .ok (.invokevirtual 90, 3) := dc_182 (a0 := 0) (b0 := 90) (dc_nn (k := 14) aX5_readTable_0 rfl)
theorem dX5_readTable_17 : decode cX5_readTable 17 = .ok (.ifCond .ne 5, 3) := dc_154 (a0 := 0) (b0 := 5) (dc_nn (k := 17) aX5_readTable_0 rfl) (by decide)
theorem dX5_readTable_20 : decode cX5_readTable 20 = .ok (.iconst 0, 1) := dc_3 (dc_nn (k := 20) aX5_readTable_0 rfl)
theorem dX5_readTable_21 : decode cX5_readTable 21 = .ok (.ireturn, 1) := dc_172 (dc_nn (k := 21) aX5_readTable_0 rfl)
theorem dX5_readTable_22 : decode cX5_readTable 22 = .ok (.aload_n 0, 1) := dc_42 (dc_nn (k := 22) aX5_readTable_0 rfl)
theorem dX5_readTable_23 : decode cX5_readTable 23 = .ok (.getfield 11, 3) := dc_180 (a0 := 0) (b0 := 11) (dc_nn (k := 23) aX5_readTable_0 rfl)
theorem dX5_readTable_26 : decode cX5_readTable 26 = .ok (.iload_n 2, 1) := dc_28 (dc_nn (k := 26) aX5_readTable_0 rfl)
theorem dX5_readTable_27 : decode cX5_readTable 27 = .ok (.aload_n 1, 1) := dc_43 (dc_nn (k := 27) aX5_readTable_0 rfl)
theorem dX5_readTable_28 : decode cX5_readTable 28 = .ok (.getfield 94, 3) := dc_180 (a0 := 0) (b0 := 94) (dc_nn (k := 28) aX5_readTable_0 rfl)
theorem dX5_readTable_31 : decode cX5_readTable 31 = .ok (.iastore, 1) := dc_79 (dc_nn (k := 31) aX5_readTable_0 rfl)
theorem dX5_readTable_32 : decode cX5_readTable 32 = .ok (.aload_n 1, 1) := dc_43 (dc_nn (k := 32) aX5_readTable_0 rfl)
theorem dX5_readTable_33 : decode cX5_readTable 33 = .ok (.ldc 113, 2) := dc_18 (a0 := 113) (dc_nn (k := 33) aX5_readTable_0 rfl)
theorem dX5_readTable_35 : decode cX5_readTable 35 = .ok (.invokevirtual 110, 3) := dc_182 (a0 := 0) (b0 := 110) (dc_nn (k := 35) aX5_readTable_0 rfl)
theorem dX5_readTable_38 : decode cX5_readTable 38 = .ok (.ifCond .eq 13, 3) := dc_153 (a0 := 0) (b0 := 13) (dc_nn (k := 38) aX5_readTable_0 rfl) (by decide)
theorem dX5_readTable_41 : decode cX5_readTable 41 = .ok (.aload_n 1, 1) := dc_43 aX5_readTable_41
theorem dX5_readTable_42 : decode cX5_readTable 42 = .ok (.iconst 0, 1) := dc_3 (dc_nn (k := 1) aX5_readTable_41 rfl)
theorem dX5_readTable_43 : decode cX5_readTable 43 = .ok (.ldc 114, 2) := dc_18 (a0 := 114) (dc_nn (k := 2) aX5_readTable_41 rfl)
theorem dX5_readTable_45 : decode cX5_readTable 45 = .ok (.invokevirtual 90, 3) := dc_182 (a0 := 0) (b0 := 90) (dc_nn (k := 4) aX5_readTable_41 rfl)
theorem dX5_readTable_48 : decode cX5_readTable 48 = .ok (.ifCond .ne 5, 3) := dc_154 (a0 := 0) (b0 := 5) (dc_nn (k := 7) aX5_readTable_41 rfl) (by decide)
theorem dX5_readTable_51 : decode cX5_readTable 51 = .ok (.iconst 0, 1) := dc_3 (dc_nn (k := 10) aX5_readTable_41 rfl)
theorem dX5_readTable_52 : decode cX5_readTable 52 = .ok (.ireturn, 1) := dc_172 (dc_nn (k := 11) aX5_readTable_41 rfl)
theorem dX5_readTable_53 : decode cX5_readTable 53 = .ok (.aload_n 0, 1) := dc_42 (dc_nn (k := 12) aX5_readTable_41 rfl)
theorem dX5_readTable_54 : decode cX5_readTable 54 = .ok (.getfield 15, 3) := dc_180 (a0 := 0) (b0 := 15) (dc_nn (k := 13) aX5_readTable_41 rfl)
theorem dX5_readTable_57 : decode cX5_readTable 57 = .ok (.iload_n 2, 1) := dc_28 (dc_nn (k := 16) aX5_readTable_41 rfl)
theorem dX5_readTable_58 : decode cX5_readTable 58 = .ok (.aload_n 1, 1) := dc_43 (dc_nn (k := 17) aX5_readTable_41 rfl)
theorem dX5_readTable_59 : decode cX5_readTable 59 = .ok (.getfield 94, 3) := dc_180 (a0 := 0) (b0 := 94) (dc_nn (k := 18) aX5_readTable_41 rfl)
theorem dX5_readTable_62 : decode cX5_readTable 62 = .ok (.iastore, 1) := dc_79 (dc_nn (k := 21) aX5_readTable_41 rfl)
theorem dX5_readTable_63 : decode cX5_readTable 63 = .ok (.aload_n 0, 1) := dc_42 (dc_nn (k := 22) aX5_readTable_41 rfl)
theorem dX5_readTable_64 : decode cX5_readTable 64 = .ok (.getfield 18, 3) := dc_180 (a0 := 0) (b0 := 18) (dc_nn (k := 23) aX5_readTable_41 rfl)
theorem dX5_readTable_67 : decode cX5_readTable 67 = .ok (.iload_n 2, 1) := dc_28 (dc_nn (k := 26) aX5_readTable_41 rfl)
theorem dX5_readTable_68 : decode cX5_readTable 68 = .ok (.iconst 0, 1) := dc_3 (dc_nn (k := 27) aX5_readTable_41 rfl)
theorem dX5_readTable_69 : decode cX5_readTable 69 = .ok (.iastore, 1) := dc_79 (dc_nn (k := 28) aX5_readTable_41 rfl)
theorem dX5_readTable_70 : decode cX5_readTable 70 = .ok (.aload_n 0, 1) := dc_42 (dc_nn (k := 29) aX5_readTable_41 rfl)
theorem dX5_readTable_71 : decode cX5_readTable 71 = .ok (.getfield 21, 3) := dc_180 (a0 := 0) (b0 := 21) (dc_nn (k := 30) aX5_readTable_41 rfl)
theorem dX5_readTable_74 : decode cX5_readTable 74 = .ok (.iload_n 2, 1) := dc_28 (dc_nn (k := 33) aX5_readTable_41 rfl)
theorem dX5_readTable_75 : decode cX5_readTable 75 = .ok (.iconst 1, 1) := dc_4 (dc_nn (k := 34) aX5_readTable_41 rfl)
theorem dX5_readTable_76 : decode cX5_readTable 76 = .ok (.iastore, 1) := dc_79 (dc_nn (k := 35) aX5_readTable_41 rfl)
theorem dX5_readTable_77 : decode cX5_readTable 77 = .ok (.aload_n 1, 1) := dc_43 (dc_nn (k := 36) aX5_readTable_41 rfl)
theorem dX5_readTable_78 : decode cX5_readTable 78 = .ok (.ldc 115, 2) := dc_18 (a0 := 115) (dc_nn (k := 37) aX5_readTable_41 rfl)
theorem dX5_readTable_80 : decode cX5_readTable 80 = .ok (.invokevirtual 65, 3) := dc_182 (a0 := 0) (b0 := 65) (dc_nn (k := 39) aX5_readTable_41 rfl)
theorem dX5_readTable_83 : decode cX5_readTable 83 = .ok (.ifCond .ne 5, 3) := dc_154 (a0 := 0) (b0 := 5) aX5_readTable_83 (by decide)
theorem dX5_readTable_86 : decode cX5_readTable 86 = .ok (.iconst 1, 1) := dc_4 (dc_nn (k := 3) aX5_readTable_83 rfl)
theorem dX5_readTable_87 : decode cX5_readTable 87 = .ok (.ireturn, 1) := dc_172 (dc_nn (k := 4) aX5_readTable_83 rfl)
theorem dX5_readTable_88 : decode cX5_readTable 88 = .ok (.aload_n 1, 1) := dc_43 (dc_nn (k := 5) aX5_readTable_83 rfl)
theorem dX5_readTable_89 : decode cX5_readTable 89 = .ok (.invokevirtual 87, 3) := dc_182 (a0 := 0) (b0 := 87) (dc_nn (k := 6) aX5_readTable_83 rfl)
theorem dX5_readTable_92 : decode cX5_readTable 92 = .ok (.aload_n 1, 1) := dc_43 (dc_nn (k := 9) aX5_readTable_83 rfl)
theorem dX5_readTable_93 : decode cX5_readTable 93 = .ok (.iconst 0, 1) := dc_3 (dc_nn (k := 10) aX5_readTable_83 rfl)
theorem dX5_readTable_94 : decode cX5_readTable 94 = .ok (.sipush 10800, 3) := dc_17 (a0 := 42) (b0 := 48) (dc_nn (k := 11) aX5_readTable_83 rfl) (by decide)
theorem dX5_readTable_97 : decode cX5_readTable 97 = .ok (.invokevirtual 90, 3) := dc_182 (a0 := 0) (b0 := 90) (dc_nn (k := 14) aX5_readTable_83 rfl)
theorem dX5_readTable_100 : decode cX5_readTable 100 = .ok (.ifCond .ne 5, 3) := dc_154 (a0 := 0) (b0 := 5) (dc_nn (k := 17) aX5_readTable_83 rfl) (by decide)
theorem dX5_readTable_103 : decode cX5_readTable 103 = .ok (.iconst 0, 1) := dc_3 (dc_nn (k := 20) aX5_readTable_83 rfl)
theorem dX5_readTable_104 : decode cX5_readTable 104 = .ok (.ireturn, 1) := dc_172 (dc_nn (k := 21) aX5_readTable_83 rfl)
theorem dX5_readTable_105 : decode cX5_readTable 105 = .ok (.aload_n 0, 1) := dc_42 (dc_nn (k := 22) aX5_readTable_83 rfl)
theorem dX5_readTable_106 : decode cX5_readTable 106 = .ok (.getfield 18, 3) := dc_180 (a0 := 0) (b0 := 18) (dc_nn (k := 23) aX5_readTable_83 rfl)
theorem dX5_readTable_109 : decode cX5_readTable 109 = .ok (.iload_n 2, 1) := dc_28 (dc_nn (k := 26) aX5_readTable_83 rfl)
theorem dX5_readTable_110 : decode cX5_readTable 110 = .ok (.aload_n 1, 1) := dc_43 (dc_nn (k := 27) aX5_readTable_83 rfl)
theorem dX5_readTable_111 : decode cX5_readTable 111 = .ok (.getfield 94, 3) := dc_180 (a0 := 0) (b0 := 94) (dc_nn (k := 28) aX5_readTable_83 rfl)
theorem dX5_readTable_114 : decode cX5_readTable 114 = .ok (.iastore, 1) := dc_79 (dc_nn (k := 31) aX5_readTable_83 rfl)
theorem dX5_readTable_115 : decode cX5_readTable 115 = .ok (.aload_n 1, 1) := dc_43 (dc_nn (k := 32) aX5_readTable_83 rfl)
theorem dX5_readTable_116 : decode cX5_readTable 116 = .ok (.ldc 116, 2) := dc_18 (a0 := 116) (dc_nn (k := 33) aX5_readTable_83 rfl)
theorem dX5_readTable_118 : decode cX5_readTable 118 = .ok (.invokevirtual 110, 3) := dc_182 (a0 := 0) (b0 := 110) (dc_nn (k := 35) aX5_readTable_83 rfl)
theorem dX5_readTable_121 : decode cX5_readTable 121 = .ok (.ifCond .eq 13, 3) := dc_153 (a0 := 0) (b0 := 13) (dc_nn (k := 38) aX5_readTable_83 rfl) (by decide)
theorem dX5_readTable_124 : decode cX5_readTable 124 = .ok (.aload_n 1, 1) := dc_43 aX5_readTable_124
theorem dX5_readTable_125 : decode cX5_readTable 125 = .ok (.iconst 2, 1) := dc_5 (dc_nn (k := 1) aX5_readTable_124 rfl)
theorem dX5_readTable_126 : decode cX5_readTable 126 = .ok (.ldc 118, 2) := dc_18 (a0 := 118) (dc_nn (k := 2) aX5_readTable_124 rfl)
theorem dX5_readTable_128 : decode cX5_readTable 128 = .ok (.invokevirtual 90, 3) := dc_182 (a0 := 0) (b0 := 90) (dc_nn (k := 4) aX5_readTable_124 rfl)
theorem dX5_readTable_131 : decode cX5_readTable 131 = .ok (.ifCond .ne 5, 3) := dc_154 (a0 := 0) (b0 := 5) (dc_nn (k := 7) aX5_readTable_124 rfl) (by decide)
theorem dX5_readTable_134 : decode cX5_readTable 134 = .ok (.iconst 0, 1) := dc_3 (dc_nn (k := 10) aX5_readTable_124 rfl)
theorem dX5_readTable_135 : decode cX5_readTable 135 = .ok (.ireturn, 1) := dc_172 (dc_nn (k := 11) aX5_readTable_124 rfl)
theorem dX5_readTable_136 : decode cX5_readTable 136 = .ok (.aload_n 0, 1) := dc_42 (dc_nn (k := 12) aX5_readTable_124 rfl)
theorem dX5_readTable_137 : decode cX5_readTable 137 = .ok (.getfield 21, 3) := dc_180 (a0 := 0) (b0 := 21) (dc_nn (k := 13) aX5_readTable_124 rfl)
theorem dX5_readTable_140 : decode cX5_readTable 140 = .ok (.iload_n 2, 1) := dc_28 (dc_nn (k := 16) aX5_readTable_124 rfl)
theorem dX5_readTable_141 : decode cX5_readTable 141 = .ok (.aload_n 1, 1) := dc_43 (dc_nn (k := 17) aX5_readTable_124 rfl)
theorem dX5_readTable_142 : decode cX5_readTable 142 = .ok (.getfield 94, 3) := dc_180 (a0 := 0) (b0 := 94) (dc_nn (k := 18) aX5_readTable_124 rfl)
theorem dX5_readTable_145 : decode cX5_readTable 145 = .ok (.iastore, 1) := dc_79 (dc_nn (k := 21) aX5_readTable_124 rfl)
theorem dX5_readTable_146 : decode cX5_readTable 146 = .ok (.iconst 1, 1) := dc_4 (dc_nn (k := 22) aX5_readTable_124 rfl)
theorem dX5_readTable_147 : decode cX5_readTable 147 = .ok (.ireturn, 1) := dc_172 (dc_nn (k := 23) aX5_readTable_124 rfl)
set_option maxRecDepth 20000 in
theorem ggX5_placeOn_X5_swingOn : GoodIn wsX5_placeOn wsX5_swingOn := goodIn_k _ [[9, 0, 0, 0, 0, 0, 0, 0, 0, 0, 0, 0, 3, 0, 0, 0, 0, 0]] (by rfl) (by decide +kernel)
set_option maxRecDepth 20000 in
theorem gX5_placeOn_X5_swingOn : GoodIn wsX5_placeOn (wsV RX5 121 RX5 yX5_swingOn wsX5_swingOn) := goodIn_app (goodIn_k _ [[5, 0, 0, 0]] (by rfl) (gw_V _ _ _ _)) ggX5_placeOn_X5_swingOn
set_option maxRecDepth 20000 in
theorem ggX5_placeOn_J9_floorMod_f86c9 : GoodIn wsX5_placeOn wsJ9_floorMod_f86c9 := goodIn_k _ [[23]] (by rfl) (by decide +kernel)
set_option maxRecDepth 20000 in
theorem gX5_placeOn_J9_floorMod_f86c9 : GoodIn wsX5_placeOn (va_wsS RX5 127 yJ9_floorMod_f86c9 wsJ9_floorMod_f86c9) := goodIn_app (goodIn_k _ [[21, 0], [19]] (by rfl) (gw_S _ _ _ _)) ggX5_placeOn_J9_floorMod_f86c9
noncomputable def sX5_placeOn_40 : List Nat := 182 :: 0 :: 121 :: 97 :: 20 :: 0 :: 125 :: 184 :: 0 :: 127 :: 136 :: 172 :: []
noncomputable def sX5_placeOn_0 : List Nat := 16 :: 7 :: 27 :: 104 :: 28 :: 96 :: 54 :: 4 :: 42 :: 180 :: 0 :: 15 :: 21 :: 4 :: 46 :: 133 :: 29 :: 133 :: 105 :: 20 :: 0 :: 119 :: 109 :: 55 :: 5 :: 42 :: 180 :: 0 :: 11 :: 21 :: 4 :: 46 :: 133 :: 22 :: 5 :: 97 :: 42 :: 21 :: 4 :: 29 :: sX5_placeOn_40
theorem aX5_placeOn_0 : dc_at cX5_placeOn 0 sX5_placeOn_0 := dc_base (by decide +kernel)
theorem aX5_placeOn_40 : dc_at cX5_placeOn 40 sX5_placeOn_40 := dc_nn (k := 40) aX5_placeOn_0 rfl
theorem dX5_placeOn_0 : decode cX5_placeOn 0 = .ok (.bipush 7, 2) := dc_16 (a0 := 7) aX5_placeOn_0 (by decide)
theorem dX5_placeOn_2 : decode cX5_placeOn 2 = .ok (.iload_n 1, 1) := dc_27 (dc_nn (k := 2) aX5_placeOn_0 rfl)
theorem dX5_placeOn_3 : decode cX5_placeOn 3 = .ok (.imul, 1) := dc_104 (dc_nn (k := 3) aX5_placeOn_0 rfl)
theorem dX5_placeOn_4 : decode cX5_placeOn 4 = .ok (.iload_n 2, 1) := dc_28 (dc_nn (k := 4) aX5_placeOn_0 rfl)
theorem dX5_placeOn_5 : decode cX5_placeOn 5 = .ok (.iadd, 1) := dc_96 (dc_nn (k := 5) aX5_placeOn_0 rfl)
theorem dX5_placeOn_6 : decode cX5_placeOn 6 = .ok (.istore 4, 2) := dc_54 (a0 := 4) (dc_nn (k := 6) aX5_placeOn_0 rfl)
theorem dX5_placeOn_8 : decode cX5_placeOn 8 = .ok (.aload_n 0, 1) := dc_42 (dc_nn (k := 8) aX5_placeOn_0 rfl)
theorem dX5_placeOn_9 : decode cX5_placeOn 9 = .ok (.getfield 15, 3) := dc_180 (a0 := 0) (b0 := 15) (dc_nn (k := 9) aX5_placeOn_0 rfl)
theorem dX5_placeOn_12 : decode cX5_placeOn 12 = .ok (.iload 4, 2) := dc_21 (a0 := 4) (dc_nn (k := 12) aX5_placeOn_0 rfl)
theorem dX5_placeOn_14 : decode cX5_placeOn 14 = .ok (.iaload, 1) := dc_46 (dc_nn (k := 14) aX5_placeOn_0 rfl)
theorem dX5_placeOn_15 : decode cX5_placeOn 15 = .ok (.i2l, 1) := dc_133 (dc_nn (k := 15) aX5_placeOn_0 rfl)
theorem dX5_placeOn_16 : decode cX5_placeOn 16 = .ok (.iload_n 3, 1) := dc_29 (dc_nn (k := 16) aX5_placeOn_0 rfl)
theorem dX5_placeOn_17 : decode cX5_placeOn 17 = .ok (.i2l, 1) := dc_133 (dc_nn (k := 17) aX5_placeOn_0 rfl)
theorem dX5_placeOn_18 : decode cX5_placeOn 18 = .ok (.lmul, 1) := dc_105 (dc_nn (k := 18) aX5_placeOn_0 rfl)
theorem dX5_placeOn_19 : decode cX5_placeOn 19 = .ok (.ldc2_w 119, 3) := dc_20 (a0 := 0) (b0 := 119) (dc_nn (k := 19) aX5_placeOn_0 rfl)
theorem dX5_placeOn_22 : decode cX5_placeOn 22 = .ok (.ldiv, 1) := dc_109 (dc_nn (k := 22) aX5_placeOn_0 rfl)
theorem dX5_placeOn_23 : decode cX5_placeOn 23 = .ok (.lstore 5, 2) := dc_55 (a0 := 5) (dc_nn (k := 23) aX5_placeOn_0 rfl)
theorem dX5_placeOn_25 : decode cX5_placeOn 25 = .ok (.aload_n 0, 1) := dc_42 (dc_nn (k := 25) aX5_placeOn_0 rfl)
theorem dX5_placeOn_26 : decode cX5_placeOn 26 = .ok (.getfield 11, 3) := dc_180 (a0 := 0) (b0 := 11) (dc_nn (k := 26) aX5_placeOn_0 rfl)
theorem dX5_placeOn_29 : decode cX5_placeOn 29 = .ok (.iload 4, 2) := dc_21 (a0 := 4) (dc_nn (k := 29) aX5_placeOn_0 rfl)
theorem dX5_placeOn_31 : decode cX5_placeOn 31 = .ok (.iaload, 1) := dc_46 (dc_nn (k := 31) aX5_placeOn_0 rfl)
theorem dX5_placeOn_32 : decode cX5_placeOn 32 = .ok (.i2l, 1) := dc_133 (dc_nn (k := 32) aX5_placeOn_0 rfl)
theorem dX5_placeOn_33 : decode cX5_placeOn 33 = .ok (.lload 5, 2) := dc_22 (a0 := 5) (dc_nn (k := 33) aX5_placeOn_0 rfl)
theorem dX5_placeOn_35 : decode cX5_placeOn 35 = .ok (.ladd, 1) := dc_97 (dc_nn (k := 35) aX5_placeOn_0 rfl)
theorem dX5_placeOn_36 : decode cX5_placeOn 36 = .ok (.aload_n 0, 1) := dc_42 (dc_nn (k := 36) aX5_placeOn_0 rfl)
theorem dX5_placeOn_37 : decode cX5_placeOn 37 = .ok (.iload 4, 2) := dc_21 (a0 := 4) (dc_nn (k := 37) aX5_placeOn_0 rfl)
theorem dX5_placeOn_39 : decode cX5_placeOn 39 = .ok (.iload_n 3, 1) := dc_29 (dc_nn (k := 39) aX5_placeOn_0 rfl)
theorem dX5_placeOn_40 : decode cX5_placeOn 40 = .ok (.invokevirtual 121, 3) := dc_182 (a0 := 0) (b0 := 121) aX5_placeOn_40
theorem dX5_placeOn_43 : decode cX5_placeOn 43 = .ok (.ladd, 1) := dc_97 (dc_nn (k := 3) aX5_placeOn_40 rfl)
theorem dX5_placeOn_44 : decode cX5_placeOn 44 = .ok (.ldc2_w 125, 3) := dc_20 (a0 := 0) (b0 := 125) (dc_nn (k := 4) aX5_placeOn_40 rfl)
theorem dX5_placeOn_47 : decode cX5_placeOn 47 = .ok (.invokestatic 127, 3) := dc_184 (a0 := 0) (b0 := 127) (dc_nn (k := 7) aX5_placeOn_40 rfl)
theorem dX5_placeOn_50 : decode cX5_placeOn 50 = .ok (.l2i, 1) := dc_136 (dc_nn (k := 10) aX5_placeOn_40 rfl)
theorem dX5_placeOn_51 : decode cX5_placeOn 51 = .ok (.ireturn, 1) := dc_172 (dc_nn (k := 11) aX5_placeOn_40 rfl)
set_option maxRecDepth 20000 in
theorem ggX5_swingOn_J9_floorDiv_f86c9 : GoodIn wsX5_swingOn wsJ9_floorDiv_f86c9 := goodIn_k _ [[11]] (by rfl) (by decide +kernel)
set_option maxRecDepth 20000 in
theorem gX5_swingOn_J9_floorDiv_f86c9 : GoodIn wsX5_swingOn (va_wsS RX5 138 yJ9_floorDiv_f86c9 wsJ9_floorDiv_f86c9) := goodIn_app (goodIn_k _ [[8, 0, 0]] (by rfl) (gw_S _ _ _ _)) ggX5_swingOn_J9_floorDiv_f86c9
noncomputable def sX5_swingOn_40 : List Nat := 133 :: 105 :: 29 :: 133 :: 101 :: 55 :: 5 :: 22 :: 5 :: 42 :: 180 :: 0 :: 18 :: 27 :: 46 :: 133 :: 105 :: 29 :: 133 :: 184 :: 0 :: 138 :: 173 :: []
noncomputable def sX5_swingOn_0 : List Nat := 42 :: 180 :: 0 :: 21 :: 27 :: 46 :: 62 :: 42 :: 180 :: 0 :: 18 :: 27 :: 46 :: 153 :: 0 :: 8 :: 29 :: 4 :: 162 :: 0 :: 5 :: 9 :: 173 :: 28 :: 29 :: 112 :: 54 :: 4 :: 20 :: 0 :: 133 :: 5 :: 21 :: 4 :: 104 :: 29 :: 100 :: 184 :: 0 :: 135 :: sX5_swingOn_40
theorem aX5_swingOn_0 : dc_at cX5_swingOn 0 sX5_swingOn_0 := dc_base (by decide +kernel)
theorem aX5_swingOn_40 : dc_at cX5_swingOn 40 sX5_swingOn_40 := dc_nn (k := 40) aX5_swingOn_0 rfl
theorem dX5_swingOn_0 : decode cX5_swingOn 0 = .ok (.aload_n 0, 1) := dc_42 aX5_swingOn_0
theorem dX5_swingOn_1 : decode cX5_swingOn 1 = .ok (.getfield 21, 3) := dc_180 (a0 := 0) (b0 := 21) (dc_nn (k := 1) aX5_swingOn_0 rfl)
theorem dX5_swingOn_4 : decode cX5_swingOn 4 = .ok (.iload_n 1, 1) := dc_27 (dc_nn (k := 4) aX5_swingOn_0 rfl)
theorem dX5_swingOn_5 : decode cX5_swingOn 5 = .ok (.iaload, 1) := dc_46 (dc_nn (k := 5) aX5_swingOn_0 rfl)
theorem dX5_swingOn_6 : decode cX5_swingOn 6 = .ok (.istore_n 3, 1) := dc_62 (dc_nn (k := 6) aX5_swingOn_0 rfl)
theorem dX5_swingOn_7 : decode cX5_swingOn 7 = .ok (.aload_n 0, 1) := dc_42 (dc_nn (k := 7) aX5_swingOn_0 rfl)
theorem dX5_swingOn_8 : decode cX5_swingOn 8 = .ok (.getfield 18, 3) := dc_180 (a0 := 0) (b0 := 18) (dc_nn (k := 8) aX5_swingOn_0 rfl)
theorem dX5_swingOn_11 : decode cX5_swingOn 11 = .ok (.iload_n 1, 1) := dc_27 (dc_nn (k := 11) aX5_swingOn_0 rfl)
theorem dX5_swingOn_12 : decode cX5_swingOn 12 = .ok (.iaload, 1) := dc_46 (dc_nn (k := 12) aX5_swingOn_0 rfl)
theorem dX5_swingOn_13 : decode cX5_swingOn 13 = .ok (.ifCond .eq 8, 3) := dc_153 (a0 := 0) (b0 := 8) (dc_nn (k := 13) aX5_swingOn_0 rfl) (by decide)
theorem dX5_swingOn_16 : decode cX5_swingOn 16 = .ok (.iload_n 3, 1) := dc_29 (dc_nn (k := 16) aX5_swingOn_0 rfl)
theorem dX5_swingOn_17 : decode cX5_swingOn 17 = .ok (.iconst 1, 1) := dc_4 (dc_nn (k := 17) aX5_swingOn_0 rfl)
theorem dX5_swingOn_18 : decode cX5_swingOn 18 = .ok (.if_icmp .ge 5, 3) := dc_162 (a0 := 0) (b0 := 5) (dc_nn (k := 18) aX5_swingOn_0 rfl) (by decide)
theorem dX5_swingOn_21 : decode cX5_swingOn 21 = .ok (.lconst 0, 1) := dc_9 (dc_nn (k := 21) aX5_swingOn_0 rfl)
theorem dX5_swingOn_22 : decode cX5_swingOn 22 = .ok (.lreturn, 1) := dc_173 (dc_nn (k := 22) aX5_swingOn_0 rfl)
theorem dX5_swingOn_23 : decode cX5_swingOn 23 = .ok (.iload_n 2, 1) := dc_28 (dc_nn (k := 23) aX5_swingOn_0 rfl)
theorem dX5_swingOn_24 : decode cX5_swingOn 24 = .ok (.iload_n 3, 1) := dc_29 (dc_nn (k := 24) aX5_swingOn_0 rfl)
theorem dX5_swingOn_25 : decode cX5_swingOn 25 = .ok (.irem, 1) := dc_112 (dc_nn (k := 25) aX5_swingOn_0 rfl)
theorem dX5_swingOn_26 : decode cX5_swingOn 26 = .ok (.istore 4, 2) := dc_54 (a0 := 4) (dc_nn (k := 26) aX5_swingOn_0 rfl)
theorem dX5_swingOn_28 : decode cX5_swingOn 28 = .ok (.ldc2_w 133, 3) := dc_20 (a0 := 0) (b0 := 133) (dc_nn (k := 28) aX5_swingOn_0 rfl)
theorem dX5_swingOn_31 : decode cX5_swingOn 31 = .ok (.iconst 2, 1) := dc_5 (dc_nn (k := 31) aX5_swingOn_0 rfl)
theorem dX5_swingOn_32 : decode cX5_swingOn 32 = .ok (.iload 4, 2) := dc_21 (a0 := 4) (dc_nn (k := 32) aX5_swingOn_0 rfl)
theorem dX5_swingOn_34 : decode cX5_swingOn 34 = .ok (.imul, 1) := dc_104 (dc_nn (k := 34) aX5_swingOn_0 rfl)
theorem dX5_swingOn_35 : decode cX5_swingOn 35 = .ok (.iload_n 3, 1) := dc_29 (dc_nn (k := 35) aX5_swingOn_0 rfl)
theorem dX5_swingOn_36 : decode cX5_swingOn 36 = .ok (.isub, 1) := dc_100 (dc_nn (k := 36) aX5_swingOn_0 rfl)
theorem dX5_swingOn_37 : decode cX5_swingOn 37 = .ok (.invokestatic 135, 3) := dc_184 (a0 := 0) (b0 := 135) (dc_nn (k := 37) aX5_swingOn_0 rfl)
theorem dX5_swingOn_40 : decode cX5_swingOn 40 = .ok (.i2l, 1) := dc_133 aX5_swingOn_40
theorem dX5_swingOn_41 : decode cX5_swingOn 41 = .ok (.lmul, 1) := dc_105 (dc_nn (k := 1) aX5_swingOn_40 rfl)
theorem dX5_swingOn_42 : decode cX5_swingOn 42 = .ok (.iload_n 3, 1) := dc_29 (dc_nn (k := 2) aX5_swingOn_40 rfl)
theorem dX5_swingOn_43 : decode cX5_swingOn 43 = .ok (.i2l, 1) := dc_133 (dc_nn (k := 3) aX5_swingOn_40 rfl)
theorem dX5_swingOn_44 : decode cX5_swingOn 44 = .ok (.lsub, 1) := dc_101 (dc_nn (k := 4) aX5_swingOn_40 rfl)
theorem dX5_swingOn_45 : decode cX5_swingOn 45 = .ok (.lstore 5, 2) := dc_55 (a0 := 5) (dc_nn (k := 5) aX5_swingOn_40 rfl)
theorem dX5_swingOn_47 : decode cX5_swingOn 47 = .ok (.lload 5, 2) := dc_22 (a0 := 5) (dc_nn (k := 7) aX5_swingOn_40 rfl)
theorem dX5_swingOn_49 : decode cX5_swingOn 49 = .ok (.aload_n 0, 1) := dc_42 (dc_nn (k := 9) aX5_swingOn_40 rfl)
theorem dX5_swingOn_50 : decode cX5_swingOn 50 = .ok (.getfield 18, 3) := dc_180 (a0 := 0) (b0 := 18) (dc_nn (k := 10) aX5_swingOn_40 rfl)
theorem dX5_swingOn_53 : decode cX5_swingOn 53 = .ok (.iload_n 1, 1) := dc_27 (dc_nn (k := 13) aX5_swingOn_40 rfl)
theorem dX5_swingOn_54 : decode cX5_swingOn 54 = .ok (.iaload, 1) := dc_46 (dc_nn (k := 14) aX5_swingOn_40 rfl)
theorem dX5_swingOn_55 : decode cX5_swingOn 55 = .ok (.i2l, 1) := dc_133 (dc_nn (k := 15) aX5_swingOn_40 rfl)
theorem dX5_swingOn_56 : decode cX5_swingOn 56 = .ok (.lmul, 1) := dc_105 (dc_nn (k := 16) aX5_swingOn_40 rfl)
theorem dX5_swingOn_57 : decode cX5_swingOn 57 = .ok (.iload_n 3, 1) := dc_29 (dc_nn (k := 17) aX5_swingOn_40 rfl)
theorem dX5_swingOn_58 : decode cX5_swingOn 58 = .ok (.i2l, 1) := dc_133 (dc_nn (k := 18) aX5_swingOn_40 rfl)
theorem dX5_swingOn_59 : decode cX5_swingOn 59 = .ok (.invokestatic 138, 3) := dc_184 (a0 := 0) (b0 := 138) (dc_nn (k := 19) aX5_swingOn_40 rfl)
theorem dX5_swingOn_62 : decode cX5_swingOn 62 = .ok (.lreturn, 1) := dc_173 (dc_nn (k := 22) aX5_swingOn_40 rfl)
set_option maxRecDepth 20000 in
theorem ggX5_degreeOn_X5_placeOn : GoodIn wsX5_degreeOn wsX5_placeOn := goodIn_k _ [[5, 0, 0, 0, 0, 0, 0, 0], [4, 8, 0, 0, 0, 0, 0, 0, 0, 0, 0, 0, 0, 0, 0, 0, 0, 0, 0, 0, 0, 0]] (by rfl) (by decide +kernel)
set_option maxRecDepth 20000 in
theorem gX5_degreeOn_X5_placeOn : GoodIn wsX5_degreeOn (wsV RX5 141 RX5 yX5_placeOn wsX5_placeOn) := goodIn_app (goodIn_k _ [[1, 0, 0, 0]] (by rfl) (gw_V _ _ _ _)) ggX5_degreeOn_X5_placeOn
noncomputable def sX5_degreeOn_0 : List Nat := 42 :: 27 :: 28 :: 29 :: 182 :: 0 :: 141 :: 16 :: 60 :: 108 :: 172 :: []
theorem aX5_degreeOn_0 : dc_at cX5_degreeOn 0 sX5_degreeOn_0 := dc_base (by decide +kernel)
theorem dX5_degreeOn_0 : decode cX5_degreeOn 0 = .ok (.aload_n 0, 1) := dc_42 aX5_degreeOn_0
theorem dX5_degreeOn_1 : decode cX5_degreeOn 1 = .ok (.iload_n 1, 1) := dc_27 (dc_nn (k := 1) aX5_degreeOn_0 rfl)
theorem dX5_degreeOn_2 : decode cX5_degreeOn 2 = .ok (.iload_n 2, 1) := dc_28 (dc_nn (k := 2) aX5_degreeOn_0 rfl)
theorem dX5_degreeOn_3 : decode cX5_degreeOn 3 = .ok (.iload_n 3, 1) := dc_29 (dc_nn (k := 3) aX5_degreeOn_0 rfl)
theorem dX5_degreeOn_4 : decode cX5_degreeOn 4 = .ok (.invokevirtual 141, 3) := dc_182 (a0 := 0) (b0 := 141) (dc_nn (k := 4) aX5_degreeOn_0 rfl)
theorem dX5_degreeOn_7 : decode cX5_degreeOn 7 = .ok (.bipush 60, 2) := dc_16 (a0 := 60) (dc_nn (k := 7) aX5_degreeOn_0 rfl) (by decide)
theorem dX5_degreeOn_9 : decode cX5_degreeOn 9 = .ok (.idiv, 1) := dc_108 (dc_nn (k := 9) aX5_degreeOn_0 rfl)
theorem dX5_degreeOn_10 : decode cX5_degreeOn 10 = .ok (.ireturn, 1) := dc_172 (dc_nn (k := 10) aX5_degreeOn_0 rfl)
noncomputable def sX6_init_0 : List Nat := 42 :: 183 :: 0 :: 3 :: 42 :: 16 :: 120 :: 188 :: 10 :: 181 :: 0 :: 9 :: 42 :: 16 :: 6 :: 188 :: 10 :: 181 :: 0 :: 15 :: 42 :: 16 :: 20 :: 188 :: 10 :: 181 :: 0 :: 18 :: 42 :: 16 :: 20 :: 188 :: 10 :: 181 :: 0 :: 21 :: 177 :: []
theorem aX6_init_0 : dc_at cX6_init 0 sX6_init_0 := dc_base (by decide +kernel)
theorem dX6_init_0 : decode cX6_init 0 = .ok (.aload_n 0, 1) := dc_42 aX6_init_0
theorem dX6_init_1 : decode cX6_init 1 = .ok (.invokespecial 3, 3) := dc_183 (a0 := 0) (b0 := 3) (dc_nn (k := 1) aX6_init_0 rfl)
theorem dX6_init_4 : decode cX6_init 4 = .ok (.aload_n 0, 1) := dc_42 (dc_nn (k := 4) aX6_init_0 rfl)
theorem dX6_init_5 : decode cX6_init 5 = .ok (.bipush 120, 2) := dc_16 (a0 := 120) (dc_nn (k := 5) aX6_init_0 rfl) (by decide)
theorem dX6_init_7 : decode cX6_init 7 = .ok (.newarray .int, 2) := dc_188_10 (dc_nn (k := 7) aX6_init_0 rfl)
theorem dX6_init_9 : decode cX6_init 9 = .ok (.putfield 9, 3) := dc_181 (a0 := 0) (b0 := 9) (dc_nn (k := 9) aX6_init_0 rfl)
theorem dX6_init_12 : decode cX6_init 12 = .ok (.aload_n 0, 1) := dc_42 (dc_nn (k := 12) aX6_init_0 rfl)
theorem dX6_init_13 : decode cX6_init 13 = .ok (.bipush 6, 2) := dc_16 (a0 := 6) (dc_nn (k := 13) aX6_init_0 rfl) (by decide)
theorem dX6_init_15 : decode cX6_init 15 = .ok (.newarray .int, 2) := dc_188_10 (dc_nn (k := 15) aX6_init_0 rfl)
theorem dX6_init_17 : decode cX6_init 17 = .ok (.putfield 15, 3) := dc_181 (a0 := 0) (b0 := 15) (dc_nn (k := 17) aX6_init_0 rfl)
theorem dX6_init_20 : decode cX6_init 20 = .ok (.aload_n 0, 1) := dc_42 (dc_nn (k := 20) aX6_init_0 rfl)
theorem dX6_init_21 : decode cX6_init 21 = .ok (.bipush 20, 2) := dc_16 (a0 := 20) (dc_nn (k := 21) aX6_init_0 rfl) (by decide)
theorem dX6_init_23 : decode cX6_init 23 = .ok (.newarray .int, 2) := dc_188_10 (dc_nn (k := 23) aX6_init_0 rfl)
theorem dX6_init_25 : decode cX6_init 25 = .ok (.putfield 18, 3) := dc_181 (a0 := 0) (b0 := 18) (dc_nn (k := 25) aX6_init_0 rfl)
theorem dX6_init_28 : decode cX6_init 28 = .ok (.aload_n 0, 1) := dc_42 (dc_nn (k := 28) aX6_init_0 rfl)
theorem dX6_init_29 : decode cX6_init 29 = .ok (.bipush 20, 2) := dc_16 (a0 := 20) (dc_nn (k := 29) aX6_init_0 rfl) (by decide)
theorem dX6_init_31 : decode cX6_init 31 = .ok (.newarray .int, 2) := dc_188_10 (dc_nn (k := 31) aX6_init_0 rfl)
theorem dX6_init_33 : decode cX6_init 33 = .ok (.putfield 21, 3) := dc_181 (a0 := 0) (b0 := 21) (dc_nn (k := 33) aX6_init_0 rfl)
theorem dX6_init_36 : decode cX6_init 36 = .ok (.return_, 1) := dc_177 (dc_nn (k := 36) aX6_init_0 rfl)
set_option maxRecDepth 20000 in
theorem ggX6_addTo_X6_placeOf : GoodIn wsX6_addTo wsX6_placeOf := goodIn_k _ [[7], [1, 0, 5, 0, 0, 0]] (by rfl) (by decide +kernel)
set_option maxRecDepth 20000 in
theorem gX6_addTo_X6_placeOf : GoodIn wsX6_addTo (wsV RX6 24 RX6 yX6_placeOf wsX6_placeOf) := goodIn_app (goodIn_k _ [[3, 0, 0, 0]] (by rfl) (gw_V _ _ _ _)) ggX6_addTo_X6_placeOf
noncomputable def sX6_addTo_40 : List Nat := 42 :: 180 :: 0 :: 15 :: 27 :: 92 :: 46 :: 4 :: 96 :: 79 :: 42 :: 180 :: 0 :: 15 :: 27 :: 46 :: 172 :: []
noncomputable def sX6_addTo_0 : List Nat := 42 :: 27 :: 28 :: 182 :: 0 :: 24 :: 2 :: 160 :: 0 :: 14 :: 42 :: 180 :: 0 :: 15 :: 27 :: 46 :: 16 :: 20 :: 161 :: 0 :: 5 :: 2 :: 172 :: 42 :: 180 :: 0 :: 9 :: 16 :: 20 :: 27 :: 104 :: 42 :: 180 :: 0 :: 15 :: 27 :: 46 :: 96 :: 28 :: 79 :: sX6_addTo_40
theorem aX6_addTo_0 : dc_at cX6_addTo 0 sX6_addTo_0 := dc_base (by decide +kernel)
theorem aX6_addTo_40 : dc_at cX6_addTo 40 sX6_addTo_40 := dc_nn (k := 40) aX6_addTo_0 rfl
theorem dX6_addTo_0 : decode cX6_addTo 0 = .ok (.aload_n 0, 1) := dc_42 aX6_addTo_0
theorem dX6_addTo_1 : decode cX6_addTo 1 = .ok (.iload_n 1, 1) := dc_27 (dc_nn (k := 1) aX6_addTo_0 rfl)
theorem dX6_addTo_2 : decode cX6_addTo 2 = .ok (.iload_n 2, 1) := dc_28 (dc_nn (k := 2) aX6_addTo_0 rfl)
theorem dX6_addTo_3 : decode cX6_addTo 3 = .ok (.invokevirtual 24, 3) := dc_182 (a0 := 0) (b0 := 24) (dc_nn (k := 3) aX6_addTo_0 rfl)
theorem dX6_addTo_6 : decode cX6_addTo 6 = .ok (.iconst (-1), 1) := dc_2 (dc_nn (k := 6) aX6_addTo_0 rfl)
theorem dX6_addTo_7 : decode cX6_addTo 7 = .ok (.if_icmp .ne 14, 3) := dc_160 (a0 := 0) (b0 := 14) (dc_nn (k := 7) aX6_addTo_0 rfl) (by decide)
theorem dX6_addTo_10 : decode cX6_addTo 10 = .ok (.aload_n 0, 1) := dc_42 (dc_nn (k := 10) aX6_addTo_0 rfl)
theorem dX6_addTo_11 : decode cX6_addTo 11 = .ok (.getfield 15, 3) := dc_180 (a0 := 0) (b0 := 15) (dc_nn (k := 11) aX6_addTo_0 rfl)
theorem dX6_addTo_14 : decode cX6_addTo 14 = .ok (.iload_n 1, 1) := dc_27 (dc_nn (k := 14) aX6_addTo_0 rfl)
theorem dX6_addTo_15 : decode cX6_addTo 15 = .ok (.iaload, 1) := dc_46 (dc_nn (k := 15) aX6_addTo_0 rfl)
theorem dX6_addTo_16 : decode cX6_addTo 16 = .ok (.bipush 20, 2) := dc_16 (a0 := 20) (dc_nn (k := 16) aX6_addTo_0 rfl) (by decide)
theorem dX6_addTo_18 : decode cX6_addTo 18 = .ok (.if_icmp .lt 5, 3) := dc_161 (a0 := 0) (b0 := 5) (dc_nn (k := 18) aX6_addTo_0 rfl) (by decide)
theorem dX6_addTo_21 : decode cX6_addTo 21 = .ok (.iconst (-1), 1) := dc_2 (dc_nn (k := 21) aX6_addTo_0 rfl)
theorem dX6_addTo_22 : decode cX6_addTo 22 = .ok (.ireturn, 1) := dc_172 (dc_nn (k := 22) aX6_addTo_0 rfl)
theorem dX6_addTo_23 : decode cX6_addTo 23 = .ok (.aload_n 0, 1) := dc_42 (dc_nn (k := 23) aX6_addTo_0 rfl)
theorem dX6_addTo_24 : decode cX6_addTo 24 = .ok (.getfield 9, 3) := dc_180 (a0 := 0) (b0 := 9) (dc_nn (k := 24) aX6_addTo_0 rfl)
theorem dX6_addTo_27 : decode cX6_addTo 27 = .ok (.bipush 20, 2) := dc_16 (a0 := 20) (dc_nn (k := 27) aX6_addTo_0 rfl) (by decide)
theorem dX6_addTo_29 : decode cX6_addTo 29 = .ok (.iload_n 1, 1) := dc_27 (dc_nn (k := 29) aX6_addTo_0 rfl)
theorem dX6_addTo_30 : decode cX6_addTo 30 = .ok (.imul, 1) := dc_104 (dc_nn (k := 30) aX6_addTo_0 rfl)
theorem dX6_addTo_31 : decode cX6_addTo 31 = .ok (.aload_n 0, 1) := dc_42 (dc_nn (k := 31) aX6_addTo_0 rfl)
theorem dX6_addTo_32 : decode cX6_addTo 32 = .ok (.getfield 15, 3) := dc_180 (a0 := 0) (b0 := 15) (dc_nn (k := 32) aX6_addTo_0 rfl)
theorem dX6_addTo_35 : decode cX6_addTo 35 = .ok (.iload_n 1, 1) := dc_27 (dc_nn (k := 35) aX6_addTo_0 rfl)
theorem dX6_addTo_36 : decode cX6_addTo 36 = .ok (.iaload, 1) := dc_46 (dc_nn (k := 36) aX6_addTo_0 rfl)
theorem dX6_addTo_37 : decode cX6_addTo 37 = .ok (.iadd, 1) := dc_96 (dc_nn (k := 37) aX6_addTo_0 rfl)
theorem dX6_addTo_38 : decode cX6_addTo 38 = .ok (.iload_n 2, 1) := dc_28 (dc_nn (k := 38) aX6_addTo_0 rfl)
theorem dX6_addTo_39 : decode cX6_addTo 39 = .ok (.iastore, 1) := dc_79 (dc_nn (k := 39) aX6_addTo_0 rfl)
theorem dX6_addTo_40 : decode cX6_addTo 40 = .ok (.aload_n 0, 1) := dc_42 aX6_addTo_40
theorem dX6_addTo_41 : decode cX6_addTo 41 = .ok (.getfield 15, 3) := dc_180 (a0 := 0) (b0 := 15) (dc_nn (k := 1) aX6_addTo_40 rfl)
theorem dX6_addTo_44 : decode cX6_addTo 44 = .ok (.iload_n 1, 1) := dc_27 (dc_nn (k := 4) aX6_addTo_40 rfl)
theorem dX6_addTo_45 : decode cX6_addTo 45 = .ok (.dup2, 1) := dc_92 (dc_nn (k := 5) aX6_addTo_40 rfl)
theorem dX6_addTo_46 : decode cX6_addTo 46 = .ok (.iaload, 1) := dc_46 (dc_nn (k := 6) aX6_addTo_40 rfl)
theorem dX6_addTo_47 : decode cX6_addTo 47 = .ok (.iconst 1, 1) := dc_4 (dc_nn (k := 7) aX6_addTo_40 rfl)
theorem dX6_addTo_48 : decode cX6_addTo 48 = .ok (.iadd, 1) := dc_96 (dc_nn (k := 8) aX6_addTo_40 rfl)
theorem dX6_addTo_49 : decode cX6_addTo 49 = .ok (.iastore, 1) := dc_79 (dc_nn (k := 9) aX6_addTo_40 rfl)
theorem dX6_addTo_50 : decode cX6_addTo 50 = .ok (.aload_n 0, 1) := dc_42 (dc_nn (k := 10) aX6_addTo_40 rfl)
theorem dX6_addTo_51 : decode cX6_addTo 51 = .ok (.getfield 15, 3) := dc_180 (a0 := 0) (b0 := 15) (dc_nn (k := 11) aX6_addTo_40 rfl)
theorem dX6_addTo_54 : decode cX6_addTo 54 = .ok (.iload_n 1, 1) := dc_27 (dc_nn (k := 14) aX6_addTo_40 rfl)
theorem dX6_addTo_55 : decode cX6_addTo 55 = .ok (.iaload, 1) := dc_46 (dc_nn (k := 15) aX6_addTo_40 rfl)
theorem dX6_addTo_56 : decode cX6_addTo 56 = .ok (.ireturn, 1) := dc_172 (dc_nn (k := 16) aX6_addTo_40 rfl)
noncomputable def sX6_placeOf_0 : List Nat := 3 :: 62 :: 29 :: 42 :: 180 :: 0 :: 15 :: 27 :: 46 :: 162 :: 0 :: 26 :: 42 :: 180 :: 0 :: 9 :: 16 :: 20 :: 27 :: 104 :: 29 :: 96 :: 46 :: 28 :: 160 :: 0 :: 5 :: 29 :: 172 :: 132 :: 3 :: 1 :: 167 :: 255 :: 226 :: 2 :: 172 :: []
theorem aX6_placeOf_0 : dc_at cX6_placeOf 0 sX6_placeOf_0 := dc_base (by decide +kernel)
theorem dX6_placeOf_0 : decode cX6_placeOf 0 = .ok (.iconst 0, 1) := dc_3 aX6_placeOf_0
theorem dX6_placeOf_1 : decode cX6_placeOf 1 = .ok (.istore_n 3, 1) := dc_62 (dc_nn (k := 1) aX6_placeOf_0 rfl)
theorem dX6_placeOf_2 : decode cX6_placeOf 2 = .ok (.iload_n 3, 1) := dc_29 (dc_nn (k := 2) aX6_placeOf_0 rfl)
theorem dX6_placeOf_3 : decode cX6_placeOf 3 = .ok (.aload_n 0, 1) := dc_42 (dc_nn (k := 3) aX6_placeOf_0 rfl)
theorem dX6_placeOf_4 : decode cX6_placeOf 4 = .ok (.getfield 15, 3) := dc_180 (a0 := 0) (b0 := 15) (dc_nn (k := 4) aX6_placeOf_0 rfl)
theorem dX6_placeOf_7 : decode cX6_placeOf 7 = .ok (.iload_n 1, 1) := dc_27 (dc_nn (k := 7) aX6_placeOf_0 rfl)
theorem dX6_placeOf_8 : decode cX6_placeOf 8 = .ok (.iaload, 1) := dc_46 (dc_nn (k := 8) aX6_placeOf_0 rfl)
theorem dX6_placeOf_9 : decode cX6_placeOf 9 = .ok (.if_icmp .ge 26, 3) := dc_162 (a0 := 0) (b0 := 26) (dc_nn (k := 9) aX6_placeOf_0 rfl) (by decide)
theorem dX6_placeOf_12 : decode cX6_placeOf 12 = .ok (.aload_n 0, 1) := dc_42 (dc_nn (k := 12) aX6_placeOf_0 rfl)
theorem dX6_placeOf_13 : decode cX6_placeOf 13 = .ok (.getfield 9, 3) := dc_180 (a0 := 0) (b0 := 9) (dc_nn (k := 13) aX6_placeOf_0 rfl)
theorem dX6_placeOf_16 : decode cX6_placeOf 16 = .ok (.bipush 20, 2) := dc_16 (a0 := 20) (dc_nn (k := 16) aX6_placeOf_0 rfl) (by decide)
theorem dX6_placeOf_18 : decode cX6_placeOf 18 = .ok (.iload_n 1, 1) := dc_27 (dc_nn (k := 18) aX6_placeOf_0 rfl)
theorem dX6_placeOf_19 : decode cX6_placeOf 19 = .ok (.imul, 1) := dc_104 (dc_nn (k := 19) aX6_placeOf_0 rfl)
theorem dX6_placeOf_20 : decode cX6_placeOf 20 = .ok (.iload_n 3, 1) := dc_29 (dc_nn (k := 20) aX6_placeOf_0 rfl)
theorem dX6_placeOf_21 : decode cX6_placeOf 21 = .ok (.iadd, 1) := dc_96 (dc_nn (k := 21) aX6_placeOf_0 rfl)
theorem dX6_placeOf_22 : decode cX6_placeOf 22 = .ok (.iaload, 1) := dc_46 (dc_nn (k := 22) aX6_placeOf_0 rfl)
theorem dX6_placeOf_23 : decode cX6_placeOf 23 = .ok (.iload_n 2, 1) := dc_28 (dc_nn (k := 23) aX6_placeOf_0 rfl)
theorem dX6_placeOf_24 : decode cX6_placeOf 24 = .ok (.if_icmp .ne 5, 3) := dc_160 (a0 := 0) (b0 := 5) (dc_nn (k := 24) aX6_placeOf_0 rfl) (by decide)
theorem dX6_placeOf_27 : decode cX6_placeOf 27 = .ok (.iload_n 3, 1) := dc_29 (dc_nn (k := 27) aX6_placeOf_0 rfl)
theorem dX6_placeOf_28 : decode cX6_placeOf 28 = .ok (.ireturn, 1) := dc_172 (dc_nn (k := 28) aX6_placeOf_0 rfl)
theorem dX6_placeOf_29 : decode cX6_placeOf 29 = .ok (.iinc 3 1, 3) := dc_132 (a0 := 3) (a1 := 1) (dc_nn (k := 29) aX6_placeOf_0 rfl) (by decide)
theorem dX6_placeOf_32 : decode cX6_placeOf 32 = .ok (.goto (-30), 3) := dc_167 (a0 := 255) (b0 := 226) (dc_nn (k := 32) aX6_placeOf_0 rfl) (by decide)
theorem dX6_placeOf_35 : decode cX6_placeOf 35 = .ok (.iconst (-1), 1) := dc_2 (dc_nn (k := 35) aX6_placeOf_0 rfl)
theorem dX6_placeOf_36 : decode cX6_placeOf 36 = .ok (.ireturn, 1) := dc_172 (dc_nn (k := 36) aX6_placeOf_0 rfl)
set_option maxRecDepth 20000 in
theorem ggX6_setPlaces_X6_placeOf : GoodIn wsX6_setPlaces wsX6_placeOf := goodIn_k _ [[8], [1, 0, 6, 0, 0, 0]] (by rfl) (by decide +kernel)
set_option maxRecDepth 20000 in
theorem gX6_setPlaces_X6_placeOf : GoodIn wsX6_setPlaces (wsV RX6 24 RX6 yX6_placeOf wsX6_placeOf) := goodIn_app (goodIn_k _ [[4, 0, 0, 0]] (by rfl) (gw_V _ _ _ _)) ggX6_setPlaces_X6_placeOf
noncomputable def sX6_setPlaces_41 : List Nat := 42 :: 180 :: 0 :: 18 :: 29 :: 21 :: 5 :: 79 :: 132 :: 3 :: 1 :: 132 :: 4 :: 1 :: 167 :: 255 :: 206 :: 29 :: 172 :: []
noncomputable def sX6_setPlaces_0 : List Nat := 3 :: 62 :: 3 :: 54 :: 4 :: 21 :: 4 :: 42 :: 180 :: 0 :: 15 :: 27 :: 46 :: 162 :: 0 :: 45 :: 42 :: 28 :: 42 :: 180 :: 0 :: 9 :: 16 :: 20 :: 27 :: 104 :: 21 :: 4 :: 96 :: 46 :: 182 :: 0 :: 24 :: 54 :: 5 :: 21 :: 5 :: 2 :: 159 :: 0 :: 14 :: sX6_setPlaces_41
theorem aX6_setPlaces_0 : dc_at cX6_setPlaces 0 sX6_setPlaces_0 := dc_base (by decide +kernel)
theorem aX6_setPlaces_41 : dc_at cX6_setPlaces 41 sX6_setPlaces_41 := dc_nn (k := 41) aX6_setPlaces_0 rfl
theorem dX6_setPlaces_0 : decode cX6_setPlaces 0 = .ok (.iconst 0, 1) := dc_3 aX6_setPlaces_0
theorem dX6_setPlaces_1 : decode cX6_setPlaces 1 = .ok (.istore_n 3, 1) := dc_62 (dc_nn (k := 1) aX6_setPlaces_0 rfl)
theorem dX6_setPlaces_2 : decode cX6_setPlaces 2 = .ok (.iconst 0, 1) := dc_3 (dc_nn (k := 2) aX6_setPlaces_0 rfl)
theorem dX6_setPlaces_3 : decode cX6_setPlaces 3 = .ok (.istore 4, 2) := dc_54 (a0 := 4) (dc_nn (k := 3) aX6_setPlaces_0 rfl)
theorem dX6_setPlaces_5 : decode cX6_setPlaces 5 = .ok (.iload 4, 2) := dc_21 (a0 := 4) (dc_nn (k := 5) aX6_setPlaces_0 rfl)
theorem dX6_setPlaces_7 : decode cX6_setPlaces 7 = .ok (.aload_n 0, 1) := dc_42 (dc_nn (k := 7) aX6_setPlaces_0 rfl)
theorem dX6_setPlaces_8 : decode cX6_setPlaces 8 = .ok (.getfield 15, 3) := dc_180 (a0 := 0) (b0 := 15) (dc_nn (k := 8) aX6_setPlaces_0 rfl)
theorem dX6_setPlaces_11 : decode cX6_setPlaces 11 = .ok (.iload_n 1, 1) := dc_27 (dc_nn (k := 11) aX6_setPlaces_0 rfl)
theorem dX6_setPlaces_12 : decode cX6_setPlaces 12 = .ok (.iaload, 1) := dc_46 (dc_nn (k := 12) aX6_setPlaces_0 rfl)
theorem dX6_setPlaces_13 : decode cX6_setPlaces 13 = .ok (.if_icmp .ge 45, 3) := dc_162 (a0 := 0) (b0 := 45) (dc_nn (k := 13) aX6_setPlaces_0 rfl) (by decide)
theorem dX6_setPlaces_16 : decode cX6_setPlaces 16 = .ok (.aload_n 0, 1) := dc_42 (dc_nn (k := 16) aX6_setPlaces_0 rfl)
theorem dX6_setPlaces_17 : decode cX6_setPlaces 17 = .ok (.iload_n 2, 1) := dc_28 (dc_nn (k := 17) aX6_setPlaces_0 rfl)
theorem dX6_setPlaces_18 : decode cX6_setPlaces 18 = .ok (.aload_n 0, 1) := dc_42 (dc_nn (k := 18) aX6_setPlaces_0 rfl)
theorem dX6_setPlaces_19 : decode cX6_setPlaces 19 = .ok (.getfield 9, 3) := dc_180 (a0 := 0) (b0 := 9) (dc_nn (k := 19) aX6_setPlaces_0 rfl)
theorem dX6_setPlaces_22 : decode cX6_setPlaces 22 = .ok (.bipush 20, 2) := dc_16 (a0 := 20) (dc_nn (k := 22) aX6_setPlaces_0 rfl) (by decide)
theorem dX6_setPlaces_24 : decode cX6_setPlaces 24 = .ok (.iload_n 1, 1) := dc_27 (dc_nn (k := 24) aX6_setPlaces_0 rfl)
theorem dX6_setPlaces_25 : decode cX6_setPlaces 25 = .ok (.imul, 1) := dc_104 (dc_nn (k := 25) aX6_setPlaces_0 rfl)
theorem dX6_setPlaces_26 : decode cX6_setPlaces 26 = .ok (.iload 4, 2) := dc_21 (a0 := 4) (dc_nn (k := 26) aX6_setPlaces_0 rfl)
theorem dX6_setPlaces_28 : decode cX6_setPlaces 28 = .ok (.iadd, 1) := dc_96 (dc_nn (k := 28) aX6_setPlaces_0 rfl)
theorem dX6_setPlaces_29 : decode cX6_setPlaces 29 = .ok (.iaload, 1) := dc_46 (dc_nn (k := 29) aX6_setPlaces_0 rfl)
theorem dX6_setPlaces_30 : decode cX6_setPlaces 30 = .ok (.invokevirtual 24, 3) := dc_182 (a0 := 0) (b0 := 24) (dc_nn (k := 30) aX6_setPlaces_0 rfl)
theorem dX6_setPlaces_33 : decode cX6_setPlaces 33 = .ok (.istore 5, 2) := dc_54 (a0 := 5) (dc_nn (k := 33) aX6_setPlaces_0 rfl)
theorem dX6_setPlaces_35 : decode cX6_setPlaces 35 = .ok (.iload 5, 2) := dc_21 (a0 := 5) (dc_nn (k := 35) aX6_setPlaces_0 rfl)
theorem dX6_setPlaces_37 : decode cX6_setPlaces 37 = .ok (.iconst (-1), 1) := dc_2 (dc_nn (k := 37) aX6_setPlaces_0 rfl)
theorem dX6_setPlaces_38 : decode cX6_setPlaces 38 = .ok (.if_icmp .eq 14, 3) := dc_159 (a0 := 0) (b0 := 14) (dc_nn (k := 38) aX6_setPlaces_0 rfl) (by decide)
theorem dX6_setPlaces_41 : decode cX6_setPlaces 41 = .ok (.aload_n 0, 1) := dc_42 aX6_setPlaces_41
theorem dX6_setPlaces_42 : decode cX6_setPlaces 42 = .ok (.getfield 18, 3) := dc_180 (a0 := 0) (b0 := 18) (dc_nn (k := 1) aX6_setPlaces_41 rfl)
theorem dX6_setPlaces_45 : decode cX6_setPlaces 45 = .ok (.iload_n 3, 1) := dc_29 (dc_nn (k := 4) aX6_setPlaces_41 rfl)
theorem dX6_setPlaces_46 : decode cX6_setPlaces 46 = .ok (.iload 5, 2) := dc_21 (a0 := 5) (dc_nn (k := 5) aX6_setPlaces_41 rfl)
theorem dX6_setPlaces_48 : decode cX6_setPlaces 48 = .ok (.iastore, 1) := dc_79 (dc_nn (k := 7) aX6_setPlaces_41 rfl)
theorem dX6_setPlaces_49 : decode cX6_setPlaces 49 = .ok (.iinc 3 1, 3) := dc_132 (a0 := 3) (a1 := 1) (dc_nn (k := 8) aX6_setPlaces_41 rfl) (by decide)
theorem dX6_setPlaces_52 : decode cX6_setPlaces 52 = .ok (.iinc 4 1, 3) := dc_132 (a0 := 4) (a1 := 1) (dc_nn (k := 11) aX6_setPlaces_41 rfl) (by decide)
theorem dX6_setPlaces_55 : decode cX6_setPlaces 55 = .ok (.goto (-50), 3) := dc_167 (a0 := 255) (b0 := 206) (dc_nn (k := 14) aX6_setPlaces_41 rfl) (by decide)
theorem dX6_setPlaces_58 : decode cX6_setPlaces 58 = .ok (.iload_n 3, 1) := dc_29 (dc_nn (k := 17) aX6_setPlaces_41 rfl)
theorem dX6_setPlaces_59 : decode cX6_setPlaces 59 = .ok (.ireturn, 1) := dc_172 (dc_nn (k := 18) aX6_setPlaces_41 rfl)
set_option maxRecDepth 20000 in
theorem ggX6_howManyInOrder_X6_setPlaces : GoodIn wsX6_howManyInOrder wsX6_setPlaces := goodIn_k _ [[11, 0, 0], [2, 11, 0, 0], [10, 6, 0, 0, 0, 0]] (by rfl) (by decide +kernel)
set_option maxRecDepth 20000 in
theorem gX6_howManyInOrder_X6_setPlaces : GoodIn wsX6_howManyInOrder (wsV RX6 28 RX6 yX6_setPlaces wsX6_setPlaces) := goodIn_app (goodIn_k _ [[7, 0, 0, 0]] (by rfl) (gw_V _ _ _ _)) ggX6_howManyInOrder_X6_setPlaces
noncomputable def sX6_howManyInOrder_83 : List Nat := 167 :: 255 :: 203 :: 21 :: 4 :: 42 :: 180 :: 0 :: 21 :: 21 :: 5 :: 46 :: 184 :: 0 :: 31 :: 54 :: 4 :: 132 :: 5 :: 1 :: 167 :: 255 :: 166 :: 21 :: 4 :: 172 :: []
noncomputable def sX6_howManyInOrder_41 : List Nat := 21 :: 6 :: 46 :: 42 :: 180 :: 0 :: 18 :: 21 :: 5 :: 46 :: 162 :: 0 :: 29 :: 42 :: 180 :: 0 :: 21 :: 21 :: 5 :: 42 :: 180 :: 0 :: 21 :: 21 :: 5 :: 46 :: 42 :: 180 :: 0 :: 21 :: 21 :: 6 :: 46 :: 4 :: 96 :: 184 :: 0 :: 31 :: 79 :: 132 :: 6 :: 1 :: sX6_howManyInOrder_83
noncomputable def sX6_howManyInOrder_0 : List Nat := 42 :: 27 :: 28 :: 182 :: 0 :: 28 :: 62 :: 3 :: 54 :: 4 :: 3 :: 54 :: 5 :: 21 :: 5 :: 29 :: 162 :: 0 :: 90 :: 42 :: 180 :: 0 :: 21 :: 21 :: 5 :: 4 :: 79 :: 3 :: 54 :: 6 :: 21 :: 6 :: 21 :: 5 :: 162 :: 0 :: 52 :: 42 :: 180 :: 0 :: 18 :: sX6_howManyInOrder_41
theorem aX6_howManyInOrder_0 : dc_at cX6_howManyInOrder 0 sX6_howManyInOrder_0 := dc_base (by decide +kernel)
theorem aX6_howManyInOrder_41 : dc_at cX6_howManyInOrder 41 sX6_howManyInOrder_41 := dc_nn (k := 41) aX6_howManyInOrder_0 rfl
theorem aX6_howManyInOrder_83 : dc_at cX6_howManyInOrder 83 sX6_howManyInOrder_83 := dc_nn (k := 42) aX6_howManyInOrder_41 rfl
theorem dX6_howManyInOrder_0 : decode cX6_howManyInOrder 0 = .ok (.aload_n 0, 1) := dc_42 aX6_howManyInOrder_0
theorem dX6_howManyInOrder_1 : decode cX6_howManyInOrder 1 = .ok (.iload_n 1, 1) := dc_27 (dc_nn (k := 1) aX6_howManyInOrder_0 rfl)
theorem dX6_howManyInOrder_2 : decode cX6_howManyInOrder 2 = .ok (.iload_n 2, 1) := dc_28 (dc_nn (k := 2) aX6_howManyInOrder_0 rfl)
theorem dX6_howManyInOrder_3 : decode cX6_howManyInOrder 3 = .ok (.invokevirtual 28, 3) := dc_182 (a0 := 0) (b0 := 28) (dc_nn (k := 3) aX6_howManyInOrder_0 rfl)
theorem dX6_howManyInOrder_6 : decode cX6_howManyInOrder 6 = .ok (.istore_n 3, 1) := dc_62 (dc_nn (k := 6) aX6_howManyInOrder_0 rfl)
theorem dX6_howManyInOrder_7 : decode cX6_howManyInOrder 7 = .ok (.iconst 0, 1) := dc_3 (dc_nn (k := 7) aX6_howManyInOrder_0 rfl)
theorem dX6_howManyInOrder_8 : decode cX6_howManyInOrder 8 = .ok (.istore 4, 2) := dc_54 (a0 := 4) (dc_nn (k := 8) aX6_howManyInOrder_0 rfl)
theorem dX6_howManyInOrder_10 : decode cX6_howManyInOrder 10 = .ok (.iconst 0, 1) := dc_3 (dc_nn (k := 10) aX6_howManyInOrder_0 rfl)
theorem dX6_howManyInOrder_11 : decode cX6_howManyInOrder 11 = .ok (.istore 5, 2) := dc_54 (a0 := 5) (dc_nn (k := 11) aX6_howManyInOrder_0 rfl)
theorem dX6_howManyInOrder_13 : decode cX6_howManyInOrder 13 = .ok (.iload 5, 2) := dc_21 (a0 := 5) (dc_nn (k := 13) aX6_howManyInOrder_0 rfl)
theorem dX6_howManyInOrder_15 : decode cX6_howManyInOrder 15 = .ok (.iload_n 3, 1) := dc_29 (dc_nn (k := 15) aX6_howManyInOrder_0 rfl)
theorem dX6_howManyInOrder_16 : decode cX6_howManyInOrder 16 = .ok (.if_icmp .ge 90, 3) := dc_162 (a0 := 0) (b0 := 90) (dc_nn (k := 16) aX6_howManyInOrder_0 rfl) (by decide)
theorem dX6_howManyInOrder_19 : decode cX6_howManyInOrder 19 = .ok (.aload_n 0, 1) := dc_42 (dc_nn (k := 19) aX6_howManyInOrder_0 rfl)
theorem dX6_howManyInOrder_20 : decode cX6_howManyInOrder 20 = .ok (.getfield 21, 3) := dc_180 (a0 := 0) (b0 := 21) (dc_nn (k := 20) aX6_howManyInOrder_0 rfl)
theorem dX6_howManyInOrder_23 : decode cX6_howManyInOrder 23 = .ok (.iload 5, 2) := dc_21 (a0 := 5) (dc_nn (k := 23) aX6_howManyInOrder_0 rfl)
theorem dX6_howManyInOrder_25 : decode cX6_howManyInOrder 25 = .ok (.iconst 1, 1) := dc_4 (dc_nn (k := 25) aX6_howManyInOrder_0 rfl)
theorem dX6_howManyInOrder_26 : decode cX6_howManyInOrder 26 = .ok (.iastore, 1) := dc_79 (dc_nn (k := 26) aX6_howManyInOrder_0 rfl)
theorem dX6_howManyInOrder_27 : decode cX6_howManyInOrder 27 = .ok (.iconst 0, 1) := dc_3 (dc_nn (k := 27) aX6_howManyInOrder_0 rfl)
theorem dX6_howManyInOrder_28 : decode cX6_howManyInOrder 28 = .ok (.istore 6, 2) := dc_54 (a0 := 6) (dc_nn (k := 28) aX6_howManyInOrder_0 rfl)
theorem dX6_howManyInOrder_30 : decode cX6_howManyInOrder 30 = .ok (.iload 6, 2) := dc_21 (a0 := 6) (dc_nn (k := 30) aX6_howManyInOrder_0 rfl)
theorem dX6_howManyInOrder_32 : decode cX6_howManyInOrder 32 = .ok (.iload 5, 2) := dc_21 (a0 := 5) (dc_nn (k := 32) aX6_howManyInOrder_0 rfl)
theorem dX6_howManyInOrder_34 : decode cX6_howManyInOrder 34 = .ok (.if_icmp .ge 52, 3) := dc_162 (a0 := 0) (b0 := 52) (dc_nn (k := 34) aX6_howManyInOrder_0 rfl) (by decide)
theorem dX6_howManyInOrder_37 : decode cX6_howManyInOrder 37 = .ok (.aload_n 0, 1) := dc_42 (dc_nn (k := 37) aX6_howManyInOrder_0 rfl)
theorem dX6_howManyInOrder_38 : decode cX6_howManyInOrder 38 = .ok (.getfield 18, 3) := dc_180 (a0 := 0) (b0 := 18) (dc_nn (k := 38) aX6_howManyInOrder_0 rfl)
theorem dX6_howManyInOrder_41 : decode cX6_howManyInOrder 41 = .ok (.iload 6, 2) := dc_21 (a0 := 6) aX6_howManyInOrder_41
theorem dX6_howManyInOrder_43 : decode cX6_howManyInOrder 43 = .ok (.iaload, 1) := dc_46 (dc_nn (k := 2) aX6_howManyInOrder_41 rfl)
theorem dX6_howManyInOrder_44 : decode cX6_howManyInOrder 44 = .ok (.aload_n 0, 1) := dc_42 (dc_nn (k := 3) aX6_howManyInOrder_41 rfl)
theorem dX6_howManyInOrder_45 : decode cX6_howManyInOrder 45 = .ok (.getfield 18, 3) := dc_180 (a0 := 0) (b0 := 18) (dc_nn (k := 4) aX6_howManyInOrder_41 rfl)
theorem dX6_howManyInOrder_48 : decode cX6_howManyInOrder 48 = .ok (.iload 5, 2) := dc_21 (a0 := 5) (dc_nn (k := 7) aX6_howManyInOrder_41 rfl)
theorem dX6_howManyInOrder_50 : decode cX6_howManyInOrder 50 = .ok (.iaload, 1) := dc_46 (dc_nn (k := 9) aX6_howManyInOrder_41 rfl)
theorem dX6_howManyInOrder_51 : decode cX6_howManyInOrder 51 = .ok (.if_icmp .ge 29, 3) := dc_162 (a0 := 0) (b0 := 29) (dc_nn (k := 10) aX6_howManyInOrder_41 rfl) (by decide)
theorem dX6_howManyInOrder_54 : decode cX6_howManyInOrder 54 = .ok (.aload_n 0, 1) := dc_42 (dc_nn (k := 13) aX6_howManyInOrder_41 rfl)
theorem dX6_howManyInOrder_55 : decode cX6_howManyInOrder 55 = .ok (.getfield 21, 3) := dc_180 (a0 := 0) (b0 := 21) (dc_nn (k := 14) aX6_howManyInOrder_41 rfl)
theorem dX6_howManyInOrder_58 : decode cX6_howManyInOrder 58 = .ok (.iload 5, 2) := dc_21 (a0 := 5) (dc_nn (k := 17) aX6_howManyInOrder_41 rfl)
theorem dX6_howManyInOrder_60 : decode cX6_howManyInOrder 60 = .ok (.aload_n 0, 1) := dc_42 (dc_nn (k := 19) aX6_howManyInOrder_41 rfl)
theorem dX6_howManyInOrder_61 : decode cX6_howManyInOrder 61 = .ok (.getfield 21, 3) := dc_180 (a0 := 0) (b0 := 21) (dc_nn (k := 20) aX6_howManyInOrder_41 rfl)
theorem dX6_howManyInOrder_64 : decode cX6_howManyInOrder 64 = .ok (.iload 5, 2) := dc_21 (a0 := 5) (dc_nn (k := 23) aX6_howManyInOrder_41 rfl)
theorem dX6_howManyInOrder_66 : decode cX6_howManyInOrder 66 = .ok (.iaload, 1) := dc_46 (dc_nn (k := 25) aX6_howManyInOrder_41 rfl)
theorem dX6_howManyInOrder_67 : decode cX6_howManyInOrder 67 = .ok (.aload_n 0, 1) := dc_42 (dc_nn (k := 26) aX6_howManyInOrder_41 rfl)
theorem dX6_howManyInOrder_68 : decode cX6_howManyInOrder 68 = .ok (.getfield 21, 3) := dc_180 (a0 := 0) (b0 := 21) (dc_nn (k := 27) aX6_howManyInOrder_41 rfl)
theorem dX6_howManyInOrder_71 : decode cX6_howManyInOrder 71 = .ok (.iload 6, 2) := dc_21 (a0 := 6) (dc_nn (k := 30) aX6_howManyInOrder_41 rfl)
theorem dX6_howManyInOrder_73 : decode cX6_howManyInOrder 73 = .ok (.iaload, 1) := dc_46 (dc_nn (k := 32) aX6_howManyInOrder_41 rfl)
theorem dX6_howManyInOrder_74 : decode cX6_howManyInOrder 74 = .ok (.iconst 1, 1) := dc_4 (dc_nn (k := 33) aX6_howManyInOrder_41 rfl)
theorem dX6_howManyInOrder_75 : decode cX6_howManyInOrder 75 = .ok (.iadd, 1) := dc_96 (dc_nn (k := 34) aX6_howManyInOrder_41 rfl)
theorem dX6_howManyInOrder_76 : decode cX6_howManyInOrder 76 = .ok (.invokestatic 31, 3) := dc_184 (a0 := 0) (b0 := 31) (dc_nn (k := 35) aX6_howManyInOrder_41 rfl)
theorem dX6_howManyInOrder_79 : decode cX6_howManyInOrder 79 = .ok (.iastore, 1) := dc_79 (dc_nn (k := 38) aX6_howManyInOrder_41 rfl)
theorem dX6_howManyInOrder_80 : decode cX6_howManyInOrder 80 = .ok (.iinc 6 1, 3) := dc_132 (a0 := 6) (a1 := 1) (dc_nn (k := 39) aX6_howManyInOrder_41 rfl) (by decide)
theorem dX6_howManyInOrder_83 : decode cX6_howManyInOrder 83 = .ok (.goto (-53), 3) := dc_167 (a0 := 255) (b0 := 203) aX6_howManyInOrder_83 (by decide)
theorem dX6_howManyInOrder_86 : decode cX6_howManyInOrder 86 = .ok (.iload 4, 2) := dc_21 (a0 := 4) (dc_nn (k := 3) aX6_howManyInOrder_83 rfl)
theorem dX6_howManyInOrder_88 : decode cX6_howManyInOrder 88 = .ok (.aload_n 0, 1) := dc_42 (dc_nn (k := 5) aX6_howManyInOrder_83 rfl)
theorem dX6_howManyInOrder_89 : decode cX6_howManyInOrder 89 = .ok (.getfield 21, 3) := dc_180 (a0 := 0) (b0 := 21) (dc_nn (k := 6) aX6_howManyInOrder_83 rfl)
theorem dX6_howManyInOrder_92 : decode cX6_howManyInOrder 92 = .ok (.iload 5, 2) := dc_21 (a0 := 5) (dc_nn (k := 9) aX6_howManyInOrder_83 rfl)
theorem dX6_howManyInOrder_94 : decode cX6_howManyInOrder 94 = .ok (.iaload, 1) := dc_46 (dc_nn (k := 11) aX6_howManyInOrder_83 rfl)
theorem dX6_howManyInOrder_95 : decode cX6_howManyInOrder 95 = .ok (.invokestatic 31, 3) := dc_184 (a0 := 0) (b0 := 31) (dc_nn (k := 12) aX6_howManyInOrder_83 rfl)
theorem dX6_howManyInOrder_98 : decode cX6_howManyInOrder 98 = .ok (.istore 4, 2) := dc_54 (a0 := 4) (dc_nn (k := 15) aX6_howManyInOrder_83 rfl)
theorem dX6_howManyInOrder_100 : decode cX6_howManyInOrder 100 = .ok (.iinc 5 1, 3) := dc_132 (a0 := 5) (a1 := 1) (dc_nn (k := 17) aX6_howManyInOrder_83 rfl) (by decide)
theorem dX6_howManyInOrder_103 : decode cX6_howManyInOrder 103 = .ok (.goto (-90), 3) := dc_167 (a0 := 255) (b0 := 166) (dc_nn (k := 20) aX6_howManyInOrder_83 rfl) (by decide)
theorem dX6_howManyInOrder_106 : decode cX6_howManyInOrder 106 = .ok (.iload 4, 2) := dc_21 (a0 := 4) (dc_nn (k := 23) aX6_howManyInOrder_83 rfl)
theorem dX6_howManyInOrder_108 : decode cX6_howManyInOrder 108 = .ok (.ireturn, 1) := dc_172 (dc_nn (k := 25) aX6_howManyInOrder_83 rfl)
set_option maxRecDepth 20000 in
theorem ggX6_howManyTurned_X6_setPlaces : GoodIn wsX6_howManyTurned wsX6_setPlaces := goodIn_k _ [[6, 0, 0], [1, 7, 0, 0], [5, 6, 0, 0, 0, 0]] (by rfl) (by decide +kernel)
set_option maxRecDepth 20000 in
theorem gX6_howManyTurned_X6_setPlaces : GoodIn wsX6_howManyTurned (wsV RX6 28 RX6 yX6_setPlaces wsX6_setPlaces) := goodIn_app (goodIn_k _ [[2, 0, 0, 0]] (by rfl) (gw_V _ _ _ _)) ggX6_howManyTurned_X6_setPlaces
noncomputable def sX6_howManyTurned_40 : List Nat := 21 :: 5 :: 46 :: 164 :: 0 :: 6 :: 132 :: 4 :: 1 :: 132 :: 6 :: 1 :: 167 :: 255 :: 226 :: 132 :: 5 :: 1 :: 167 :: 255 :: 211 :: 21 :: 4 :: 172 :: []
noncomputable def sX6_howManyTurned_0 : List Nat := 42 :: 27 :: 28 :: 182 :: 0 :: 28 :: 62 :: 3 :: 54 :: 4 :: 3 :: 54 :: 5 :: 21 :: 5 :: 29 :: 162 :: 0 :: 45 :: 3 :: 54 :: 6 :: 21 :: 6 :: 21 :: 5 :: 162 :: 0 :: 29 :: 42 :: 180 :: 0 :: 18 :: 21 :: 6 :: 46 :: 42 :: 180 :: 0 :: 18 :: sX6_howManyTurned_40
theorem aX6_howManyTurned_0 : dc_at cX6_howManyTurned 0 sX6_howManyTurned_0 := dc_base (by decide +kernel)
theorem aX6_howManyTurned_40 : dc_at cX6_howManyTurned 40 sX6_howManyTurned_40 := dc_nn (k := 40) aX6_howManyTurned_0 rfl
theorem dX6_howManyTurned_0 : decode cX6_howManyTurned 0 = .ok (.aload_n 0, 1) := dc_42 aX6_howManyTurned_0
theorem dX6_howManyTurned_1 : decode cX6_howManyTurned 1 = .ok (.iload_n 1, 1) := dc_27 (dc_nn (k := 1) aX6_howManyTurned_0 rfl)
theorem dX6_howManyTurned_2 : decode cX6_howManyTurned 2 = .ok (.iload_n 2, 1) := dc_28 (dc_nn (k := 2) aX6_howManyTurned_0 rfl)
theorem dX6_howManyTurned_3 : decode cX6_howManyTurned 3 = .ok (.invokevirtual 28, 3) := dc_182 (a0 := 0) (b0 := 28) (dc_nn (k := 3) aX6_howManyTurned_0 rfl)
theorem dX6_howManyTurned_6 : decode cX6_howManyTurned 6 = .ok (.istore_n 3, 1) := dc_62 (dc_nn (k := 6) aX6_howManyTurned_0 rfl)
theorem dX6_howManyTurned_7 : decode cX6_howManyTurned 7 = .ok (.iconst 0, 1) := dc_3 (dc_nn (k := 7) aX6_howManyTurned_0 rfl)
theorem dX6_howManyTurned_8 : decode cX6_howManyTurned 8 = .ok (.istore 4, 2) := dc_54 (a0 := 4) (dc_nn (k := 8) aX6_howManyTurned_0 rfl)
theorem dX6_howManyTurned_10 : decode cX6_howManyTurned 10 = .ok (.iconst 0, 1) := dc_3 (dc_nn (k := 10) aX6_howManyTurned_0 rfl)
theorem dX6_howManyTurned_11 : decode cX6_howManyTurned 11 = .ok (.istore 5, 2) := dc_54 (a0 := 5) (dc_nn (k := 11) aX6_howManyTurned_0 rfl)
theorem dX6_howManyTurned_13 : decode cX6_howManyTurned 13 = .ok (.iload 5, 2) := dc_21 (a0 := 5) (dc_nn (k := 13) aX6_howManyTurned_0 rfl)
theorem dX6_howManyTurned_15 : decode cX6_howManyTurned 15 = .ok (.iload_n 3, 1) := dc_29 (dc_nn (k := 15) aX6_howManyTurned_0 rfl)
theorem dX6_howManyTurned_16 : decode cX6_howManyTurned 16 = .ok (.if_icmp .ge 45, 3) := dc_162 (a0 := 0) (b0 := 45) (dc_nn (k := 16) aX6_howManyTurned_0 rfl) (by decide)
theorem dX6_howManyTurned_19 : decode cX6_howManyTurned 19 = .ok (.iconst 0, 1) := dc_3 (dc_nn (k := 19) aX6_howManyTurned_0 rfl)
theorem dX6_howManyTurned_20 : decode cX6_howManyTurned 20 = .ok (.istore 6, 2) := dc_54 (a0 := 6) (dc_nn (k := 20) aX6_howManyTurned_0 rfl)
theorem dX6_howManyTurned_22 : decode cX6_howManyTurned 22 = .ok (.iload 6, 2) := dc_21 (a0 := 6) (dc_nn (k := 22) aX6_howManyTurned_0 rfl)
theorem dX6_howManyTurned_24 : decode cX6_howManyTurned 24 = .ok (.iload 5, 2) := dc_21 (a0 := 5) (dc_nn (k := 24) aX6_howManyTurned_0 rfl)
theorem dX6_howManyTurned_26 : decode cX6_howManyTurned 26 = .ok (.if_icmp .ge 29, 3) := dc_162 (a0 := 0) (b0 := 29) (dc_nn (k := 26) aX6_howManyTurned_0 rfl) (by decide)
theorem dX6_howManyTurned_29 : decode cX6_howManyTurned 29 = .ok (.aload_n 0, 1) := dc_42 (dc_nn (k := 29) aX6_howManyTurned_0 rfl)
theorem dX6_howManyTurned_30 : decode cX6_howManyTurned 30 = .ok (.getfield 18, 3) := dc_180 (a0 := 0) (b0 := 18) (dc_nn (k := 30) aX6_howManyTurned_0 rfl)
theorem dX6_howManyTurned_33 : decode cX6_howManyTurned 33 = .ok (.iload 6, 2) := dc_21 (a0 := 6) (dc_nn (k := 33) aX6_howManyTurned_0 rfl)
theorem dX6_howManyTurned_35 : decode cX6_howManyTurned 35 = .ok (.iaload, 1) := dc_46 (dc_nn (k := 35) aX6_howManyTurned_0 rfl)
theorem dX6_howManyTurned_36 : decode cX6_howManyTurned 36 = .ok (.aload_n 0, 1) := dc_42 (dc_nn (k := 36) aX6_howManyTurned_0 rfl)
theorem dX6_howManyTurned_37 : decode cX6_howManyTurned 37 = .ok (.getfield 18, 3) := dc_180 (a0 := 0) (b0 := 18) (dc_nn (k := 37) aX6_howManyTurned_0 rfl)
theorem dX6_howManyTurned_40 : decode cX6_howManyTurned 40 = .ok (.iload 5, 2) := dc_21 (a0 := 5) aX6_howManyTurned_40
theorem dX6_howManyTurned_42 : decode cX6_howManyTurned 42 = .ok (.iaload, 1) := dc_46 (dc_nn (k := 2) aX6_howManyTurned_40 rfl)
theorem dX6_howManyTurned_43 : decode cX6_howManyTurned 43 = .ok (.if_icmp .le 6, 3) := dc_164 (a0 := 0) (b0 := 6) (dc_nn (k := 3) aX6_howManyTurned_40 rfl) (by decide)
theorem dX6_howManyTurned_46 : decode cX6_howManyTurned 46 = .ok (.iinc 4 1, 3) := dc_132 (a0 := 4) (a1 := 1) (dc_nn (k := 6) aX6_howManyTurned_40 rfl) (by decide)
theorem dX6_howManyTurned_49 : decode cX6_howManyTurned 49 = .ok (.iinc 6 1, 3) := dc_132 (a0 := 6) (a1 := 1) (dc_nn (k := 9) aX6_howManyTurned_40 rfl) (by decide)
theorem dX6_howManyTurned_52 : decode cX6_howManyTurned 52 = .ok (.goto (-30), 3) := dc_167 (a0 := 255) (b0 := 226) (dc_nn (k := 12) aX6_howManyTurned_40 rfl) (by decide)
theorem dX6_howManyTurned_55 : decode cX6_howManyTurned 55 = .ok (.iinc 5 1, 3) := dc_132 (a0 := 5) (a1 := 1) (dc_nn (k := 15) aX6_howManyTurned_40 rfl) (by decide)
theorem dX6_howManyTurned_58 : decode cX6_howManyTurned 58 = .ok (.goto (-45), 3) := dc_167 (a0 := 255) (b0 := 211) (dc_nn (k := 18) aX6_howManyTurned_40 rfl) (by decide)
theorem dX6_howManyTurned_61 : decode cX6_howManyTurned 61 = .ok (.iload 4, 2) := dc_21 (a0 := 4) (dc_nn (k := 21) aX6_howManyTurned_40 rfl)
theorem dX6_howManyTurned_63 : decode cX6_howManyTurned 63 = .ok (.ireturn, 1) := dc_172 (dc_nn (k := 23) aX6_howManyTurned_40 rfl)
set_option maxRecDepth 20000 in
theorem ggX7_init_J7_fill_53178 : GoodIn wsX7_init wsJ7_fill_53178 := goodIn_k _ [[15]] (by rfl) (by decide +kernel)
set_option maxRecDepth 20000 in
theorem gX7_init_J7_fill_53178 : GoodIn wsX7_init (va_wsS RX7 31 yJ7_fill_53178 wsJ7_fill_53178) := goodIn_app (goodIn_k _ [[12, 0, 0]] (by rfl) (gw_S _ _ _ _)) ggX7_init_J7_fill_53178
noncomputable def sX7_init_41 : List Nat := 181 :: 0 :: 24 :: 42 :: 17 :: 9 :: 0 :: 188 :: 10 :: 181 :: 0 :: 28 :: 42 :: 180 :: 0 :: 9 :: 2 :: 184 :: 0 :: 31 :: 42 :: 180 :: 0 :: 15 :: 2 :: 184 :: 0 :: 31 :: 42 :: 180 :: 0 :: 18 :: 2 :: 184 :: 0 :: 31 :: 177 :: []
noncomputable def sX7_init_0 : List Nat := 42 :: 183 :: 0 :: 3 :: 42 :: 16 :: 20 :: 188 :: 10 :: 181 :: 0 :: 9 :: 42 :: 16 :: 20 :: 188 :: 10 :: 181 :: 0 :: 15 :: 42 :: 16 :: 20 :: 188 :: 10 :: 181 :: 0 :: 18 :: 42 :: 16 :: 20 :: 188 :: 10 :: 181 :: 0 :: 21 :: 42 :: 16 :: 64 :: 188 :: 4 :: sX7_init_41
theorem aX7_init_0 : dc_at cX7_init 0 sX7_init_0 := dc_base (by decide +kernel)
theorem aX7_init_41 : dc_at cX7_init 41 sX7_init_41 := dc_nn (k := 41) aX7_init_0 rfl
theorem dX7_init_0 : decode cX7_init 0 = .ok (.aload_n 0, 1) := dc_42 aX7_init_0
theorem dX7_init_1 : decode cX7_init 1 = .ok (.invokespecial 3, 3) := dc_183 (a0 := 0) (b0 := 3) (dc_nn (k := 1) aX7_init_0 rfl)
theorem dX7_init_4 : decode cX7_init 4 = .ok (.aload_n 0, 1) := dc_42 (dc_nn (k := 4) aX7_init_0 rfl)
theorem dX7_init_5 : decode cX7_init 5 = .ok (.bipush 20, 2) := dc_16 (a0 := 20) (dc_nn (k := 5) aX7_init_0 rfl) (by decide)
theorem dX7_init_7 : decode cX7_init 7 = .ok (.newarray .int, 2) := dc_188_10 (dc_nn (k := 7) aX7_init_0 rfl)
theorem dX7_init_9 : decode cX7_init 9 = .ok (.putfield 9, 3) := dc_181 (a0 := 0) (b0 := 9) (dc_nn (k := 9) aX7_init_0 rfl)
theorem dX7_init_12 : decode cX7_init 12 = .ok (.aload_n 0, 1) := dc_42 (dc_nn (k := 12) aX7_init_0 rfl)
theorem dX7_init_13 : decode cX7_init 13 = .ok (.bipush 20, 2) := dc_16 (a0 := 20) (dc_nn (k := 13) aX7_init_0 rfl) (by decide)
theorem dX7_init_15 : decode cX7_init 15 = .ok (.newarray .int, 2) := dc_188_10 (dc_nn (k := 15) aX7_init_0 rfl)
theorem dX7_init_17 : decode cX7_init 17 = .ok (.putfield 15, 3) := dc_181 (a0 := 0) (b0 := 15) (dc_nn (k := 17) aX7_init_0 rfl)
theorem dX7_init_20 : decode cX7_init 20 = .ok (.aload_n 0, 1) := dc_42 (dc_nn (k := 20) aX7_init_0 rfl)
theorem dX7_init_21 : decode cX7_init 21 = .ok (.bipush 20, 2) := dc_16 (a0 := 20) (dc_nn (k := 21) aX7_init_0 rfl) (by decide)
theorem dX7_init_23 : decode cX7_init 23 = .ok (.newarray .int, 2) := dc_188_10 (dc_nn (k := 23) aX7_init_0 rfl)
theorem dX7_init_25 : decode cX7_init 25 = .ok (.putfield 18, 3) := dc_181 (a0 := 0) (b0 := 18) (dc_nn (k := 25) aX7_init_0 rfl)
theorem dX7_init_28 : decode cX7_init 28 = .ok (.aload_n 0, 1) := dc_42 (dc_nn (k := 28) aX7_init_0 rfl)
theorem dX7_init_29 : decode cX7_init 29 = .ok (.bipush 20, 2) := dc_16 (a0 := 20) (dc_nn (k := 29) aX7_init_0 rfl) (by decide)
theorem dX7_init_31 : decode cX7_init 31 = .ok (.newarray .int, 2) := dc_188_10 (dc_nn (k := 31) aX7_init_0 rfl)
theorem dX7_init_33 : decode cX7_init 33 = .ok (.putfield 21, 3) := dc_181 (a0 := 0) (b0 := 21) (dc_nn (k := 33) aX7_init_0 rfl)
theorem dX7_init_36 : decode cX7_init 36 = .ok (.aload_n 0, 1) := dc_42 (dc_nn (k := 36) aX7_init_0 rfl)
theorem dX7_init_37 : decode cX7_init 37 = .ok (.bipush 64, 2) := dc_16 (a0 := 64) (dc_nn (k := 37) aX7_init_0 rfl) (by decide)
theorem dX7_init_39 : decode cX7_init 39 = .ok (.newarray .boolean, 2) := dc_188_4 (dc_nn (k := 39) aX7_init_0 rfl)
theorem dX7_init_41 : decode cX7_init 41 = .ok (.putfield 24, 3) := dc_181 (a0 := 0) (b0 := 24) aX7_init_41
theorem dX7_init_44 : decode cX7_init 44 = .ok (.aload_n 0, 1) := dc_42 (dc_nn (k := 3) aX7_init_41 rfl)
theorem dX7_init_45 : decode cX7_init 45 = .ok (.sipush 2304, 3) := dc_17 (a0 := 9) (b0 := 0) (dc_nn (k := 4) aX7_init_41 rfl) (by decide)
theorem dX7_init_48 : decode cX7_init 48 = .ok (.newarray .int, 2) := dc_188_10 (dc_nn (k := 7) aX7_init_41 rfl)
theorem dX7_init_50 : decode cX7_init 50 = .ok (.putfield 28, 3) := dc_181 (a0 := 0) (b0 := 28) (dc_nn (k := 9) aX7_init_41 rfl)
theorem dX7_init_53 : decode cX7_init 53 = .ok (.aload_n 0, 1) := dc_42 (dc_nn (k := 12) aX7_init_41 rfl)
theorem dX7_init_54 : decode cX7_init 54 = .ok (.getfield 9, 3) := dc_180 (a0 := 0) (b0 := 9) (dc_nn (k := 13) aX7_init_41 rfl)
theorem dX7_init_57 : decode cX7_init 57 = .ok (.iconst (-1), 1) := dc_2 (dc_nn (k := 16) aX7_init_41 rfl)
theorem dX7_init_58 : decode cX7_init 58 = .ok (.invokestatic 31, 3) := dc_184 (a0 := 0) (b0 := 31) (dc_nn (k := 17) aX7_init_41 rfl)
theorem dX7_init_61 : decode cX7_init 61 = .ok (.aload_n 0, 1) := dc_42 (dc_nn (k := 20) aX7_init_41 rfl)
theorem dX7_init_62 : decode cX7_init 62 = .ok (.getfield 15, 3) := dc_180 (a0 := 0) (b0 := 15) (dc_nn (k := 21) aX7_init_41 rfl)
theorem dX7_init_65 : decode cX7_init 65 = .ok (.iconst (-1), 1) := dc_2 (dc_nn (k := 24) aX7_init_41 rfl)
theorem dX7_init_66 : decode cX7_init 66 = .ok (.invokestatic 31, 3) := dc_184 (a0 := 0) (b0 := 31) (dc_nn (k := 25) aX7_init_41 rfl)
theorem dX7_init_69 : decode cX7_init 69 = .ok (.aload_n 0, 1) := dc_42 (dc_nn (k := 28) aX7_init_41 rfl)
theorem dX7_init_70 : decode cX7_init 70 = .ok (.getfield 18, 3) := dc_180 (a0 := 0) (b0 := 18) (dc_nn (k := 29) aX7_init_41 rfl)
theorem dX7_init_73 : decode cX7_init 73 = .ok (.iconst (-1), 1) := dc_2 (dc_nn (k := 32) aX7_init_41 rfl)
theorem dX7_init_74 : decode cX7_init 74 = .ok (.invokestatic 31, 3) := dc_184 (a0 := 0) (b0 := 31) (dc_nn (k := 33) aX7_init_41 rfl)
theorem dX7_init_77 : decode cX7_init 77 = .ok (.return_, 1) := dc_177 (dc_nn (k := 36) aX7_init_41 rfl)
noncomputable def sX7_tellLife_0 : List Nat := 42 :: 180 :: 0 :: 9 :: 27 :: 28 :: 79 :: 42 :: 180 :: 0 :: 15 :: 27 :: 29 :: 79 :: 177 :: []
theorem aX7_tellLife_0 : dc_at cX7_tellLife 0 sX7_tellLife_0 := dc_base (by decide +kernel)
theorem dX7_tellLife_0 : decode cX7_tellLife 0 = .ok (.aload_n 0, 1) := dc_42 aX7_tellLife_0
theorem dX7_tellLife_1 : decode cX7_tellLife 1 = .ok (.getfield 9, 3) := dc_180 (a0 := 0) (b0 := 9) (dc_nn (k := 1) aX7_tellLife_0 rfl)
theorem dX7_tellLife_4 : decode cX7_tellLife 4 = .ok (.iload_n 1, 1) := dc_27 (dc_nn (k := 4) aX7_tellLife_0 rfl)
theorem dX7_tellLife_5 : decode cX7_tellLife 5 = .ok (.iload_n 2, 1) := dc_28 (dc_nn (k := 5) aX7_tellLife_0 rfl)
theorem dX7_tellLife_6 : decode cX7_tellLife 6 = .ok (.iastore, 1) := dc_79 (dc_nn (k := 6) aX7_tellLife_0 rfl)
theorem dX7_tellLife_7 : decode cX7_tellLife 7 = .ok (.aload_n 0, 1) := dc_42 (dc_nn (k := 7) aX7_tellLife_0 rfl)
theorem dX7_tellLife_8 : decode cX7_tellLife 8 = .ok (.getfield 15, 3) := dc_180 (a0 := 0) (b0 := 15) (dc_nn (k := 8) aX7_tellLife_0 rfl)
theorem dX7_tellLife_11 : decode cX7_tellLife 11 = .ok (.iload_n 1, 1) := dc_27 (dc_nn (k := 11) aX7_tellLife_0 rfl)
theorem dX7_tellLife_12 : decode cX7_tellLife 12 = .ok (.iload_n 3, 1) := dc_29 (dc_nn (k := 12) aX7_tellLife_0 rfl)
theorem dX7_tellLife_13 : decode cX7_tellLife 13 = .ok (.iastore, 1) := dc_79 (dc_nn (k := 13) aX7_tellLife_0 rfl)
theorem dX7_tellLife_14 : decode cX7_tellLife 14 = .ok (.return_, 1) := dc_177 (dc_nn (k := 14) aX7_tellLife_0 rfl)
noncomputable def sX7_tellFate_0 : List Nat := 42 :: 180 :: 0 :: 18 :: 27 :: 28 :: 79 :: 177 :: []
theorem aX7_tellFate_0 : dc_at cX7_tellFate 0 sX7_tellFate_0 := dc_base (by decide +kernel)
theorem dX7_tellFate_0 : decode cX7_tellFate 0 = .ok (.aload_n 0, 1) := dc_42 aX7_tellFate_0
theorem dX7_tellFate_1 : decode cX7_tellFate 1 = .ok (.getfield 18, 3) := dc_180 (a0 := 0) (b0 := 18) (dc_nn (k := 1) aX7_tellFate_0 rfl)
theorem dX7_tellFate_4 : decode cX7_tellFate 4 = .ok (.iload_n 1, 1) := dc_27 (dc_nn (k := 4) aX7_tellFate_0 rfl)
theorem dX7_tellFate_5 : decode cX7_tellFate 5 = .ok (.iload_n 2, 1) := dc_28 (dc_nn (k := 5) aX7_tellFate_0 rfl)
theorem dX7_tellFate_6 : decode cX7_tellFate 6 = .ok (.iastore, 1) := dc_79 (dc_nn (k := 6) aX7_tellFate_0 rfl)
theorem dX7_tellFate_7 : decode cX7_tellFate 7 = .ok (.return_, 1) := dc_177 (dc_nn (k := 7) aX7_tellFate_0 rfl)
noncomputable def sX7_setRows_0 : List Nat := 3 :: 61 :: 3 :: 62 :: 29 :: 16 :: 20 :: 162 :: 0 :: 26 :: 43 :: 29 :: 46 :: 2 :: 159 :: 0 :: 13 :: 42 :: 180 :: 0 :: 21 :: 28 :: 29 :: 79 :: 132 :: 2 :: 1 :: 132 :: 3 :: 1 :: 167 :: 255 :: 230 :: 28 :: 172 :: []
theorem aX7_setRows_0 : dc_at cX7_setRows 0 sX7_setRows_0 := dc_base (by decide +kernel)
theorem dX7_setRows_0 : decode cX7_setRows 0 = .ok (.iconst 0, 1) := dc_3 aX7_setRows_0
theorem dX7_setRows_1 : decode cX7_setRows 1 = .ok (.istore_n 2, 1) := dc_61 (dc_nn (k := 1) aX7_setRows_0 rfl)
theorem dX7_setRows_2 : decode cX7_setRows 2 = .ok (.iconst 0, 1) := dc_3 (dc_nn (k := 2) aX7_setRows_0 rfl)
theorem dX7_setRows_3 : decode cX7_setRows 3 = .ok (.istore_n 3, 1) := dc_62 (dc_nn (k := 3) aX7_setRows_0 rfl)
theorem dX7_setRows_4 : decode cX7_setRows 4 = .ok (.iload_n 3, 1) := dc_29 (dc_nn (k := 4) aX7_setRows_0 rfl)
theorem dX7_setRows_5 : decode cX7_setRows 5 = .ok (.bipush 20, 2) := dc_16 (a0 := 20) (dc_nn (k := 5) aX7_setRows_0 rfl) (by decide)
theorem dX7_setRows_7 : decode cX7_setRows 7 = .ok (.if_icmp .ge 26, 3) := dc_162 (a0 := 0) (b0 := 26) (dc_nn (k := 7) aX7_setRows_0 rfl) (by decide)
theorem dX7_setRows_10 : decode cX7_setRows 10 = .ok (.aload_n 1, 1) := dc_43 (dc_nn (k := 10) aX7_setRows_0 rfl)
theorem dX7_setRows_11 : decode cX7_setRows 11 = .ok (.iload_n 3, 1) := dc_29 (dc_nn (k := 11) aX7_setRows_0 rfl)
theorem dX7_setRows_12 : decode cX7_setRows 12 = .ok (.iaload, 1) := dc_46 (dc_nn (k := 12) aX7_setRows_0 rfl)
theorem dX7_setRows_13 : decode cX7_setRows 13 = .ok (.iconst (-1), 1) := dc_2 (dc_nn (k := 13) aX7_setRows_0 rfl)
theorem dX7_setRows_14 : decode cX7_setRows 14 = .ok (.if_icmp .eq 13, 3) := dc_159 (a0 := 0) (b0 := 13) (dc_nn (k := 14) aX7_setRows_0 rfl) (by decide)
theorem dX7_setRows_17 : decode cX7_setRows 17 = .ok (.aload_n 0, 1) := dc_42 (dc_nn (k := 17) aX7_setRows_0 rfl)
theorem dX7_setRows_18 : decode cX7_setRows 18 = .ok (.getfield 21, 3) := dc_180 (a0 := 0) (b0 := 21) (dc_nn (k := 18) aX7_setRows_0 rfl)
theorem dX7_setRows_21 : decode cX7_setRows 21 = .ok (.iload_n 2, 1) := dc_28 (dc_nn (k := 21) aX7_setRows_0 rfl)
theorem dX7_setRows_22 : decode cX7_setRows 22 = .ok (.iload_n 3, 1) := dc_29 (dc_nn (k := 22) aX7_setRows_0 rfl)
theorem dX7_setRows_23 : decode cX7_setRows 23 = .ok (.iastore, 1) := dc_79 (dc_nn (k := 23) aX7_setRows_0 rfl)
theorem dX7_setRows_24 : decode cX7_setRows 24 = .ok (.iinc 2 1, 3) := dc_132 (a0 := 2) (a1 := 1) (dc_nn (k := 24) aX7_setRows_0 rfl) (by decide)
theorem dX7_setRows_27 : decode cX7_setRows 27 = .ok (.iinc 3 1, 3) := dc_132 (a0 := 3) (a1 := 1) (dc_nn (k := 27) aX7_setRows_0 rfl) (by decide)
theorem dX7_setRows_30 : decode cX7_setRows 30 = .ok (.goto (-26), 3) := dc_167 (a0 := 255) (b0 := 230) (dc_nn (k := 30) aX7_setRows_0 rfl) (by decide)
theorem dX7_setRows_33 : decode cX7_setRows 33 = .ok (.iload_n 2, 1) := dc_28 (dc_nn (k := 33) aX7_setRows_0 rfl)
theorem dX7_setRows_34 : decode cX7_setRows 34 = .ok (.ireturn, 1) := dc_172 (dc_nn (k := 34) aX7_setRows_0 rfl)
set_option maxRecDepth 20000 in
theorem ggX7_howManyLives_X7_setRows : GoodIn wsX7_howManyLives wsX7_setRows := goodIn_k _ [[6, 0, 0, 0, 0, 0, 0, 0]] (by rfl) (by decide +kernel)
set_option maxRecDepth 20000 in
theorem gX7_howManyLives_X7_setRows : GoodIn wsX7_howManyLives (wsV RX7 37 RX7 yX7_setRows wsX7_setRows) := goodIn_app (goodIn_k _ [[2, 0, 0, 0]] (by rfl) (gw_V _ _ _ _)) ggX7_howManyLives_X7_setRows
noncomputable def sX7_howManyLives_0 : List Nat := 42 :: 42 :: 180 :: 0 :: 9 :: 182 :: 0 :: 37 :: 172 :: []
theorem aX7_howManyLives_0 : dc_at cX7_howManyLives 0 sX7_howManyLives_0 := dc_base (by decide +kernel)
theorem dX7_howManyLives_0 : decode cX7_howManyLives 0 = .ok (.aload_n 0, 1) := dc_42 aX7_howManyLives_0
theorem dX7_howManyLives_1 : decode cX7_howManyLives 1 = .ok (.aload_n 0, 1) := dc_42 (dc_nn (k := 1) aX7_howManyLives_0 rfl)
theorem dX7_howManyLives_2 : decode cX7_howManyLives 2 = .ok (.getfield 9, 3) := dc_180 (a0 := 0) (b0 := 9) (dc_nn (k := 2) aX7_howManyLives_0 rfl)
theorem dX7_howManyLives_5 : decode cX7_howManyLives 5 = .ok (.invokevirtual 37, 3) := dc_182 (a0 := 0) (b0 := 37) (dc_nn (k := 5) aX7_howManyLives_0 rfl)
theorem dX7_howManyLives_8 : decode cX7_howManyLives 8 = .ok (.ireturn, 1) := dc_172 (dc_nn (k := 8) aX7_howManyLives_0 rfl)
set_option maxRecDepth 20000 in
theorem ggX7_howManyFates_X7_setRows : GoodIn wsX7_howManyFates wsX7_setRows := goodIn_k _ [[6, 0, 0, 0, 0, 0, 0, 0]] (by rfl) (by decide +kernel)
set_option maxRecDepth 20000 in
theorem gX7_howManyFates_X7_setRows : GoodIn wsX7_howManyFates (wsV RX7 37 RX7 yX7_setRows wsX7_setRows) := goodIn_app (goodIn_k _ [[2, 0, 0, 0]] (by rfl) (gw_V _ _ _ _)) ggX7_howManyFates_X7_setRows
noncomputable def sX7_howManyFates_0 : List Nat := 42 :: 42 :: 180 :: 0 :: 18 :: 182 :: 0 :: 37 :: 172 :: []
theorem aX7_howManyFates_0 : dc_at cX7_howManyFates 0 sX7_howManyFates_0 := dc_base (by decide +kernel)
theorem dX7_howManyFates_0 : decode cX7_howManyFates 0 = .ok (.aload_n 0, 1) := dc_42 aX7_howManyFates_0
theorem dX7_howManyFates_1 : decode cX7_howManyFates 1 = .ok (.aload_n 0, 1) := dc_42 (dc_nn (k := 1) aX7_howManyFates_0 rfl)
theorem dX7_howManyFates_2 : decode cX7_howManyFates 2 = .ok (.getfield 18, 3) := dc_180 (a0 := 0) (b0 := 18) (dc_nn (k := 2) aX7_howManyFates_0 rfl)
theorem dX7_howManyFates_5 : decode cX7_howManyFates 5 = .ok (.invokevirtual 37, 3) := dc_182 (a0 := 0) (b0 := 37) (dc_nn (k := 5) aX7_howManyFates_0 rfl)
theorem dX7_howManyFates_8 : decode cX7_howManyFates 8 = .ok (.ireturn, 1) := dc_172 (dc_nn (k := 8) aX7_howManyFates_0 rfl)
noncomputable def sX7_isHit_0 : List Nat := 42 :: 180 :: 0 :: 9 :: 27 :: 46 :: 28 :: 100 :: 184 :: 0 :: 41 :: 29 :: 163 :: 0 :: 7 :: 4 :: 167 :: 0 :: 4 :: 3 :: 172 :: []
theorem aX7_isHit_0 : dc_at cX7_isHit 0 sX7_isHit_0 := dc_base (by decide +kernel)
theorem dX7_isHit_0 : decode cX7_isHit 0 = .ok (.aload_n 0, 1) := dc_42 aX7_isHit_0
theorem dX7_isHit_1 : decode cX7_isHit 1 = .ok (.getfield 9, 3) := dc_180 (a0 := 0) (b0 := 9) (dc_nn (k := 1) aX7_isHit_0 rfl)
theorem dX7_isHit_4 : decode cX7_isHit 4 = .ok (.iload_n 1, 1) := dc_27 (dc_nn (k := 4) aX7_isHit_0 rfl)
theorem dX7_isHit_5 : decode cX7_isHit 5 = .ok (.iaload, 1) := dc_46 (dc_nn (k := 5) aX7_isHit_0 rfl)
theorem dX7_isHit_6 : decode cX7_isHit 6 = .ok (.iload_n 2, 1) := dc_28 (dc_nn (k := 6) aX7_isHit_0 rfl)
theorem dX7_isHit_7 : decode cX7_isHit 7 = .ok (.isub, 1) := dc_100 (dc_nn (k := 7) aX7_isHit_0 rfl)
theorem dX7_isHit_8 : decode cX7_isHit 8 = .ok (.invokestatic 41, 3) := dc_184 (a0 := 0) (b0 := 41) (dc_nn (k := 8) aX7_isHit_0 rfl)
theorem dX7_isHit_11 : decode cX7_isHit 11 = .ok (.iload_n 3, 1) := dc_29 (dc_nn (k := 11) aX7_isHit_0 rfl)
theorem dX7_isHit_12 : decode cX7_isHit 12 = .ok (.if_icmp .gt 7, 3) := dc_163 (a0 := 0) (b0 := 7) (dc_nn (k := 12) aX7_isHit_0 rfl) (by decide)
theorem dX7_isHit_15 : decode cX7_isHit 15 = .ok (.iconst 1, 1) := dc_4 (dc_nn (k := 15) aX7_isHit_0 rfl)
theorem dX7_isHit_16 : decode cX7_isHit 16 = .ok (.goto 4, 3) := dc_167 (a0 := 0) (b0 := 4) (dc_nn (k := 16) aX7_isHit_0 rfl) (by decide)
theorem dX7_isHit_19 : decode cX7_isHit 19 = .ok (.iconst 0, 1) := dc_3 (dc_nn (k := 19) aX7_isHit_0 rfl)
theorem dX7_isHit_20 : decode cX7_isHit 20 = .ok (.ireturn, 1) := dc_172 (dc_nn (k := 20) aX7_isHit_0 rfl)
set_option maxRecDepth 20000 in
theorem ggX7_howManyHits_X7_setRows : GoodIn wsX7_howManyHits wsX7_setRows := goodIn_k _ [[8], [2, 14, 0, 0, 0, 0, 0]] (by rfl) (by decide +kernel)
set_option maxRecDepth 20000 in
theorem gX7_howManyHits_X7_setRows : GoodIn wsX7_howManyHits (wsV RX7 37 RX7 yX7_setRows wsX7_setRows) := goodIn_app (goodIn_k _ [[4, 0, 0, 0]] (by rfl) (gw_V _ _ _ _)) ggX7_howManyHits_X7_setRows
set_option maxRecDepth 20000 in
theorem ggX7_howManyHits_X7_isHit : GoodIn wsX7_howManyHits wsX7_isHit := goodIn_k _ [[12], [1, 11, 0, 0, 0, 0, 0, 0, 0, 0, 0]] (by rfl) (by decide +kernel)
set_option maxRecDepth 20000 in
theorem gX7_howManyHits_X7_isHit : GoodIn wsX7_howManyHits (wsV RX7 47 RX7 yX7_isHit wsX7_isHit) := goodIn_app (goodIn_k _ [[9, 0, 0], [7]] (by rfl) (gw_V _ _ _ _)) ggX7_howManyHits_X7_isHit
noncomputable def sX7_howManyHits_40 : List Nat := 27 :: 182 :: 0 :: 47 :: 153 :: 0 :: 6 :: 132 :: 3 :: 1 :: 132 :: 4 :: 1 :: 167 :: 255 :: 217 :: 29 :: 172 :: []
noncomputable def sX7_howManyHits_0 : List Nat := 42 :: 42 :: 180 :: 0 :: 9 :: 182 :: 0 :: 37 :: 61 :: 3 :: 62 :: 3 :: 54 :: 4 :: 21 :: 4 :: 28 :: 162 :: 0 :: 39 :: 42 :: 42 :: 180 :: 0 :: 21 :: 21 :: 4 :: 46 :: 42 :: 180 :: 0 :: 15 :: 42 :: 180 :: 0 :: 21 :: 21 :: 4 :: 46 :: 46 :: sX7_howManyHits_40
theorem aX7_howManyHits_0 : dc_at cX7_howManyHits 0 sX7_howManyHits_0 := dc_base (by decide +kernel)
theorem aX7_howManyHits_40 : dc_at cX7_howManyHits 40 sX7_howManyHits_40 := dc_nn (k := 40) aX7_howManyHits_0 rfl
theorem dX7_howManyHits_0 : decode cX7_howManyHits 0 = .ok (.aload_n 0, 1) := dc_42 aX7_howManyHits_0
theorem dX7_howManyHits_1 : decode cX7_howManyHits 1 = .ok (.aload_n 0, 1) := dc_42 (dc_nn (k := 1) aX7_howManyHits_0 rfl)
theorem dX7_howManyHits_2 : decode cX7_howManyHits 2 = .ok (.getfield 9, 3) := dc_180 (a0 := 0) (b0 := 9) (dc_nn (k := 2) aX7_howManyHits_0 rfl)
theorem dX7_howManyHits_5 : decode cX7_howManyHits 5 = .ok (.invokevirtual 37, 3) := dc_182 (a0 := 0) (b0 := 37) (dc_nn (k := 5) aX7_howManyHits_0 rfl)
theorem dX7_howManyHits_8 : decode cX7_howManyHits 8 = .ok (.istore_n 2, 1) := dc_61 (dc_nn (k := 8) aX7_howManyHits_0 rfl)
theorem dX7_howManyHits_9 : decode cX7_howManyHits 9 = .ok (.iconst 0, 1) := dc_3 (dc_nn (k := 9) aX7_howManyHits_0 rfl)
theorem dX7_howManyHits_10 : decode cX7_howManyHits 10 = .ok (.istore_n 3, 1) := dc_62 (dc_nn (k := 10) aX7_howManyHits_0 rfl)
theorem dX7_howManyHits_11 : decode cX7_howManyHits 11 = .ok (.iconst 0, 1) := dc_3 (dc_nn (k := 11) aX7_howManyHits_0 rfl)
theorem dX7_howManyHits_12 : decode cX7_howManyHits 12 = .ok (.istore 4, 2) := dc_54 (a0 := 4) (dc_nn (k := 12) aX7_howManyHits_0 rfl)
theorem dX7_howManyHits_14 : decode cX7_howManyHits 14 = .ok (.iload 4, 2) := dc_21 (a0 := 4) (dc_nn (k := 14) aX7_howManyHits_0 rfl)
theorem dX7_howManyHits_16 : decode cX7_howManyHits 16 = .ok (.iload_n 2, 1) := dc_28 (dc_nn (k := 16) aX7_howManyHits_0 rfl)
theorem dX7_howManyHits_17 : decode cX7_howManyHits 17 = .ok (.if_icmp .ge 39, 3) := dc_162 (a0 := 0) (b0 := 39) (dc_nn (k := 17) aX7_howManyHits_0 rfl) (by decide)
theorem dX7_howManyHits_20 : decode cX7_howManyHits 20 = .ok (.aload_n 0, 1) := dc_42 (dc_nn (k := 20) aX7_howManyHits_0 rfl)
theorem dX7_howManyHits_21 : decode cX7_howManyHits 21 = .ok (.aload_n 0, 1) := dc_42 (dc_nn (k := 21) aX7_howManyHits_0 rfl)
theorem dX7_howManyHits_22 : decode cX7_howManyHits 22 = .ok (.getfield 21, 3) := dc_180 (a0 := 0) (b0 := 21) (dc_nn (k := 22) aX7_howManyHits_0 rfl)
theorem dX7_howManyHits_25 : decode cX7_howManyHits 25 = .ok (.iload 4, 2) := dc_21 (a0 := 4) (dc_nn (k := 25) aX7_howManyHits_0 rfl)
theorem dX7_howManyHits_27 : decode cX7_howManyHits 27 = .ok (.iaload, 1) := dc_46 (dc_nn (k := 27) aX7_howManyHits_0 rfl)
theorem dX7_howManyHits_28 : decode cX7_howManyHits 28 = .ok (.aload_n 0, 1) := dc_42 (dc_nn (k := 28) aX7_howManyHits_0 rfl)
theorem dX7_howManyHits_29 : decode cX7_howManyHits 29 = .ok (.getfield 15, 3) := dc_180 (a0 := 0) (b0 := 15) (dc_nn (k := 29) aX7_howManyHits_0 rfl)
theorem dX7_howManyHits_32 : decode cX7_howManyHits 32 = .ok (.aload_n 0, 1) := dc_42 (dc_nn (k := 32) aX7_howManyHits_0 rfl)
theorem dX7_howManyHits_33 : decode cX7_howManyHits 33 = .ok (.getfield 21, 3) := dc_180 (a0 := 0) (b0 := 21) (dc_nn (k := 33) aX7_howManyHits_0 rfl)
theorem dX7_howManyHits_36 : decode cX7_howManyHits 36 = .ok (.iload 4, 2) := dc_21 (a0 := 4) (dc_nn (k := 36) aX7_howManyHits_0 rfl)
theorem dX7_howManyHits_38 : decode cX7_howManyHits 38 = .ok (.iaload, 1) := dc_46 (dc_nn (k := 38) aX7_howManyHits_0 rfl)
theorem dX7_howManyHits_39 : decode cX7_howManyHits 39 = .ok (.iaload, 1) := dc_46 (dc_nn (k := 39) aX7_howManyHits_0 rfl)
theorem dX7_howManyHits_40 : decode cX7_howManyHits 40 = .ok (.iload_n 1, 1) := dc_27 aX7_howManyHits_40
theorem dX7_howManyHits_41 : decode cX7_howManyHits 41 = .ok (.invokevirtual 47, 3) := dc_182 (a0 := 0) (b0 := 47) (dc_nn (k := 1) aX7_howManyHits_40 rfl)
theorem dX7_howManyHits_44 : decode cX7_howManyHits 44 = .ok (.ifCond .eq 6, 3) := dc_153 (a0 := 0) (b0 := 6) (dc_nn (k := 4) aX7_howManyHits_40 rfl) (by decide)
theorem dX7_howManyHits_47 : decode cX7_howManyHits 47 = .ok (.iinc 3 1, 3) := dc_132 (a0 := 3) (a1 := 1) (dc_nn (k := 7) aX7_howManyHits_40 rfl) (by decide)
theorem dX7_howManyHits_50 : decode cX7_howManyHits 50 = .ok (.iinc 4 1, 3) := dc_132 (a0 := 4) (a1 := 1) (dc_nn (k := 10) aX7_howManyHits_40 rfl) (by decide)
theorem dX7_howManyHits_53 : decode cX7_howManyHits 53 = .ok (.goto (-39), 3) := dc_167 (a0 := 255) (b0 := 217) (dc_nn (k := 13) aX7_howManyHits_40 rfl) (by decide)
theorem dX7_howManyHits_56 : decode cX7_howManyHits 56 = .ok (.iload_n 3, 1) := dc_29 (dc_nn (k := 16) aX7_howManyHits_40 rfl)
theorem dX7_howManyHits_57 : decode cX7_howManyHits 57 = .ok (.ireturn, 1) := dc_172 (dc_nn (k := 17) aX7_howManyHits_40 rfl)
set_option maxRecDepth 20000 in
theorem ggX7_chanceOfLives_X7_setRows : GoodIn wsX7_chanceOfLives wsX7_setRows := goodIn_k _ [[9], [3, 38, 0, 0, 0, 0, 0]] (by rfl) (by decide +kernel)
set_option maxRecDepth 20000 in
theorem gX7_chanceOfLives_X7_setRows : GoodIn wsX7_chanceOfLives (wsV RX7 37 RX7 yX7_setRows wsX7_setRows) := goodIn_app (goodIn_k _ [[5, 0, 0, 0]] (by rfl) (gw_V _ _ _ _)) ggX7_chanceOfLives_X7_setRows
set_option maxRecDepth 20000 in
theorem ggX7_chanceOfLives_X7_isHit : GoodIn wsX7_chanceOfLives wsX7_isHit := goodIn_k _ [[13], [1, 12, 0, 0, 0, 24, 0, 0, 0, 0, 0]] (by rfl) (by decide +kernel)
set_option maxRecDepth 20000 in
theorem gX7_chanceOfLives_X7_isHit : GoodIn wsX7_chanceOfLives (wsV RX7 47 RX7 yX7_isHit wsX7_isHit) := goodIn_app (goodIn_k _ [[10, 0, 0], [8]] (by rfl) (gw_V _ _ _ _)) ggX7_chanceOfLives_X7_isHit
set_option maxRecDepth 20000 in
theorem ggX7_chanceOfLives_X7_howManyHits : GoodIn wsX7_chanceOfLives wsX7_howManyHits := goodIn_k _ [[21], [1, 1, 0, 0, 0, 0, 0, 0, 0, 0, 0, 0, 0, 0, 0, 0, 24, 0, 0, 0, 0, 0]] (by rfl) (by decide +kernel)
set_option maxRecDepth 20000 in
theorem gX7_chanceOfLives_X7_howManyHits : GoodIn wsX7_chanceOfLives (wsV RX7 51 RX7 yX7_howManyHits wsX7_howManyHits) := goodIn_app (goodIn_k _ [[18, 0, 0], [8]] (by rfl) (gw_V _ _ _ _)) ggX7_chanceOfLives_X7_howManyHits
set_option maxRecDepth 20000 in
theorem ggX7_chanceOfLives_X7_waysToHit : GoodIn wsX7_chanceOfLives wsX7_waysToHit := goodIn_k _ [[25, 0, 0, 0, 0, 0, 0, 0, 0], [8, 25], [2, 32, 0, 0, 0, 0, 0, 0, 0, 0, 0, 0, 0, 0]] (by rfl) (by decide +kernel)
set_option maxRecDepth 20000 in
theorem gX7_chanceOfLives_X7_waysToHit : GoodIn wsX7_chanceOfLives (wsV RX7 54 RX7 yX7_waysToHit wsX7_waysToHit) := goodIn_app (goodIn_k _ [[22, 0, 0], [8]] (by rfl) (gw_V _ _ _ _)) ggX7_chanceOfLives_X7_waysToHit
noncomputable def sX7_chanceOfLives_80 : List Nat := 42 :: 28 :: 42 :: 27 :: 182 :: 0 :: 51 :: 182 :: 0 :: 54 :: 172 :: []
noncomputable def sX7_chanceOfLives_40 : List Nat := 104 :: 21 :: 4 :: 96 :: 42 :: 42 :: 180 :: 0 :: 21 :: 29 :: 46 :: 42 :: 180 :: 0 :: 15 :: 42 :: 180 :: 0 :: 21 :: 21 :: 4 :: 46 :: 46 :: 27 :: 182 :: 0 :: 47 :: 84 :: 132 :: 4 :: 1 :: 167 :: 255 :: 212 :: 132 :: 3 :: 1 :: 167 :: 255 :: 198 :: sX7_chanceOfLives_80
noncomputable def sX7_chanceOfLives_0 : List Nat := 42 :: 42 :: 180 :: 0 :: 9 :: 182 :: 0 :: 37 :: 61 :: 28 :: 16 :: 8 :: 164 :: 0 :: 5 :: 2 :: 172 :: 3 :: 62 :: 29 :: 28 :: 162 :: 0 :: 59 :: 3 :: 54 :: 4 :: 21 :: 4 :: 28 :: 162 :: 0 :: 44 :: 42 :: 180 :: 0 :: 24 :: 16 :: 8 :: 29 :: sX7_chanceOfLives_40
theorem aX7_chanceOfLives_0 : dc_at cX7_chanceOfLives 0 sX7_chanceOfLives_0 := dc_base (by decide +kernel)
theorem aX7_chanceOfLives_40 : dc_at cX7_chanceOfLives 40 sX7_chanceOfLives_40 := dc_nn (k := 40) aX7_chanceOfLives_0 rfl
theorem aX7_chanceOfLives_80 : dc_at cX7_chanceOfLives 80 sX7_chanceOfLives_80 := dc_nn (k := 40) aX7_chanceOfLives_40 rfl
theorem dX7_chanceOfLives_0 : decode cX7_chanceOfLives 0 = .ok (.aload_n 0, 1) := dc_42 aX7_chanceOfLives_0
theorem dX7_chanceOfLives_1 : decode cX7_chanceOfLives 1 = .ok (.aload_n 0, 1) := dc_42 (dc_nn (k := 1) aX7_chanceOfLives_0 rfl)
theorem dX7_chanceOfLives_2 : decode cX7_chanceOfLives 2 = .ok (.getfield 9, 3) := dc_180 (a0 := 0) (b0 := 9) (dc_nn (k := 2) aX7_chanceOfLives_0 rfl)
theorem dX7_chanceOfLives_5 : decode cX7_chanceOfLives 5 = .ok (.invokevirtual 37, 3) := dc_182 (a0 := 0) (b0 := 37) (dc_nn (k := 5) aX7_chanceOfLives_0 rfl)
theorem dX7_chanceOfLives_8 : decode cX7_chanceOfLives 8 = .ok (.istore_n 2, 1) := dc_61 (dc_nn (k := 8) aX7_chanceOfLives_0 rfl)
theorem dX7_chanceOfLives_9 : decode cX7_chanceOfLives 9 = .ok (.iload_n 2, 1) := dc_28 (dc_nn (k := 9) aX7_chanceOfLives_0 rfl)
theorem dX7_chanceOfLives_10 : decode cX7_chanceOfLives 10 = .ok (.bipush 8, 2) := dc_16 (a0 := 8) (dc_nn (k := 10) aX7_chanceOfLives_0 rfl) (by decide)
theorem dX7_chanceOfLives_12 : decode cX7_chanceOfLives 12 = .ok (.if_icmp .le 5, 3) := dc_164 (a0 := 0) (b0 := 5) (dc_nn (k := 12) aX7_chanceOfLives_0 rfl) (by decide)
theorem dX7_chanceOfLives_15 : decode cX7_chanceOfLives 15 = .ok (.iconst (-1), 1) := dc_2 (dc_nn (k := 15) aX7_chanceOfLives_0 rfl)
theorem dX7_chanceOfLives_16 : decode cX7_chanceOfLives 16 = .ok (.ireturn, 1) := dc_172 (dc_nn (k := 16) aX7_chanceOfLives_0 rfl)
theorem dX7_chanceOfLives_17 : decode cX7_chanceOfLives 17 = .ok (.iconst 0, 1) := dc_3 (dc_nn (k := 17) aX7_chanceOfLives_0 rfl)
theorem dX7_chanceOfLives_18 : decode cX7_chanceOfLives 18 = .ok (.istore_n 3, 1) := dc_62 (dc_nn (k := 18) aX7_chanceOfLives_0 rfl)
theorem dX7_chanceOfLives_19 : decode cX7_chanceOfLives 19 = .ok (.iload_n 3, 1) := dc_29 (dc_nn (k := 19) aX7_chanceOfLives_0 rfl)
theorem dX7_chanceOfLives_20 : decode cX7_chanceOfLives 20 = .ok (.iload_n 2, 1) := dc_28 (dc_nn (k := 20) aX7_chanceOfLives_0 rfl)
theorem dX7_chanceOfLives_21 : decode cX7_chanceOfLives 21 = .ok (.if_icmp .ge 59, 3) := dc_162 (a0 := 0) (b0 := 59) (dc_nn (k := 21) aX7_chanceOfLives_0 rfl) (by decide)
theorem dX7_chanceOfLives_24 : decode cX7_chanceOfLives 24 = .ok (.iconst 0, 1) := dc_3 (dc_nn (k := 24) aX7_chanceOfLives_0 rfl)
theorem dX7_chanceOfLives_25 : decode cX7_chanceOfLives 25 = .ok (.istore 4, 2) := dc_54 (a0 := 4) (dc_nn (k := 25) aX7_chanceOfLives_0 rfl)
theorem dX7_chanceOfLives_27 : decode cX7_chanceOfLives 27 = .ok (.iload 4, 2) := dc_21 (a0 := 4) (dc_nn (k := 27) aX7_chanceOfLives_0 rfl)
theorem dX7_chanceOfLives_29 : decode cX7_chanceOfLives 29 = .ok (.iload_n 2, 1) := dc_28 (dc_nn (k := 29) aX7_chanceOfLives_0 rfl)
theorem dX7_chanceOfLives_30 : decode cX7_chanceOfLives 30 = .ok (.if_icmp .ge 44, 3) := dc_162 (a0 := 0) (b0 := 44) (dc_nn (k := 30) aX7_chanceOfLives_0 rfl) (by decide)
theorem dX7_chanceOfLives_33 : decode cX7_chanceOfLives 33 = .ok (.aload_n 0, 1) := dc_42 (dc_nn (k := 33) aX7_chanceOfLives_0 rfl)
theorem dX7_chanceOfLives_34 : decode cX7_chanceOfLives 34 = .ok (.getfield 24, 3) := dc_180 (a0 := 0) (b0 := 24) (dc_nn (k := 34) aX7_chanceOfLives_0 rfl)
theorem dX7_chanceOfLives_37 : decode cX7_chanceOfLives 37 = .ok (.bipush 8, 2) := dc_16 (a0 := 8) (dc_nn (k := 37) aX7_chanceOfLives_0 rfl) (by decide)
theorem dX7_chanceOfLives_39 : decode cX7_chanceOfLives 39 = .ok (.iload_n 3, 1) := dc_29 (dc_nn (k := 39) aX7_chanceOfLives_0 rfl)
theorem dX7_chanceOfLives_40 : decode cX7_chanceOfLives 40 = .ok (.imul, 1) := dc_104 aX7_chanceOfLives_40
theorem dX7_chanceOfLives_41 : decode cX7_chanceOfLives 41 = .ok (.iload 4, 2) := dc_21 (a0 := 4) (dc_nn (k := 1) aX7_chanceOfLives_40 rfl)
theorem dX7_chanceOfLives_43 : decode cX7_chanceOfLives 43 = .ok (.iadd, 1) := dc_96 (dc_nn (k := 3) aX7_chanceOfLives_40 rfl)
theorem dX7_chanceOfLives_44 : decode cX7_chanceOfLives 44 = .ok (.aload_n 0, 1) := dc_42 (dc_nn (k := 4) aX7_chanceOfLives_40 rfl)
theorem dX7_chanceOfLives_45 : decode cX7_chanceOfLives 45 = .ok (.aload_n 0, 1) := dc_42 (dc_nn (k := 5) aX7_chanceOfLives_40 rfl)
theorem dX7_chanceOfLives_46 : decode cX7_chanceOfLives 46 = .ok (.getfield 21, 3) := dc_180 (a0 := 0) (b0 := 21) (dc_nn (k := 6) aX7_chanceOfLives_40 rfl)
theorem dX7_chanceOfLives_49 : decode cX7_chanceOfLives 49 = .ok (.iload_n 3, 1) := dc_29 (dc_nn (k := 9) aX7_chanceOfLives_40 rfl)
theorem dX7_chanceOfLives_50 : decode cX7_chanceOfLives 50 = .ok (.iaload, 1) := dc_46 (dc_nn (k := 10) aX7_chanceOfLives_40 rfl)
theorem dX7_chanceOfLives_51 : decode cX7_chanceOfLives 51 = .ok (.aload_n 0, 1) := dc_42 (dc_nn (k := 11) aX7_chanceOfLives_40 rfl)
theorem dX7_chanceOfLives_52 : decode cX7_chanceOfLives 52 = .ok (.getfield 15, 3) := dc_180 (a0 := 0) (b0 := 15) (dc_nn (k := 12) aX7_chanceOfLives_40 rfl)
theorem dX7_chanceOfLives_55 : decode cX7_chanceOfLives 55 = .ok (.aload_n 0, 1) := dc_42 (dc_nn (k := 15) aX7_chanceOfLives_40 rfl)
theorem dX7_chanceOfLives_56 : decode cX7_chanceOfLives 56 = .ok (.getfield 21, 3) := dc_180 (a0 := 0) (b0 := 21) (dc_nn (k := 16) aX7_chanceOfLives_40 rfl)
theorem dX7_chanceOfLives_59 : decode cX7_chanceOfLives 59 = .ok (.iload 4, 2) := dc_21 (a0 := 4) (dc_nn (k := 19) aX7_chanceOfLives_40 rfl)
theorem dX7_chanceOfLives_61 : decode cX7_chanceOfLives 61 = .ok (.iaload, 1) := dc_46 (dc_nn (k := 21) aX7_chanceOfLives_40 rfl)
theorem dX7_chanceOfLives_62 : decode cX7_chanceOfLives 62 = .ok (.iaload, 1) := dc_46 (dc_nn (k := 22) aX7_chanceOfLives_40 rfl)
theorem dX7_chanceOfLives_63 : decode cX7_chanceOfLives 63 = .ok (.iload_n 1, 1) := dc_27 (dc_nn (k := 23) aX7_chanceOfLives_40 rfl)
theorem dX7_chanceOfLives_64 : decode cX7_chanceOfLives 64 = .ok (.invokevirtual 47, 3) := dc_182 (a0 := 0) (b0 := 47) (dc_nn (k := 24) aX7_chanceOfLives_40 rfl)
theorem dX7_chanceOfLives_67 : decode cX7_chanceOfLives 67 = .ok (.bastore, 1) := dc_84 (dc_nn (k := 27) aX7_chanceOfLives_40 rfl)
theorem dX7_chanceOfLives_68 : decode cX7_chanceOfLives 68 = .ok (.iinc 4 1, 3) := dc_132 (a0 := 4) (a1 := 1) (dc_nn (k := 28) aX7_chanceOfLives_40 rfl) (by decide)
theorem dX7_chanceOfLives_71 : decode cX7_chanceOfLives 71 = .ok (.goto (-44), 3) := dc_167 (a0 := 255) (b0 := 212) (dc_nn (k := 31) aX7_chanceOfLives_40 rfl) (by decide)
theorem dX7_chanceOfLives_74 : decode cX7_chanceOfLives 74 = .ok (.iinc 3 1, 3) := dc_132 (a0 := 3) (a1 := 1) (dc_nn (k := 34) aX7_chanceOfLives_40 rfl) (by decide)
theorem dX7_chanceOfLives_77 : decode cX7_chanceOfLives 77 = .ok (.goto (-58), 3) := dc_167 (a0 := 255) (b0 := 198) (dc_nn (k := 37) aX7_chanceOfLives_40 rfl) (by decide)
theorem dX7_chanceOfLives_80 : decode cX7_chanceOfLives 80 = .ok (.aload_n 0, 1) := dc_42 aX7_chanceOfLives_80
theorem dX7_chanceOfLives_81 : decode cX7_chanceOfLives 81 = .ok (.iload_n 2, 1) := dc_28 (dc_nn (k := 1) aX7_chanceOfLives_80 rfl)
theorem dX7_chanceOfLives_82 : decode cX7_chanceOfLives 82 = .ok (.aload_n 0, 1) := dc_42 (dc_nn (k := 2) aX7_chanceOfLives_80 rfl)
theorem dX7_chanceOfLives_83 : decode cX7_chanceOfLives 83 = .ok (.iload_n 1, 1) := dc_27 (dc_nn (k := 3) aX7_chanceOfLives_80 rfl)
theorem dX7_chanceOfLives_84 : decode cX7_chanceOfLives 84 = .ok (.invokevirtual 51, 3) := dc_182 (a0 := 0) (b0 := 51) (dc_nn (k := 4) aX7_chanceOfLives_80 rfl)
theorem dX7_chanceOfLives_87 : decode cX7_chanceOfLives 87 = .ok (.invokevirtual 54, 3) := dc_182 (a0 := 0) (b0 := 54) (dc_nn (k := 7) aX7_chanceOfLives_80 rfl)
theorem dX7_chanceOfLives_90 : decode cX7_chanceOfLives 90 = .ok (.ireturn, 1) := dc_172 (dc_nn (k := 10) aX7_chanceOfLives_80 rfl)
set_option maxRecDepth 20000 in
theorem ggX7_isToldByLot_X1_degreeOf : GoodIn wsX7_isToldByLot wsX1_degreeOf := goodIn_k _ [[5, 0, 0, 0]] (by rfl) (by decide +kernel)
set_option maxRecDepth 20000 in
theorem gX7_isToldByLot_X1_degreeOf : GoodIn wsX7_isToldByLot (wsV RX7 58 RX1 yX1_degreeOf wsX1_degreeOf) := goodIn_app (goodIn_k _ [[1, 0, 0, 0]] (by rfl) (gw_V _ _ _ _)) ggX7_isToldByLot_X1_degreeOf
noncomputable def sX7_isToldByLot_40 : List Nat := 100 :: 16 :: 12 :: 112 :: 160 :: 0 :: 7 :: 4 :: 167 :: 0 :: 4 :: 3 :: 172 :: []
noncomputable def sX7_isToldByLot_0 : List Nat := 42 :: 27 :: 16 :: 8 :: 182 :: 0 :: 58 :: 62 :: 42 :: 27 :: 16 :: 7 :: 182 :: 0 :: 58 :: 54 :: 4 :: 29 :: 2 :: 159 :: 0 :: 32 :: 21 :: 4 :: 2 :: 159 :: 0 :: 26 :: 29 :: 16 :: 30 :: 108 :: 21 :: 4 :: 16 :: 30 :: 108 :: 28 :: 96 :: 4 :: sX7_isToldByLot_40
theorem aX7_isToldByLot_0 : dc_at cX7_isToldByLot 0 sX7_isToldByLot_0 := dc_base (by decide +kernel)
theorem aX7_isToldByLot_40 : dc_at cX7_isToldByLot 40 sX7_isToldByLot_40 := dc_nn (k := 40) aX7_isToldByLot_0 rfl
theorem dX7_isToldByLot_0 : decode cX7_isToldByLot 0 = .ok (.aload_n 0, 1) := dc_42 aX7_isToldByLot_0
theorem dX7_isToldByLot_1 : decode cX7_isToldByLot 1 = .ok (.iload_n 1, 1) := dc_27 (dc_nn (k := 1) aX7_isToldByLot_0 rfl)
theorem dX7_isToldByLot_2 : decode cX7_isToldByLot 2 = .ok (.bipush 8, 2) := dc_16 (a0 := 8) (dc_nn (k := 2) aX7_isToldByLot_0 rfl) (by decide)
theorem dX7_isToldByLot_4 : decode cX7_isToldByLot 4 = .ok (.invokevirtual 58, 3) := dc_182 (a0 := 0) (b0 := 58) (dc_nn (k := 4) aX7_isToldByLot_0 rfl)
theorem dX7_isToldByLot_7 : decode cX7_isToldByLot 7 = .ok (.istore_n 3, 1) := dc_62 (dc_nn (k := 7) aX7_isToldByLot_0 rfl)
theorem dX7_isToldByLot_8 : decode cX7_isToldByLot 8 = .ok (.aload_n 0, 1) := dc_42 (dc_nn (k := 8) aX7_isToldByLot_0 rfl)
theorem dX7_isToldByLot_9 : decode cX7_isToldByLot 9 = .ok (.iload_n 1, 1) := dc_27 (dc_nn (k := 9) aX7_isToldByLot_0 rfl)
theorem dX7_isToldByLot_10 : decode cX7_isToldByLot 10 = .ok (.bipush 7, 2) := dc_16 (a0 := 7) (dc_nn (k := 10) aX7_isToldByLot_0 rfl) (by decide)
theorem dX7_isToldByLot_12 : decode cX7_isToldByLot 12 = .ok (.invokevirtual 58, 3) := dc_182 (a0 := 0) (b0 := 58) (dc_nn (k := 12) aX7_isToldByLot_0 rfl)
theorem dX7_isToldByLot_15 : decode cX7_isToldByLot 15 = .ok (.istore 4, 2) := dc_54 (a0 := 4) (dc_nn (k := 15) aX7_isToldByLot_0 rfl)
theorem dX7_isToldByLot_17 : decode cX7_isToldByLot 17 = .ok (.iload_n 3, 1) := dc_29 (dc_nn (k := 17) aX7_isToldByLot_0 rfl)
theorem dX7_isToldByLot_18 : decode cX7_isToldByLot 18 = .ok (.iconst (-1), 1) := dc_2 (dc_nn (k := 18) aX7_isToldByLot_0 rfl)
theorem dX7_isToldByLot_19 : decode cX7_isToldByLot 19 = .ok (.if_icmp .eq 32, 3) := dc_159 (a0 := 0) (b0 := 32) (dc_nn (k := 19) aX7_isToldByLot_0 rfl) (by decide)
theorem dX7_isToldByLot_22 : decode cX7_isToldByLot 22 = .ok (.iload 4, 2) := dc_21 (a0 := 4) (dc_nn (k := 22) aX7_isToldByLot_0 rfl)
theorem dX7_isToldByLot_24 : decode cX7_isToldByLot 24 = .ok (.iconst (-1), 1) := dc_2 (dc_nn (k := 24) aX7_isToldByLot_0 rfl)
theorem dX7_isToldByLot_25 : decode cX7_isToldByLot 25 = .ok (.if_icmp .eq 26, 3) := dc_159 (a0 := 0) (b0 := 26) (dc_nn (k := 25) aX7_isToldByLot_0 rfl) (by decide)
theorem dX7_isToldByLot_28 : decode cX7_isToldByLot 28 = .ok (.iload_n 3, 1) := dc_29 (dc_nn (k := 28) aX7_isToldByLot_0 rfl)
theorem dX7_isToldByLot_29 : decode cX7_isToldByLot 29 = .ok (.bipush 30, 2) := dc_16 (a0 := 30) (dc_nn (k := 29) aX7_isToldByLot_0 rfl) (by decide)
theorem dX7_isToldByLot_31 : decode cX7_isToldByLot 31 = .ok (.idiv, 1) := dc_108 (dc_nn (k := 31) aX7_isToldByLot_0 rfl)
theorem dX7_isToldByLot_32 : decode cX7_isToldByLot 32 = .ok (.iload 4, 2) := dc_21 (a0 := 4) (dc_nn (k := 32) aX7_isToldByLot_0 rfl)
theorem dX7_isToldByLot_34 : decode cX7_isToldByLot 34 = .ok (.bipush 30, 2) := dc_16 (a0 := 30) (dc_nn (k := 34) aX7_isToldByLot_0 rfl) (by decide)
theorem dX7_isToldByLot_36 : decode cX7_isToldByLot 36 = .ok (.idiv, 1) := dc_108 (dc_nn (k := 36) aX7_isToldByLot_0 rfl)
theorem dX7_isToldByLot_37 : decode cX7_isToldByLot 37 = .ok (.iload_n 2, 1) := dc_28 (dc_nn (k := 37) aX7_isToldByLot_0 rfl)
theorem dX7_isToldByLot_38 : decode cX7_isToldByLot 38 = .ok (.iadd, 1) := dc_96 (dc_nn (k := 38) aX7_isToldByLot_0 rfl)
theorem dX7_isToldByLot_39 : decode cX7_isToldByLot 39 = .ok (.iconst 1, 1) := dc_4 (dc_nn (k := 39) aX7_isToldByLot_0 rfl)
theorem dX7_isToldByLot_40 : decode cX7_isToldByLot 40 = .ok (.isub, 1) := dc_100 aX7_isToldByLot_40
theorem dX7_isToldByLot_41 : decode cX7_isToldByLot 41 = .ok (.bipush 12, 2) := dc_16 (a0 := 12) (dc_nn (k := 1) aX7_isToldByLot_40 rfl) (by decide)
theorem dX7_isToldByLot_43 : decode cX7_isToldByLot 43 = .ok (.irem, 1) := dc_112 (dc_nn (k := 3) aX7_isToldByLot_40 rfl)
theorem dX7_isToldByLot_44 : decode cX7_isToldByLot 44 = .ok (.if_icmp .ne 7, 3) := dc_160 (a0 := 0) (b0 := 7) (dc_nn (k := 4) aX7_isToldByLot_40 rfl) (by decide)
theorem dX7_isToldByLot_47 : decode cX7_isToldByLot 47 = .ok (.iconst 1, 1) := dc_4 (dc_nn (k := 7) aX7_isToldByLot_40 rfl)
theorem dX7_isToldByLot_48 : decode cX7_isToldByLot 48 = .ok (.goto 4, 3) := dc_167 (a0 := 0) (b0 := 4) (dc_nn (k := 8) aX7_isToldByLot_40 rfl) (by decide)
theorem dX7_isToldByLot_51 : decode cX7_isToldByLot 51 = .ok (.iconst 0, 1) := dc_3 (dc_nn (k := 11) aX7_isToldByLot_40 rfl)
theorem dX7_isToldByLot_52 : decode cX7_isToldByLot 52 = .ok (.ireturn, 1) := dc_172 (dc_nn (k := 12) aX7_isToldByLot_40 rfl)
set_option maxRecDepth 20000 in
theorem ggX7_howManyToldByLot_X7_setRows : GoodIn wsX7_howManyToldByLot wsX7_setRows := goodIn_k _ [[7], [2, 14, 0, 0, 0, 0, 0]] (by rfl) (by decide +kernel)
set_option maxRecDepth 20000 in
theorem gX7_howManyToldByLot_X7_setRows : GoodIn wsX7_howManyToldByLot (wsV RX7 37 RX7 yX7_setRows wsX7_setRows) := goodIn_app (goodIn_k _ [[3, 0, 0, 0]] (by rfl) (gw_V _ _ _ _)) ggX7_howManyToldByLot_X7_setRows
set_option maxRecDepth 20000 in
theorem ggX7_howManyToldByLot_X7_isToldByLot : GoodIn wsX7_howManyToldByLot wsX7_isToldByLot := goodIn_k _ [[10, 0, 0, 0, 0, 0, 0, 6, 0]] (by rfl) (by decide +kernel)
set_option maxRecDepth 20000 in
theorem gX7_howManyToldByLot_X7_isToldByLot : GoodIn wsX7_howManyToldByLot (va_wsS RX7 63 yX7_isToldByLot wsX7_isToldByLot) := goodIn_app (goodIn_k _ [[8, 0], [6]] (by rfl) (gw_S _ _ _ _)) ggX7_howManyToldByLot_X7_isToldByLot
noncomputable def sX7_howManyToldByLot_40 : List Nat := 184 :: 0 :: 63 :: 153 :: 0 :: 6 :: 132 :: 3 :: 1 :: 132 :: 4 :: 1 :: 167 :: 255 :: 218 :: 29 :: 172 :: []
noncomputable def sX7_howManyToldByLot_0 : List Nat := 42 :: 42 :: 180 :: 0 :: 18 :: 182 :: 0 :: 37 :: 61 :: 3 :: 62 :: 3 :: 54 :: 4 :: 21 :: 4 :: 28 :: 162 :: 0 :: 38 :: 43 :: 42 :: 180 :: 0 :: 21 :: 21 :: 4 :: 46 :: 42 :: 180 :: 0 :: 18 :: 42 :: 180 :: 0 :: 21 :: 21 :: 4 :: 46 :: 46 :: sX7_howManyToldByLot_40
theorem aX7_howManyToldByLot_0 : dc_at cX7_howManyToldByLot 0 sX7_howManyToldByLot_0 := dc_base (by decide +kernel)
theorem aX7_howManyToldByLot_40 : dc_at cX7_howManyToldByLot 40 sX7_howManyToldByLot_40 := dc_nn (k := 40) aX7_howManyToldByLot_0 rfl
theorem dX7_howManyToldByLot_0 : decode cX7_howManyToldByLot 0 = .ok (.aload_n 0, 1) := dc_42 aX7_howManyToldByLot_0
theorem dX7_howManyToldByLot_1 : decode cX7_howManyToldByLot 1 = .ok (.aload_n 0, 1) := dc_42 (dc_nn (k := 1) aX7_howManyToldByLot_0 rfl)
theorem dX7_howManyToldByLot_2 : decode cX7_howManyToldByLot 2 = .ok (.getfield 18, 3) := dc_180 (a0 := 0) (b0 := 18) (dc_nn (k := 2) aX7_howManyToldByLot_0 rfl)
theorem dX7_howManyToldByLot_5 : decode cX7_howManyToldByLot 5 = .ok (.invokevirtual 37, 3) := dc_182 (a0 := 0) (b0 := 37) (dc_nn (k := 5) aX7_howManyToldByLot_0 rfl)
theorem dX7_howManyToldByLot_8 : decode cX7_howManyToldByLot 8 = .ok (.istore_n 2, 1) := dc_61 (dc_nn (k := 8) aX7_howManyToldByLot_0 rfl)
theorem dX7_howManyToldByLot_9 : decode cX7_howManyToldByLot 9 = .ok (.iconst 0, 1) := dc_3 (dc_nn (k := 9) aX7_howManyToldByLot_0 rfl)
theorem dX7_howManyToldByLot_10 : decode cX7_howManyToldByLot 10 = .ok (.istore_n 3, 1) := dc_62 (dc_nn (k := 10) aX7_howManyToldByLot_0 rfl)
theorem dX7_howManyToldByLot_11 : decode cX7_howManyToldByLot 11 = .ok (.iconst 0, 1) := dc_3 (dc_nn (k := 11) aX7_howManyToldByLot_0 rfl)
theorem dX7_howManyToldByLot_12 : decode cX7_howManyToldByLot 12 = .ok (.istore 4, 2) := dc_54 (a0 := 4) (dc_nn (k := 12) aX7_howManyToldByLot_0 rfl)
theorem dX7_howManyToldByLot_14 : decode cX7_howManyToldByLot 14 = .ok (.iload 4, 2) := dc_21 (a0 := 4) (dc_nn (k := 14) aX7_howManyToldByLot_0 rfl)
theorem dX7_howManyToldByLot_16 : decode cX7_howManyToldByLot 16 = .ok (.iload_n 2, 1) := dc_28 (dc_nn (k := 16) aX7_howManyToldByLot_0 rfl)
theorem dX7_howManyToldByLot_17 : decode cX7_howManyToldByLot 17 = .ok (.if_icmp .ge 38, 3) := dc_162 (a0 := 0) (b0 := 38) (dc_nn (k := 17) aX7_howManyToldByLot_0 rfl) (by decide)
theorem dX7_howManyToldByLot_20 : decode cX7_howManyToldByLot 20 = .ok (.aload_n 1, 1) := dc_43 (dc_nn (k := 20) aX7_howManyToldByLot_0 rfl)
theorem dX7_howManyToldByLot_21 : decode cX7_howManyToldByLot 21 = .ok (.aload_n 0, 1) := dc_42 (dc_nn (k := 21) aX7_howManyToldByLot_0 rfl)
theorem dX7_howManyToldByLot_22 : decode cX7_howManyToldByLot 22 = .ok (.getfield 21, 3) := dc_180 (a0 := 0) (b0 := 21) (dc_nn (k := 22) aX7_howManyToldByLot_0 rfl)
theorem dX7_howManyToldByLot_25 : decode cX7_howManyToldByLot 25 = .ok (.iload 4, 2) := dc_21 (a0 := 4) (dc_nn (k := 25) aX7_howManyToldByLot_0 rfl)
theorem dX7_howManyToldByLot_27 : decode cX7_howManyToldByLot 27 = .ok (.iaload, 1) := dc_46 (dc_nn (k := 27) aX7_howManyToldByLot_0 rfl)
theorem dX7_howManyToldByLot_28 : decode cX7_howManyToldByLot 28 = .ok (.aload_n 0, 1) := dc_42 (dc_nn (k := 28) aX7_howManyToldByLot_0 rfl)
theorem dX7_howManyToldByLot_29 : decode cX7_howManyToldByLot 29 = .ok (.getfield 18, 3) := dc_180 (a0 := 0) (b0 := 18) (dc_nn (k := 29) aX7_howManyToldByLot_0 rfl)
theorem dX7_howManyToldByLot_32 : decode cX7_howManyToldByLot 32 = .ok (.aload_n 0, 1) := dc_42 (dc_nn (k := 32) aX7_howManyToldByLot_0 rfl)
theorem dX7_howManyToldByLot_33 : decode cX7_howManyToldByLot 33 = .ok (.getfield 21, 3) := dc_180 (a0 := 0) (b0 := 21) (dc_nn (k := 33) aX7_howManyToldByLot_0 rfl)
theorem dX7_howManyToldByLot_36 : decode cX7_howManyToldByLot 36 = .ok (.iload 4, 2) := dc_21 (a0 := 4) (dc_nn (k := 36) aX7_howManyToldByLot_0 rfl)
theorem dX7_howManyToldByLot_38 : decode cX7_howManyToldByLot 38 = .ok (.iaload, 1) := dc_46 (dc_nn (k := 38) aX7_howManyToldByLot_0 rfl)
theorem dX7_howManyToldByLot_39 : decode cX7_howManyToldByLot 39 = .ok (.iaload, 1) := dc_46 (dc_nn (k := 39) aX7_howManyToldByLot_0 rfl)
theorem dX7_howManyToldByLot_40 : decode cX7_howManyToldByLot 40 = .ok (.invokestatic 63, 3) := dc_184 (a0 := 0) (b0 := 63) aX7_howManyToldByLot_40
theorem dX7_howManyToldByLot_43 : decode cX7_howManyToldByLot 43 = .ok (.ifCond .eq 6, 3) := dc_153 (a0 := 0) (b0 := 6) (dc_nn (k := 3) aX7_howManyToldByLot_40 rfl) (by decide)
theorem dX7_howManyToldByLot_46 : decode cX7_howManyToldByLot 46 = .ok (.iinc 3 1, 3) := dc_132 (a0 := 3) (a1 := 1) (dc_nn (k := 6) aX7_howManyToldByLot_40 rfl) (by decide)
theorem dX7_howManyToldByLot_49 : decode cX7_howManyToldByLot 49 = .ok (.iinc 4 1, 3) := dc_132 (a0 := 4) (a1 := 1) (dc_nn (k := 9) aX7_howManyToldByLot_40 rfl) (by decide)
theorem dX7_howManyToldByLot_52 : decode cX7_howManyToldByLot 52 = .ok (.goto (-38), 3) := dc_167 (a0 := 255) (b0 := 218) (dc_nn (k := 12) aX7_howManyToldByLot_40 rfl) (by decide)
theorem dX7_howManyToldByLot_55 : decode cX7_howManyToldByLot 55 = .ok (.iload_n 3, 1) := dc_29 (dc_nn (k := 15) aX7_howManyToldByLot_40 rfl)
theorem dX7_howManyToldByLot_56 : decode cX7_howManyToldByLot 56 = .ok (.ireturn, 1) := dc_172 (dc_nn (k := 16) aX7_howManyToldByLot_40 rfl)
set_option maxRecDepth 20000 in
theorem ggX7_chanceOfFates_X7_setRows : GoodIn wsX7_chanceOfFates wsX7_setRows := goodIn_k _ [[8], [3, 38, 0, 0, 0, 0, 0]] (by rfl) (by decide +kernel)
set_option maxRecDepth 20000 in
theorem gX7_chanceOfFates_X7_setRows : GoodIn wsX7_chanceOfFates (wsV RX7 37 RX7 yX7_setRows wsX7_setRows) := goodIn_app (goodIn_k _ [[4, 0, 0, 0]] (by rfl) (gw_V _ _ _ _)) ggX7_chanceOfFates_X7_setRows
set_option maxRecDepth 20000 in
theorem ggX7_chanceOfFates_X7_isToldByLot : GoodIn wsX7_chanceOfFates wsX7_isToldByLot := goodIn_k _ [[11, 0, 0, 0, 0, 0, 0, 30, 0]] (by rfl) (by decide +kernel)
set_option maxRecDepth 20000 in
theorem gX7_chanceOfFates_X7_isToldByLot : GoodIn wsX7_chanceOfFates (va_wsS RX7 63 yX7_isToldByLot wsX7_isToldByLot) := goodIn_app (goodIn_k _ [[9, 0], [7]] (by rfl) (gw_S _ _ _ _)) ggX7_chanceOfFates_X7_isToldByLot
set_option maxRecDepth 20000 in
theorem ggX7_chanceOfFates_X7_howManyToldByLot : GoodIn wsX7_chanceOfFates wsX7_howManyToldByLot := goodIn_k _ [[21], [1, 1, 0, 0, 0, 0, 0, 0, 0, 0, 0, 0, 0, 0, 0, 0, 24, 0, 0, 0, 0, 0, 0, 0]] (by rfl) (by decide +kernel)
set_option maxRecDepth 20000 in
theorem gX7_chanceOfFates_X7_howManyToldByLot : GoodIn wsX7_chanceOfFates (wsV RX7 67 RX7 yX7_howManyToldByLot wsX7_howManyToldByLot) := goodIn_app (goodIn_k _ [[18, 0, 0], [7]] (by rfl) (gw_V _ _ _ _)) ggX7_chanceOfFates_X7_howManyToldByLot
set_option maxRecDepth 20000 in
theorem ggX7_chanceOfFates_X7_waysToHit : GoodIn wsX7_chanceOfFates wsX7_waysToHit := goodIn_k _ [[25, 0, 0, 0, 0, 0, 0, 0, 0], [7, 26], [2, 32, 0, 0, 0, 0, 0, 0, 0, 0, 0, 0, 0, 0]] (by rfl) (by decide +kernel)
set_option maxRecDepth 20000 in
theorem gX7_chanceOfFates_X7_waysToHit : GoodIn wsX7_chanceOfFates (wsV RX7 54 RX7 yX7_waysToHit wsX7_waysToHit) := goodIn_app (goodIn_k _ [[22, 0, 0], [7]] (by rfl) (gw_V _ _ _ _)) ggX7_chanceOfFates_X7_waysToHit
noncomputable def sX7_chanceOfFates_80 : List Nat := 28 :: 42 :: 43 :: 182 :: 0 :: 67 :: 182 :: 0 :: 54 :: 172 :: []
noncomputable def sX7_chanceOfFates_40 : List Nat := 104 :: 21 :: 4 :: 96 :: 43 :: 42 :: 180 :: 0 :: 21 :: 29 :: 46 :: 42 :: 180 :: 0 :: 18 :: 42 :: 180 :: 0 :: 21 :: 21 :: 4 :: 46 :: 46 :: 184 :: 0 :: 63 :: 84 :: 132 :: 4 :: 1 :: 167 :: 255 :: 213 :: 132 :: 3 :: 1 :: 167 :: 255 :: 199 :: 42 :: sX7_chanceOfFates_80
noncomputable def sX7_chanceOfFates_0 : List Nat := 42 :: 42 :: 180 :: 0 :: 18 :: 182 :: 0 :: 37 :: 61 :: 28 :: 16 :: 8 :: 164 :: 0 :: 5 :: 2 :: 172 :: 3 :: 62 :: 29 :: 28 :: 162 :: 0 :: 58 :: 3 :: 54 :: 4 :: 21 :: 4 :: 28 :: 162 :: 0 :: 43 :: 42 :: 180 :: 0 :: 24 :: 16 :: 8 :: 29 :: sX7_chanceOfFates_40
theorem aX7_chanceOfFates_0 : dc_at cX7_chanceOfFates 0 sX7_chanceOfFates_0 := dc_base (by decide +kernel)
theorem aX7_chanceOfFates_40 : dc_at cX7_chanceOfFates 40 sX7_chanceOfFates_40 := dc_nn (k := 40) aX7_chanceOfFates_0 rfl
theorem aX7_chanceOfFates_80 : dc_at cX7_chanceOfFates 80 sX7_chanceOfFates_80 := dc_nn (k := 40) aX7_chanceOfFates_40 rfl
theorem dX7_chanceOfFates_0 : decode cX7_chanceOfFates 0 = .ok (.aload_n 0, 1) := dc_42 aX7_chanceOfFates_0
theorem dX7_chanceOfFates_1 : decode cX7_chanceOfFates 1 = .ok (.aload_n 0, 1) := dc_42 (dc_nn (k := 1) aX7_chanceOfFates_0 rfl)
theorem dX7_chanceOfFates_2 : decode cX7_chanceOfFates 2 = .ok (.getfield 18, 3) := dc_180 (a0 := 0) (b0 := 18) (dc_nn (k := 2) aX7_chanceOfFates_0 rfl)
theorem dX7_chanceOfFates_5 : decode cX7_chanceOfFates 5 = .ok (.invokevirtual 37, 3) := dc_182 (a0 := 0) (b0 := 37) (dc_nn (k := 5) aX7_chanceOfFates_0 rfl)
theorem dX7_chanceOfFates_8 : decode cX7_chanceOfFates 8 = .ok (.istore_n 2, 1) := dc_61 (dc_nn (k := 8) aX7_chanceOfFates_0 rfl)
theorem dX7_chanceOfFates_9 : decode cX7_chanceOfFates 9 = .ok (.iload_n 2, 1) := dc_28 (dc_nn (k := 9) aX7_chanceOfFates_0 rfl)
theorem dX7_chanceOfFates_10 : decode cX7_chanceOfFates 10 = .ok (.bipush 8, 2) := dc_16 (a0 := 8) (dc_nn (k := 10) aX7_chanceOfFates_0 rfl) (by decide)
theorem dX7_chanceOfFates_12 : decode cX7_chanceOfFates 12 = .ok (.if_icmp .le 5, 3) := dc_164 (a0 := 0) (b0 := 5) (dc_nn (k := 12) aX7_chanceOfFates_0 rfl) (by decide)
theorem dX7_chanceOfFates_15 : decode cX7_chanceOfFates 15 = .ok (.iconst (-1), 1) := dc_2 (dc_nn (k := 15) aX7_chanceOfFates_0 rfl)
theorem dX7_chanceOfFates_16 : decode cX7_chanceOfFates 16 = .ok (.ireturn, 1) := dc_172 (dc_nn (k := 16) aX7_chanceOfFates_0 rfl)
theorem dX7_chanceOfFates_17 : decode cX7_chanceOfFates 17 = .ok (.iconst 0, 1) := dc_3 (dc_nn (k := 17) aX7_chanceOfFates_0 rfl)
theorem dX7_chanceOfFates_18 : decode cX7_chanceOfFates 18 = .ok (.istore_n 3, 1) := dc_62 (dc_nn (k := 18) aX7_chanceOfFates_0 rfl)
theorem dX7_chanceOfFates_19 : decode cX7_chanceOfFates 19 = .ok (.iload_n 3, 1) := dc_29 (dc_nn (k := 19) aX7_chanceOfFates_0 rfl)
theorem dX7_chanceOfFates_20 : decode cX7_chanceOfFates 20 = .ok (.iload_n 2, 1) := dc_28 (dc_nn (k := 20) aX7_chanceOfFates_0 rfl)
theorem dX7_chanceOfFates_21 : decode cX7_chanceOfFates 21 = .ok (.if_icmp .ge 58, 3) := dc_162 (a0 := 0) (b0 := 58) (dc_nn (k := 21) aX7_chanceOfFates_0 rfl) (by decide)
theorem dX7_chanceOfFates_24 : decode cX7_chanceOfFates 24 = .ok (.iconst 0, 1) := dc_3 (dc_nn (k := 24) aX7_chanceOfFates_0 rfl)
theorem dX7_chanceOfFates_25 : decode cX7_chanceOfFates 25 = .ok (.istore 4, 2) := dc_54 (a0 := 4) (dc_nn (k := 25) aX7_chanceOfFates_0 rfl)
theorem dX7_chanceOfFates_27 : decode cX7_chanceOfFates 27 = .ok (.iload 4, 2) := dc_21 (a0 := 4) (dc_nn (k := 27) aX7_chanceOfFates_0 rfl)
theorem dX7_chanceOfFates_29 : decode cX7_chanceOfFates 29 = .ok (.iload_n 2, 1) := dc_28 (dc_nn (k := 29) aX7_chanceOfFates_0 rfl)
theorem dX7_chanceOfFates_30 : decode cX7_chanceOfFates 30 = .ok (.if_icmp .ge 43, 3) := dc_162 (a0 := 0) (b0 := 43) (dc_nn (k := 30) aX7_chanceOfFates_0 rfl) (by decide)
theorem dX7_chanceOfFates_33 : decode cX7_chanceOfFates 33 = .ok (.aload_n 0, 1) := dc_42 (dc_nn (k := 33) aX7_chanceOfFates_0 rfl)
theorem dX7_chanceOfFates_34 : decode cX7_chanceOfFates 34 = .ok (.getfield 24, 3) := dc_180 (a0 := 0) (b0 := 24) (dc_nn (k := 34) aX7_chanceOfFates_0 rfl)
theorem dX7_chanceOfFates_37 : decode cX7_chanceOfFates 37 = .ok (.bipush 8, 2) := dc_16 (a0 := 8) (dc_nn (k := 37) aX7_chanceOfFates_0 rfl) (by decide)
theorem dX7_chanceOfFates_39 : decode cX7_chanceOfFates 39 = .ok (.iload_n 3, 1) := dc_29 (dc_nn (k := 39) aX7_chanceOfFates_0 rfl)
theorem dX7_chanceOfFates_40 : decode cX7_chanceOfFates 40 = .ok (.imul, 1) := dc_104 aX7_chanceOfFates_40
theorem dX7_chanceOfFates_41 : decode cX7_chanceOfFates 41 = .ok (.iload 4, 2) := dc_21 (a0 := 4) (dc_nn (k := 1) aX7_chanceOfFates_40 rfl)
theorem dX7_chanceOfFates_43 : decode cX7_chanceOfFates 43 = .ok (.iadd, 1) := dc_96 (dc_nn (k := 3) aX7_chanceOfFates_40 rfl)
theorem dX7_chanceOfFates_44 : decode cX7_chanceOfFates 44 = .ok (.aload_n 1, 1) := dc_43 (dc_nn (k := 4) aX7_chanceOfFates_40 rfl)
theorem dX7_chanceOfFates_45 : decode cX7_chanceOfFates 45 = .ok (.aload_n 0, 1) := dc_42 (dc_nn (k := 5) aX7_chanceOfFates_40 rfl)
theorem dX7_chanceOfFates_46 : decode cX7_chanceOfFates 46 = .ok (.getfield 21, 3) := dc_180 (a0 := 0) (b0 := 21) (dc_nn (k := 6) aX7_chanceOfFates_40 rfl)
theorem dX7_chanceOfFates_49 : decode cX7_chanceOfFates 49 = .ok (.iload_n 3, 1) := dc_29 (dc_nn (k := 9) aX7_chanceOfFates_40 rfl)
theorem dX7_chanceOfFates_50 : decode cX7_chanceOfFates 50 = .ok (.iaload, 1) := dc_46 (dc_nn (k := 10) aX7_chanceOfFates_40 rfl)
theorem dX7_chanceOfFates_51 : decode cX7_chanceOfFates 51 = .ok (.aload_n 0, 1) := dc_42 (dc_nn (k := 11) aX7_chanceOfFates_40 rfl)
theorem dX7_chanceOfFates_52 : decode cX7_chanceOfFates 52 = .ok (.getfield 18, 3) := dc_180 (a0 := 0) (b0 := 18) (dc_nn (k := 12) aX7_chanceOfFates_40 rfl)
theorem dX7_chanceOfFates_55 : decode cX7_chanceOfFates 55 = .ok (.aload_n 0, 1) := dc_42 (dc_nn (k := 15) aX7_chanceOfFates_40 rfl)
theorem dX7_chanceOfFates_56 : decode cX7_chanceOfFates 56 = .ok (.getfield 21, 3) := dc_180 (a0 := 0) (b0 := 21) (dc_nn (k := 16) aX7_chanceOfFates_40 rfl)
theorem dX7_chanceOfFates_59 : decode cX7_chanceOfFates 59 = .ok (.iload 4, 2) := dc_21 (a0 := 4) (dc_nn (k := 19) aX7_chanceOfFates_40 rfl)
theorem dX7_chanceOfFates_61 : decode cX7_chanceOfFates 61 = .ok (.iaload, 1) := dc_46 (dc_nn (k := 21) aX7_chanceOfFates_40 rfl)
theorem dX7_chanceOfFates_62 : decode cX7_chanceOfFates 62 = .ok (.iaload, 1) := dc_46 (dc_nn (k := 22) aX7_chanceOfFates_40 rfl)
theorem dX7_chanceOfFates_63 : decode cX7_chanceOfFates 63 = .ok (.invokestatic 63, 3) := dc_184 (a0 := 0) (b0 := 63) (dc_nn (k := 23) aX7_chanceOfFates_40 rfl)
theorem dX7_chanceOfFates_66 : decode cX7_chanceOfFates 66 = .ok (.bastore, 1) := dc_84 (dc_nn (k := 26) aX7_chanceOfFates_40 rfl)
theorem dX7_chanceOfFates_67 : decode cX7_chanceOfFates 67 = .ok (.iinc 4 1, 3) := dc_132 (a0 := 4) (a1 := 1) (dc_nn (k := 27) aX7_chanceOfFates_40 rfl) (by decide)
theorem dX7_chanceOfFates_70 : decode cX7_chanceOfFates 70 = .ok (.goto (-43), 3) := dc_167 (a0 := 255) (b0 := 213) (dc_nn (k := 30) aX7_chanceOfFates_40 rfl) (by decide)
theorem dX7_chanceOfFates_73 : decode cX7_chanceOfFates 73 = .ok (.iinc 3 1, 3) := dc_132 (a0 := 3) (a1 := 1) (dc_nn (k := 33) aX7_chanceOfFates_40 rfl) (by decide)
theorem dX7_chanceOfFates_76 : decode cX7_chanceOfFates 76 = .ok (.goto (-57), 3) := dc_167 (a0 := 255) (b0 := 199) (dc_nn (k := 36) aX7_chanceOfFates_40 rfl) (by decide)
theorem dX7_chanceOfFates_79 : decode cX7_chanceOfFates 79 = .ok (.aload_n 0, 1) := dc_42 (dc_nn (k := 39) aX7_chanceOfFates_40 rfl)
theorem dX7_chanceOfFates_80 : decode cX7_chanceOfFates 80 = .ok (.iload_n 2, 1) := dc_28 aX7_chanceOfFates_80
theorem dX7_chanceOfFates_81 : decode cX7_chanceOfFates 81 = .ok (.aload_n 0, 1) := dc_42 (dc_nn (k := 1) aX7_chanceOfFates_80 rfl)
theorem dX7_chanceOfFates_82 : decode cX7_chanceOfFates 82 = .ok (.aload_n 1, 1) := dc_43 (dc_nn (k := 2) aX7_chanceOfFates_80 rfl)
theorem dX7_chanceOfFates_83 : decode cX7_chanceOfFates 83 = .ok (.invokevirtual 67, 3) := dc_182 (a0 := 0) (b0 := 67) (dc_nn (k := 3) aX7_chanceOfFates_80 rfl)
theorem dX7_chanceOfFates_86 : decode cX7_chanceOfFates 86 = .ok (.invokevirtual 54, 3) := dc_182 (a0 := 0) (b0 := 54) (dc_nn (k := 6) aX7_chanceOfFates_80 rfl)
theorem dX7_chanceOfFates_89 : decode cX7_chanceOfFates 89 = .ok (.ireturn, 1) := dc_172 (dc_nn (k := 9) aX7_chanceOfFates_80 rfl)
set_option maxRecDepth 20000 in
theorem ggX7_waysToHit_J7_fill_53178 : GoodIn wsX7_waysToHit wsJ7_fill_53178 := goodIn_k _ [[5]] (by rfl) (by decide +kernel)
set_option maxRecDepth 20000 in
theorem gX7_waysToHit_J7_fill_53178 : GoodIn wsX7_waysToHit (va_wsS RX7 31 yJ7_fill_53178 wsJ7_fill_53178) := goodIn_app (goodIn_k _ [[2, 0, 0]] (by rfl) (gw_S _ _ _ _)) ggX7_waysToHit_J7_fill_53178
set_option maxRecDepth 20000 in
theorem ggX7_waysToHit_X7_layNext : GoodIn wsX7_waysToHit wsX7_layNext := goodIn_k _ [[10, 0], [1, 10, 0, 0, 0, 0, 0, 0, 0, 0, 0, 0, 0, 0]] (by rfl) (by decide +kernel)
set_option maxRecDepth 20000 in
theorem gX7_waysToHit_X7_layNext : GoodIn wsX7_waysToHit (wsV RX7 71 RX7 yX7_layNext wsX7_layNext) := goodIn_app (goodIn_k _ [[6, 0, 0, 0]] (by rfl) (gw_V _ _ _ _)) ggX7_waysToHit_X7_layNext
noncomputable def sX7_waysToHit_80 : List Nat := 172 :: []
noncomputable def sX7_waysToHit_40 : List Nat := 167 :: 255 :: 240 :: 3 :: 54 :: 4 :: 28 :: 54 :: 5 :: 21 :: 5 :: 27 :: 163 :: 0 :: 26 :: 21 :: 4 :: 42 :: 180 :: 0 :: 28 :: 16 :: 9 :: 29 :: 104 :: 21 :: 5 :: 96 :: 46 :: 96 :: 54 :: 4 :: 132 :: 5 :: 1 :: 167 :: 255 :: 230 :: 21 :: 4 :: sX7_waysToHit_80
noncomputable def sX7_waysToHit_0 : List Nat := 4 :: 27 :: 120 :: 4 :: 100 :: 62 :: 42 :: 180 :: 0 :: 28 :: 3 :: 184 :: 0 :: 31 :: 42 :: 180 :: 0 :: 28 :: 3 :: 4 :: 79 :: 3 :: 54 :: 4 :: 21 :: 4 :: 29 :: 162 :: 0 :: 16 :: 42 :: 21 :: 4 :: 27 :: 182 :: 0 :: 71 :: 132 :: 4 :: 1 :: sX7_waysToHit_40
theorem aX7_waysToHit_0 : dc_at cX7_waysToHit 0 sX7_waysToHit_0 := dc_base (by decide +kernel)
theorem aX7_waysToHit_40 : dc_at cX7_waysToHit 40 sX7_waysToHit_40 := dc_nn (k := 40) aX7_waysToHit_0 rfl
theorem aX7_waysToHit_80 : dc_at cX7_waysToHit 80 sX7_waysToHit_80 := dc_nn (k := 40) aX7_waysToHit_40 rfl
theorem dX7_waysToHit_0 : decode cX7_waysToHit 0 = .ok (.iconst 1, 1) := dc_4 aX7_waysToHit_0
theorem dX7_waysToHit_1 : decode cX7_waysToHit 1 = .ok (.iload_n 1, 1) := dc_27 (dc_nn (k := 1) aX7_waysToHit_0 rfl)
theorem dX7_waysToHit_2 : decode cX7_waysToHit 2 = .ok (.ishl, 1) := dc_120 (dc_nn (k := 2) aX7_waysToHit_0 rfl)
theorem dX7_waysToHit_3 : decode cX7_waysToHit 3 = .ok (.iconst 1, 1) := dc_4 (dc_nn (k := 3) aX7_waysToHit_0 rfl)
theorem dX7_waysToHit_4 : decode cX7_waysToHit 4 = .ok (.isub, 1) := dc_100 (dc_nn (k := 4) aX7_waysToHit_0 rfl)
theorem dX7_waysToHit_5 : decode cX7_waysToHit 5 = .ok (.istore_n 3, 1) := dc_62 (dc_nn (k := 5) aX7_waysToHit_0 rfl)
theorem dX7_waysToHit_6 : decode cX7_waysToHit 6 = .ok (.aload_n 0, 1) := dc_42 (dc_nn (k := 6) aX7_waysToHit_0 rfl)
theorem dX7_waysToHit_7 : decode cX7_waysToHit 7 = .ok (.getfield 28, 3) := dc_180 (a0 := 0) (b0 := 28) (dc_nn (k := 7) aX7_waysToHit_0 rfl)
theorem dX7_waysToHit_10 : decode cX7_waysToHit 10 = .ok (.iconst 0, 1) := dc_3 (dc_nn (k := 10) aX7_waysToHit_0 rfl)
theorem dX7_waysToHit_11 : decode cX7_waysToHit 11 = .ok (.invokestatic 31, 3) := dc_184 (a0 := 0) (b0 := 31) (dc_nn (k := 11) aX7_waysToHit_0 rfl)
theorem dX7_waysToHit_14 : decode cX7_waysToHit 14 = .ok (.aload_n 0, 1) := dc_42 (dc_nn (k := 14) aX7_waysToHit_0 rfl)
theorem dX7_waysToHit_15 : decode cX7_waysToHit 15 = .ok (.getfield 28, 3) := dc_180 (a0 := 0) (b0 := 28) (dc_nn (k := 15) aX7_waysToHit_0 rfl)
theorem dX7_waysToHit_18 : decode cX7_waysToHit 18 = .ok (.iconst 0, 1) := dc_3 (dc_nn (k := 18) aX7_waysToHit_0 rfl)
theorem dX7_waysToHit_19 : decode cX7_waysToHit 19 = .ok (.iconst 1, 1) := dc_4 (dc_nn (k := 19) aX7_waysToHit_0 rfl)
theorem dX7_waysToHit_20 : decode cX7_waysToHit 20 = .ok (.iastore, 1) := dc_79 (dc_nn (k := 20) aX7_waysToHit_0 rfl)
theorem dX7_waysToHit_21 : decode cX7_waysToHit 21 = .ok (.iconst 0, 1) := dc_3 (dc_nn (k := 21) aX7_waysToHit_0 rfl)
theorem dX7_waysToHit_22 : decode cX7_waysToHit 22 = .ok (.istore 4, 2) := dc_54 (a0 := 4) (dc_nn (k := 22) aX7_waysToHit_0 rfl)
theorem dX7_waysToHit_24 : decode cX7_waysToHit 24 = .ok (.iload 4, 2) := dc_21 (a0 := 4) (dc_nn (k := 24) aX7_waysToHit_0 rfl)
theorem dX7_waysToHit_26 : decode cX7_waysToHit 26 = .ok (.iload_n 3, 1) := dc_29 (dc_nn (k := 26) aX7_waysToHit_0 rfl)
theorem dX7_waysToHit_27 : decode cX7_waysToHit 27 = .ok (.if_icmp .ge 16, 3) := dc_162 (a0 := 0) (b0 := 16) (dc_nn (k := 27) aX7_waysToHit_0 rfl) (by decide)
theorem dX7_waysToHit_30 : decode cX7_waysToHit 30 = .ok (.aload_n 0, 1) := dc_42 (dc_nn (k := 30) aX7_waysToHit_0 rfl)
theorem dX7_waysToHit_31 : decode cX7_waysToHit 31 = .ok (.iload 4, 2) := dc_21 (a0 := 4) (dc_nn (k := 31) aX7_waysToHit_0 rfl)
theorem dX7_waysToHit_33 : decode cX7_waysToHit 33 = .ok (.iload_n 1, 1) := dc_27 (dc_nn (k := 33) aX7_waysToHit_0 rfl)
theorem dX7_waysToHit_34 : decode cX7_waysToHit 34 = .ok (.invokevirtual 71, 3) := dc_182 (a0 := 0) (b0 := 71) (dc_nn (k := 34) aX7_waysToHit_0 rfl)
theorem dX7_waysToHit_37 : decode cX7_waysToHit 37 = .ok (.iinc 4 1, 3) := dc_132 (a0 := 4) (a1 := 1) (dc_nn (k := 37) aX7_waysToHit_0 rfl) (by decide)
theorem dX7_waysToHit_40 : decode cX7_waysToHit 40 = .ok (.goto (-16), 3) := dc_167 (a0 := 255) (b0 := 240) aX7_waysToHit_40 (by decide)
theorem dX7_waysToHit_43 : decode cX7_waysToHit 43 = .ok (.iconst 0, 1) := dc_3 (dc_nn (k := 3) aX7_waysToHit_40 rfl)
theorem dX7_waysToHit_44 : decode cX7_waysToHit 44 = .ok (.istore 4, 2) := dc_54 (a0 := 4) (dc_nn (k := 4) aX7_waysToHit_40 rfl)
theorem dX7_waysToHit_46 : decode cX7_waysToHit 46 = .ok (.iload_n 2, 1) := dc_28 (dc_nn (k := 6) aX7_waysToHit_40 rfl)
theorem dX7_waysToHit_47 : decode cX7_waysToHit 47 = .ok (.istore 5, 2) := dc_54 (a0 := 5) (dc_nn (k := 7) aX7_waysToHit_40 rfl)
theorem dX7_waysToHit_49 : decode cX7_waysToHit 49 = .ok (.iload 5, 2) := dc_21 (a0 := 5) (dc_nn (k := 9) aX7_waysToHit_40 rfl)
theorem dX7_waysToHit_51 : decode cX7_waysToHit 51 = .ok (.iload_n 1, 1) := dc_27 (dc_nn (k := 11) aX7_waysToHit_40 rfl)
theorem dX7_waysToHit_52 : decode cX7_waysToHit 52 = .ok (.if_icmp .gt 26, 3) := dc_163 (a0 := 0) (b0 := 26) (dc_nn (k := 12) aX7_waysToHit_40 rfl) (by decide)
theorem dX7_waysToHit_55 : decode cX7_waysToHit 55 = .ok (.iload 4, 2) := dc_21 (a0 := 4) (dc_nn (k := 15) aX7_waysToHit_40 rfl)
theorem dX7_waysToHit_57 : decode cX7_waysToHit 57 = .ok (.aload_n 0, 1) := dc_42 (dc_nn (k := 17) aX7_waysToHit_40 rfl)
theorem dX7_waysToHit_58 : decode cX7_waysToHit 58 = .ok (.getfield 28, 3) := dc_180 (a0 := 0) (b0 := 28) (dc_nn (k := 18) aX7_waysToHit_40 rfl)
theorem dX7_waysToHit_61 : decode cX7_waysToHit 61 = .ok (.bipush 9, 2) := dc_16 (a0 := 9) (dc_nn (k := 21) aX7_waysToHit_40 rfl) (by decide)
theorem dX7_waysToHit_63 : decode cX7_waysToHit 63 = .ok (.iload_n 3, 1) := dc_29 (dc_nn (k := 23) aX7_waysToHit_40 rfl)
theorem dX7_waysToHit_64 : decode cX7_waysToHit 64 = .ok (.imul, 1) := dc_104 (dc_nn (k := 24) aX7_waysToHit_40 rfl)
theorem dX7_waysToHit_65 : decode cX7_waysToHit 65 = .ok (.iload 5, 2) := dc_21 (a0 := 5) (dc_nn (k := 25) aX7_waysToHit_40 rfl)
theorem dX7_waysToHit_67 : decode cX7_waysToHit 67 = .ok (.iadd, 1) := dc_96 (dc_nn (k := 27) aX7_waysToHit_40 rfl)
theorem dX7_waysToHit_68 : decode cX7_waysToHit 68 = .ok (.iaload, 1) := dc_46 (dc_nn (k := 28) aX7_waysToHit_40 rfl)
theorem dX7_waysToHit_69 : decode cX7_waysToHit 69 = .ok (.iadd, 1) := dc_96 (dc_nn (k := 29) aX7_waysToHit_40 rfl)
theorem dX7_waysToHit_70 : decode cX7_waysToHit 70 = .ok (.istore 4, 2) := dc_54 (a0 := 4) (dc_nn (k := 30) aX7_waysToHit_40 rfl)
theorem dX7_waysToHit_72 : decode cX7_waysToHit 72 = .ok (.iinc 5 1, 3) := dc_132 (a0 := 5) (a1 := 1) (dc_nn (k := 32) aX7_waysToHit_40 rfl) (by decide)
theorem dX7_waysToHit_75 : decode cX7_waysToHit 75 = .ok (.goto (-26), 3) := dc_167 (a0 := 255) (b0 := 230) (dc_nn (k := 35) aX7_waysToHit_40 rfl) (by decide)
theorem dX7_waysToHit_78 : decode cX7_waysToHit 78 = .ok (.iload 4, 2) := dc_21 (a0 := 4) (dc_nn (k := 38) aX7_waysToHit_40 rfl)
theorem dX7_waysToHit_80 : decode cX7_waysToHit 80 = .ok (.ireturn, 1) := dc_172 aX7_waysToHit_80
set_option maxRecDepth 20000 in
theorem ggX7_layNext_J6_bitCount_0f7a4 : GoodIn wsX7_layNext wsJ6_bitCount_0f7a4 := goodIn_k _ [[6, 0, 0, 0]] (by rfl) (by decide +kernel)
set_option maxRecDepth 20000 in
theorem gX7_layNext_J6_bitCount_0f7a4 : GoodIn wsX7_layNext (va_wsS RX7 75 yJ6_bitCount_0f7a4 wsJ6_bitCount_0f7a4) := goodIn_app (goodIn_k _ [[3, 0, 0]] (by rfl) (gw_S _ _ _ _)) ggX7_layNext_J6_bitCount_0f7a4
noncomputable def sX7_layNext_83 : List Nat := 16 :: 9 :: 27 :: 104 :: 21 :: 7 :: 96 :: 46 :: 96 :: 79 :: 132 :: 7 :: 1 :: 167 :: 255 :: 216 :: 132 :: 4 :: 1 :: 167 :: 255 :: 162 :: 177 :: []
noncomputable def sX7_layNext_42 : List Nat := 3 :: 54 :: 5 :: 27 :: 4 :: 21 :: 4 :: 120 :: 128 :: 54 :: 6 :: 3 :: 54 :: 7 :: 21 :: 7 :: 29 :: 163 :: 0 :: 40 :: 42 :: 180 :: 0 :: 28 :: 16 :: 9 :: 21 :: 6 :: 104 :: 21 :: 7 :: 96 :: 21 :: 5 :: 96 :: 92 :: 46 :: 42 :: 180 :: 0 :: 28 :: sX7_layNext_83
noncomputable def sX7_layNext_0 : List Nat := 27 :: 184 :: 0 :: 75 :: 62 :: 3 :: 54 :: 4 :: 21 :: 4 :: 28 :: 162 :: 0 :: 94 :: 27 :: 21 :: 4 :: 122 :: 4 :: 126 :: 154 :: 0 :: 79 :: 42 :: 180 :: 0 :: 24 :: 16 :: 8 :: 29 :: 104 :: 21 :: 4 :: 96 :: 51 :: 153 :: 0 :: 7 :: 4 :: 167 :: 0 :: 4 :: sX7_layNext_42
theorem aX7_layNext_0 : dc_at cX7_layNext 0 sX7_layNext_0 := dc_base (by decide +kernel)
theorem aX7_layNext_42 : dc_at cX7_layNext 42 sX7_layNext_42 := dc_nn (k := 42) aX7_layNext_0 rfl
theorem aX7_layNext_83 : dc_at cX7_layNext 83 sX7_layNext_83 := dc_nn (k := 41) aX7_layNext_42 rfl
theorem dX7_layNext_0 : decode cX7_layNext 0 = .ok (.iload_n 1, 1) := dc_27 aX7_layNext_0
theorem dX7_layNext_1 : decode cX7_layNext 1 = .ok (.invokestatic 75, 3) := dc_184 (a0 := 0) (b0 := 75) (dc_nn (k := 1) aX7_layNext_0 rfl)
theorem dX7_layNext_4 : decode cX7_layNext 4 = .ok (.istore_n 3, 1) := dc_62 (dc_nn (k := 4) aX7_layNext_0 rfl)
theorem dX7_layNext_5 : decode cX7_layNext 5 = .ok (.iconst 0, 1) := dc_3 (dc_nn (k := 5) aX7_layNext_0 rfl)
theorem dX7_layNext_6 : decode cX7_layNext 6 = .ok (.istore 4, 2) := dc_54 (a0 := 4) (dc_nn (k := 6) aX7_layNext_0 rfl)
theorem dX7_layNext_8 : decode cX7_layNext 8 = .ok (.iload 4, 2) := dc_21 (a0 := 4) (dc_nn (k := 8) aX7_layNext_0 rfl)
theorem dX7_layNext_10 : decode cX7_layNext 10 = .ok (.iload_n 2, 1) := dc_28 (dc_nn (k := 10) aX7_layNext_0 rfl)
theorem dX7_layNext_11 : decode cX7_layNext 11 = .ok (.if_icmp .ge 94, 3) := dc_162 (a0 := 0) (b0 := 94) (dc_nn (k := 11) aX7_layNext_0 rfl) (by decide)
theorem dX7_layNext_14 : decode cX7_layNext 14 = .ok (.iload_n 1, 1) := dc_27 (dc_nn (k := 14) aX7_layNext_0 rfl)
theorem dX7_layNext_15 : decode cX7_layNext 15 = .ok (.iload 4, 2) := dc_21 (a0 := 4) (dc_nn (k := 15) aX7_layNext_0 rfl)
theorem dX7_layNext_17 : decode cX7_layNext 17 = .ok (.ishr, 1) := dc_122 (dc_nn (k := 17) aX7_layNext_0 rfl)
theorem dX7_layNext_18 : decode cX7_layNext 18 = .ok (.iconst 1, 1) := dc_4 (dc_nn (k := 18) aX7_layNext_0 rfl)
theorem dX7_layNext_19 : decode cX7_layNext 19 = .ok (.iand, 1) := dc_126 (dc_nn (k := 19) aX7_layNext_0 rfl)
theorem dX7_layNext_20 : decode cX7_layNext 20 = .ok (.ifCond .ne 79, 3) := dc_154 (a0 := 0) (b0 := 79) (dc_nn (k := 20) aX7_layNext_0 rfl) (by decide)
theorem dX7_layNext_23 : decode cX7_layNext 23 = .ok (.aload_n 0, 1) := dc_42 (dc_nn (k := 23) aX7_layNext_0 rfl)
theorem dX7_layNext_24 : decode cX7_layNext 24 = .ok (.getfield 24, 3) := dc_180 (a0 := 0) (b0 := 24) (dc_nn (k := 24) aX7_layNext_0 rfl)
theorem dX7_layNext_27 : decode cX7_layNext 27 = .ok (.bipush 8, 2) := dc_16 (a0 := 8) (dc_nn (k := 27) aX7_layNext_0 rfl) (by decide)
theorem dX7_layNext_29 : decode cX7_layNext 29 = .ok (.iload_n 3, 1) := dc_29 (dc_nn (k := 29) aX7_layNext_0 rfl)
theorem dX7_layNext_30 : decode cX7_layNext 30 = .ok (.imul, 1) := dc_104 (dc_nn (k := 30) aX7_layNext_0 rfl)
theorem dX7_layNext_31 : decode cX7_layNext 31 = .ok (.iload 4, 2) := dc_21 (a0 := 4) (dc_nn (k := 31) aX7_layNext_0 rfl)
theorem dX7_layNext_33 : decode cX7_layNext 33 = .ok (.iadd, 1) := dc_96 (dc_nn (k := 33) aX7_layNext_0 rfl)
theorem dX7_layNext_34 : decode cX7_layNext 34 = .ok (.baload, 1) := dc_51 (dc_nn (k := 34) aX7_layNext_0 rfl)
theorem dX7_layNext_35 : decode cX7_layNext 35 = .ok (.ifCond .eq 7, 3) := dc_153 (a0 := 0) (b0 := 7) (dc_nn (k := 35) aX7_layNext_0 rfl) (by decide)
theorem dX7_layNext_38 : decode cX7_layNext 38 = .ok (.iconst 1, 1) := dc_4 (dc_nn (k := 38) aX7_layNext_0 rfl)
theorem dX7_layNext_39 : decode cX7_layNext 39 = .ok (.goto 4, 3) := dc_167 (a0 := 0) (b0 := 4) (dc_nn (k := 39) aX7_layNext_0 rfl) (by decide)
theorem dX7_layNext_42 : decode cX7_layNext 42 = .ok (.iconst 0, 1) := dc_3 aX7_layNext_42
theorem dX7_layNext_43 : decode cX7_layNext 43 = .ok (.istore 5, 2) := dc_54 (a0 := 5) (dc_nn (k := 1) aX7_layNext_42 rfl)
theorem dX7_layNext_45 : decode cX7_layNext 45 = .ok (.iload_n 1, 1) := dc_27 (dc_nn (k := 3) aX7_layNext_42 rfl)
theorem dX7_layNext_46 : decode cX7_layNext 46 = .ok (.iconst 1, 1) := dc_4 (dc_nn (k := 4) aX7_layNext_42 rfl)
theorem dX7_layNext_47 : decode cX7_layNext 47 = .ok (.iload 4, 2) := dc_21 (a0 := 4) (dc_nn (k := 5) aX7_layNext_42 rfl)
theorem dX7_layNext_49 : decode cX7_layNext 49 = .ok (.ishl, 1) := dc_120 (dc_nn (k := 7) aX7_layNext_42 rfl)
theorem dX7_layNext_50 : decode cX7_layNext 50 = .ok (.ior, 1) := dc_128 (dc_nn (k := 8) aX7_layNext_42 rfl)
theorem dX7_layNext_51 : decode cX7_layNext 51 = .ok (.istore 6, 2) := dc_54 (a0 := 6) (dc_nn (k := 9) aX7_layNext_42 rfl)
theorem dX7_layNext_53 : decode cX7_layNext 53 = .ok (.iconst 0, 1) := dc_3 (dc_nn (k := 11) aX7_layNext_42 rfl)
theorem dX7_layNext_54 : decode cX7_layNext 54 = .ok (.istore 7, 2) := dc_54 (a0 := 7) (dc_nn (k := 12) aX7_layNext_42 rfl)
theorem dX7_layNext_56 : decode cX7_layNext 56 = .ok (.iload 7, 2) := dc_21 (a0 := 7) (dc_nn (k := 14) aX7_layNext_42 rfl)
theorem dX7_layNext_58 : decode cX7_layNext 58 = .ok (.iload_n 3, 1) := dc_29 (dc_nn (k := 16) aX7_layNext_42 rfl)
theorem dX7_layNext_59 : decode cX7_layNext 59 = .ok (.if_icmp .gt 40, 3) := dc_163 (a0 := 0) (b0 := 40) (dc_nn (k := 17) aX7_layNext_42 rfl) (by decide)
theorem dX7_layNext_62 : decode cX7_layNext 62 = .ok (.aload_n 0, 1) := dc_42 (dc_nn (k := 20) aX7_layNext_42 rfl)
theorem dX7_layNext_63 : decode cX7_layNext 63 = .ok (.getfield 28, 3) := dc_180 (a0 := 0) (b0 := 28) (dc_nn (k := 21) aX7_layNext_42 rfl)
theorem dX7_layNext_66 : decode cX7_layNext 66 = .ok (.bipush 9, 2) := dc_16 (a0 := 9) (dc_nn (k := 24) aX7_layNext_42 rfl) (by decide)
theorem dX7_layNext_68 : decode cX7_layNext 68 = .ok (.iload 6, 2) := dc_21 (a0 := 6) (dc_nn (k := 26) aX7_layNext_42 rfl)
theorem dX7_layNext_70 : decode cX7_layNext 70 = .ok (.imul, 1) := dc_104 (dc_nn (k := 28) aX7_layNext_42 rfl)
theorem dX7_layNext_71 : decode cX7_layNext 71 = .ok (.iload 7, 2) := dc_21 (a0 := 7) (dc_nn (k := 29) aX7_layNext_42 rfl)
theorem dX7_layNext_73 : decode cX7_layNext 73 = .ok (.iadd, 1) := dc_96 (dc_nn (k := 31) aX7_layNext_42 rfl)
theorem dX7_layNext_74 : decode cX7_layNext 74 = .ok (.iload 5, 2) := dc_21 (a0 := 5) (dc_nn (k := 32) aX7_layNext_42 rfl)
theorem dX7_layNext_76 : decode cX7_layNext 76 = .ok (.iadd, 1) := dc_96 (dc_nn (k := 34) aX7_layNext_42 rfl)
theorem dX7_layNext_77 : decode cX7_layNext 77 = .ok (.dup2, 1) := dc_92 (dc_nn (k := 35) aX7_layNext_42 rfl)
