noncomputable def sX0_init_12 : List Nat := 177 :: []
noncomputable def sX0_init_9 : List Nat := 181 :: 0 :: 9 :: sX0_init_12
noncomputable def sX0_init_7 : List Nat := 188 :: 10 :: sX0_init_9
noncomputable def sX0_init_5 : List Nat := 16 :: 120 :: sX0_init_7
noncomputable def sX0_init_4 : List Nat := 42 :: sX0_init_5
noncomputable def sX0_init_1 : List Nat := 183 :: 0 :: 3 :: sX0_init_4
noncomputable def sX0_init_0 : List Nat := 42 :: sX0_init_1
theorem aX0_init_0 : dc_at cX0_init 0 sX0_init_0 := dc_base (by decide +kernel)
theorem aX0_init_1 : dc_at cX0_init 1 sX0_init_1 := dc_n1 aX0_init_0
theorem aX0_init_4 : dc_at cX0_init 4 sX0_init_4 := dc_n3 aX0_init_1
theorem aX0_init_5 : dc_at cX0_init 5 sX0_init_5 := dc_n1 aX0_init_4
theorem aX0_init_7 : dc_at cX0_init 7 sX0_init_7 := dc_n2 aX0_init_5
theorem aX0_init_9 : dc_at cX0_init 9 sX0_init_9 := dc_n2 aX0_init_7
theorem aX0_init_12 : dc_at cX0_init 12 sX0_init_12 := dc_n3 aX0_init_9
theorem dX0_init_0 : decode cX0_init 0 = .ok (.aload_n 0, 1) := dc_42 aX0_init_0
theorem dX0_init_1 : decode cX0_init 1 = .ok (.invokespecial 3, 3) := dc_183 (a0 := 0) (b0 := 3) aX0_init_1
theorem dX0_init_4 : decode cX0_init 4 = .ok (.aload_n 0, 1) := dc_42 aX0_init_4
theorem dX0_init_5 : decode cX0_init 5 = .ok (.bipush 120, 2) := dc_16 (a0 := 120) aX0_init_5 (by decide)
theorem dX0_init_7 : decode cX0_init 7 = .ok (.newarray .int, 2) := dc_188_10 aX0_init_7
theorem dX0_init_9 : decode cX0_init 9 = .ok (.putfield 9, 3) := dc_181 (a0 := 0) (b0 := 9) aX0_init_9
theorem dX0_init_12 : decode cX0_init 12 = .ok (.return_, 1) := dc_177 aX0_init_12
set_option maxRecDepth 20000 in
theorem ggX0_areOne_X1_degreeOf : GoodIn wsX0_areOne wsX1_degreeOf := goodIn_k _ [[5, 0, 14, 0]] (by rfl) (by decide +kernel)
set_option maxRecDepth 20000 in
theorem gX0_areOne_X1_degreeOf : GoodIn wsX0_areOne (wsV RX0 15 RX1 yX1_degreeOf wsX1_degreeOf) := goodIn_app (goodIn_of _ (by decide +kernel)) ggX0_areOne_X1_degreeOf
set_option maxRecDepth 20000 in
theorem ggX0_areOne_X4_costBeside : GoodIn wsX0_areOne wsX4_costBeside := goodIn_k _ [[11, 0, 0, 0], [10, 4, 0, 0, 0, 0, 0, 2, 0]] (by rfl) (by decide +kernel)
set_option maxRecDepth 20000 in
theorem gX0_areOne_X4_costBeside : GoodIn wsX0_areOne (wsV RX0 21 RX4 yX4_costBeside wsX4_costBeside) := goodIn_app (goodIn_of _ (by decide +kernel)) ggX0_areOne_X4_costBeside
noncomputable def sX0_areOne_90 : List Nat := 172 :: []
noncomputable def sX0_areOne_89 : List Nat := 3 :: sX0_areOne_90
noncomputable def sX0_areOne_86 : List Nat := 167 :: 0 :: 4 :: sX0_areOne_89
noncomputable def sX0_areOne_85 : List Nat := 4 :: sX0_areOne_86
noncomputable def sX0_areOne_82 : List Nat := 161 :: 0 :: 7 :: sX0_areOne_85
noncomputable def sX0_areOne_80 : List Nat := 21 :: 4 :: sX0_areOne_82
noncomputable def sX0_areOne_78 : List Nat := 21 :: 5 :: sX0_areOne_80
noncomputable def sX0_areOne_75 : List Nat := 167 :: 255 :: 187 :: sX0_areOne_78
noncomputable def sX0_areOne_72 : List Nat := 132 :: 6 :: 1 :: sX0_areOne_75
noncomputable def sX0_areOne_69 : List Nat := 132 :: 5 :: 1 :: sX0_areOne_72
noncomputable def sX0_areOne_68 : List Nat := 172 :: sX0_areOne_69
noncomputable def sX0_areOne_67 : List Nat := 3 :: sX0_areOne_68
noncomputable def sX0_areOne_64 : List Nat := 164 :: 0 :: 5 :: sX0_areOne_67
noncomputable def sX0_areOne_63 : List Nat := 4 :: sX0_areOne_64
noncomputable def sX0_areOne_60 : List Nat := 182 :: 0 :: 21 :: sX0_areOne_63
noncomputable def sX0_areOne_58 : List Nat := 21 :: 7 :: sX0_areOne_60
noncomputable def sX0_areOne_56 : List Nat := 21 :: 8 :: sX0_areOne_58
noncomputable def sX0_areOne_55 : List Nat := 42 :: sX0_areOne_56
noncomputable def sX0_areOne_52 : List Nat := 164 :: 0 :: 17 :: sX0_areOne_55
noncomputable def sX0_areOne_51 : List Nat := 4 :: sX0_areOne_52
noncomputable def sX0_areOne_48 : List Nat := 182 :: 0 :: 21 :: sX0_areOne_51
noncomputable def sX0_areOne_46 : List Nat := 21 :: 8 :: sX0_areOne_48
noncomputable def sX0_areOne_44 : List Nat := 21 :: 7 :: sX0_areOne_46
noncomputable def sX0_areOne_43 : List Nat := 42 :: sX0_areOne_44
noncomputable def sX0_areOne_40 : List Nat := 159 :: 0 :: 32 :: sX0_areOne_43
noncomputable def sX0_areOne_39 : List Nat := 2 :: sX0_areOne_40
noncomputable def sX0_areOne_37 : List Nat := 21 :: 8 :: sX0_areOne_39
noncomputable def sX0_areOne_34 : List Nat := 159 :: 0 :: 38 :: sX0_areOne_37
noncomputable def sX0_areOne_33 : List Nat := 2 :: sX0_areOne_34
noncomputable def sX0_areOne_31 : List Nat := 21 :: 7 :: sX0_areOne_33
noncomputable def sX0_areOne_29 : List Nat := 54 :: 8 :: sX0_areOne_31
noncomputable def sX0_areOne_26 : List Nat := 182 :: 0 :: 15 :: sX0_areOne_29
noncomputable def sX0_areOne_24 : List Nat := 21 :: 6 :: sX0_areOne_26
noncomputable def sX0_areOne_23 : List Nat := 29 :: sX0_areOne_24
noncomputable def sX0_areOne_22 : List Nat := 43 :: sX0_areOne_23
noncomputable def sX0_areOne_20 : List Nat := 54 :: 7 :: sX0_areOne_22
noncomputable def sX0_areOne_17 : List Nat := 182 :: 0 :: 15 :: sX0_areOne_20
noncomputable def sX0_areOne_15 : List Nat := 21 :: 6 :: sX0_areOne_17
noncomputable def sX0_areOne_14 : List Nat := 28 :: sX0_areOne_15
noncomputable def sX0_areOne_13 : List Nat := 43 :: sX0_areOne_14
noncomputable def sX0_areOne_10 : List Nat := 162 :: 0 :: 68 :: sX0_areOne_13
noncomputable def sX0_areOne_8 : List Nat := 16 :: 7 :: sX0_areOne_10
noncomputable def sX0_areOne_6 : List Nat := 21 :: 6 :: sX0_areOne_8
noncomputable def sX0_areOne_4 : List Nat := 54 :: 6 :: sX0_areOne_6
noncomputable def sX0_areOne_3 : List Nat := 3 :: sX0_areOne_4
noncomputable def sX0_areOne_1 : List Nat := 54 :: 5 :: sX0_areOne_3
noncomputable def sX0_areOne_0 : List Nat := 3 :: sX0_areOne_1
theorem aX0_areOne_0 : dc_at cX0_areOne 0 sX0_areOne_0 := dc_base (by decide +kernel)
theorem aX0_areOne_1 : dc_at cX0_areOne 1 sX0_areOne_1 := dc_n1 aX0_areOne_0
theorem aX0_areOne_3 : dc_at cX0_areOne 3 sX0_areOne_3 := dc_n2 aX0_areOne_1
theorem aX0_areOne_4 : dc_at cX0_areOne 4 sX0_areOne_4 := dc_n1 aX0_areOne_3
theorem aX0_areOne_6 : dc_at cX0_areOne 6 sX0_areOne_6 := dc_n2 aX0_areOne_4
theorem aX0_areOne_8 : dc_at cX0_areOne 8 sX0_areOne_8 := dc_n2 aX0_areOne_6
theorem aX0_areOne_10 : dc_at cX0_areOne 10 sX0_areOne_10 := dc_n2 aX0_areOne_8
theorem aX0_areOne_13 : dc_at cX0_areOne 13 sX0_areOne_13 := dc_n3 aX0_areOne_10
theorem aX0_areOne_14 : dc_at cX0_areOne 14 sX0_areOne_14 := dc_n1 aX0_areOne_13
theorem aX0_areOne_15 : dc_at cX0_areOne 15 sX0_areOne_15 := dc_n1 aX0_areOne_14
theorem aX0_areOne_17 : dc_at cX0_areOne 17 sX0_areOne_17 := dc_n2 aX0_areOne_15
theorem aX0_areOne_20 : dc_at cX0_areOne 20 sX0_areOne_20 := dc_n3 aX0_areOne_17
theorem aX0_areOne_22 : dc_at cX0_areOne 22 sX0_areOne_22 := dc_n2 aX0_areOne_20
theorem aX0_areOne_23 : dc_at cX0_areOne 23 sX0_areOne_23 := dc_n1 aX0_areOne_22
theorem aX0_areOne_24 : dc_at cX0_areOne 24 sX0_areOne_24 := dc_n1 aX0_areOne_23
theorem aX0_areOne_26 : dc_at cX0_areOne 26 sX0_areOne_26 := dc_n2 aX0_areOne_24
theorem aX0_areOne_29 : dc_at cX0_areOne 29 sX0_areOne_29 := dc_n3 aX0_areOne_26
theorem aX0_areOne_31 : dc_at cX0_areOne 31 sX0_areOne_31 := dc_n2 aX0_areOne_29
theorem aX0_areOne_33 : dc_at cX0_areOne 33 sX0_areOne_33 := dc_n2 aX0_areOne_31
theorem aX0_areOne_34 : dc_at cX0_areOne 34 sX0_areOne_34 := dc_n1 aX0_areOne_33
theorem aX0_areOne_37 : dc_at cX0_areOne 37 sX0_areOne_37 := dc_n3 aX0_areOne_34
theorem aX0_areOne_39 : dc_at cX0_areOne 39 sX0_areOne_39 := dc_n2 aX0_areOne_37
theorem aX0_areOne_40 : dc_at cX0_areOne 40 sX0_areOne_40 := dc_n1 aX0_areOne_39
theorem aX0_areOne_43 : dc_at cX0_areOne 43 sX0_areOne_43 := dc_n3 aX0_areOne_40
theorem aX0_areOne_44 : dc_at cX0_areOne 44 sX0_areOne_44 := dc_n1 aX0_areOne_43
theorem aX0_areOne_46 : dc_at cX0_areOne 46 sX0_areOne_46 := dc_n2 aX0_areOne_44
theorem aX0_areOne_48 : dc_at cX0_areOne 48 sX0_areOne_48 := dc_n2 aX0_areOne_46
theorem aX0_areOne_51 : dc_at cX0_areOne 51 sX0_areOne_51 := dc_n3 aX0_areOne_48
theorem aX0_areOne_52 : dc_at cX0_areOne 52 sX0_areOne_52 := dc_n1 aX0_areOne_51
theorem aX0_areOne_55 : dc_at cX0_areOne 55 sX0_areOne_55 := dc_n3 aX0_areOne_52
theorem aX0_areOne_56 : dc_at cX0_areOne 56 sX0_areOne_56 := dc_n1 aX0_areOne_55
theorem aX0_areOne_58 : dc_at cX0_areOne 58 sX0_areOne_58 := dc_n2 aX0_areOne_56
theorem aX0_areOne_60 : dc_at cX0_areOne 60 sX0_areOne_60 := dc_n2 aX0_areOne_58
theorem aX0_areOne_63 : dc_at cX0_areOne 63 sX0_areOne_63 := dc_n3 aX0_areOne_60
theorem aX0_areOne_64 : dc_at cX0_areOne 64 sX0_areOne_64 := dc_n1 aX0_areOne_63
theorem aX0_areOne_67 : dc_at cX0_areOne 67 sX0_areOne_67 := dc_n3 aX0_areOne_64
theorem aX0_areOne_68 : dc_at cX0_areOne 68 sX0_areOne_68 := dc_n1 aX0_areOne_67
theorem aX0_areOne_69 : dc_at cX0_areOne 69 sX0_areOne_69 := dc_n1 aX0_areOne_68
theorem aX0_areOne_72 : dc_at cX0_areOne 72 sX0_areOne_72 := dc_n3 aX0_areOne_69
theorem aX0_areOne_75 : dc_at cX0_areOne 75 sX0_areOne_75 := dc_n3 aX0_areOne_72
theorem aX0_areOne_78 : dc_at cX0_areOne 78 sX0_areOne_78 := dc_n3 aX0_areOne_75
theorem aX0_areOne_80 : dc_at cX0_areOne 80 sX0_areOne_80 := dc_n2 aX0_areOne_78
theorem aX0_areOne_82 : dc_at cX0_areOne 82 sX0_areOne_82 := dc_n2 aX0_areOne_80
theorem aX0_areOne_85 : dc_at cX0_areOne 85 sX0_areOne_85 := dc_n3 aX0_areOne_82
theorem aX0_areOne_86 : dc_at cX0_areOne 86 sX0_areOne_86 := dc_n1 aX0_areOne_85
theorem aX0_areOne_89 : dc_at cX0_areOne 89 sX0_areOne_89 := dc_n3 aX0_areOne_86
theorem aX0_areOne_90 : dc_at cX0_areOne 90 sX0_areOne_90 := dc_n1 aX0_areOne_89
theorem dX0_areOne_0 : decode cX0_areOne 0 = .ok (.iconst 0, 1) := dc_3 aX0_areOne_0
theorem dX0_areOne_1 : decode cX0_areOne 1 = .ok (.istore 5, 2) := dc_54 (a0 := 5) aX0_areOne_1
theorem dX0_areOne_3 : decode cX0_areOne 3 = .ok (.iconst 0, 1) := dc_3 aX0_areOne_3
theorem dX0_areOne_4 : decode cX0_areOne 4 = .ok (.istore 6, 2) := dc_54 (a0 := 6) aX0_areOne_4
theorem dX0_areOne_6 : decode cX0_areOne 6 = .ok (.iload 6, 2) := dc_21 (a0 := 6) aX0_areOne_6
theorem dX0_areOne_8 : decode cX0_areOne 8 = .ok (.bipush 7, 2) := dc_16 (a0 := 7) aX0_areOne_8 (by decide)
theorem dX0_areOne_10 : decode cX0_areOne 10 = .ok (.if_icmp .ge 68, 3) := dc_162 (a0 := 0) (b0 := 68) aX0_areOne_10 (by decide)
theorem dX0_areOne_13 : decode cX0_areOne 13 = .ok (.aload_n 1, 1) := dc_43 aX0_areOne_13
theorem dX0_areOne_14 : decode cX0_areOne 14 = .ok (.iload_n 2, 1) := dc_28 aX0_areOne_14
theorem dX0_areOne_15 : decode cX0_areOne 15 = .ok (.iload 6, 2) := dc_21 (a0 := 6) aX0_areOne_15
theorem dX0_areOne_17 : decode cX0_areOne 17 = .ok (.invokevirtual 15, 3) := dc_182 (a0 := 0) (b0 := 15) aX0_areOne_17
theorem dX0_areOne_20 : decode cX0_areOne 20 = .ok (.istore 7, 2) := dc_54 (a0 := 7) aX0_areOne_20
theorem dX0_areOne_22 : decode cX0_areOne 22 = .ok (.aload_n 1, 1) := dc_43 aX0_areOne_22
theorem dX0_areOne_23 : decode cX0_areOne 23 = .ok (.iload_n 3, 1) := dc_29 aX0_areOne_23
theorem dX0_areOne_24 : decode cX0_areOne 24 = .ok (.iload 6, 2) := dc_21 (a0 := 6) aX0_areOne_24
theorem dX0_areOne_26 : decode cX0_areOne 26 = .ok (.invokevirtual 15, 3) := dc_182 (a0 := 0) (b0 := 15) aX0_areOne_26
theorem dX0_areOne_29 : decode cX0_areOne 29 = .ok (.istore 8, 2) := dc_54 (a0 := 8) aX0_areOne_29
theorem dX0_areOne_31 : decode cX0_areOne 31 = .ok (.iload 7, 2) := dc_21 (a0 := 7) aX0_areOne_31
theorem dX0_areOne_33 : decode cX0_areOne 33 = .ok (.iconst (-1), 1) := dc_2 aX0_areOne_33
theorem dX0_areOne_34 : decode cX0_areOne 34 = .ok (.if_icmp .eq 38, 3) := dc_159 (a0 := 0) (b0 := 38) aX0_areOne_34 (by decide)
theorem dX0_areOne_37 : decode cX0_areOne 37 = .ok (.iload 8, 2) := dc_21 (a0 := 8) aX0_areOne_37
theorem dX0_areOne_39 : decode cX0_areOne 39 = .ok (.iconst (-1), 1) := dc_2 aX0_areOne_39
theorem dX0_areOne_40 : decode cX0_areOne 40 = .ok (.if_icmp .eq 32, 3) := dc_159 (a0 := 0) (b0 := 32) aX0_areOne_40 (by decide)
theorem dX0_areOne_43 : decode cX0_areOne 43 = .ok (.aload_n 0, 1) := dc_42 aX0_areOne_43
theorem dX0_areOne_44 : decode cX0_areOne 44 = .ok (.iload 7, 2) := dc_21 (a0 := 7) aX0_areOne_44
theorem dX0_areOne_46 : decode cX0_areOne 46 = .ok (.iload 8, 2) := dc_21 (a0 := 8) aX0_areOne_46
theorem dX0_areOne_48 : decode cX0_areOne 48 = .ok (.invokevirtual 21, 3) := dc_182 (a0 := 0) (b0 := 21) aX0_areOne_48
theorem dX0_areOne_51 : decode cX0_areOne 51 = .ok (.iconst 1, 1) := dc_4 aX0_areOne_51
theorem dX0_areOne_52 : decode cX0_areOne 52 = .ok (.if_icmp .le 17, 3) := dc_164 (a0 := 0) (b0 := 17) aX0_areOne_52 (by decide)
theorem dX0_areOne_55 : decode cX0_areOne 55 = .ok (.aload_n 0, 1) := dc_42 aX0_areOne_55
theorem dX0_areOne_56 : decode cX0_areOne 56 = .ok (.iload 8, 2) := dc_21 (a0 := 8) aX0_areOne_56
theorem dX0_areOne_58 : decode cX0_areOne 58 = .ok (.iload 7, 2) := dc_21 (a0 := 7) aX0_areOne_58
theorem dX0_areOne_60 : decode cX0_areOne 60 = .ok (.invokevirtual 21, 3) := dc_182 (a0 := 0) (b0 := 21) aX0_areOne_60
theorem dX0_areOne_63 : decode cX0_areOne 63 = .ok (.iconst 1, 1) := dc_4 aX0_areOne_63
theorem dX0_areOne_64 : decode cX0_areOne 64 = .ok (.if_icmp .le 5, 3) := dc_164 (a0 := 0) (b0 := 5) aX0_areOne_64 (by decide)
theorem dX0_areOne_67 : decode cX0_areOne 67 = .ok (.iconst 0, 1) := dc_3 aX0_areOne_67
theorem dX0_areOne_68 : decode cX0_areOne 68 = .ok (.ireturn, 1) := dc_172 aX0_areOne_68
theorem dX0_areOne_69 : decode cX0_areOne 69 = .ok (.iinc 5 1, 3) := dc_132 (a0 := 5) (a1 := 1) aX0_areOne_69 (by decide)
theorem dX0_areOne_72 : decode cX0_areOne 72 = .ok (.iinc 6 1, 3) := dc_132 (a0 := 6) (a1 := 1) aX0_areOne_72 (by decide)
theorem dX0_areOne_75 : decode cX0_areOne 75 = .ok (.goto (-69), 3) := dc_167 (a0 := 255) (b0 := 187) aX0_areOne_75 (by decide)
theorem dX0_areOne_78 : decode cX0_areOne 78 = .ok (.iload 5, 2) := dc_21 (a0 := 5) aX0_areOne_78
theorem dX0_areOne_80 : decode cX0_areOne 80 = .ok (.iload 4, 2) := dc_21 (a0 := 4) aX0_areOne_80
theorem dX0_areOne_82 : decode cX0_areOne 82 = .ok (.if_icmp .lt 7, 3) := dc_161 (a0 := 0) (b0 := 7) aX0_areOne_82 (by decide)
theorem dX0_areOne_85 : decode cX0_areOne 85 = .ok (.iconst 1, 1) := dc_4 aX0_areOne_85
theorem dX0_areOne_86 : decode cX0_areOne 86 = .ok (.goto 4, 3) := dc_167 (a0 := 0) (b0 := 4) aX0_areOne_86 (by decide)
theorem dX0_areOne_89 : decode cX0_areOne 89 = .ok (.iconst 0, 1) := dc_3 aX0_areOne_89
theorem dX0_areOne_90 : decode cX0_areOne 90 = .ok (.ireturn, 1) := dc_172 aX0_areOne_90
set_option maxRecDepth 20000 in
theorem ggX0_partBy_X0_areOne : GoodIn wsX0_partBy wsX0_areOne := goodIn_k _ [[5, 0, 0, 0, 0, 0, 0, 0, 0, 0, 0, 0, 0, 0, 0, 0, 0, 0, 0, 0, 0, 9, 0, 0, 0]] (by rfl) (by decide +kernel)
set_option maxRecDepth 20000 in
theorem gX0_partBy_X0_areOne : GoodIn wsX0_partBy (va_wsS RX0 26 yX0_areOne wsX0_areOne) := goodIn_app (goodIn_of _ (by decide +kernel)) ggX0_partBy_X0_areOne
set_option maxRecDepth 20000 in
theorem ggX0_partBy_X0_join : GoodIn wsX0_partBy wsX0_join := goodIn_k _ [[29, 0, 0, 0, 0], [1, 32]] (by rfl) (by decide +kernel)
set_option maxRecDepth 20000 in
theorem gX0_partBy_X0_join : GoodIn wsX0_partBy (wsV RX0 30 RX0 yX0_join wsX0_join) := goodIn_app (goodIn_of _ (by decide +kernel)) ggX0_partBy_X0_join
noncomputable def sX0_partBy_91 : List Nat := 177 :: []
noncomputable def sX0_partBy_88 : List Nat := 167 :: 255 :: 171 :: sX0_partBy_91
noncomputable def sX0_partBy_85 : List Nat := 132 :: 4 :: 1 :: sX0_partBy_88
noncomputable def sX0_partBy_82 : List Nat := 167 :: 255 :: 196 :: sX0_partBy_85
noncomputable def sX0_partBy_79 : List Nat := 132 :: 5 :: 1 :: sX0_partBy_82
noncomputable def sX0_partBy_76 : List Nat := 182 :: 0 :: 30 :: sX0_partBy_79
noncomputable def sX0_partBy_74 : List Nat := 21 :: 4 :: sX0_partBy_76
noncomputable def sX0_partBy_73 : List Nat := 46 :: sX0_partBy_74
noncomputable def sX0_partBy_71 : List Nat := 21 :: 5 :: sX0_partBy_73
noncomputable def sX0_partBy_68 : List Nat := 180 :: 0 :: 9 :: sX0_partBy_71
noncomputable def sX0_partBy_67 : List Nat := 42 :: sX0_partBy_68
noncomputable def sX0_partBy_66 : List Nat := 46 :: sX0_partBy_67
noncomputable def sX0_partBy_64 : List Nat := 21 :: 4 :: sX0_partBy_66
noncomputable def sX0_partBy_61 : List Nat := 180 :: 0 :: 9 :: sX0_partBy_64
noncomputable def sX0_partBy_60 : List Nat := 42 :: sX0_partBy_61
noncomputable def sX0_partBy_59 : List Nat := 42 :: sX0_partBy_60
noncomputable def sX0_partBy_56 : List Nat := 153 :: 0 :: 23 :: sX0_partBy_59
noncomputable def sX0_partBy_53 : List Nat := 184 :: 0 :: 26 :: sX0_partBy_56
noncomputable def sX0_partBy_52 : List Nat := 29 :: sX0_partBy_53
noncomputable def sX0_partBy_50 : List Nat := 21 :: 5 :: sX0_partBy_52
noncomputable def sX0_partBy_48 : List Nat := 21 :: 4 :: sX0_partBy_50
noncomputable def sX0_partBy_47 : List Nat := 44 :: sX0_partBy_48
noncomputable def sX0_partBy_46 : List Nat := 43 :: sX0_partBy_47
noncomputable def sX0_partBy_43 : List Nat := 159 :: 0 :: 36 :: sX0_partBy_46
noncomputable def sX0_partBy_42 : List Nat := 46 :: sX0_partBy_43
noncomputable def sX0_partBy_40 : List Nat := 21 :: 4 :: sX0_partBy_42
noncomputable def sX0_partBy_37 : List Nat := 180 :: 0 :: 9 :: sX0_partBy_40
noncomputable def sX0_partBy_36 : List Nat := 42 :: sX0_partBy_37
noncomputable def sX0_partBy_35 : List Nat := 46 :: sX0_partBy_36
noncomputable def sX0_partBy_33 : List Nat := 21 :: 5 :: sX0_partBy_35
noncomputable def sX0_partBy_30 : List Nat := 180 :: 0 :: 9 :: sX0_partBy_33
noncomputable def sX0_partBy_29 : List Nat := 42 :: sX0_partBy_30
noncomputable def sX0_partBy_26 : List Nat := 162 :: 0 :: 59 :: sX0_partBy_29
noncomputable def sX0_partBy_24 : List Nat := 21 :: 4 :: sX0_partBy_26
noncomputable def sX0_partBy_22 : List Nat := 21 :: 5 :: sX0_partBy_24
noncomputable def sX0_partBy_20 : List Nat := 54 :: 5 :: sX0_partBy_22
noncomputable def sX0_partBy_19 : List Nat := 3 :: sX0_partBy_20
noncomputable def sX0_partBy_18 : List Nat := 79 :: sX0_partBy_19
noncomputable def sX0_partBy_16 : List Nat := 21 :: 4 :: sX0_partBy_18
noncomputable def sX0_partBy_14 : List Nat := 21 :: 4 :: sX0_partBy_16
noncomputable def sX0_partBy_11 : List Nat := 180 :: 0 :: 9 :: sX0_partBy_14
noncomputable def sX0_partBy_10 : List Nat := 42 :: sX0_partBy_11
noncomputable def sX0_partBy_7 : List Nat := 162 :: 0 :: 84 :: sX0_partBy_10
noncomputable def sX0_partBy_5 : List Nat := 16 :: 120 :: sX0_partBy_7
noncomputable def sX0_partBy_3 : List Nat := 21 :: 4 :: sX0_partBy_5
noncomputable def sX0_partBy_1 : List Nat := 54 :: 4 :: sX0_partBy_3
noncomputable def sX0_partBy_0 : List Nat := 3 :: sX0_partBy_1
theorem aX0_partBy_0 : dc_at cX0_partBy 0 sX0_partBy_0 := dc_base (by decide +kernel)
theorem aX0_partBy_1 : dc_at cX0_partBy 1 sX0_partBy_1 := dc_n1 aX0_partBy_0
theorem aX0_partBy_3 : dc_at cX0_partBy 3 sX0_partBy_3 := dc_n2 aX0_partBy_1
theorem aX0_partBy_5 : dc_at cX0_partBy 5 sX0_partBy_5 := dc_n2 aX0_partBy_3
theorem aX0_partBy_7 : dc_at cX0_partBy 7 sX0_partBy_7 := dc_n2 aX0_partBy_5
theorem aX0_partBy_10 : dc_at cX0_partBy 10 sX0_partBy_10 := dc_n3 aX0_partBy_7
theorem aX0_partBy_11 : dc_at cX0_partBy 11 sX0_partBy_11 := dc_n1 aX0_partBy_10
theorem aX0_partBy_14 : dc_at cX0_partBy 14 sX0_partBy_14 := dc_n3 aX0_partBy_11
theorem aX0_partBy_16 : dc_at cX0_partBy 16 sX0_partBy_16 := dc_n2 aX0_partBy_14
theorem aX0_partBy_18 : dc_at cX0_partBy 18 sX0_partBy_18 := dc_n2 aX0_partBy_16
theorem aX0_partBy_19 : dc_at cX0_partBy 19 sX0_partBy_19 := dc_n1 aX0_partBy_18
theorem aX0_partBy_20 : dc_at cX0_partBy 20 sX0_partBy_20 := dc_n1 aX0_partBy_19
theorem aX0_partBy_22 : dc_at cX0_partBy 22 sX0_partBy_22 := dc_n2 aX0_partBy_20
theorem aX0_partBy_24 : dc_at cX0_partBy 24 sX0_partBy_24 := dc_n2 aX0_partBy_22
theorem aX0_partBy_26 : dc_at cX0_partBy 26 sX0_partBy_26 := dc_n2 aX0_partBy_24
theorem aX0_partBy_29 : dc_at cX0_partBy 29 sX0_partBy_29 := dc_n3 aX0_partBy_26
theorem aX0_partBy_30 : dc_at cX0_partBy 30 sX0_partBy_30 := dc_n1 aX0_partBy_29
theorem aX0_partBy_33 : dc_at cX0_partBy 33 sX0_partBy_33 := dc_n3 aX0_partBy_30
theorem aX0_partBy_35 : dc_at cX0_partBy 35 sX0_partBy_35 := dc_n2 aX0_partBy_33
theorem aX0_partBy_36 : dc_at cX0_partBy 36 sX0_partBy_36 := dc_n1 aX0_partBy_35
theorem aX0_partBy_37 : dc_at cX0_partBy 37 sX0_partBy_37 := dc_n1 aX0_partBy_36
theorem aX0_partBy_40 : dc_at cX0_partBy 40 sX0_partBy_40 := dc_n3 aX0_partBy_37
theorem aX0_partBy_42 : dc_at cX0_partBy 42 sX0_partBy_42 := dc_n2 aX0_partBy_40
theorem aX0_partBy_43 : dc_at cX0_partBy 43 sX0_partBy_43 := dc_n1 aX0_partBy_42
theorem aX0_partBy_46 : dc_at cX0_partBy 46 sX0_partBy_46 := dc_n3 aX0_partBy_43
theorem aX0_partBy_47 : dc_at cX0_partBy 47 sX0_partBy_47 := dc_n1 aX0_partBy_46
theorem aX0_partBy_48 : dc_at cX0_partBy 48 sX0_partBy_48 := dc_n1 aX0_partBy_47
theorem aX0_partBy_50 : dc_at cX0_partBy 50 sX0_partBy_50 := dc_n2 aX0_partBy_48
theorem aX0_partBy_52 : dc_at cX0_partBy 52 sX0_partBy_52 := dc_n2 aX0_partBy_50
theorem aX0_partBy_53 : dc_at cX0_partBy 53 sX0_partBy_53 := dc_n1 aX0_partBy_52
theorem aX0_partBy_56 : dc_at cX0_partBy 56 sX0_partBy_56 := dc_n3 aX0_partBy_53
theorem aX0_partBy_59 : dc_at cX0_partBy 59 sX0_partBy_59 := dc_n3 aX0_partBy_56
theorem aX0_partBy_60 : dc_at cX0_partBy 60 sX0_partBy_60 := dc_n1 aX0_partBy_59
theorem aX0_partBy_61 : dc_at cX0_partBy 61 sX0_partBy_61 := dc_n1 aX0_partBy_60
theorem aX0_partBy_64 : dc_at cX0_partBy 64 sX0_partBy_64 := dc_n3 aX0_partBy_61
theorem aX0_partBy_66 : dc_at cX0_partBy 66 sX0_partBy_66 := dc_n2 aX0_partBy_64
theorem aX0_partBy_67 : dc_at cX0_partBy 67 sX0_partBy_67 := dc_n1 aX0_partBy_66
theorem aX0_partBy_68 : dc_at cX0_partBy 68 sX0_partBy_68 := dc_n1 aX0_partBy_67
theorem aX0_partBy_71 : dc_at cX0_partBy 71 sX0_partBy_71 := dc_n3 aX0_partBy_68
theorem aX0_partBy_73 : dc_at cX0_partBy 73 sX0_partBy_73 := dc_n2 aX0_partBy_71
theorem aX0_partBy_74 : dc_at cX0_partBy 74 sX0_partBy_74 := dc_n1 aX0_partBy_73
theorem aX0_partBy_76 : dc_at cX0_partBy 76 sX0_partBy_76 := dc_n2 aX0_partBy_74
theorem aX0_partBy_79 : dc_at cX0_partBy 79 sX0_partBy_79 := dc_n3 aX0_partBy_76
theorem aX0_partBy_82 : dc_at cX0_partBy 82 sX0_partBy_82 := dc_n3 aX0_partBy_79
theorem aX0_partBy_85 : dc_at cX0_partBy 85 sX0_partBy_85 := dc_n3 aX0_partBy_82
theorem aX0_partBy_88 : dc_at cX0_partBy 88 sX0_partBy_88 := dc_n3 aX0_partBy_85
theorem aX0_partBy_91 : dc_at cX0_partBy 91 sX0_partBy_91 := dc_n3 aX0_partBy_88
theorem dX0_partBy_0 : decode cX0_partBy 0 = .ok (.iconst 0, 1) := dc_3 aX0_partBy_0
theorem dX0_partBy_1 : decode cX0_partBy 1 = .ok (.istore 4, 2) := dc_54 (a0 := 4) aX0_partBy_1
theorem dX0_partBy_3 : decode cX0_partBy 3 = .ok (.iload 4, 2) := dc_21 (a0 := 4) aX0_partBy_3
theorem dX0_partBy_5 : decode cX0_partBy 5 = .ok (.bipush 120, 2) := dc_16 (a0 := 120) aX0_partBy_5 (by decide)
theorem dX0_partBy_7 : decode cX0_partBy 7 = .ok (.if_icmp .ge 84, 3) := dc_162 (a0 := 0) (b0 := 84) aX0_partBy_7 (by decide)
theorem dX0_partBy_10 : decode cX0_partBy 10 = .ok (.aload_n 0, 1) := dc_42 aX0_partBy_10
theorem dX0_partBy_11 : decode cX0_partBy 11 = .ok (.getfield 9, 3) := dc_180 (a0 := 0) (b0 := 9) aX0_partBy_11
theorem dX0_partBy_14 : decode cX0_partBy 14 = .ok (.iload 4, 2) := dc_21 (a0 := 4) aX0_partBy_14
theorem dX0_partBy_16 : decode cX0_partBy 16 = .ok (.iload 4, 2) := dc_21 (a0 := 4) aX0_partBy_16
theorem dX0_partBy_18 : decode cX0_partBy 18 = .ok (.iastore, 1) := dc_79 aX0_partBy_18
theorem dX0_partBy_19 : decode cX0_partBy 19 = .ok (.iconst 0, 1) := dc_3 aX0_partBy_19
theorem dX0_partBy_20 : decode cX0_partBy 20 = .ok (.istore 5, 2) := dc_54 (a0 := 5) aX0_partBy_20
theorem dX0_partBy_22 : decode cX0_partBy 22 = .ok (.iload 5, 2) := dc_21 (a0 := 5) aX0_partBy_22
theorem dX0_partBy_24 : decode cX0_partBy 24 = .ok (.iload 4, 2) := dc_21 (a0 := 4) aX0_partBy_24
theorem dX0_partBy_26 : decode cX0_partBy 26 = .ok (.if_icmp .ge 59, 3) := dc_162 (a0 := 0) (b0 := 59) aX0_partBy_26 (by decide)
theorem dX0_partBy_29 : decode cX0_partBy 29 = .ok (.aload_n 0, 1) := dc_42 aX0_partBy_29
theorem dX0_partBy_30 : decode cX0_partBy 30 = .ok (.getfield 9, 3) := dc_180 (a0 := 0) (b0 := 9) aX0_partBy_30
theorem dX0_partBy_33 : decode cX0_partBy 33 = .ok (.iload 5, 2) := dc_21 (a0 := 5) aX0_partBy_33
theorem dX0_partBy_35 : decode cX0_partBy 35 = .ok (.iaload, 1) := dc_46 aX0_partBy_35
theorem dX0_partBy_36 : decode cX0_partBy 36 = .ok (.aload_n 0, 1) := dc_42 aX0_partBy_36
theorem dX0_partBy_37 : decode cX0_partBy 37 = .ok (.getfield 9, 3) := dc_180 (a0 := 0) (b0 := 9) aX0_partBy_37
theorem dX0_partBy_40 : decode cX0_partBy 40 = .ok (.iload 4, 2) := dc_21 (a0 := 4) aX0_partBy_40
theorem dX0_partBy_42 : decode cX0_partBy 42 = .ok (.iaload, 1) := dc_46 aX0_partBy_42
theorem dX0_partBy_43 : decode cX0_partBy 43 = .ok (.if_icmp .eq 36, 3) := dc_159 (a0 := 0) (b0 := 36) aX0_partBy_43 (by decide)
theorem dX0_partBy_46 : decode cX0_partBy 46 = .ok (.aload_n 1, 1) := dc_43 aX0_partBy_46
theorem dX0_partBy_47 : decode cX0_partBy 47 = .ok (.aload_n 2, 1) := dc_44 aX0_partBy_47
theorem dX0_partBy_48 : decode cX0_partBy 48 = .ok (.iload 4, 2) := dc_21 (a0 := 4) aX0_partBy_48
theorem dX0_partBy_50 : decode cX0_partBy 50 = .ok (.iload 5, 2) := dc_21 (a0 := 5) aX0_partBy_50
theorem dX0_partBy_52 : decode cX0_partBy 52 = .ok (.iload_n 3, 1) := dc_29 aX0_partBy_52
theorem dX0_partBy_53 : decode cX0_partBy 53 = .ok (.invokestatic 26, 3) := dc_184 (a0 := 0) (b0 := 26) aX0_partBy_53
theorem dX0_partBy_56 : decode cX0_partBy 56 = .ok (.ifCond .eq 23, 3) := dc_153 (a0 := 0) (b0 := 23) aX0_partBy_56 (by decide)
theorem dX0_partBy_59 : decode cX0_partBy 59 = .ok (.aload_n 0, 1) := dc_42 aX0_partBy_59
theorem dX0_partBy_60 : decode cX0_partBy 60 = .ok (.aload_n 0, 1) := dc_42 aX0_partBy_60
theorem dX0_partBy_61 : decode cX0_partBy 61 = .ok (.getfield 9, 3) := dc_180 (a0 := 0) (b0 := 9) aX0_partBy_61
theorem dX0_partBy_64 : decode cX0_partBy 64 = .ok (.iload 4, 2) := dc_21 (a0 := 4) aX0_partBy_64
theorem dX0_partBy_66 : decode cX0_partBy 66 = .ok (.iaload, 1) := dc_46 aX0_partBy_66
theorem dX0_partBy_67 : decode cX0_partBy 67 = .ok (.aload_n 0, 1) := dc_42 aX0_partBy_67
theorem dX0_partBy_68 : decode cX0_partBy 68 = .ok (.getfield 9, 3) := dc_180 (a0 := 0) (b0 := 9) aX0_partBy_68
theorem dX0_partBy_71 : decode cX0_partBy 71 = .ok (.iload 5, 2) := dc_21 (a0 := 5) aX0_partBy_71
theorem dX0_partBy_73 : decode cX0_partBy 73 = .ok (.iaload, 1) := dc_46 aX0_partBy_73
theorem dX0_partBy_74 : decode cX0_partBy 74 = .ok (.iload 4, 2) := dc_21 (a0 := 4) aX0_partBy_74
theorem dX0_partBy_76 : decode cX0_partBy 76 = .ok (.invokevirtual 30, 3) := dc_182 (a0 := 0) (b0 := 30) aX0_partBy_76
theorem dX0_partBy_79 : decode cX0_partBy 79 = .ok (.iinc 5 1, 3) := dc_132 (a0 := 5) (a1 := 1) aX0_partBy_79 (by decide)
theorem dX0_partBy_82 : decode cX0_partBy 82 = .ok (.goto (-60), 3) := dc_167 (a0 := 255) (b0 := 196) aX0_partBy_82 (by decide)
theorem dX0_partBy_85 : decode cX0_partBy 85 = .ok (.iinc 4 1, 3) := dc_132 (a0 := 4) (a1 := 1) aX0_partBy_85 (by decide)
theorem dX0_partBy_88 : decode cX0_partBy 88 = .ok (.goto (-85), 3) := dc_167 (a0 := 255) (b0 := 171) aX0_partBy_88 (by decide)
theorem dX0_partBy_91 : decode cX0_partBy 91 = .ok (.return_, 1) := dc_177 aX0_partBy_91
noncomputable def sX0_join_53 : List Nat := 177 :: []
noncomputable def sX0_join_50 : List Nat := 167 :: 255 :: 216 :: sX0_join_53
noncomputable def sX0_join_47 : List Nat := 132 :: 5 :: 1 :: sX0_join_50
noncomputable def sX0_join_46 : List Nat := 79 :: sX0_join_47
noncomputable def sX0_join_44 : List Nat := 21 :: 4 :: sX0_join_46
noncomputable def sX0_join_42 : List Nat := 21 :: 5 :: sX0_join_44
noncomputable def sX0_join_39 : List Nat := 180 :: 0 :: 9 :: sX0_join_42
noncomputable def sX0_join_38 : List Nat := 42 :: sX0_join_39
noncomputable def sX0_join_35 : List Nat := 160 :: 0 :: 12 :: sX0_join_38
noncomputable def sX0_join_34 : List Nat := 28 :: sX0_join_35
noncomputable def sX0_join_33 : List Nat := 46 :: sX0_join_34
noncomputable def sX0_join_31 : List Nat := 21 :: 5 :: sX0_join_33
noncomputable def sX0_join_28 : List Nat := 180 :: 0 :: 9 :: sX0_join_31
noncomputable def sX0_join_27 : List Nat := 42 :: sX0_join_28
noncomputable def sX0_join_24 : List Nat := 159 :: 0 :: 14 :: sX0_join_27
noncomputable def sX0_join_23 : List Nat := 27 :: sX0_join_24
noncomputable def sX0_join_22 : List Nat := 46 :: sX0_join_23
noncomputable def sX0_join_20 : List Nat := 21 :: 5 :: sX0_join_22
noncomputable def sX0_join_17 : List Nat := 180 :: 0 :: 9 :: sX0_join_20
noncomputable def sX0_join_16 : List Nat := 42 :: sX0_join_17
noncomputable def sX0_join_13 : List Nat := 163 :: 0 :: 40 :: sX0_join_16
noncomputable def sX0_join_12 : List Nat := 29 :: sX0_join_13
noncomputable def sX0_join_10 : List Nat := 21 :: 5 :: sX0_join_12
noncomputable def sX0_join_8 : List Nat := 54 :: 5 :: sX0_join_10
noncomputable def sX0_join_7 : List Nat := 3 :: sX0_join_8
noncomputable def sX0_join_5 : List Nat := 54 :: 4 :: sX0_join_7
noncomputable def sX0_join_2 : List Nat := 184 :: 0 :: 34 :: sX0_join_5
noncomputable def sX0_join_1 : List Nat := 28 :: sX0_join_2
noncomputable def sX0_join_0 : List Nat := 27 :: sX0_join_1
theorem aX0_join_0 : dc_at cX0_join 0 sX0_join_0 := dc_base (by decide +kernel)
theorem aX0_join_1 : dc_at cX0_join 1 sX0_join_1 := dc_n1 aX0_join_0
theorem aX0_join_2 : dc_at cX0_join 2 sX0_join_2 := dc_n1 aX0_join_1
theorem aX0_join_5 : dc_at cX0_join 5 sX0_join_5 := dc_n3 aX0_join_2
theorem aX0_join_7 : dc_at cX0_join 7 sX0_join_7 := dc_n2 aX0_join_5
theorem aX0_join_8 : dc_at cX0_join 8 sX0_join_8 := dc_n1 aX0_join_7
theorem aX0_join_10 : dc_at cX0_join 10 sX0_join_10 := dc_n2 aX0_join_8
theorem aX0_join_12 : dc_at cX0_join 12 sX0_join_12 := dc_n2 aX0_join_10
theorem aX0_join_13 : dc_at cX0_join 13 sX0_join_13 := dc_n1 aX0_join_12
theorem aX0_join_16 : dc_at cX0_join 16 sX0_join_16 := dc_n3 aX0_join_13
theorem aX0_join_17 : dc_at cX0_join 17 sX0_join_17 := dc_n1 aX0_join_16
theorem aX0_join_20 : dc_at cX0_join 20 sX0_join_20 := dc_n3 aX0_join_17
theorem aX0_join_22 : dc_at cX0_join 22 sX0_join_22 := dc_n2 aX0_join_20
theorem aX0_join_23 : dc_at cX0_join 23 sX0_join_23 := dc_n1 aX0_join_22
theorem aX0_join_24 : dc_at cX0_join 24 sX0_join_24 := dc_n1 aX0_join_23
theorem aX0_join_27 : dc_at cX0_join 27 sX0_join_27 := dc_n3 aX0_join_24
theorem aX0_join_28 : dc_at cX0_join 28 sX0_join_28 := dc_n1 aX0_join_27
theorem aX0_join_31 : dc_at cX0_join 31 sX0_join_31 := dc_n3 aX0_join_28
theorem aX0_join_33 : dc_at cX0_join 33 sX0_join_33 := dc_n2 aX0_join_31
theorem aX0_join_34 : dc_at cX0_join 34 sX0_join_34 := dc_n1 aX0_join_33
theorem aX0_join_35 : dc_at cX0_join 35 sX0_join_35 := dc_n1 aX0_join_34
theorem aX0_join_38 : dc_at cX0_join 38 sX0_join_38 := dc_n3 aX0_join_35
theorem aX0_join_39 : dc_at cX0_join 39 sX0_join_39 := dc_n1 aX0_join_38
theorem aX0_join_42 : dc_at cX0_join 42 sX0_join_42 := dc_n3 aX0_join_39
theorem aX0_join_44 : dc_at cX0_join 44 sX0_join_44 := dc_n2 aX0_join_42
theorem aX0_join_46 : dc_at cX0_join 46 sX0_join_46 := dc_n2 aX0_join_44
theorem aX0_join_47 : dc_at cX0_join 47 sX0_join_47 := dc_n1 aX0_join_46
theorem aX0_join_50 : dc_at cX0_join 50 sX0_join_50 := dc_n3 aX0_join_47
theorem aX0_join_53 : dc_at cX0_join 53 sX0_join_53 := dc_n3 aX0_join_50
theorem dX0_join_0 : decode cX0_join 0 = .ok (.iload_n 1, 1) := dc_27 aX0_join_0
theorem dX0_join_1 : decode cX0_join 1 = .ok (.iload_n 2, 1) := dc_28 aX0_join_1
theorem dX0_join_2 : decode cX0_join 2 = .ok (.invokestatic 34, 3) := dc_184 (a0 := 0) (b0 := 34) aX0_join_2
theorem dX0_join_5 : decode cX0_join 5 = .ok (.istore 4, 2) := dc_54 (a0 := 4) aX0_join_5
theorem dX0_join_7 : decode cX0_join 7 = .ok (.iconst 0, 1) := dc_3 aX0_join_7
theorem dX0_join_8 : decode cX0_join 8 = .ok (.istore 5, 2) := dc_54 (a0 := 5) aX0_join_8
theorem dX0_join_10 : decode cX0_join 10 = .ok (.iload 5, 2) := dc_21 (a0 := 5) aX0_join_10
theorem dX0_join_12 : decode cX0_join 12 = .ok (.iload_n 3, 1) := dc_29 aX0_join_12
theorem dX0_join_13 : decode cX0_join 13 = .ok (.if_icmp .gt 40, 3) := dc_163 (a0 := 0) (b0 := 40) aX0_join_13 (by decide)
theorem dX0_join_16 : decode cX0_join 16 = .ok (.aload_n 0, 1) := dc_42 aX0_join_16
theorem dX0_join_17 : decode cX0_join 17 = .ok (.getfield 9, 3) := dc_180 (a0 := 0) (b0 := 9) aX0_join_17
theorem dX0_join_20 : decode cX0_join 20 = .ok (.iload 5, 2) := dc_21 (a0 := 5) aX0_join_20
theorem dX0_join_22 : decode cX0_join 22 = .ok (.iaload, 1) := dc_46 aX0_join_22
theorem dX0_join_23 : decode cX0_join 23 = .ok (.iload_n 1, 1) := dc_27 aX0_join_23
theorem dX0_join_24 : decode cX0_join 24 = .ok (.if_icmp .eq 14, 3) := dc_159 (a0 := 0) (b0 := 14) aX0_join_24 (by decide)
theorem dX0_join_27 : decode cX0_join 27 = .ok (.aload_n 0, 1) := dc_42 aX0_join_27
theorem dX0_join_28 : decode cX0_join 28 = .ok (.getfield 9, 3) := dc_180 (a0 := 0) (b0 := 9) aX0_join_28
theorem dX0_join_31 : decode cX0_join 31 = .ok (.iload 5, 2) := dc_21 (a0 := 5) aX0_join_31
theorem dX0_join_33 : decode cX0_join 33 = .ok (.iaload, 1) := dc_46 aX0_join_33
theorem dX0_join_34 : decode cX0_join 34 = .ok (.iload_n 2, 1) := dc_28 aX0_join_34
theorem dX0_join_35 : decode cX0_join 35 = .ok (.if_icmp .ne 12, 3) := dc_160 (a0 := 0) (b0 := 12) aX0_join_35 (by decide)
theorem dX0_join_38 : decode cX0_join 38 = .ok (.aload_n 0, 1) := dc_42 aX0_join_38
theorem dX0_join_39 : decode cX0_join 39 = .ok (.getfield 9, 3) := dc_180 (a0 := 0) (b0 := 9) aX0_join_39
theorem dX0_join_42 : decode cX0_join 42 = .ok (.iload 5, 2) := dc_21 (a0 := 5) aX0_join_42
theorem dX0_join_44 : decode cX0_join 44 = .ok (.iload 4, 2) := dc_21 (a0 := 4) aX0_join_44
theorem dX0_join_46 : decode cX0_join 46 = .ok (.iastore, 1) := dc_79 aX0_join_46
theorem dX0_join_47 : decode cX0_join 47 = .ok (.iinc 5 1, 3) := dc_132 (a0 := 5) (a1 := 1) aX0_join_47 (by decide)
theorem dX0_join_50 : decode cX0_join 50 = .ok (.goto (-40), 3) := dc_167 (a0 := 255) (b0 := 216) aX0_join_50 (by decide)
theorem dX0_join_53 : decode cX0_join 53 = .ok (.return_, 1) := dc_177 aX0_join_53
noncomputable def sX0_leastOf_6 : List Nat := 172 :: []
noncomputable def sX0_leastOf_5 : List Nat := 46 :: sX0_leastOf_6
noncomputable def sX0_leastOf_4 : List Nat := 27 :: sX0_leastOf_5
noncomputable def sX0_leastOf_1 : List Nat := 180 :: 0 :: 9 :: sX0_leastOf_4
noncomputable def sX0_leastOf_0 : List Nat := 42 :: sX0_leastOf_1
theorem aX0_leastOf_0 : dc_at cX0_leastOf 0 sX0_leastOf_0 := dc_base (by decide +kernel)
theorem aX0_leastOf_1 : dc_at cX0_leastOf 1 sX0_leastOf_1 := dc_n1 aX0_leastOf_0
theorem aX0_leastOf_4 : dc_at cX0_leastOf 4 sX0_leastOf_4 := dc_n3 aX0_leastOf_1
theorem aX0_leastOf_5 : dc_at cX0_leastOf 5 sX0_leastOf_5 := dc_n1 aX0_leastOf_4
theorem aX0_leastOf_6 : dc_at cX0_leastOf 6 sX0_leastOf_6 := dc_n1 aX0_leastOf_5
theorem dX0_leastOf_0 : decode cX0_leastOf 0 = .ok (.aload_n 0, 1) := dc_42 aX0_leastOf_0
theorem dX0_leastOf_1 : decode cX0_leastOf 1 = .ok (.getfield 9, 3) := dc_180 (a0 := 0) (b0 := 9) aX0_leastOf_1
theorem dX0_leastOf_4 : decode cX0_leastOf 4 = .ok (.iload_n 1, 1) := dc_27 aX0_leastOf_4
theorem dX0_leastOf_5 : decode cX0_leastOf 5 = .ok (.iaload, 1) := dc_46 aX0_leastOf_5
theorem dX0_leastOf_6 : decode cX0_leastOf 6 = .ok (.ireturn, 1) := dc_172 aX0_leastOf_6
set_option maxRecDepth 20000 in
theorem ggX0_howManyParts_X1_tellsSomething : GoodIn wsX0_howManyParts wsX1_tellsSomething := goodIn_k _ [[6, 0, 0, 0], [5, 4, 0, 1, 0]] (by rfl) (by decide +kernel)
set_option maxRecDepth 20000 in
theorem gX0_howManyParts_X1_tellsSomething : GoodIn wsX0_howManyParts (wsV RX0 39 RX1 yX1_tellsSomething wsX1_tellsSomething) := goodIn_app (goodIn_of _ (by decide +kernel)) ggX0_howManyParts_X1_tellsSomething
noncomputable def sX0_howManyParts_38 : List Nat := 172 :: []
noncomputable def sX0_howManyParts_37 : List Nat := 28 :: sX0_howManyParts_38
noncomputable def sX0_howManyParts_34 : List Nat := 167 :: 255 :: 226 :: sX0_howManyParts_37
noncomputable def sX0_howManyParts_31 : List Nat := 132 :: 3 :: 1 :: sX0_howManyParts_34
noncomputable def sX0_howManyParts_28 : List Nat := 132 :: 2 :: 1 :: sX0_howManyParts_31
noncomputable def sX0_howManyParts_25 : List Nat := 153 :: 0 :: 6 :: sX0_howManyParts_28
noncomputable def sX0_howManyParts_22 : List Nat := 182 :: 0 :: 39 :: sX0_howManyParts_25
noncomputable def sX0_howManyParts_21 : List Nat := 29 :: sX0_howManyParts_22
noncomputable def sX0_howManyParts_20 : List Nat := 43 :: sX0_howManyParts_21
noncomputable def sX0_howManyParts_17 : List Nat := 160 :: 0 :: 14 :: sX0_howManyParts_20
noncomputable def sX0_howManyParts_16 : List Nat := 29 :: sX0_howManyParts_17
noncomputable def sX0_howManyParts_15 : List Nat := 46 :: sX0_howManyParts_16
noncomputable def sX0_howManyParts_14 : List Nat := 29 :: sX0_howManyParts_15
noncomputable def sX0_howManyParts_11 : List Nat := 180 :: 0 :: 9 :: sX0_howManyParts_14
noncomputable def sX0_howManyParts_10 : List Nat := 42 :: sX0_howManyParts_11
noncomputable def sX0_howManyParts_7 : List Nat := 162 :: 0 :: 30 :: sX0_howManyParts_10
noncomputable def sX0_howManyParts_5 : List Nat := 16 :: 120 :: sX0_howManyParts_7
noncomputable def sX0_howManyParts_4 : List Nat := 29 :: sX0_howManyParts_5
noncomputable def sX0_howManyParts_3 : List Nat := 62 :: sX0_howManyParts_4
noncomputable def sX0_howManyParts_2 : List Nat := 3 :: sX0_howManyParts_3
noncomputable def sX0_howManyParts_1 : List Nat := 61 :: sX0_howManyParts_2
noncomputable def sX0_howManyParts_0 : List Nat := 3 :: sX0_howManyParts_1
theorem aX0_howManyParts_0 : dc_at cX0_howManyParts 0 sX0_howManyParts_0 := dc_base (by decide +kernel)
theorem aX0_howManyParts_1 : dc_at cX0_howManyParts 1 sX0_howManyParts_1 := dc_n1 aX0_howManyParts_0
theorem aX0_howManyParts_2 : dc_at cX0_howManyParts 2 sX0_howManyParts_2 := dc_n1 aX0_howManyParts_1
theorem aX0_howManyParts_3 : dc_at cX0_howManyParts 3 sX0_howManyParts_3 := dc_n1 aX0_howManyParts_2
theorem aX0_howManyParts_4 : dc_at cX0_howManyParts 4 sX0_howManyParts_4 := dc_n1 aX0_howManyParts_3
theorem aX0_howManyParts_5 : dc_at cX0_howManyParts 5 sX0_howManyParts_5 := dc_n1 aX0_howManyParts_4
theorem aX0_howManyParts_7 : dc_at cX0_howManyParts 7 sX0_howManyParts_7 := dc_n2 aX0_howManyParts_5
theorem aX0_howManyParts_10 : dc_at cX0_howManyParts 10 sX0_howManyParts_10 := dc_n3 aX0_howManyParts_7
theorem aX0_howManyParts_11 : dc_at cX0_howManyParts 11 sX0_howManyParts_11 := dc_n1 aX0_howManyParts_10
theorem aX0_howManyParts_14 : dc_at cX0_howManyParts 14 sX0_howManyParts_14 := dc_n3 aX0_howManyParts_11
theorem aX0_howManyParts_15 : dc_at cX0_howManyParts 15 sX0_howManyParts_15 := dc_n1 aX0_howManyParts_14
theorem aX0_howManyParts_16 : dc_at cX0_howManyParts 16 sX0_howManyParts_16 := dc_n1 aX0_howManyParts_15
theorem aX0_howManyParts_17 : dc_at cX0_howManyParts 17 sX0_howManyParts_17 := dc_n1 aX0_howManyParts_16
theorem aX0_howManyParts_20 : dc_at cX0_howManyParts 20 sX0_howManyParts_20 := dc_n3 aX0_howManyParts_17
theorem aX0_howManyParts_21 : dc_at cX0_howManyParts 21 sX0_howManyParts_21 := dc_n1 aX0_howManyParts_20
theorem aX0_howManyParts_22 : dc_at cX0_howManyParts 22 sX0_howManyParts_22 := dc_n1 aX0_howManyParts_21
theorem aX0_howManyParts_25 : dc_at cX0_howManyParts 25 sX0_howManyParts_25 := dc_n3 aX0_howManyParts_22
theorem aX0_howManyParts_28 : dc_at cX0_howManyParts 28 sX0_howManyParts_28 := dc_n3 aX0_howManyParts_25
theorem aX0_howManyParts_31 : dc_at cX0_howManyParts 31 sX0_howManyParts_31 := dc_n3 aX0_howManyParts_28
theorem aX0_howManyParts_34 : dc_at cX0_howManyParts 34 sX0_howManyParts_34 := dc_n3 aX0_howManyParts_31
theorem aX0_howManyParts_37 : dc_at cX0_howManyParts 37 sX0_howManyParts_37 := dc_n3 aX0_howManyParts_34
theorem aX0_howManyParts_38 : dc_at cX0_howManyParts 38 sX0_howManyParts_38 := dc_n1 aX0_howManyParts_37
theorem dX0_howManyParts_0 : decode cX0_howManyParts 0 = .ok (.iconst 0, 1) := dc_3 aX0_howManyParts_0
theorem dX0_howManyParts_1 : decode cX0_howManyParts 1 = .ok (.istore_n 2, 1) := dc_61 aX0_howManyParts_1
theorem dX0_howManyParts_2 : decode cX0_howManyParts 2 = .ok (.iconst 0, 1) := dc_3 aX0_howManyParts_2
theorem dX0_howManyParts_3 : decode cX0_howManyParts 3 = .ok (.istore_n 3, 1) := dc_62 aX0_howManyParts_3
theorem dX0_howManyParts_4 : decode cX0_howManyParts 4 = .ok (.iload_n 3, 1) := dc_29 aX0_howManyParts_4
theorem dX0_howManyParts_5 : decode cX0_howManyParts 5 = .ok (.bipush 120, 2) := dc_16 (a0 := 120) aX0_howManyParts_5 (by decide)
theorem dX0_howManyParts_7 : decode cX0_howManyParts 7 = .ok (.if_icmp .ge 30, 3) := dc_162 (a0 := 0) (b0 := 30) aX0_howManyParts_7 (by decide)
theorem dX0_howManyParts_10 : decode cX0_howManyParts 10 = .ok (.aload_n 0, 1) := dc_42 aX0_howManyParts_10
theorem dX0_howManyParts_11 : decode cX0_howManyParts 11 = .ok (.getfield 9, 3) := dc_180 (a0 := 0) (b0 := 9) aX0_howManyParts_11
theorem dX0_howManyParts_14 : decode cX0_howManyParts 14 = .ok (.iload_n 3, 1) := dc_29 aX0_howManyParts_14
theorem dX0_howManyParts_15 : decode cX0_howManyParts 15 = .ok (.iaload, 1) := dc_46 aX0_howManyParts_15
theorem dX0_howManyParts_16 : decode cX0_howManyParts 16 = .ok (.iload_n 3, 1) := dc_29 aX0_howManyParts_16
theorem dX0_howManyParts_17 : decode cX0_howManyParts 17 = .ok (.if_icmp .ne 14, 3) := dc_160 (a0 := 0) (b0 := 14) aX0_howManyParts_17 (by decide)
theorem dX0_howManyParts_20 : decode cX0_howManyParts 20 = .ok (.aload_n 1, 1) := dc_43 aX0_howManyParts_20
theorem dX0_howManyParts_21 : decode cX0_howManyParts 21 = .ok (.iload_n 3, 1) := dc_29 aX0_howManyParts_21
theorem dX0_howManyParts_22 : decode cX0_howManyParts 22 = .ok (.invokevirtual 39, 3) := dc_182 (a0 := 0) (b0 := 39) aX0_howManyParts_22
theorem dX0_howManyParts_25 : decode cX0_howManyParts 25 = .ok (.ifCond .eq 6, 3) := dc_153 (a0 := 0) (b0 := 6) aX0_howManyParts_25 (by decide)
theorem dX0_howManyParts_28 : decode cX0_howManyParts 28 = .ok (.iinc 2 1, 3) := dc_132 (a0 := 2) (a1 := 1) aX0_howManyParts_28 (by decide)
theorem dX0_howManyParts_31 : decode cX0_howManyParts 31 = .ok (.iinc 3 1, 3) := dc_132 (a0 := 3) (a1 := 1) aX0_howManyParts_31 (by decide)
theorem dX0_howManyParts_34 : decode cX0_howManyParts 34 = .ok (.goto (-30), 3) := dc_167 (a0 := 255) (b0 := 226) aX0_howManyParts_34 (by decide)
theorem dX0_howManyParts_37 : decode cX0_howManyParts 37 = .ok (.iload_n 2, 1) := dc_28 aX0_howManyParts_37
theorem dX0_howManyParts_38 : decode cX0_howManyParts 38 = .ok (.ireturn, 1) := dc_172 aX0_howManyParts_38
set_option maxRecDepth 20000 in
theorem ggX1_init_J7_fill_53178 : GoodIn wsX1_init wsJ7_fill_53178 := goodIn_k _ [[10]] (by rfl) (by decide +kernel)
set_option maxRecDepth 20000 in
theorem gX1_init_J7_fill_53178 : GoodIn wsX1_init (va_wsS RX1 18 yJ7_fill_53178 wsJ7_fill_53178) := goodIn_app (goodIn_of _ (by decide +kernel)) ggX1_init_J7_fill_53178
noncomputable def sX1_init_29 : List Nat := 177 :: []
noncomputable def sX1_init_26 : List Nat := 184 :: 0 :: 18 :: sX1_init_29
noncomputable def sX1_init_25 : List Nat := 2 :: sX1_init_26
noncomputable def sX1_init_22 : List Nat := 180 :: 0 :: 9 :: sX1_init_25
noncomputable def sX1_init_21 : List Nat := 42 :: sX1_init_22
noncomputable def sX1_init_18 : List Nat := 181 :: 0 :: 15 :: sX1_init_21
noncomputable def sX1_init_16 : List Nat := 188 :: 10 :: sX1_init_18
noncomputable def sX1_init_14 : List Nat := 16 :: 22 :: sX1_init_16
noncomputable def sX1_init_13 : List Nat := 42 :: sX1_init_14
noncomputable def sX1_init_10 : List Nat := 181 :: 0 :: 9 :: sX1_init_13
noncomputable def sX1_init_8 : List Nat := 188 :: 10 :: sX1_init_10
noncomputable def sX1_init_5 : List Nat := 17 :: 10 :: 80 :: sX1_init_8
noncomputable def sX1_init_4 : List Nat := 42 :: sX1_init_5
noncomputable def sX1_init_1 : List Nat := 183 :: 0 :: 3 :: sX1_init_4
noncomputable def sX1_init_0 : List Nat := 42 :: sX1_init_1
theorem aX1_init_0 : dc_at cX1_init 0 sX1_init_0 := dc_base (by decide +kernel)
theorem aX1_init_1 : dc_at cX1_init 1 sX1_init_1 := dc_n1 aX1_init_0
theorem aX1_init_4 : dc_at cX1_init 4 sX1_init_4 := dc_n3 aX1_init_1
theorem aX1_init_5 : dc_at cX1_init 5 sX1_init_5 := dc_n1 aX1_init_4
theorem aX1_init_8 : dc_at cX1_init 8 sX1_init_8 := dc_n3 aX1_init_5
theorem aX1_init_10 : dc_at cX1_init 10 sX1_init_10 := dc_n2 aX1_init_8
theorem aX1_init_13 : dc_at cX1_init 13 sX1_init_13 := dc_n3 aX1_init_10
theorem aX1_init_14 : dc_at cX1_init 14 sX1_init_14 := dc_n1 aX1_init_13
theorem aX1_init_16 : dc_at cX1_init 16 sX1_init_16 := dc_n2 aX1_init_14
theorem aX1_init_18 : dc_at cX1_init 18 sX1_init_18 := dc_n2 aX1_init_16
theorem aX1_init_21 : dc_at cX1_init 21 sX1_init_21 := dc_n3 aX1_init_18
theorem aX1_init_22 : dc_at cX1_init 22 sX1_init_22 := dc_n1 aX1_init_21
theorem aX1_init_25 : dc_at cX1_init 25 sX1_init_25 := dc_n3 aX1_init_22
theorem aX1_init_26 : dc_at cX1_init 26 sX1_init_26 := dc_n1 aX1_init_25
theorem aX1_init_29 : dc_at cX1_init 29 sX1_init_29 := dc_n3 aX1_init_26
theorem dX1_init_0 : decode cX1_init 0 = .ok (.aload_n 0, 1) := dc_42 aX1_init_0
theorem dX1_init_1 : decode cX1_init 1 = .ok (.invokespecial 3, 3) := dc_183 (a0 := 0) (b0 := 3) aX1_init_1
theorem dX1_init_4 : decode cX1_init 4 = .ok (.aload_n 0, 1) := dc_42 aX1_init_4
theorem dX1_init_5 : decode cX1_init 5 = .ok (.sipush 2640, 3) := dc_17 (a0 := 10) (b0 := 80) aX1_init_5 (by decide)
theorem dX1_init_8 : decode cX1_init 8 = .ok (.newarray .int, 2) := dc_188_10 aX1_init_8
theorem dX1_init_10 : decode cX1_init 10 = .ok (.putfield 9, 3) := dc_181 (a0 := 0) (b0 := 9) aX1_init_10
theorem dX1_init_13 : decode cX1_init 13 = .ok (.aload_n 0, 1) := dc_42 aX1_init_13
theorem dX1_init_14 : decode cX1_init 14 = .ok (.bipush 22, 2) := dc_16 (a0 := 22) aX1_init_14 (by decide)
theorem dX1_init_16 : decode cX1_init 16 = .ok (.newarray .int, 2) := dc_188_10 aX1_init_16
theorem dX1_init_18 : decode cX1_init 18 = .ok (.putfield 15, 3) := dc_181 (a0 := 0) (b0 := 15) aX1_init_18
theorem dX1_init_21 : decode cX1_init 21 = .ok (.aload_n 0, 1) := dc_42 aX1_init_21
theorem dX1_init_22 : decode cX1_init 22 = .ok (.getfield 9, 3) := dc_180 (a0 := 0) (b0 := 9) aX1_init_22
theorem dX1_init_25 : decode cX1_init 25 = .ok (.iconst (-1), 1) := dc_2 aX1_init_25
theorem dX1_init_26 : decode cX1_init 26 = .ok (.invokestatic 18, 3) := dc_184 (a0 := 0) (b0 := 18) aX1_init_26
theorem dX1_init_29 : decode cX1_init 29 = .ok (.return_, 1) := dc_177 aX1_init_29
noncomputable def sX1_degreeOf_11 : List Nat := 172 :: []
noncomputable def sX1_degreeOf_10 : List Nat := 46 :: sX1_degreeOf_11
noncomputable def sX1_degreeOf_9 : List Nat := 96 :: sX1_degreeOf_10
noncomputable def sX1_degreeOf_8 : List Nat := 28 :: sX1_degreeOf_9
noncomputable def sX1_degreeOf_7 : List Nat := 104 :: sX1_degreeOf_8
noncomputable def sX1_degreeOf_6 : List Nat := 27 :: sX1_degreeOf_7
noncomputable def sX1_degreeOf_4 : List Nat := 16 :: 22 :: sX1_degreeOf_6
noncomputable def sX1_degreeOf_1 : List Nat := 180 :: 0 :: 9 :: sX1_degreeOf_4
noncomputable def sX1_degreeOf_0 : List Nat := 42 :: sX1_degreeOf_1
theorem aX1_degreeOf_0 : dc_at cX1_degreeOf 0 sX1_degreeOf_0 := dc_base (by decide +kernel)
theorem aX1_degreeOf_1 : dc_at cX1_degreeOf 1 sX1_degreeOf_1 := dc_n1 aX1_degreeOf_0
theorem aX1_degreeOf_4 : dc_at cX1_degreeOf 4 sX1_degreeOf_4 := dc_n3 aX1_degreeOf_1
theorem aX1_degreeOf_6 : dc_at cX1_degreeOf 6 sX1_degreeOf_6 := dc_n2 aX1_degreeOf_4
theorem aX1_degreeOf_7 : dc_at cX1_degreeOf 7 sX1_degreeOf_7 := dc_n1 aX1_degreeOf_6
theorem aX1_degreeOf_8 : dc_at cX1_degreeOf 8 sX1_degreeOf_8 := dc_n1 aX1_degreeOf_7
theorem aX1_degreeOf_9 : dc_at cX1_degreeOf 9 sX1_degreeOf_9 := dc_n1 aX1_degreeOf_8
theorem aX1_degreeOf_10 : dc_at cX1_degreeOf 10 sX1_degreeOf_10 := dc_n1 aX1_degreeOf_9
theorem aX1_degreeOf_11 : dc_at cX1_degreeOf 11 sX1_degreeOf_11 := dc_n1 aX1_degreeOf_10
theorem dX1_degreeOf_0 : decode cX1_degreeOf 0 = .ok (.aload_n 0, 1) := dc_42 aX1_degreeOf_0
theorem dX1_degreeOf_1 : decode cX1_degreeOf 1 = .ok (.getfield 9, 3) := dc_180 (a0 := 0) (b0 := 9) aX1_degreeOf_1
theorem dX1_degreeOf_4 : decode cX1_degreeOf 4 = .ok (.bipush 22, 2) := dc_16 (a0 := 22) aX1_degreeOf_4 (by decide)
theorem dX1_degreeOf_6 : decode cX1_degreeOf 6 = .ok (.iload_n 1, 1) := dc_27 aX1_degreeOf_6
theorem dX1_degreeOf_7 : decode cX1_degreeOf 7 = .ok (.imul, 1) := dc_104 aX1_degreeOf_7
theorem dX1_degreeOf_8 : decode cX1_degreeOf 8 = .ok (.iload_n 2, 1) := dc_28 aX1_degreeOf_8
theorem dX1_degreeOf_9 : decode cX1_degreeOf 9 = .ok (.iadd, 1) := dc_96 aX1_degreeOf_9
theorem dX1_degreeOf_10 : decode cX1_degreeOf 10 = .ok (.iaload, 1) := dc_46 aX1_degreeOf_10
theorem dX1_degreeOf_11 : decode cX1_degreeOf 11 = .ok (.ireturn, 1) := dc_172 aX1_degreeOf_11
noncomputable def sX1_keepDraft_18 : List Nat := 177 :: []
noncomputable def sX1_keepDraft_15 : List Nat := 184 :: 0 :: 24 :: sX1_keepDraft_18
noncomputable def sX1_keepDraft_13 : List Nat := 16 :: 22 :: sX1_keepDraft_15
noncomputable def sX1_keepDraft_12 : List Nat := 104 :: sX1_keepDraft_13
noncomputable def sX1_keepDraft_11 : List Nat := 27 :: sX1_keepDraft_12
noncomputable def sX1_keepDraft_9 : List Nat := 16 :: 22 :: sX1_keepDraft_11
noncomputable def sX1_keepDraft_6 : List Nat := 180 :: 0 :: 9 :: sX1_keepDraft_9
noncomputable def sX1_keepDraft_5 : List Nat := 42 :: sX1_keepDraft_6
noncomputable def sX1_keepDraft_4 : List Nat := 3 :: sX1_keepDraft_5
noncomputable def sX1_keepDraft_1 : List Nat := 180 :: 0 :: 15 :: sX1_keepDraft_4
noncomputable def sX1_keepDraft_0 : List Nat := 42 :: sX1_keepDraft_1
theorem aX1_keepDraft_0 : dc_at cX1_keepDraft 0 sX1_keepDraft_0 := dc_base (by decide +kernel)
theorem aX1_keepDraft_1 : dc_at cX1_keepDraft 1 sX1_keepDraft_1 := dc_n1 aX1_keepDraft_0
theorem aX1_keepDraft_4 : dc_at cX1_keepDraft 4 sX1_keepDraft_4 := dc_n3 aX1_keepDraft_1
theorem aX1_keepDraft_5 : dc_at cX1_keepDraft 5 sX1_keepDraft_5 := dc_n1 aX1_keepDraft_4
theorem aX1_keepDraft_6 : dc_at cX1_keepDraft 6 sX1_keepDraft_6 := dc_n1 aX1_keepDraft_5
theorem aX1_keepDraft_9 : dc_at cX1_keepDraft 9 sX1_keepDraft_9 := dc_n3 aX1_keepDraft_6
theorem aX1_keepDraft_11 : dc_at cX1_keepDraft 11 sX1_keepDraft_11 := dc_n2 aX1_keepDraft_9
theorem aX1_keepDraft_12 : dc_at cX1_keepDraft 12 sX1_keepDraft_12 := dc_n1 aX1_keepDraft_11
theorem aX1_keepDraft_13 : dc_at cX1_keepDraft 13 sX1_keepDraft_13 := dc_n1 aX1_keepDraft_12
theorem aX1_keepDraft_15 : dc_at cX1_keepDraft 15 sX1_keepDraft_15 := dc_n2 aX1_keepDraft_13
theorem aX1_keepDraft_18 : dc_at cX1_keepDraft 18 sX1_keepDraft_18 := dc_n3 aX1_keepDraft_15
theorem dX1_keepDraft_0 : decode cX1_keepDraft 0 = .ok (.aload_n 0, 1) := dc_42 aX1_keepDraft_0
theorem dX1_keepDraft_1 : decode cX1_keepDraft 1 = .ok (.getfield 15, 3) := dc_180 (a0 := 0) (b0 := 15) aX1_keepDraft_1
theorem dX1_keepDraft_4 : decode cX1_keepDraft 4 = .ok (.iconst 0, 1) := dc_3 aX1_keepDraft_4
theorem dX1_keepDraft_5 : decode cX1_keepDraft 5 = .ok (.aload_n 0, 1) := dc_42 aX1_keepDraft_5
theorem dX1_keepDraft_6 : decode cX1_keepDraft 6 = .ok (.getfield 9, 3) := dc_180 (a0 := 0) (b0 := 9) aX1_keepDraft_6
theorem dX1_keepDraft_9 : decode cX1_keepDraft 9 = .ok (.bipush 22, 2) := dc_16 (a0 := 22) aX1_keepDraft_9 (by decide)
theorem dX1_keepDraft_11 : decode cX1_keepDraft 11 = .ok (.iload_n 1, 1) := dc_27 aX1_keepDraft_11
theorem dX1_keepDraft_12 : decode cX1_keepDraft 12 = .ok (.imul, 1) := dc_104 aX1_keepDraft_12
theorem dX1_keepDraft_13 : decode cX1_keepDraft 13 = .ok (.bipush 22, 2) := dc_16 (a0 := 22) aX1_keepDraft_13 (by decide)
theorem dX1_keepDraft_15 : decode cX1_keepDraft 15 = .ok (.invokestatic 24, 3) := dc_184 (a0 := 0) (b0 := 24) aX1_keepDraft_15
theorem dX1_keepDraft_18 : decode cX1_keepDraft 18 = .ok (.return_, 1) := dc_177 aX1_keepDraft_18
set_option maxRecDepth 20000 in
theorem ggX1_readEntries_J7_fill_53178 : GoodIn wsX1_readEntries wsJ7_fill_53178 := goodIn_k _ [[5]] (by rfl) (by decide +kernel)
set_option maxRecDepth 20000 in
theorem gX1_readEntries_J7_fill_53178 : GoodIn wsX1_readEntries (va_wsS RX1 18 yJ7_fill_53178 wsJ7_fill_53178) := goodIn_app (goodIn_of _ (by decide +kernel)) ggX1_readEntries_J7_fill_53178
set_option maxRecDepth 20000 in
theorem ggX1_readEntries_X9_isAtEnd : GoodIn wsX1_readEntries wsX9_isAtEnd := goodIn_k _ [[10, 0, 121, 0, 0, 0, 0, 0, 0, 0, 0, 0]] (by rfl) (by decide +kernel)
set_option maxRecDepth 20000 in
theorem gX1_readEntries_X9_isAtEnd : GoodIn wsX1_readEntries (wsV RX1 32 RX9 yX9_isAtEnd wsX9_isAtEnd) := goodIn_app (goodIn_of _ (by decide +kernel)) ggX1_readEntries_X9_isAtEnd
set_option maxRecDepth 20000 in
theorem ggX1_readEntries_X1_readEntry : GoodIn wsX1_readEntries wsX1_readEntry := goodIn_k _ [[16, 0, 0, 0, 0], [9, 11], [11, 10, 0, 0, 0, 0, 0, 0, 0, 0, 0, 0, 0, 0, 0, 0, 0, 0, 0, 0, 0, 0, 0, 0, 0, 0, 0, 0, 0, 0, 0, 0, 0, 0, 0, 0, 0, 0, 0, 0, 0, 0, 0, 0, 0, 0, 0, 0, 0, 0, 0, 0, 0, 0, 0, 0, 0, 0, 0, 0, 0, 0, 0, 0, 0, 0, 0, 0, 0, 0, 0, 0, 0, 0, 0, 0, 0, 0, 0, 0, 0, 0], [15, 87], [1, 102, 0, 0, 0, 0, 0, 0, 0, 0, 0, 0, 0, 0, 0, 0, 0, 0, 0, 0, 0, 0, 0, 0, 0, 0, 0, 0, 2, 0, 0, 0, 0, 0, 0, 0, 0, 0], [131, 0]] (by rfl) (by decide +kernel)
set_option maxRecDepth 20000 in
theorem gX1_readEntries_X1_readEntry : GoodIn wsX1_readEntries (wsV RX1 36 RX1 yX1_readEntry wsX1_readEntry) := goodIn_app (goodIn_of _ (by decide +kernel)) ggX1_readEntries_X1_readEntry
noncomputable def sX1_readEntries_41 : List Nat := 172 :: []
noncomputable def sX1_readEntries_40 : List Nat := 4 :: sX1_readEntries_41
noncomputable def sX1_readEntries_37 : List Nat := 167 :: 255 :: 229 :: sX1_readEntries_40
noncomputable def sX1_readEntries_34 : List Nat := 132 :: 2 :: 1 :: sX1_readEntries_37
noncomputable def sX1_readEntries_33 : List Nat := 172 :: sX1_readEntries_34
noncomputable def sX1_readEntries_32 : List Nat := 3 :: sX1_readEntries_33
noncomputable def sX1_readEntries_29 : List Nat := 154 :: 0 :: 5 :: sX1_readEntries_32
noncomputable def sX1_readEntries_26 : List Nat := 182 :: 0 :: 36 :: sX1_readEntries_29
noncomputable def sX1_readEntries_25 : List Nat := 43 :: sX1_readEntries_26
noncomputable def sX1_readEntries_24 : List Nat := 42 :: sX1_readEntries_25
noncomputable def sX1_readEntries_21 : List Nat := 154 :: 0 :: 19 :: sX1_readEntries_24
noncomputable def sX1_readEntries_18 : List Nat := 182 :: 0 :: 32 :: sX1_readEntries_21
noncomputable def sX1_readEntries_17 : List Nat := 43 :: sX1_readEntries_18
noncomputable def sX1_readEntries_14 : List Nat := 162 :: 0 :: 26 :: sX1_readEntries_17
noncomputable def sX1_readEntries_11 : List Nat := 17 :: 2 :: 88 :: sX1_readEntries_14
noncomputable def sX1_readEntries_10 : List Nat := 28 :: sX1_readEntries_11
noncomputable def sX1_readEntries_9 : List Nat := 61 :: sX1_readEntries_10
noncomputable def sX1_readEntries_8 : List Nat := 3 :: sX1_readEntries_9
noncomputable def sX1_readEntries_5 : List Nat := 184 :: 0 :: 18 :: sX1_readEntries_8
noncomputable def sX1_readEntries_4 : List Nat := 2 :: sX1_readEntries_5
noncomputable def sX1_readEntries_1 : List Nat := 180 :: 0 :: 15 :: sX1_readEntries_4
noncomputable def sX1_readEntries_0 : List Nat := 42 :: sX1_readEntries_1
theorem aX1_readEntries_0 : dc_at cX1_readEntries 0 sX1_readEntries_0 := dc_base (by decide +kernel)
theorem aX1_readEntries_1 : dc_at cX1_readEntries 1 sX1_readEntries_1 := dc_n1 aX1_readEntries_0
theorem aX1_readEntries_4 : dc_at cX1_readEntries 4 sX1_readEntries_4 := dc_n3 aX1_readEntries_1
theorem aX1_readEntries_5 : dc_at cX1_readEntries 5 sX1_readEntries_5 := dc_n1 aX1_readEntries_4
theorem aX1_readEntries_8 : dc_at cX1_readEntries 8 sX1_readEntries_8 := dc_n3 aX1_readEntries_5
theorem aX1_readEntries_9 : dc_at cX1_readEntries 9 sX1_readEntries_9 := dc_n1 aX1_readEntries_8
theorem aX1_readEntries_10 : dc_at cX1_readEntries 10 sX1_readEntries_10 := dc_n1 aX1_readEntries_9
theorem aX1_readEntries_11 : dc_at cX1_readEntries 11 sX1_readEntries_11 := dc_n1 aX1_readEntries_10
theorem aX1_readEntries_14 : dc_at cX1_readEntries 14 sX1_readEntries_14 := dc_n3 aX1_readEntries_11
theorem aX1_readEntries_17 : dc_at cX1_readEntries 17 sX1_readEntries_17 := dc_n3 aX1_readEntries_14
theorem aX1_readEntries_18 : dc_at cX1_readEntries 18 sX1_readEntries_18 := dc_n1 aX1_readEntries_17
theorem aX1_readEntries_21 : dc_at cX1_readEntries 21 sX1_readEntries_21 := dc_n3 aX1_readEntries_18
theorem aX1_readEntries_24 : dc_at cX1_readEntries 24 sX1_readEntries_24 := dc_n3 aX1_readEntries_21
theorem aX1_readEntries_25 : dc_at cX1_readEntries 25 sX1_readEntries_25 := dc_n1 aX1_readEntries_24
theorem aX1_readEntries_26 : dc_at cX1_readEntries 26 sX1_readEntries_26 := dc_n1 aX1_readEntries_25
theorem aX1_readEntries_29 : dc_at cX1_readEntries 29 sX1_readEntries_29 := dc_n3 aX1_readEntries_26
theorem aX1_readEntries_32 : dc_at cX1_readEntries 32 sX1_readEntries_32 := dc_n3 aX1_readEntries_29
theorem aX1_readEntries_33 : dc_at cX1_readEntries 33 sX1_readEntries_33 := dc_n1 aX1_readEntries_32
theorem aX1_readEntries_34 : dc_at cX1_readEntries 34 sX1_readEntries_34 := dc_n1 aX1_readEntries_33
theorem aX1_readEntries_37 : dc_at cX1_readEntries 37 sX1_readEntries_37 := dc_n3 aX1_readEntries_34
theorem aX1_readEntries_40 : dc_at cX1_readEntries 40 sX1_readEntries_40 := dc_n3 aX1_readEntries_37
theorem aX1_readEntries_41 : dc_at cX1_readEntries 41 sX1_readEntries_41 := dc_n1 aX1_readEntries_40
theorem dX1_readEntries_0 : decode cX1_readEntries 0 = .ok (.aload_n 0, 1) := dc_42 aX1_readEntries_0
theorem dX1_readEntries_1 : decode cX1_readEntries 1 = .ok (.getfield 15, 3) := dc_180 (a0 := 0) (b0 := 15) aX1_readEntries_1
theorem dX1_readEntries_4 : decode cX1_readEntries 4 = .ok (.iconst (-1), 1) := dc_2 aX1_readEntries_4
theorem dX1_readEntries_5 : decode cX1_readEntries 5 = .ok (.invokestatic 18, 3) := dc_184 (a0 := 0) (b0 := 18) aX1_readEntries_5
theorem dX1_readEntries_8 : decode cX1_readEntries 8 = .ok (.iconst 0, 1) := dc_3 aX1_readEntries_8
theorem dX1_readEntries_9 : decode cX1_readEntries 9 = .ok (.istore_n 2, 1) := dc_61 aX1_readEntries_9
theorem dX1_readEntries_10 : decode cX1_readEntries 10 = .ok (.iload_n 2, 1) := dc_28 aX1_readEntries_10
theorem dX1_readEntries_11 : decode cX1_readEntries 11 = .ok (.sipush 600, 3) := dc_17 (a0 := 2) (b0 := 88) aX1_readEntries_11 (by decide)
theorem dX1_readEntries_14 : decode cX1_readEntries 14 = .ok (.if_icmp .ge 26, 3) := dc_162 (a0 := 0) (b0 := 26) aX1_readEntries_14 (by decide)
theorem dX1_readEntries_17 : decode cX1_readEntries 17 = .ok (.aload_n 1, 1) := dc_43 aX1_readEntries_17
theorem dX1_readEntries_18 : decode cX1_readEntries 18 = .ok (.invokevirtual 32, 3) := dc_182 (a0 := 0) (b0 := 32) aX1_readEntries_18
theorem dX1_readEntries_21 : decode cX1_readEntries 21 = .ok (.ifCond .ne 19, 3) := dc_154 (a0 := 0) (b0 := 19) aX1_readEntries_21 (by decide)
theorem dX1_readEntries_24 : decode cX1_readEntries 24 = .ok (.aload_n 0, 1) := dc_42 aX1_readEntries_24
theorem dX1_readEntries_25 : decode cX1_readEntries 25 = .ok (.aload_n 1, 1) := dc_43 aX1_readEntries_25
theorem dX1_readEntries_26 : decode cX1_readEntries 26 = .ok (.invokevirtual 36, 3) := dc_182 (a0 := 0) (b0 := 36) aX1_readEntries_26
theorem dX1_readEntries_29 : decode cX1_readEntries 29 = .ok (.ifCond .ne 5, 3) := dc_154 (a0 := 0) (b0 := 5) aX1_readEntries_29 (by decide)
theorem dX1_readEntries_32 : decode cX1_readEntries 32 = .ok (.iconst 0, 1) := dc_3 aX1_readEntries_32
theorem dX1_readEntries_33 : decode cX1_readEntries 33 = .ok (.ireturn, 1) := dc_172 aX1_readEntries_33
theorem dX1_readEntries_34 : decode cX1_readEntries 34 = .ok (.iinc 2 1, 3) := dc_132 (a0 := 2) (a1 := 1) aX1_readEntries_34 (by decide)
theorem dX1_readEntries_37 : decode cX1_readEntries 37 = .ok (.goto (-27), 3) := dc_167 (a0 := 255) (b0 := 229) aX1_readEntries_37 (by decide)
theorem dX1_readEntries_40 : decode cX1_readEntries 40 = .ok (.iconst 1, 1) := dc_4 aX1_readEntries_40
theorem dX1_readEntries_41 : decode cX1_readEntries 41 = .ok (.ireturn, 1) := dc_172 aX1_readEntries_41
set_option maxRecDepth 20000 in
theorem ggX1_readEntry_X9_isWord : GoodIn wsX1_readEntry wsX9_isWord := goodIn_k _ [[6, 0, 0, 0, 0, 0, 0, 0, 0, 0, 0, 0, 0, 0, 0, 0, 0, 0, 0, 0, 0, 0, 0, 0, 0, 0, 0, 0, 0, 0, 0, 0, 0, 0, 0, 0, 0, 0, 0, 0, 0, 0, 0, 0, 0, 0, 0, 0, 0, 0, 0, 0, 0, 0, 59, 0, 0, 0, 0, 0, 0, 0, 0, 0]] (by rfl) (by decide +kernel)
set_option maxRecDepth 20000 in
theorem gX1_readEntry_X9_isWord : GoodIn wsX1_readEntry (wsV RX1 42 RX9 yX9_isWord wsX9_isWord) := goodIn_app (goodIn_of _ (by decide +kernel)) ggX1_readEntry_X9_isWord
set_option maxRecDepth 20000 in
theorem ggX1_readEntry_X9_step : GoodIn wsX1_readEntry wsX9_step := goodIn_k _ [[63], [8, 55], [10], [9], [7, 57, 0, 0], [5, 62, 0, 0, 0, 0, 0, 0, 44, 0, 0, 0, 0, 0, 0, 0, 0, 0]] (by rfl) (by decide +kernel)
set_option maxRecDepth 20000 in
theorem gX1_readEntry_X9_step : GoodIn wsX1_readEntry (wsV RX1 46 RX9 yX9_step wsX9_step) := goodIn_app (goodIn_of _ (by decide +kernel)) ggX1_readEntry_X9_step
set_option maxRecDepth 20000 in
theorem ggX1_readEntry_X9_holdsNumber : GoodIn wsX1_readEntry wsX9_holdsNumber := goodIn_k _ [[78], [7, 0, 0, 55, 13, 0, 0, 0], [5, 77, 0, 0, 33, 0, 0, 0, 0, 0, 0, 0, 0, 0]] (by rfl) (by decide +kernel)
set_option maxRecDepth 20000 in
theorem gX1_readEntry_X9_holdsNumber : GoodIn wsX1_readEntry (wsV RX1 49 RX9 yX9_holdsNumber wsX9_holdsNumber) := goodIn_app (goodIn_of _ (by decide +kernel)) ggX1_readEntry_X9_holdsNumber
set_option maxRecDepth 20000 in
theorem ggX1_readEntry_X1_readDegree : GoodIn wsX1_readEntry wsX1_readDegree := goodIn_k _ [[90], [1, 89, 0, 0, 0], [89, 5, 0], [81, 0], [5, 77, 0], [9, 75], [60, 0, 0, 0], [8, 55], [10], [7, 57, 0, 0, 0, 0, 0, 0, 0, 0, 0, 22, 0, 0, 0, 0], [76, 0, 0, 0, 0, 21, 0, 0, 0, 0, 12, 0, 0, 0, 0, 0, 0, 0, 0, 0, 0, 0]] (by rfl) (by decide +kernel)
set_option maxRecDepth 20000 in
theorem gX1_readEntry_X1_readDegree : GoodIn wsX1_readEntry (wsV RX1 57 RX1 yX1_readDegree wsX1_readDegree) := goodIn_app (goodIn_of _ (by decide +kernel)) ggX1_readEntry_X1_readDegree
set_option maxRecDepth 20000 in
theorem ggX1_readEntry_X1_readDate : GoodIn wsX1_readEntry wsX1_readDate := goodIn_k _ [[110], [1, 89, 0, 0, 0], [89, 5, 0], [81, 0], [5, 77, 0], [9, 75], [60, 0, 0, 0], [8, 55], [10], [7, 57, 0, 0, 0, 0, 0, 0, 0, 0, 0, 22, 0, 0, 0, 0], [76, 0, 0, 0, 0, 21, 0, 0, 0, 0, 12, 0, 0, 0, 0, 0, 0, 0, 0, 0, 0, 0]] (by rfl) (by decide +kernel)
set_option maxRecDepth 20000 in
theorem gX1_readEntry_X1_readDate : GoodIn wsX1_readEntry (wsV RX1 63 RX1 yX1_readDate wsX1_readDate) := goodIn_app (goodIn_of _ (by decide +kernel)) ggX1_readEntry_X1_readDate
set_option maxRecDepth 20000 in
theorem ggX1_readEntry_X9_namedOf : GoodIn wsX1_readEntry wsX9_namedOf := goodIn_k _ [[114, 0, 0], [5, 111, 0], [3, 0, 1, 0, 0, 0, 0, 0, 0, 0, 0, 0, 0, 0, 0, 0, 0, 0, 0, 0, 0, 0, 0, 0, 0, 0, 0, 0, 0, 0, 0, 0, 0, 0, 0, 0, 0, 0, 0, 0, 0, 0, 0, 0, 0, 0, 0, 0, 0, 0, 0, 0, 0, 0, 0, 0, 59, 0, 0, 0, 0, 0, 0, 0, 0, 0]] (by rfl) (by decide +kernel)
set_option maxRecDepth 20000 in
theorem gX1_readEntry_X9_namedOf : GoodIn wsX1_readEntry (wsV RX1 66 RX9 yX9_namedOf wsX9_namedOf) := goodIn_app (goodIn_of _ (by decide +kernel)) ggX1_readEntry_X9_namedOf
set_option maxRecDepth 20000 in
theorem ggX1_readEntry_X9_refuse : GoodIn wsX1_readEntry wsX9_refuse := goodIn_k _ [[83, 0], [9, 75, 33, 0, 0, 0, 0, 0, 0, 0, 0, 0]] (by rfl) (by decide +kernel)
set_option maxRecDepth 20000 in
theorem gX1_readEntry_X9_refuse : GoodIn wsX1_readEntry (wsV RX1 70 RX9 yX9_refuse wsX9_refuse) := goodIn_app (goodIn_of _ (by decide +kernel)) ggX1_readEntry_X9_refuse
noncomputable def sX1_readEntry_85 : List Nat := 172 :: []
noncomputable def sX1_readEntry_82 : List Nat := 182 :: 0 :: 57 :: sX1_readEntry_85
noncomputable def sX1_readEntry_81 : List Nat := 28 :: sX1_readEntry_82
noncomputable def sX1_readEntry_80 : List Nat := 43 :: sX1_readEntry_81
noncomputable def sX1_readEntry_79 : List Nat := 42 :: sX1_readEntry_80
noncomputable def sX1_readEntry_76 : List Nat := 167 :: 0 :: 9 :: sX1_readEntry_79
noncomputable def sX1_readEntry_73 : List Nat := 182 :: 0 :: 70 :: sX1_readEntry_76
noncomputable def sX1_readEntry_72 : List Nat := 4 :: sX1_readEntry_73
noncomputable def sX1_readEntry_71 : List Nat := 43 :: sX1_readEntry_72
noncomputable def sX1_readEntry_68 : List Nat := 160 :: 0 :: 11 :: sX1_readEntry_71
noncomputable def sX1_readEntry_67 : List Nat := 2 :: sX1_readEntry_68
noncomputable def sX1_readEntry_66 : List Nat := 28 :: sX1_readEntry_67
noncomputable def sX1_readEntry_65 : List Nat := 61 :: sX1_readEntry_66
noncomputable def sX1_readEntry_62 : List Nat := 182 :: 0 :: 66 :: sX1_readEntry_65
noncomputable def sX1_readEntry_60 : List Nat := 16 :: 9 :: sX1_readEntry_62
noncomputable def sX1_readEntry_59 : List Nat := 43 :: sX1_readEntry_60
noncomputable def sX1_readEntry_58 : List Nat := 172 :: sX1_readEntry_59
noncomputable def sX1_readEntry_55 : List Nat := 182 :: 0 :: 63 :: sX1_readEntry_58
noncomputable def sX1_readEntry_54 : List Nat := 43 :: sX1_readEntry_55
noncomputable def sX1_readEntry_53 : List Nat := 42 :: sX1_readEntry_54
noncomputable def sX1_readEntry_50 : List Nat := 153 :: 0 :: 9 :: sX1_readEntry_53
noncomputable def sX1_readEntry_47 : List Nat := 182 :: 0 :: 42 :: sX1_readEntry_50
noncomputable def sX1_readEntry_45 : List Nat := 18 :: 61 :: sX1_readEntry_47
noncomputable def sX1_readEntry_44 : List Nat := 43 :: sX1_readEntry_45
noncomputable def sX1_readEntry_43 : List Nat := 172 :: sX1_readEntry_44
noncomputable def sX1_readEntry_42 : List Nat := 3 :: sX1_readEntry_43
noncomputable def sX1_readEntry_39 : List Nat := 167 :: 0 :: 4 :: sX1_readEntry_42
noncomputable def sX1_readEntry_38 : List Nat := 4 :: sX1_readEntry_39
noncomputable def sX1_readEntry_35 : List Nat := 153 :: 0 :: 7 :: sX1_readEntry_38
noncomputable def sX1_readEntry_32 : List Nat := 182 :: 0 :: 57 :: sX1_readEntry_35
noncomputable def sX1_readEntry_31 : List Nat := 96 :: sX1_readEntry_32
noncomputable def sX1_readEntry_28 : List Nat := 180 :: 0 :: 53 :: sX1_readEntry_31
noncomputable def sX1_readEntry_27 : List Nat := 43 :: sX1_readEntry_28
noncomputable def sX1_readEntry_25 : List Nat := 16 :: 8 :: sX1_readEntry_27
noncomputable def sX1_readEntry_24 : List Nat := 43 :: sX1_readEntry_25
noncomputable def sX1_readEntry_23 : List Nat := 42 :: sX1_readEntry_24
noncomputable def sX1_readEntry_20 : List Nat := 153 :: 0 :: 22 :: sX1_readEntry_23
noncomputable def sX1_readEntry_17 : List Nat := 182 :: 0 :: 49 :: sX1_readEntry_20
noncomputable def sX1_readEntry_15 : List Nat := 16 :: 12 :: sX1_readEntry_17
noncomputable def sX1_readEntry_14 : List Nat := 4 :: sX1_readEntry_15
noncomputable def sX1_readEntry_13 : List Nat := 43 :: sX1_readEntry_14
noncomputable def sX1_readEntry_10 : List Nat := 182 :: 0 :: 46 :: sX1_readEntry_13
noncomputable def sX1_readEntry_9 : List Nat := 43 :: sX1_readEntry_10
noncomputable def sX1_readEntry_6 : List Nat := 153 :: 0 :: 38 :: sX1_readEntry_9
noncomputable def sX1_readEntry_3 : List Nat := 182 :: 0 :: 42 :: sX1_readEntry_6
noncomputable def sX1_readEntry_1 : List Nat := 18 :: 40 :: sX1_readEntry_3
noncomputable def sX1_readEntry_0 : List Nat := 43 :: sX1_readEntry_1
theorem aX1_readEntry_0 : dc_at cX1_readEntry 0 sX1_readEntry_0 := dc_base (by decide +kernel)
theorem aX1_readEntry_1 : dc_at cX1_readEntry 1 sX1_readEntry_1 := dc_n1 aX1_readEntry_0
theorem aX1_readEntry_3 : dc_at cX1_readEntry 3 sX1_readEntry_3 := dc_n2 aX1_readEntry_1
theorem aX1_readEntry_6 : dc_at cX1_readEntry 6 sX1_readEntry_6 := dc_n3 aX1_readEntry_3
theorem aX1_readEntry_9 : dc_at cX1_readEntry 9 sX1_readEntry_9 := dc_n3 aX1_readEntry_6
theorem aX1_readEntry_10 : dc_at cX1_readEntry 10 sX1_readEntry_10 := dc_n1 aX1_readEntry_9
theorem aX1_readEntry_13 : dc_at cX1_readEntry 13 sX1_readEntry_13 := dc_n3 aX1_readEntry_10
theorem aX1_readEntry_14 : dc_at cX1_readEntry 14 sX1_readEntry_14 := dc_n1 aX1_readEntry_13
theorem aX1_readEntry_15 : dc_at cX1_readEntry 15 sX1_readEntry_15 := dc_n1 aX1_readEntry_14
theorem aX1_readEntry_17 : dc_at cX1_readEntry 17 sX1_readEntry_17 := dc_n2 aX1_readEntry_15
theorem aX1_readEntry_20 : dc_at cX1_readEntry 20 sX1_readEntry_20 := dc_n3 aX1_readEntry_17
theorem aX1_readEntry_23 : dc_at cX1_readEntry 23 sX1_readEntry_23 := dc_n3 aX1_readEntry_20
theorem aX1_readEntry_24 : dc_at cX1_readEntry 24 sX1_readEntry_24 := dc_n1 aX1_readEntry_23
theorem aX1_readEntry_25 : dc_at cX1_readEntry 25 sX1_readEntry_25 := dc_n1 aX1_readEntry_24
theorem aX1_readEntry_27 : dc_at cX1_readEntry 27 sX1_readEntry_27 := dc_n2 aX1_readEntry_25
theorem aX1_readEntry_28 : dc_at cX1_readEntry 28 sX1_readEntry_28 := dc_n1 aX1_readEntry_27
theorem aX1_readEntry_31 : dc_at cX1_readEntry 31 sX1_readEntry_31 := dc_n3 aX1_readEntry_28
theorem aX1_readEntry_32 : dc_at cX1_readEntry 32 sX1_readEntry_32 := dc_n1 aX1_readEntry_31
theorem aX1_readEntry_35 : dc_at cX1_readEntry 35 sX1_readEntry_35 := dc_n3 aX1_readEntry_32
theorem aX1_readEntry_38 : dc_at cX1_readEntry 38 sX1_readEntry_38 := dc_n3 aX1_readEntry_35
theorem aX1_readEntry_39 : dc_at cX1_readEntry 39 sX1_readEntry_39 := dc_n1 aX1_readEntry_38
theorem aX1_readEntry_42 : dc_at cX1_readEntry 42 sX1_readEntry_42 := dc_n3 aX1_readEntry_39
theorem aX1_readEntry_43 : dc_at cX1_readEntry 43 sX1_readEntry_43 := dc_n1 aX1_readEntry_42
theorem aX1_readEntry_44 : dc_at cX1_readEntry 44 sX1_readEntry_44 := dc_n1 aX1_readEntry_43
theorem aX1_readEntry_45 : dc_at cX1_readEntry 45 sX1_readEntry_45 := dc_n1 aX1_readEntry_44
theorem aX1_readEntry_47 : dc_at cX1_readEntry 47 sX1_readEntry_47 := dc_n2 aX1_readEntry_45
theorem aX1_readEntry_50 : dc_at cX1_readEntry 50 sX1_readEntry_50 := dc_n3 aX1_readEntry_47
theorem aX1_readEntry_53 : dc_at cX1_readEntry 53 sX1_readEntry_53 := dc_n3 aX1_readEntry_50
theorem aX1_readEntry_54 : dc_at cX1_readEntry 54 sX1_readEntry_54 := dc_n1 aX1_readEntry_53
theorem aX1_readEntry_55 : dc_at cX1_readEntry 55 sX1_readEntry_55 := dc_n1 aX1_readEntry_54
theorem aX1_readEntry_58 : dc_at cX1_readEntry 58 sX1_readEntry_58 := dc_n3 aX1_readEntry_55
theorem aX1_readEntry_59 : dc_at cX1_readEntry 59 sX1_readEntry_59 := dc_n1 aX1_readEntry_58
theorem aX1_readEntry_60 : dc_at cX1_readEntry 60 sX1_readEntry_60 := dc_n1 aX1_readEntry_59
theorem aX1_readEntry_62 : dc_at cX1_readEntry 62 sX1_readEntry_62 := dc_n2 aX1_readEntry_60
theorem aX1_readEntry_65 : dc_at cX1_readEntry 65 sX1_readEntry_65 := dc_n3 aX1_readEntry_62
theorem aX1_readEntry_66 : dc_at cX1_readEntry 66 sX1_readEntry_66 := dc_n1 aX1_readEntry_65
theorem aX1_readEntry_67 : dc_at cX1_readEntry 67 sX1_readEntry_67 := dc_n1 aX1_readEntry_66
theorem aX1_readEntry_68 : dc_at cX1_readEntry 68 sX1_readEntry_68 := dc_n1 aX1_readEntry_67
theorem aX1_readEntry_71 : dc_at cX1_readEntry 71 sX1_readEntry_71 := dc_n3 aX1_readEntry_68
theorem aX1_readEntry_72 : dc_at cX1_readEntry 72 sX1_readEntry_72 := dc_n1 aX1_readEntry_71
theorem aX1_readEntry_73 : dc_at cX1_readEntry 73 sX1_readEntry_73 := dc_n1 aX1_readEntry_72
theorem aX1_readEntry_76 : dc_at cX1_readEntry 76 sX1_readEntry_76 := dc_n3 aX1_readEntry_73
theorem aX1_readEntry_79 : dc_at cX1_readEntry 79 sX1_readEntry_79 := dc_n3 aX1_readEntry_76
theorem aX1_readEntry_80 : dc_at cX1_readEntry 80 sX1_readEntry_80 := dc_n1 aX1_readEntry_79
theorem aX1_readEntry_81 : dc_at cX1_readEntry 81 sX1_readEntry_81 := dc_n1 aX1_readEntry_80
theorem aX1_readEntry_82 : dc_at cX1_readEntry 82 sX1_readEntry_82 := dc_n1 aX1_readEntry_81
theorem aX1_readEntry_85 : dc_at cX1_readEntry 85 sX1_readEntry_85 := dc_n3 aX1_readEntry_82
theorem dX1_readEntry_0 : decode cX1_readEntry 0 = .ok (.aload_n 1, 1) := dc_43 aX1_readEntry_0
theorem dX1_readEntry_1 : decode cX1_readEntry 1 = .ok (.ldc 40, 2) := dc_18 (a0 := 40) aX1_readEntry_1
theorem dX1_readEntry_3 : decode cX1_readEntry 3 = .ok (.invokevirtual 42, 3) := dc_182 (a0 := 0) (b0 := 42) aX1_readEntry_3
theorem dX1_readEntry_6 : decode cX1_readEntry 6 = .ok (.ifCond .eq 38, 3) := dc_153 (a0 := 0) (b0 := 38) aX1_readEntry_6 (by decide)
theorem dX1_readEntry_9 : decode cX1_readEntry 9 = .ok (.aload_n 1, 1) := dc_43 aX1_readEntry_9
theorem dX1_readEntry_10 : decode cX1_readEntry 10 = .ok (.invokevirtual 46, 3) := dc_182 (a0 := 0) (b0 := 46) aX1_readEntry_10
theorem dX1_readEntry_13 : decode cX1_readEntry 13 = .ok (.aload_n 1, 1) := dc_43 aX1_readEntry_13
theorem dX1_readEntry_14 : decode cX1_readEntry 14 = .ok (.iconst 1, 1) := dc_4 aX1_readEntry_14
theorem dX1_readEntry_15 : decode cX1_readEntry 15 = .ok (.bipush 12, 2) := dc_16 (a0 := 12) aX1_readEntry_15 (by decide)
theorem dX1_readEntry_17 : decode cX1_readEntry 17 = .ok (.invokevirtual 49, 3) := dc_182 (a0 := 0) (b0 := 49) aX1_readEntry_17
theorem dX1_readEntry_20 : decode cX1_readEntry 20 = .ok (.ifCond .eq 22, 3) := dc_153 (a0 := 0) (b0 := 22) aX1_readEntry_20 (by decide)
theorem dX1_readEntry_23 : decode cX1_readEntry 23 = .ok (.aload_n 0, 1) := dc_42 aX1_readEntry_23
theorem dX1_readEntry_24 : decode cX1_readEntry 24 = .ok (.aload_n 1, 1) := dc_43 aX1_readEntry_24
theorem dX1_readEntry_25 : decode cX1_readEntry 25 = .ok (.bipush 8, 2) := dc_16 (a0 := 8) aX1_readEntry_25 (by decide)
theorem dX1_readEntry_27 : decode cX1_readEntry 27 = .ok (.aload_n 1, 1) := dc_43 aX1_readEntry_27
theorem dX1_readEntry_28 : decode cX1_readEntry 28 = .ok (.getfield 53, 3) := dc_180 (a0 := 0) (b0 := 53) aX1_readEntry_28
theorem dX1_readEntry_31 : decode cX1_readEntry 31 = .ok (.iadd, 1) := dc_96 aX1_readEntry_31
theorem dX1_readEntry_32 : decode cX1_readEntry 32 = .ok (.invokevirtual 57, 3) := dc_182 (a0 := 0) (b0 := 57) aX1_readEntry_32
theorem dX1_readEntry_35 : decode cX1_readEntry 35 = .ok (.ifCond .eq 7, 3) := dc_153 (a0 := 0) (b0 := 7) aX1_readEntry_35 (by decide)
theorem dX1_readEntry_38 : decode cX1_readEntry 38 = .ok (.iconst 1, 1) := dc_4 aX1_readEntry_38
theorem dX1_readEntry_39 : decode cX1_readEntry 39 = .ok (.goto 4, 3) := dc_167 (a0 := 0) (b0 := 4) aX1_readEntry_39 (by decide)
theorem dX1_readEntry_42 : decode cX1_readEntry 42 = .ok (.iconst 0, 1) := dc_3 aX1_readEntry_42
theorem dX1_readEntry_43 : decode cX1_readEntry 43 = .ok (.ireturn, 1) := dc_172 aX1_readEntry_43
theorem dX1_readEntry_44 : decode cX1_readEntry 44 = .ok (.aload_n 1, 1) := dc_43 aX1_readEntry_44
theorem dX1_readEntry_45 : decode cX1_readEntry 45 = .ok (.ldc 61, 2) := dc_18 (a0 := 61) aX1_readEntry_45
theorem dX1_readEntry_47 : decode cX1_readEntry 47 = .ok (.invokevirtual 42, 3) := dc_182 (a0 := 0) (b0 := 42) aX1_readEntry_47
theorem dX1_readEntry_50 : decode cX1_readEntry 50 = .ok (.ifCond .eq 9, 3) := dc_153 (a0 := 0) (b0 := 9) aX1_readEntry_50 (by decide)
theorem dX1_readEntry_53 : decode cX1_readEntry 53 = .ok (.aload_n 0, 1) := dc_42 aX1_readEntry_53
theorem dX1_readEntry_54 : decode cX1_readEntry 54 = .ok (.aload_n 1, 1) := dc_43 aX1_readEntry_54
theorem dX1_readEntry_55 : decode cX1_readEntry 55 = .ok (.invokevirtual 63, 3) := dc_182 (a0 := 0) (b0 := 63) aX1_readEntry_55
theorem dX1_readEntry_58 : decode cX1_readEntry 58 = .ok (.ireturn, 1) := dc_172 aX1_readEntry_58
theorem dX1_readEntry_59 : decode cX1_readEntry 59 = .ok (.aload_n 1, 1) := dc_43 aX1_readEntry_59
theorem dX1_readEntry_60 : decode cX1_readEntry 60 = .ok (.bipush 9, 2) := dc_16 (a0 := 9) aX1_readEntry_60 (by decide)
theorem dX1_readEntry_62 : decode cX1_readEntry 62 = .ok (.invokevirtual 66, 3) := dc_182 (a0 := 0) (b0 := 66) aX1_readEntry_62
theorem dX1_readEntry_65 : decode cX1_readEntry 65 = .ok (.istore_n 2, 1) := dc_61 aX1_readEntry_65
theorem dX1_readEntry_66 : decode cX1_readEntry 66 = .ok (.iload_n 2, 1) := dc_28 aX1_readEntry_66
theorem dX1_readEntry_67 : decode cX1_readEntry 67 = .ok (.iconst (-1), 1) := dc_2 aX1_readEntry_67
theorem dX1_readEntry_68 : decode cX1_readEntry 68 = .ok (.if_icmp .ne 11, 3) := dc_160 (a0 := 0) (b0 := 11) aX1_readEntry_68 (by decide)
theorem dX1_readEntry_71 : decode cX1_readEntry 71 = .ok (.aload_n 1, 1) := dc_43 aX1_readEntry_71
theorem dX1_readEntry_72 : decode cX1_readEntry 72 = .ok (.iconst 1, 1) := dc_4 aX1_readEntry_72
theorem dX1_readEntry_73 : decode cX1_readEntry 73 = .ok (.invokevirtual 70, 3) := dc_182 (a0 := 0) (b0 := 70) aX1_readEntry_73
theorem dX1_readEntry_76 : decode cX1_readEntry 76 = .ok (.goto 9, 3) := dc_167 (a0 := 0) (b0 := 9) aX1_readEntry_76 (by decide)
theorem dX1_readEntry_79 : decode cX1_readEntry 79 = .ok (.aload_n 0, 1) := dc_42 aX1_readEntry_79
theorem dX1_readEntry_80 : decode cX1_readEntry 80 = .ok (.aload_n 1, 1) := dc_43 aX1_readEntry_80
theorem dX1_readEntry_81 : decode cX1_readEntry 81 = .ok (.iload_n 2, 1) := dc_28 aX1_readEntry_81
theorem dX1_readEntry_82 : decode cX1_readEntry 82 = .ok (.invokevirtual 57, 3) := dc_182 (a0 := 0) (b0 := 57) aX1_readEntry_82
theorem dX1_readEntry_85 : decode cX1_readEntry 85 = .ok (.ireturn, 1) := dc_172 aX1_readEntry_85
set_option maxRecDepth 20000 in
theorem ggX1_isNew_X9_refuse : GoodIn wsX1_isNew wsX9_refuse := goodIn_k _ [[6, 0, 0, 0, 20, 0, 0, 0, 0, 0, 0, 0, 0, 0]] (by rfl) (by decide +kernel)
set_option maxRecDepth 20000 in
theorem gX1_isNew_X9_refuse : GoodIn wsX1_isNew (wsV RX1 70 RX9 yX9_refuse wsX9_refuse) := goodIn_app (goodIn_of _ (by decide +kernel)) ggX1_isNew_X9_refuse
set_option maxRecDepth 20000 in
theorem ggX1_isNew_X9_step : GoodIn wsX1_isNew wsX9_step := goodIn_k _ [[13, 0, 0, 0], [8, 8, 0, 0, 0], [5, 15, 0, 0, 0, 0, 0, 0, 2, 0, 0, 0, 0, 0, 0, 0, 0, 0]] (by rfl) (by decide +kernel)
set_option maxRecDepth 20000 in
theorem gX1_isNew_X9_step : GoodIn wsX1_isNew (wsV RX1 46 RX9 yX9_step wsX9_step) := goodIn_app (goodIn_of _ (by decide +kernel)) ggX1_isNew_X9_step
noncomputable def sX1_isNew_21 : List Nat := 172 :: []
noncomputable def sX1_isNew_20 : List Nat := 4 :: sX1_isNew_21
noncomputable def sX1_isNew_17 : List Nat := 182 :: 0 :: 46 :: sX1_isNew_20
noncomputable def sX1_isNew_16 : List Nat := 43 :: sX1_isNew_17
noncomputable def sX1_isNew_15 : List Nat := 172 :: sX1_isNew_16
noncomputable def sX1_isNew_12 : List Nat := 182 :: 0 :: 70 :: sX1_isNew_15
noncomputable def sX1_isNew_11 : List Nat := 6 :: sX1_isNew_12
noncomputable def sX1_isNew_10 : List Nat := 43 :: sX1_isNew_11
noncomputable def sX1_isNew_7 : List Nat := 159 :: 0 :: 9 :: sX1_isNew_10
noncomputable def sX1_isNew_6 : List Nat := 2 :: sX1_isNew_7
noncomputable def sX1_isNew_5 : List Nat := 46 :: sX1_isNew_6
noncomputable def sX1_isNew_4 : List Nat := 28 :: sX1_isNew_5
noncomputable def sX1_isNew_1 : List Nat := 180 :: 0 :: 15 :: sX1_isNew_4
noncomputable def sX1_isNew_0 : List Nat := 42 :: sX1_isNew_1
theorem aX1_isNew_0 : dc_at cX1_isNew 0 sX1_isNew_0 := dc_base (by decide +kernel)
theorem aX1_isNew_1 : dc_at cX1_isNew 1 sX1_isNew_1 := dc_n1 aX1_isNew_0
theorem aX1_isNew_4 : dc_at cX1_isNew 4 sX1_isNew_4 := dc_n3 aX1_isNew_1
theorem aX1_isNew_5 : dc_at cX1_isNew 5 sX1_isNew_5 := dc_n1 aX1_isNew_4
theorem aX1_isNew_6 : dc_at cX1_isNew 6 sX1_isNew_6 := dc_n1 aX1_isNew_5
theorem aX1_isNew_7 : dc_at cX1_isNew 7 sX1_isNew_7 := dc_n1 aX1_isNew_6
theorem aX1_isNew_10 : dc_at cX1_isNew 10 sX1_isNew_10 := dc_n3 aX1_isNew_7
theorem aX1_isNew_11 : dc_at cX1_isNew 11 sX1_isNew_11 := dc_n1 aX1_isNew_10
theorem aX1_isNew_12 : dc_at cX1_isNew 12 sX1_isNew_12 := dc_n1 aX1_isNew_11
theorem aX1_isNew_15 : dc_at cX1_isNew 15 sX1_isNew_15 := dc_n3 aX1_isNew_12
theorem aX1_isNew_16 : dc_at cX1_isNew 16 sX1_isNew_16 := dc_n1 aX1_isNew_15
theorem aX1_isNew_17 : dc_at cX1_isNew 17 sX1_isNew_17 := dc_n1 aX1_isNew_16
theorem aX1_isNew_20 : dc_at cX1_isNew 20 sX1_isNew_20 := dc_n3 aX1_isNew_17
theorem aX1_isNew_21 : dc_at cX1_isNew 21 sX1_isNew_21 := dc_n1 aX1_isNew_20
theorem dX1_isNew_0 : decode cX1_isNew 0 = .ok (.aload_n 0, 1) := dc_42 aX1_isNew_0
theorem dX1_isNew_1 : decode cX1_isNew 1 = .ok (.getfield 15, 3) := dc_180 (a0 := 0) (b0 := 15) aX1_isNew_1
theorem dX1_isNew_4 : decode cX1_isNew 4 = .ok (.iload_n 2, 1) := dc_28 aX1_isNew_4
theorem dX1_isNew_5 : decode cX1_isNew 5 = .ok (.iaload, 1) := dc_46 aX1_isNew_5
theorem dX1_isNew_6 : decode cX1_isNew 6 = .ok (.iconst (-1), 1) := dc_2 aX1_isNew_6
theorem dX1_isNew_7 : decode cX1_isNew 7 = .ok (.if_icmp .eq 9, 3) := dc_159 (a0 := 0) (b0 := 9) aX1_isNew_7 (by decide)
theorem dX1_isNew_10 : decode cX1_isNew 10 = .ok (.aload_n 1, 1) := dc_43 aX1_isNew_10
theorem dX1_isNew_11 : decode cX1_isNew 11 = .ok (.iconst 3, 1) := dc_6 aX1_isNew_11
theorem dX1_isNew_12 : decode cX1_isNew 12 = .ok (.invokevirtual 70, 3) := dc_182 (a0 := 0) (b0 := 70) aX1_isNew_12
theorem dX1_isNew_15 : decode cX1_isNew 15 = .ok (.ireturn, 1) := dc_172 aX1_isNew_15
theorem dX1_isNew_16 : decode cX1_isNew 16 = .ok (.aload_n 1, 1) := dc_43 aX1_isNew_16
theorem dX1_isNew_17 : decode cX1_isNew 17 = .ok (.invokevirtual 46, 3) := dc_182 (a0 := 0) (b0 := 46) aX1_isNew_17
theorem dX1_isNew_20 : decode cX1_isNew 20 = .ok (.iconst 1, 1) := dc_4 aX1_isNew_20
theorem dX1_isNew_21 : decode cX1_isNew 21 = .ok (.ireturn, 1) := dc_172 aX1_isNew_21
set_option maxRecDepth 20000 in
theorem ggX1_readDegree_X1_isNew : GoodIn wsX1_readDegree wsX1_isNew := goodIn_k _ [[7], [2, 5, 0, 0, 0, 0, 0, 0, 0, 0, 0, 0, 0, 0, 0, 0, 0, 0, 0, 0, 0, 0, 0, 0, 0, 0, 0, 25, 0], [49, 0, 0, 0, 0, 0, 0, 0, 0, 0]] (by rfl) (by decide +kernel)
set_option maxRecDepth 20000 in
theorem gX1_readDegree_X1_isNew : GoodIn wsX1_readDegree (wsV RX1 74 RX1 yX1_isNew wsX1_isNew) := goodIn_app (goodIn_of _ (by decide +kernel)) ggX1_readDegree_X1_isNew
set_option maxRecDepth 20000 in
theorem ggX1_readDegree_X9_takeNumber : GoodIn wsX1_readDegree wsX9_takeNumber := goodIn_k _ [[37, 0, 0, 0], [11, 29], [23], [20], [14, 9, 17, 0], [9, 0, 1, 0, 1, 28], [17, 0, 0, 1, 0, 2, 0, 0, 0, 0, 0, 0, 0, 0, 15, 0, 0, 0, 0, 0, 0, 0, 0, 0]] (by rfl) (by decide +kernel)
set_option maxRecDepth 20000 in
theorem gX1_readDegree_X9_takeNumber : GoodIn wsX1_readDegree (wsV RX1 77 RX9 yX9_takeNumber wsX9_takeNumber) := goodIn_app (goodIn_of _ (by decide +kernel)) ggX1_readDegree_X9_takeNumber
set_option maxRecDepth 20000 in
theorem ggX1_readDegree_X9_takeStop : GoodIn wsX1_readDegree wsX9_takeStop := goodIn_k _ [[48], [23, 19], [9, 0, 0, 0, 0, 0, 0, 28], [17, 0, 0, 0, 0, 0, 1, 0, 0, 0, 0, 0, 0, 0, 0, 0, 15, 0, 0, 0, 0, 0, 0, 0, 0, 0]] (by rfl) (by decide +kernel)
set_option maxRecDepth 20000 in
theorem gX1_readDegree_X9_takeStop : GoodIn wsX1_readDegree (wsV RX1 80 RX9 yX9_takeStop wsX9_takeStop) := goodIn_app (goodIn_of _ (by decide +kernel)) ggX1_readDegree_X9_takeStop
noncomputable def sX1_readDegree_57 : List Nat := 172 :: []
noncomputable def sX1_readDegree_54 : List Nat := 182 :: 0 :: 80 :: sX1_readDegree_57
noncomputable def sX1_readDegree_53 : List Nat := 43 :: sX1_readDegree_54
noncomputable def sX1_readDegree_52 : List Nat := 79 :: sX1_readDegree_53
noncomputable def sX1_readDegree_51 : List Nat := 96 :: sX1_readDegree_52
noncomputable def sX1_readDegree_48 : List Nat := 180 :: 0 :: 53 :: sX1_readDegree_51
noncomputable def sX1_readDegree_47 : List Nat := 43 :: sX1_readDegree_48
noncomputable def sX1_readDegree_46 : List Nat := 104 :: sX1_readDegree_47
noncomputable def sX1_readDegree_45 : List Nat := 29 :: sX1_readDegree_46
noncomputable def sX1_readDegree_43 : List Nat := 16 :: 30 :: sX1_readDegree_45
noncomputable def sX1_readDegree_42 : List Nat := 28 :: sX1_readDegree_43
noncomputable def sX1_readDegree_39 : List Nat := 180 :: 0 :: 15 :: sX1_readDegree_42
noncomputable def sX1_readDegree_38 : List Nat := 42 :: sX1_readDegree_39
noncomputable def sX1_readDegree_37 : List Nat := 172 :: sX1_readDegree_38
noncomputable def sX1_readDegree_36 : List Nat := 3 :: sX1_readDegree_37
noncomputable def sX1_readDegree_33 : List Nat := 154 :: 0 :: 5 :: sX1_readDegree_36
noncomputable def sX1_readDegree_30 : List Nat := 182 :: 0 :: 77 :: sX1_readDegree_33
noncomputable def sX1_readDegree_28 : List Nat := 16 :: 29 :: sX1_readDegree_30
noncomputable def sX1_readDegree_27 : List Nat := 3 :: sX1_readDegree_28
noncomputable def sX1_readDegree_26 : List Nat := 43 :: sX1_readDegree_27
noncomputable def sX1_readDegree_25 : List Nat := 62 :: sX1_readDegree_26
noncomputable def sX1_readDegree_22 : List Nat := 180 :: 0 :: 53 :: sX1_readDegree_25
noncomputable def sX1_readDegree_21 : List Nat := 43 :: sX1_readDegree_22
noncomputable def sX1_readDegree_20 : List Nat := 172 :: sX1_readDegree_21
noncomputable def sX1_readDegree_19 : List Nat := 3 :: sX1_readDegree_20
noncomputable def sX1_readDegree_16 : List Nat := 154 :: 0 :: 5 :: sX1_readDegree_19
noncomputable def sX1_readDegree_13 : List Nat := 182 :: 0 :: 77 :: sX1_readDegree_16
noncomputable def sX1_readDegree_11 : List Nat := 16 :: 11 :: sX1_readDegree_13
noncomputable def sX1_readDegree_10 : List Nat := 3 :: sX1_readDegree_11
noncomputable def sX1_readDegree_9 : List Nat := 43 :: sX1_readDegree_10
noncomputable def sX1_readDegree_6 : List Nat := 153 :: 0 :: 13 :: sX1_readDegree_9
noncomputable def sX1_readDegree_3 : List Nat := 182 :: 0 :: 74 :: sX1_readDegree_6
noncomputable def sX1_readDegree_2 : List Nat := 28 :: sX1_readDegree_3
noncomputable def sX1_readDegree_1 : List Nat := 43 :: sX1_readDegree_2
noncomputable def sX1_readDegree_0 : List Nat := 42 :: sX1_readDegree_1
theorem aX1_readDegree_0 : dc_at cX1_readDegree 0 sX1_readDegree_0 := dc_base (by decide +kernel)
theorem aX1_readDegree_1 : dc_at cX1_readDegree 1 sX1_readDegree_1 := dc_n1 aX1_readDegree_0
theorem aX1_readDegree_2 : dc_at cX1_readDegree 2 sX1_readDegree_2 := dc_n1 aX1_readDegree_1
theorem aX1_readDegree_3 : dc_at cX1_readDegree 3 sX1_readDegree_3 := dc_n1 aX1_readDegree_2
theorem aX1_readDegree_6 : dc_at cX1_readDegree 6 sX1_readDegree_6 := dc_n3 aX1_readDegree_3
theorem aX1_readDegree_9 : dc_at cX1_readDegree 9 sX1_readDegree_9 := dc_n3 aX1_readDegree_6
theorem aX1_readDegree_10 : dc_at cX1_readDegree 10 sX1_readDegree_10 := dc_n1 aX1_readDegree_9
theorem aX1_readDegree_11 : dc_at cX1_readDegree 11 sX1_readDegree_11 := dc_n1 aX1_readDegree_10
theorem aX1_readDegree_13 : dc_at cX1_readDegree 13 sX1_readDegree_13 := dc_n2 aX1_readDegree_11
theorem aX1_readDegree_16 : dc_at cX1_readDegree 16 sX1_readDegree_16 := dc_n3 aX1_readDegree_13
theorem aX1_readDegree_19 : dc_at cX1_readDegree 19 sX1_readDegree_19 := dc_n3 aX1_readDegree_16
theorem aX1_readDegree_20 : dc_at cX1_readDegree 20 sX1_readDegree_20 := dc_n1 aX1_readDegree_19
theorem aX1_readDegree_21 : dc_at cX1_readDegree 21 sX1_readDegree_21 := dc_n1 aX1_readDegree_20
theorem aX1_readDegree_22 : dc_at cX1_readDegree 22 sX1_readDegree_22 := dc_n1 aX1_readDegree_21
theorem aX1_readDegree_25 : dc_at cX1_readDegree 25 sX1_readDegree_25 := dc_n3 aX1_readDegree_22
theorem aX1_readDegree_26 : dc_at cX1_readDegree 26 sX1_readDegree_26 := dc_n1 aX1_readDegree_25
theorem aX1_readDegree_27 : dc_at cX1_readDegree 27 sX1_readDegree_27 := dc_n1 aX1_readDegree_26
theorem aX1_readDegree_28 : dc_at cX1_readDegree 28 sX1_readDegree_28 := dc_n1 aX1_readDegree_27
theorem aX1_readDegree_30 : dc_at cX1_readDegree 30 sX1_readDegree_30 := dc_n2 aX1_readDegree_28
theorem aX1_readDegree_33 : dc_at cX1_readDegree 33 sX1_readDegree_33 := dc_n3 aX1_readDegree_30
theorem aX1_readDegree_36 : dc_at cX1_readDegree 36 sX1_readDegree_36 := dc_n3 aX1_readDegree_33
theorem aX1_readDegree_37 : dc_at cX1_readDegree 37 sX1_readDegree_37 := dc_n1 aX1_readDegree_36
theorem aX1_readDegree_38 : dc_at cX1_readDegree 38 sX1_readDegree_38 := dc_n1 aX1_readDegree_37
theorem aX1_readDegree_39 : dc_at cX1_readDegree 39 sX1_readDegree_39 := dc_n1 aX1_readDegree_38
theorem aX1_readDegree_42 : dc_at cX1_readDegree 42 sX1_readDegree_42 := dc_n3 aX1_readDegree_39
theorem aX1_readDegree_43 : dc_at cX1_readDegree 43 sX1_readDegree_43 := dc_n1 aX1_readDegree_42
theorem aX1_readDegree_45 : dc_at cX1_readDegree 45 sX1_readDegree_45 := dc_n2 aX1_readDegree_43
theorem aX1_readDegree_46 : dc_at cX1_readDegree 46 sX1_readDegree_46 := dc_n1 aX1_readDegree_45
theorem aX1_readDegree_47 : dc_at cX1_readDegree 47 sX1_readDegree_47 := dc_n1 aX1_readDegree_46
theorem aX1_readDegree_48 : dc_at cX1_readDegree 48 sX1_readDegree_48 := dc_n1 aX1_readDegree_47
theorem aX1_readDegree_51 : dc_at cX1_readDegree 51 sX1_readDegree_51 := dc_n3 aX1_readDegree_48
theorem aX1_readDegree_52 : dc_at cX1_readDegree 52 sX1_readDegree_52 := dc_n1 aX1_readDegree_51
theorem aX1_readDegree_53 : dc_at cX1_readDegree 53 sX1_readDegree_53 := dc_n1 aX1_readDegree_52
theorem aX1_readDegree_54 : dc_at cX1_readDegree 54 sX1_readDegree_54 := dc_n1 aX1_readDegree_53
theorem aX1_readDegree_57 : dc_at cX1_readDegree 57 sX1_readDegree_57 := dc_n3 aX1_readDegree_54
theorem dX1_readDegree_0 : decode cX1_readDegree 0 = .ok (.aload_n 0, 1) := dc_42 aX1_readDegree_0
theorem dX1_readDegree_1 : decode cX1_readDegree 1 = .ok (.aload_n 1, 1) := dc_43 aX1_readDegree_1
theorem dX1_readDegree_2 : decode cX1_readDegree 2 = .ok (.iload_n 2, 1) := dc_28 aX1_readDegree_2
theorem dX1_readDegree_3 : decode cX1_readDegree 3 = .ok (.invokevirtual 74, 3) := dc_182 (a0 := 0) (b0 := 74) aX1_readDegree_3
theorem dX1_readDegree_6 : decode cX1_readDegree 6 = .ok (.ifCond .eq 13, 3) := dc_153 (a0 := 0) (b0 := 13) aX1_readDegree_6 (by decide)
theorem dX1_readDegree_9 : decode cX1_readDegree 9 = .ok (.aload_n 1, 1) := dc_43 aX1_readDegree_9
theorem dX1_readDegree_10 : decode cX1_readDegree 10 = .ok (.iconst 0, 1) := dc_3 aX1_readDegree_10
theorem dX1_readDegree_11 : decode cX1_readDegree 11 = .ok (.bipush 11, 2) := dc_16 (a0 := 11) aX1_readDegree_11 (by decide)
theorem dX1_readDegree_13 : decode cX1_readDegree 13 = .ok (.invokevirtual 77, 3) := dc_182 (a0 := 0) (b0 := 77) aX1_readDegree_13
theorem dX1_readDegree_16 : decode cX1_readDegree 16 = .ok (.ifCond .ne 5, 3) := dc_154 (a0 := 0) (b0 := 5) aX1_readDegree_16 (by decide)
theorem dX1_readDegree_19 : decode cX1_readDegree 19 = .ok (.iconst 0, 1) := dc_3 aX1_readDegree_19
theorem dX1_readDegree_20 : decode cX1_readDegree 20 = .ok (.ireturn, 1) := dc_172 aX1_readDegree_20
theorem dX1_readDegree_21 : decode cX1_readDegree 21 = .ok (.aload_n 1, 1) := dc_43 aX1_readDegree_21
theorem dX1_readDegree_22 : decode cX1_readDegree 22 = .ok (.getfield 53, 3) := dc_180 (a0 := 0) (b0 := 53) aX1_readDegree_22
theorem dX1_readDegree_25 : decode cX1_readDegree 25 = .ok (.istore_n 3, 1) := dc_62 aX1_readDegree_25
theorem dX1_readDegree_26 : decode cX1_readDegree 26 = .ok (.aload_n 1, 1) := dc_43 aX1_readDegree_26
theorem dX1_readDegree_27 : decode cX1_readDegree 27 = .ok (.iconst 0, 1) := dc_3 aX1_readDegree_27
theorem dX1_readDegree_28 : decode cX1_readDegree 28 = .ok (.bipush 29, 2) := dc_16 (a0 := 29) aX1_readDegree_28 (by decide)
theorem dX1_readDegree_30 : decode cX1_readDegree 30 = .ok (.invokevirtual 77, 3) := dc_182 (a0 := 0) (b0 := 77) aX1_readDegree_30
theorem dX1_readDegree_33 : decode cX1_readDegree 33 = .ok (.ifCond .ne 5, 3) := dc_154 (a0 := 0) (b0 := 5) aX1_readDegree_33 (by decide)
theorem dX1_readDegree_36 : decode cX1_readDegree 36 = .ok (.iconst 0, 1) := dc_3 aX1_readDegree_36
theorem dX1_readDegree_37 : decode cX1_readDegree 37 = .ok (.ireturn, 1) := dc_172 aX1_readDegree_37
theorem dX1_readDegree_38 : decode cX1_readDegree 38 = .ok (.aload_n 0, 1) := dc_42 aX1_readDegree_38
theorem dX1_readDegree_39 : decode cX1_readDegree 39 = .ok (.getfield 15, 3) := dc_180 (a0 := 0) (b0 := 15) aX1_readDegree_39
theorem dX1_readDegree_42 : decode cX1_readDegree 42 = .ok (.iload_n 2, 1) := dc_28 aX1_readDegree_42
theorem dX1_readDegree_43 : decode cX1_readDegree 43 = .ok (.bipush 30, 2) := dc_16 (a0 := 30) aX1_readDegree_43 (by decide)
theorem dX1_readDegree_45 : decode cX1_readDegree 45 = .ok (.iload_n 3, 1) := dc_29 aX1_readDegree_45
theorem dX1_readDegree_46 : decode cX1_readDegree 46 = .ok (.imul, 1) := dc_104 aX1_readDegree_46
theorem dX1_readDegree_47 : decode cX1_readDegree 47 = .ok (.aload_n 1, 1) := dc_43 aX1_readDegree_47
theorem dX1_readDegree_48 : decode cX1_readDegree 48 = .ok (.getfield 53, 3) := dc_180 (a0 := 0) (b0 := 53) aX1_readDegree_48
theorem dX1_readDegree_51 : decode cX1_readDegree 51 = .ok (.iadd, 1) := dc_96 aX1_readDegree_51
theorem dX1_readDegree_52 : decode cX1_readDegree 52 = .ok (.iastore, 1) := dc_79 aX1_readDegree_52
theorem dX1_readDegree_53 : decode cX1_readDegree 53 = .ok (.aload_n 1, 1) := dc_43 aX1_readDegree_53
theorem dX1_readDegree_54 : decode cX1_readDegree 54 = .ok (.invokevirtual 80, 3) := dc_182 (a0 := 0) (b0 := 80) aX1_readDegree_54
theorem dX1_readDegree_57 : decode cX1_readDegree 57 = .ok (.ireturn, 1) := dc_172 aX1_readDegree_57
set_option maxRecDepth 20000 in
theorem ggX1_readDate_X1_isNew : GoodIn wsX1_readDate wsX1_isNew := goodIn_k _ [[7], [2, 5, 0, 0, 0, 0, 0, 0, 0, 0, 0, 0, 0, 0, 0, 0, 0, 0, 0, 0, 0, 0, 0, 0, 0, 0, 0, 25, 0], [49, 0, 0, 0, 0, 0, 0, 0, 0, 0]] (by rfl) (by decide +kernel)
set_option maxRecDepth 20000 in
theorem gX1_readDate_X1_isNew : GoodIn wsX1_readDate (wsV RX1 74 RX1 yX1_isNew wsX1_isNew) := goodIn_app (goodIn_of _ (by decide +kernel)) ggX1_readDate_X1_isNew
set_option maxRecDepth 20000 in
theorem ggX1_readDate_X9_takeNumber : GoodIn wsX1_readDate wsX9_takeNumber := goodIn_k _ [[37, 0, 0, 0], [11, 29], [23], [20], [14, 9, 17, 0], [9, 0, 1, 0, 1, 28], [17, 0, 0, 1, 0, 2, 0, 0, 0, 0, 0, 0, 0, 0, 15, 0, 0, 0, 0, 0, 0, 0, 0, 0]] (by rfl) (by decide +kernel)
set_option maxRecDepth 20000 in
theorem gX1_readDate_X9_takeNumber : GoodIn wsX1_readDate (wsV RX1 77 RX9 yX9_takeNumber wsX9_takeNumber) := goodIn_app (goodIn_of _ (by decide +kernel)) ggX1_readDate_X9_takeNumber
set_option maxRecDepth 20000 in
theorem ggX1_readDate_X9_takeStop : GoodIn wsX1_readDate wsX9_takeStop := goodIn_k _ [[48], [23, 19], [9, 0, 0, 0, 0, 0, 0, 28], [17, 0, 0, 0, 0, 0, 1, 0, 0, 0, 0, 0, 0, 0, 0, 0, 15, 0, 0, 0, 0, 0, 0, 0, 0, 0]] (by rfl) (by decide +kernel)
set_option maxRecDepth 20000 in
theorem gX1_readDate_X9_takeStop : GoodIn wsX1_readDate (wsV RX1 80 RX9 yX9_takeStop wsX9_takeStop) := goodIn_app (goodIn_of _ (by decide +kernel)) ggX1_readDate_X9_takeStop
noncomputable def sX1_readDate_69 : List Nat := 172 :: []
noncomputable def sX1_readDate_66 : List Nat := 182 :: 0 :: 80 :: sX1_readDate_69
noncomputable def sX1_readDate_65 : List Nat := 43 :: sX1_readDate_66
noncomputable def sX1_readDate_64 : List Nat := 79 :: sX1_readDate_65
noncomputable def sX1_readDate_63 : List Nat := 96 :: sX1_readDate_64
noncomputable def sX1_readDate_60 : List Nat := 180 :: 0 :: 53 :: sX1_readDate_63
noncomputable def sX1_readDate_59 : List Nat := 43 :: sX1_readDate_60
noncomputable def sX1_readDate_58 : List Nat := 104 :: sX1_readDate_59
noncomputable def sX1_readDate_57 : List Nat := 28 :: sX1_readDate_58
noncomputable def sX1_readDate_55 : List Nat := 16 :: 30 :: sX1_readDate_57
noncomputable def sX1_readDate_53 : List Nat := 16 :: 21 :: sX1_readDate_55
noncomputable def sX1_readDate_50 : List Nat := 180 :: 0 :: 15 :: sX1_readDate_53
noncomputable def sX1_readDate_49 : List Nat := 42 :: sX1_readDate_50
noncomputable def sX1_readDate_48 : List Nat := 172 :: sX1_readDate_49
noncomputable def sX1_readDate_47 : List Nat := 3 :: sX1_readDate_48
noncomputable def sX1_readDate_44 : List Nat := 154 :: 0 :: 5 :: sX1_readDate_47
noncomputable def sX1_readDate_41 : List Nat := 182 :: 0 :: 77 :: sX1_readDate_44
noncomputable def sX1_readDate_39 : List Nat := 16 :: 29 :: sX1_readDate_41
noncomputable def sX1_readDate_36 : List Nat := 167 :: 0 :: 5 :: sX1_readDate_39
noncomputable def sX1_readDate_35 : List Nat := 7 :: sX1_readDate_36
noncomputable def sX1_readDate_32 : List Nat := 160 :: 0 :: 7 :: sX1_readDate_35
noncomputable def sX1_readDate_30 : List Nat := 16 :: 12 :: sX1_readDate_32
noncomputable def sX1_readDate_29 : List Nat := 28 :: sX1_readDate_30
noncomputable def sX1_readDate_28 : List Nat := 3 :: sX1_readDate_29
noncomputable def sX1_readDate_27 : List Nat := 43 :: sX1_readDate_28
noncomputable def sX1_readDate_26 : List Nat := 61 :: sX1_readDate_27
noncomputable def sX1_readDate_23 : List Nat := 180 :: 0 :: 53 :: sX1_readDate_26
noncomputable def sX1_readDate_22 : List Nat := 43 :: sX1_readDate_23
noncomputable def sX1_readDate_21 : List Nat := 172 :: sX1_readDate_22
noncomputable def sX1_readDate_20 : List Nat := 3 :: sX1_readDate_21
noncomputable def sX1_readDate_17 : List Nat := 154 :: 0 :: 5 :: sX1_readDate_20
noncomputable def sX1_readDate_14 : List Nat := 182 :: 0 :: 77 :: sX1_readDate_17
noncomputable def sX1_readDate_12 : List Nat := 16 :: 12 :: sX1_readDate_14
noncomputable def sX1_readDate_11 : List Nat := 3 :: sX1_readDate_12
noncomputable def sX1_readDate_10 : List Nat := 43 :: sX1_readDate_11
noncomputable def sX1_readDate_7 : List Nat := 153 :: 0 :: 13 :: sX1_readDate_10
noncomputable def sX1_readDate_4 : List Nat := 182 :: 0 :: 74 :: sX1_readDate_7
noncomputable def sX1_readDate_2 : List Nat := 16 :: 21 :: sX1_readDate_4
noncomputable def sX1_readDate_1 : List Nat := 43 :: sX1_readDate_2
noncomputable def sX1_readDate_0 : List Nat := 42 :: sX1_readDate_1
theorem aX1_readDate_0 : dc_at cX1_readDate 0 sX1_readDate_0 := dc_base (by decide +kernel)
theorem aX1_readDate_1 : dc_at cX1_readDate 1 sX1_readDate_1 := dc_n1 aX1_readDate_0
theorem aX1_readDate_2 : dc_at cX1_readDate 2 sX1_readDate_2 := dc_n1 aX1_readDate_1
theorem aX1_readDate_4 : dc_at cX1_readDate 4 sX1_readDate_4 := dc_n2 aX1_readDate_2
theorem aX1_readDate_7 : dc_at cX1_readDate 7 sX1_readDate_7 := dc_n3 aX1_readDate_4
theorem aX1_readDate_10 : dc_at cX1_readDate 10 sX1_readDate_10 := dc_n3 aX1_readDate_7
theorem aX1_readDate_11 : dc_at cX1_readDate 11 sX1_readDate_11 := dc_n1 aX1_readDate_10
theorem aX1_readDate_12 : dc_at cX1_readDate 12 sX1_readDate_12 := dc_n1 aX1_readDate_11
theorem aX1_readDate_14 : dc_at cX1_readDate 14 sX1_readDate_14 := dc_n2 aX1_readDate_12
theorem aX1_readDate_17 : dc_at cX1_readDate 17 sX1_readDate_17 := dc_n3 aX1_readDate_14
theorem aX1_readDate_20 : dc_at cX1_readDate 20 sX1_readDate_20 := dc_n3 aX1_readDate_17
theorem aX1_readDate_21 : dc_at cX1_readDate 21 sX1_readDate_21 := dc_n1 aX1_readDate_20
theorem aX1_readDate_22 : dc_at cX1_readDate 22 sX1_readDate_22 := dc_n1 aX1_readDate_21
theorem aX1_readDate_23 : dc_at cX1_readDate 23 sX1_readDate_23 := dc_n1 aX1_readDate_22
theorem aX1_readDate_26 : dc_at cX1_readDate 26 sX1_readDate_26 := dc_n3 aX1_readDate_23
theorem aX1_readDate_27 : dc_at cX1_readDate 27 sX1_readDate_27 := dc_n1 aX1_readDate_26
theorem aX1_readDate_28 : dc_at cX1_readDate 28 sX1_readDate_28 := dc_n1 aX1_readDate_27
theorem aX1_readDate_29 : dc_at cX1_readDate 29 sX1_readDate_29 := dc_n1 aX1_readDate_28
theorem aX1_readDate_30 : dc_at cX1_readDate 30 sX1_readDate_30 := dc_n1 aX1_readDate_29
theorem aX1_readDate_32 : dc_at cX1_readDate 32 sX1_readDate_32 := dc_n2 aX1_readDate_30
theorem aX1_readDate_35 : dc_at cX1_readDate 35 sX1_readDate_35 := dc_n3 aX1_readDate_32
theorem aX1_readDate_36 : dc_at cX1_readDate 36 sX1_readDate_36 := dc_n1 aX1_readDate_35
theorem aX1_readDate_39 : dc_at cX1_readDate 39 sX1_readDate_39 := dc_n3 aX1_readDate_36
theorem aX1_readDate_41 : dc_at cX1_readDate 41 sX1_readDate_41 := dc_n2 aX1_readDate_39
theorem aX1_readDate_44 : dc_at cX1_readDate 44 sX1_readDate_44 := dc_n3 aX1_readDate_41
theorem aX1_readDate_47 : dc_at cX1_readDate 47 sX1_readDate_47 := dc_n3 aX1_readDate_44
theorem aX1_readDate_48 : dc_at cX1_readDate 48 sX1_readDate_48 := dc_n1 aX1_readDate_47
theorem aX1_readDate_49 : dc_at cX1_readDate 49 sX1_readDate_49 := dc_n1 aX1_readDate_48
theorem aX1_readDate_50 : dc_at cX1_readDate 50 sX1_readDate_50 := dc_n1 aX1_readDate_49
theorem aX1_readDate_53 : dc_at cX1_readDate 53 sX1_readDate_53 := dc_n3 aX1_readDate_50
theorem aX1_readDate_55 : dc_at cX1_readDate 55 sX1_readDate_55 := dc_n2 aX1_readDate_53
theorem aX1_readDate_57 : dc_at cX1_readDate 57 sX1_readDate_57 := dc_n2 aX1_readDate_55
theorem aX1_readDate_58 : dc_at cX1_readDate 58 sX1_readDate_58 := dc_n1 aX1_readDate_57
theorem aX1_readDate_59 : dc_at cX1_readDate 59 sX1_readDate_59 := dc_n1 aX1_readDate_58
theorem aX1_readDate_60 : dc_at cX1_readDate 60 sX1_readDate_60 := dc_n1 aX1_readDate_59
theorem aX1_readDate_63 : dc_at cX1_readDate 63 sX1_readDate_63 := dc_n3 aX1_readDate_60
theorem aX1_readDate_64 : dc_at cX1_readDate 64 sX1_readDate_64 := dc_n1 aX1_readDate_63
theorem aX1_readDate_65 : dc_at cX1_readDate 65 sX1_readDate_65 := dc_n1 aX1_readDate_64
theorem aX1_readDate_66 : dc_at cX1_readDate 66 sX1_readDate_66 := dc_n1 aX1_readDate_65
theorem aX1_readDate_69 : dc_at cX1_readDate 69 sX1_readDate_69 := dc_n3 aX1_readDate_66
theorem dX1_readDate_0 : decode cX1_readDate 0 = .ok (.aload_n 0, 1) := dc_42 aX1_readDate_0
theorem dX1_readDate_1 : decode cX1_readDate 1 = .ok (.aload_n 1, 1) := dc_43 aX1_readDate_1
theorem dX1_readDate_2 : decode cX1_readDate 2 = .ok (.bipush 21, 2) := dc_16 (a0 := 21) aX1_readDate_2 (by decide)
theorem dX1_readDate_4 : decode cX1_readDate 4 = .ok (.invokevirtual 74, 3) := dc_182 (a0 := 0) (b0 := 74) aX1_readDate_4
theorem dX1_readDate_7 : decode cX1_readDate 7 = .ok (.ifCond .eq 13, 3) := dc_153 (a0 := 0) (b0 := 13) aX1_readDate_7 (by decide)
theorem dX1_readDate_10 : decode cX1_readDate 10 = .ok (.aload_n 1, 1) := dc_43 aX1_readDate_10
theorem dX1_readDate_11 : decode cX1_readDate 11 = .ok (.iconst 0, 1) := dc_3 aX1_readDate_11
theorem dX1_readDate_12 : decode cX1_readDate 12 = .ok (.bipush 12, 2) := dc_16 (a0 := 12) aX1_readDate_12 (by decide)
theorem dX1_readDate_14 : decode cX1_readDate 14 = .ok (.invokevirtual 77, 3) := dc_182 (a0 := 0) (b0 := 77) aX1_readDate_14
theorem dX1_readDate_17 : decode cX1_readDate 17 = .ok (.ifCond .ne 5, 3) := dc_154 (a0 := 0) (b0 := 5) aX1_readDate_17 (by decide)
theorem dX1_readDate_20 : decode cX1_readDate 20 = .ok (.iconst 0, 1) := dc_3 aX1_readDate_20
theorem dX1_readDate_21 : decode cX1_readDate 21 = .ok (.ireturn, 1) := dc_172 aX1_readDate_21
theorem dX1_readDate_22 : decode cX1_readDate 22 = .ok (.aload_n 1, 1) := dc_43 aX1_readDate_22
theorem dX1_readDate_23 : decode cX1_readDate 23 = .ok (.getfield 53, 3) := dc_180 (a0 := 0) (b0 := 53) aX1_readDate_23
theorem dX1_readDate_26 : decode cX1_readDate 26 = .ok (.istore_n 2, 1) := dc_61 aX1_readDate_26
theorem dX1_readDate_27 : decode cX1_readDate 27 = .ok (.aload_n 1, 1) := dc_43 aX1_readDate_27
theorem dX1_readDate_28 : decode cX1_readDate 28 = .ok (.iconst 0, 1) := dc_3 aX1_readDate_28
theorem dX1_readDate_29 : decode cX1_readDate 29 = .ok (.iload_n 2, 1) := dc_28 aX1_readDate_29
theorem dX1_readDate_30 : decode cX1_readDate 30 = .ok (.bipush 12, 2) := dc_16 (a0 := 12) aX1_readDate_30 (by decide)
theorem dX1_readDate_32 : decode cX1_readDate 32 = .ok (.if_icmp .ne 7, 3) := dc_160 (a0 := 0) (b0 := 7) aX1_readDate_32 (by decide)
theorem dX1_readDate_35 : decode cX1_readDate 35 = .ok (.iconst 4, 1) := dc_7 aX1_readDate_35
theorem dX1_readDate_36 : decode cX1_readDate 36 = .ok (.goto 5, 3) := dc_167 (a0 := 0) (b0 := 5) aX1_readDate_36 (by decide)
theorem dX1_readDate_39 : decode cX1_readDate 39 = .ok (.bipush 29, 2) := dc_16 (a0 := 29) aX1_readDate_39 (by decide)
theorem dX1_readDate_41 : decode cX1_readDate 41 = .ok (.invokevirtual 77, 3) := dc_182 (a0 := 0) (b0 := 77) aX1_readDate_41
theorem dX1_readDate_44 : decode cX1_readDate 44 = .ok (.ifCond .ne 5, 3) := dc_154 (a0 := 0) (b0 := 5) aX1_readDate_44 (by decide)
theorem dX1_readDate_47 : decode cX1_readDate 47 = .ok (.iconst 0, 1) := dc_3 aX1_readDate_47
theorem dX1_readDate_48 : decode cX1_readDate 48 = .ok (.ireturn, 1) := dc_172 aX1_readDate_48
theorem dX1_readDate_49 : decode cX1_readDate 49 = .ok (.aload_n 0, 1) := dc_42 aX1_readDate_49
theorem dX1_readDate_50 : decode cX1_readDate 50 = .ok (.getfield 15, 3) := dc_180 (a0 := 0) (b0 := 15) aX1_readDate_50
theorem dX1_readDate_53 : decode cX1_readDate 53 = .ok (.bipush 21, 2) := dc_16 (a0 := 21) aX1_readDate_53 (by decide)
theorem dX1_readDate_55 : decode cX1_readDate 55 = .ok (.bipush 30, 2) := dc_16 (a0 := 30) aX1_readDate_55 (by decide)
theorem dX1_readDate_57 : decode cX1_readDate 57 = .ok (.iload_n 2, 1) := dc_28 aX1_readDate_57
theorem dX1_readDate_58 : decode cX1_readDate 58 = .ok (.imul, 1) := dc_104 aX1_readDate_58
theorem dX1_readDate_59 : decode cX1_readDate 59 = .ok (.aload_n 1, 1) := dc_43 aX1_readDate_59
theorem dX1_readDate_60 : decode cX1_readDate 60 = .ok (.getfield 53, 3) := dc_180 (a0 := 0) (b0 := 53) aX1_readDate_60
theorem dX1_readDate_63 : decode cX1_readDate 63 = .ok (.iadd, 1) := dc_96 aX1_readDate_63
theorem dX1_readDate_64 : decode cX1_readDate 64 = .ok (.iastore, 1) := dc_79 aX1_readDate_64
theorem dX1_readDate_65 : decode cX1_readDate 65 = .ok (.aload_n 1, 1) := dc_43 aX1_readDate_65
theorem dX1_readDate_66 : decode cX1_readDate 66 = .ok (.invokevirtual 80, 3) := dc_182 (a0 := 0) (b0 := 80) aX1_readDate_66
theorem dX1_readDate_69 : decode cX1_readDate 69 = .ok (.ireturn, 1) := dc_172 aX1_readDate_69
set_option maxRecDepth 20000 in
theorem ggX1_tellsSomething_X1_degreeOf : GoodIn wsX1_tellsSomething wsX1_degreeOf := goodIn_k _ [[5, 0, 0, 0]] (by rfl) (by decide +kernel)
set_option maxRecDepth 20000 in
theorem gX1_tellsSomething_X1_degreeOf : GoodIn wsX1_tellsSomething (wsV RX1 83 RX1 yX1_degreeOf wsX1_degreeOf) := goodIn_app (goodIn_of _ (by decide +kernel)) ggX1_tellsSomething_X1_degreeOf
noncomputable def sX1_tellsSomething_27 : List Nat := 172 :: []
noncomputable def sX1_tellsSomething_26 : List Nat := 3 :: sX1_tellsSomething_27
noncomputable def sX1_tellsSomething_23 : List Nat := 167 :: 255 :: 235 :: sX1_tellsSomething_26
noncomputable def sX1_tellsSomething_20 : List Nat := 132 :: 2 :: 1 :: sX1_tellsSomething_23
noncomputable def sX1_tellsSomething_19 : List Nat := 172 :: sX1_tellsSomething_20
noncomputable def sX1_tellsSomething_18 : List Nat := 4 :: sX1_tellsSomething_19
noncomputable def sX1_tellsSomething_15 : List Nat := 159 :: 0 :: 5 :: sX1_tellsSomething_18
noncomputable def sX1_tellsSomething_14 : List Nat := 2 :: sX1_tellsSomething_15
noncomputable def sX1_tellsSomething_11 : List Nat := 182 :: 0 :: 83 :: sX1_tellsSomething_14
noncomputable def sX1_tellsSomething_10 : List Nat := 28 :: sX1_tellsSomething_11
noncomputable def sX1_tellsSomething_9 : List Nat := 27 :: sX1_tellsSomething_10
noncomputable def sX1_tellsSomething_8 : List Nat := 42 :: sX1_tellsSomething_9
noncomputable def sX1_tellsSomething_5 : List Nat := 162 :: 0 :: 21 :: sX1_tellsSomething_8
noncomputable def sX1_tellsSomething_3 : List Nat := 16 :: 22 :: sX1_tellsSomething_5
noncomputable def sX1_tellsSomething_2 : List Nat := 28 :: sX1_tellsSomething_3
noncomputable def sX1_tellsSomething_1 : List Nat := 61 :: sX1_tellsSomething_2
noncomputable def sX1_tellsSomething_0 : List Nat := 3 :: sX1_tellsSomething_1
theorem aX1_tellsSomething_0 : dc_at cX1_tellsSomething 0 sX1_tellsSomething_0 := dc_base (by decide +kernel)
theorem aX1_tellsSomething_1 : dc_at cX1_tellsSomething 1 sX1_tellsSomething_1 := dc_n1 aX1_tellsSomething_0
theorem aX1_tellsSomething_2 : dc_at cX1_tellsSomething 2 sX1_tellsSomething_2 := dc_n1 aX1_tellsSomething_1
theorem aX1_tellsSomething_3 : dc_at cX1_tellsSomething 3 sX1_tellsSomething_3 := dc_n1 aX1_tellsSomething_2
theorem aX1_tellsSomething_5 : dc_at cX1_tellsSomething 5 sX1_tellsSomething_5 := dc_n2 aX1_tellsSomething_3
theorem aX1_tellsSomething_8 : dc_at cX1_tellsSomething 8 sX1_tellsSomething_8 := dc_n3 aX1_tellsSomething_5
theorem aX1_tellsSomething_9 : dc_at cX1_tellsSomething 9 sX1_tellsSomething_9 := dc_n1 aX1_tellsSomething_8
theorem aX1_tellsSomething_10 : dc_at cX1_tellsSomething 10 sX1_tellsSomething_10 := dc_n1 aX1_tellsSomething_9
theorem aX1_tellsSomething_11 : dc_at cX1_tellsSomething 11 sX1_tellsSomething_11 := dc_n1 aX1_tellsSomething_10
theorem aX1_tellsSomething_14 : dc_at cX1_tellsSomething 14 sX1_tellsSomething_14 := dc_n3 aX1_tellsSomething_11
theorem aX1_tellsSomething_15 : dc_at cX1_tellsSomething 15 sX1_tellsSomething_15 := dc_n1 aX1_tellsSomething_14
theorem aX1_tellsSomething_18 : dc_at cX1_tellsSomething 18 sX1_tellsSomething_18 := dc_n3 aX1_tellsSomething_15
theorem aX1_tellsSomething_19 : dc_at cX1_tellsSomething 19 sX1_tellsSomething_19 := dc_n1 aX1_tellsSomething_18
theorem aX1_tellsSomething_20 : dc_at cX1_tellsSomething 20 sX1_tellsSomething_20 := dc_n1 aX1_tellsSomething_19
theorem aX1_tellsSomething_23 : dc_at cX1_tellsSomething 23 sX1_tellsSomething_23 := dc_n3 aX1_tellsSomething_20
theorem aX1_tellsSomething_26 : dc_at cX1_tellsSomething 26 sX1_tellsSomething_26 := dc_n3 aX1_tellsSomething_23
theorem aX1_tellsSomething_27 : dc_at cX1_tellsSomething 27 sX1_tellsSomething_27 := dc_n1 aX1_tellsSomething_26
theorem dX1_tellsSomething_0 : decode cX1_tellsSomething 0 = .ok (.iconst 0, 1) := dc_3 aX1_tellsSomething_0
theorem dX1_tellsSomething_1 : decode cX1_tellsSomething 1 = .ok (.istore_n 2, 1) := dc_61 aX1_tellsSomething_1
theorem dX1_tellsSomething_2 : decode cX1_tellsSomething 2 = .ok (.iload_n 2, 1) := dc_28 aX1_tellsSomething_2
theorem dX1_tellsSomething_3 : decode cX1_tellsSomething 3 = .ok (.bipush 22, 2) := dc_16 (a0 := 22) aX1_tellsSomething_3 (by decide)
theorem dX1_tellsSomething_5 : decode cX1_tellsSomething 5 = .ok (.if_icmp .ge 21, 3) := dc_162 (a0 := 0) (b0 := 21) aX1_tellsSomething_5 (by decide)
theorem dX1_tellsSomething_8 : decode cX1_tellsSomething 8 = .ok (.aload_n 0, 1) := dc_42 aX1_tellsSomething_8
theorem dX1_tellsSomething_9 : decode cX1_tellsSomething 9 = .ok (.iload_n 1, 1) := dc_27 aX1_tellsSomething_9
theorem dX1_tellsSomething_10 : decode cX1_tellsSomething 10 = .ok (.iload_n 2, 1) := dc_28 aX1_tellsSomething_10
theorem dX1_tellsSomething_11 : decode cX1_tellsSomething 11 = .ok (.invokevirtual 83, 3) := dc_182 (a0 := 0) (b0 := 83) aX1_tellsSomething_11
theorem dX1_tellsSomething_14 : decode cX1_tellsSomething 14 = .ok (.iconst (-1), 1) := dc_2 aX1_tellsSomething_14
theorem dX1_tellsSomething_15 : decode cX1_tellsSomething 15 = .ok (.if_icmp .eq 5, 3) := dc_159 (a0 := 0) (b0 := 5) aX1_tellsSomething_15 (by decide)
theorem dX1_tellsSomething_18 : decode cX1_tellsSomething 18 = .ok (.iconst 1, 1) := dc_4 aX1_tellsSomething_18
theorem dX1_tellsSomething_19 : decode cX1_tellsSomething 19 = .ok (.ireturn, 1) := dc_172 aX1_tellsSomething_19
theorem dX1_tellsSomething_20 : decode cX1_tellsSomething 20 = .ok (.iinc 2 1, 3) := dc_132 (a0 := 2) (a1 := 1) aX1_tellsSomething_20 (by decide)
theorem dX1_tellsSomething_23 : decode cX1_tellsSomething 23 = .ok (.goto (-21), 3) := dc_167 (a0 := 255) (b0 := 235) aX1_tellsSomething_23 (by decide)
theorem dX1_tellsSomething_26 : decode cX1_tellsSomething 26 = .ok (.iconst 0, 1) := dc_3 aX1_tellsSomething_26
theorem dX1_tellsSomething_27 : decode cX1_tellsSomething 27 = .ok (.ireturn, 1) := dc_172 aX1_tellsSomething_27
set_option maxRecDepth 20000 in
theorem ggX1_howManyTell_X1_tellsSomething : GoodIn wsX1_howManyTell wsX1_tellsSomething := goodIn_k _ [[5, 0, 0, 0], [4, 4, 0, 0, 0]] (by rfl) (by decide +kernel)
set_option maxRecDepth 20000 in
theorem gX1_howManyTell_X1_tellsSomething : GoodIn wsX1_howManyTell (wsV RX1 87 RX1 yX1_tellsSomething wsX1_tellsSomething) := goodIn_app (goodIn_of _ (by decide +kernel)) ggX1_howManyTell_X1_tellsSomething
noncomputable def sX1_howManyTell_28 : List Nat := 172 :: []
noncomputable def sX1_howManyTell_27 : List Nat := 27 :: sX1_howManyTell_28
noncomputable def sX1_howManyTell_24 : List Nat := 167 :: 255 :: 236 :: sX1_howManyTell_27
noncomputable def sX1_howManyTell_21 : List Nat := 132 :: 2 :: 1 :: sX1_howManyTell_24
noncomputable def sX1_howManyTell_18 : List Nat := 132 :: 1 :: 1 :: sX1_howManyTell_21
noncomputable def sX1_howManyTell_15 : List Nat := 153 :: 0 :: 6 :: sX1_howManyTell_18
noncomputable def sX1_howManyTell_12 : List Nat := 182 :: 0 :: 87 :: sX1_howManyTell_15
noncomputable def sX1_howManyTell_11 : List Nat := 28 :: sX1_howManyTell_12
noncomputable def sX1_howManyTell_10 : List Nat := 42 :: sX1_howManyTell_11
noncomputable def sX1_howManyTell_7 : List Nat := 162 :: 0 :: 20 :: sX1_howManyTell_10
noncomputable def sX1_howManyTell_5 : List Nat := 16 :: 120 :: sX1_howManyTell_7
noncomputable def sX1_howManyTell_4 : List Nat := 28 :: sX1_howManyTell_5
noncomputable def sX1_howManyTell_3 : List Nat := 61 :: sX1_howManyTell_4
noncomputable def sX1_howManyTell_2 : List Nat := 3 :: sX1_howManyTell_3
noncomputable def sX1_howManyTell_1 : List Nat := 60 :: sX1_howManyTell_2
noncomputable def sX1_howManyTell_0 : List Nat := 3 :: sX1_howManyTell_1
theorem aX1_howManyTell_0 : dc_at cX1_howManyTell 0 sX1_howManyTell_0 := dc_base (by decide +kernel)
theorem aX1_howManyTell_1 : dc_at cX1_howManyTell 1 sX1_howManyTell_1 := dc_n1 aX1_howManyTell_0
theorem aX1_howManyTell_2 : dc_at cX1_howManyTell 2 sX1_howManyTell_2 := dc_n1 aX1_howManyTell_1
theorem aX1_howManyTell_3 : dc_at cX1_howManyTell 3 sX1_howManyTell_3 := dc_n1 aX1_howManyTell_2
theorem aX1_howManyTell_4 : dc_at cX1_howManyTell 4 sX1_howManyTell_4 := dc_n1 aX1_howManyTell_3
theorem aX1_howManyTell_5 : dc_at cX1_howManyTell 5 sX1_howManyTell_5 := dc_n1 aX1_howManyTell_4
theorem aX1_howManyTell_7 : dc_at cX1_howManyTell 7 sX1_howManyTell_7 := dc_n2 aX1_howManyTell_5
theorem aX1_howManyTell_10 : dc_at cX1_howManyTell 10 sX1_howManyTell_10 := dc_n3 aX1_howManyTell_7
theorem aX1_howManyTell_11 : dc_at cX1_howManyTell 11 sX1_howManyTell_11 := dc_n1 aX1_howManyTell_10
theorem aX1_howManyTell_12 : dc_at cX1_howManyTell 12 sX1_howManyTell_12 := dc_n1 aX1_howManyTell_11
theorem aX1_howManyTell_15 : dc_at cX1_howManyTell 15 sX1_howManyTell_15 := dc_n3 aX1_howManyTell_12
theorem aX1_howManyTell_18 : dc_at cX1_howManyTell 18 sX1_howManyTell_18 := dc_n3 aX1_howManyTell_15
theorem aX1_howManyTell_21 : dc_at cX1_howManyTell 21 sX1_howManyTell_21 := dc_n3 aX1_howManyTell_18
theorem aX1_howManyTell_24 : dc_at cX1_howManyTell 24 sX1_howManyTell_24 := dc_n3 aX1_howManyTell_21
theorem aX1_howManyTell_27 : dc_at cX1_howManyTell 27 sX1_howManyTell_27 := dc_n3 aX1_howManyTell_24
theorem aX1_howManyTell_28 : dc_at cX1_howManyTell 28 sX1_howManyTell_28 := dc_n1 aX1_howManyTell_27
theorem dX1_howManyTell_0 : decode cX1_howManyTell 0 = .ok (.iconst 0, 1) := dc_3 aX1_howManyTell_0
theorem dX1_howManyTell_1 : decode cX1_howManyTell 1 = .ok (.istore_n 1, 1) := dc_60 aX1_howManyTell_1
theorem dX1_howManyTell_2 : decode cX1_howManyTell 2 = .ok (.iconst 0, 1) := dc_3 aX1_howManyTell_2
theorem dX1_howManyTell_3 : decode cX1_howManyTell 3 = .ok (.istore_n 2, 1) := dc_61 aX1_howManyTell_3
theorem dX1_howManyTell_4 : decode cX1_howManyTell 4 = .ok (.iload_n 2, 1) := dc_28 aX1_howManyTell_4
theorem dX1_howManyTell_5 : decode cX1_howManyTell 5 = .ok (.bipush 120, 2) := dc_16 (a0 := 120) aX1_howManyTell_5 (by decide)
theorem dX1_howManyTell_7 : decode cX1_howManyTell 7 = .ok (.if_icmp .ge 20, 3) := dc_162 (a0 := 0) (b0 := 20) aX1_howManyTell_7 (by decide)
theorem dX1_howManyTell_10 : decode cX1_howManyTell 10 = .ok (.aload_n 0, 1) := dc_42 aX1_howManyTell_10
theorem dX1_howManyTell_11 : decode cX1_howManyTell 11 = .ok (.iload_n 2, 1) := dc_28 aX1_howManyTell_11
theorem dX1_howManyTell_12 : decode cX1_howManyTell 12 = .ok (.invokevirtual 87, 3) := dc_182 (a0 := 0) (b0 := 87) aX1_howManyTell_12
theorem dX1_howManyTell_15 : decode cX1_howManyTell 15 = .ok (.ifCond .eq 6, 3) := dc_153 (a0 := 0) (b0 := 6) aX1_howManyTell_15 (by decide)
theorem dX1_howManyTell_18 : decode cX1_howManyTell 18 = .ok (.iinc 1 1, 3) := dc_132 (a0 := 1) (a1 := 1) aX1_howManyTell_18 (by decide)
theorem dX1_howManyTell_21 : decode cX1_howManyTell 21 = .ok (.iinc 2 1, 3) := dc_132 (a0 := 2) (a1 := 1) aX1_howManyTell_21 (by decide)
theorem dX1_howManyTell_24 : decode cX1_howManyTell 24 = .ok (.goto (-20), 3) := dc_167 (a0 := 255) (b0 := 236) aX1_howManyTell_24 (by decide)
theorem dX1_howManyTell_27 : decode cX1_howManyTell 27 = .ok (.iload_n 1, 1) := dc_27 aX1_howManyTell_27
theorem dX1_howManyTell_28 : decode cX1_howManyTell 28 = .ok (.ireturn, 1) := dc_172 aX1_howManyTell_28
set_option maxRecDepth 20000 in
theorem ggX1_bookTells_X1_tellsSomething : GoodIn wsX1_bookTells wsX1_tellsSomething := goodIn_k _ [[5, 0, 0, 0], [4, 4, 0, 0, 0]] (by rfl) (by decide +kernel)
set_option maxRecDepth 20000 in
theorem gX1_bookTells_X1_tellsSomething : GoodIn wsX1_bookTells (wsV RX1 87 RX1 yX1_tellsSomething wsX1_tellsSomething) := goodIn_app (goodIn_of _ (by decide +kernel)) ggX1_bookTells_X1_tellsSomething
noncomputable def sX1_bookTells_30 : List Nat := 172 :: []
noncomputable def sX1_bookTells_29 : List Nat := 3 :: sX1_bookTells_30
noncomputable def sX1_bookTells_26 : List Nat := 167 :: 255 :: 232 :: sX1_bookTells_29
noncomputable def sX1_bookTells_23 : List Nat := 132 :: 2 :: 1 :: sX1_bookTells_26
noncomputable def sX1_bookTells_22 : List Nat := 172 :: sX1_bookTells_23
noncomputable def sX1_bookTells_21 : List Nat := 4 :: sX1_bookTells_22
noncomputable def sX1_bookTells_18 : List Nat := 153 :: 0 :: 5 :: sX1_bookTells_21
noncomputable def sX1_bookTells_15 : List Nat := 182 :: 0 :: 87 :: sX1_bookTells_18
noncomputable def sX1_bookTells_14 : List Nat := 96 :: sX1_bookTells_15
noncomputable def sX1_bookTells_13 : List Nat := 28 :: sX1_bookTells_14
noncomputable def sX1_bookTells_12 : List Nat := 104 :: sX1_bookTells_13
noncomputable def sX1_bookTells_11 : List Nat := 27 :: sX1_bookTells_12
noncomputable def sX1_bookTells_9 : List Nat := 16 :: 20 :: sX1_bookTells_11
noncomputable def sX1_bookTells_8 : List Nat := 42 :: sX1_bookTells_9
noncomputable def sX1_bookTells_5 : List Nat := 162 :: 0 :: 24 :: sX1_bookTells_8
noncomputable def sX1_bookTells_3 : List Nat := 16 :: 20 :: sX1_bookTells_5
noncomputable def sX1_bookTells_2 : List Nat := 28 :: sX1_bookTells_3
noncomputable def sX1_bookTells_1 : List Nat := 61 :: sX1_bookTells_2
noncomputable def sX1_bookTells_0 : List Nat := 3 :: sX1_bookTells_1
theorem aX1_bookTells_0 : dc_at cX1_bookTells 0 sX1_bookTells_0 := dc_base (by decide +kernel)
theorem aX1_bookTells_1 : dc_at cX1_bookTells 1 sX1_bookTells_1 := dc_n1 aX1_bookTells_0
theorem aX1_bookTells_2 : dc_at cX1_bookTells 2 sX1_bookTells_2 := dc_n1 aX1_bookTells_1
theorem aX1_bookTells_3 : dc_at cX1_bookTells 3 sX1_bookTells_3 := dc_n1 aX1_bookTells_2
theorem aX1_bookTells_5 : dc_at cX1_bookTells 5 sX1_bookTells_5 := dc_n2 aX1_bookTells_3
theorem aX1_bookTells_8 : dc_at cX1_bookTells 8 sX1_bookTells_8 := dc_n3 aX1_bookTells_5
theorem aX1_bookTells_9 : dc_at cX1_bookTells 9 sX1_bookTells_9 := dc_n1 aX1_bookTells_8
theorem aX1_bookTells_11 : dc_at cX1_bookTells 11 sX1_bookTells_11 := dc_n2 aX1_bookTells_9
theorem aX1_bookTells_12 : dc_at cX1_bookTells 12 sX1_bookTells_12 := dc_n1 aX1_bookTells_11
theorem aX1_bookTells_13 : dc_at cX1_bookTells 13 sX1_bookTells_13 := dc_n1 aX1_bookTells_12
theorem aX1_bookTells_14 : dc_at cX1_bookTells 14 sX1_bookTells_14 := dc_n1 aX1_bookTells_13
theorem aX1_bookTells_15 : dc_at cX1_bookTells 15 sX1_bookTells_15 := dc_n1 aX1_bookTells_14
theorem aX1_bookTells_18 : dc_at cX1_bookTells 18 sX1_bookTells_18 := dc_n3 aX1_bookTells_15
theorem aX1_bookTells_21 : dc_at cX1_bookTells 21 sX1_bookTells_21 := dc_n3 aX1_bookTells_18
theorem aX1_bookTells_22 : dc_at cX1_bookTells 22 sX1_bookTells_22 := dc_n1 aX1_bookTells_21
theorem aX1_bookTells_23 : dc_at cX1_bookTells 23 sX1_bookTells_23 := dc_n1 aX1_bookTells_22
theorem aX1_bookTells_26 : dc_at cX1_bookTells 26 sX1_bookTells_26 := dc_n3 aX1_bookTells_23
theorem aX1_bookTells_29 : dc_at cX1_bookTells 29 sX1_bookTells_29 := dc_n3 aX1_bookTells_26
theorem aX1_bookTells_30 : dc_at cX1_bookTells 30 sX1_bookTells_30 := dc_n1 aX1_bookTells_29
theorem dX1_bookTells_0 : decode cX1_bookTells 0 = .ok (.iconst 0, 1) := dc_3 aX1_bookTells_0
theorem dX1_bookTells_1 : decode cX1_bookTells 1 = .ok (.istore_n 2, 1) := dc_61 aX1_bookTells_1
theorem dX1_bookTells_2 : decode cX1_bookTells 2 = .ok (.iload_n 2, 1) := dc_28 aX1_bookTells_2
theorem dX1_bookTells_3 : decode cX1_bookTells 3 = .ok (.bipush 20, 2) := dc_16 (a0 := 20) aX1_bookTells_3 (by decide)
theorem dX1_bookTells_5 : decode cX1_bookTells 5 = .ok (.if_icmp .ge 24, 3) := dc_162 (a0 := 0) (b0 := 24) aX1_bookTells_5 (by decide)
theorem dX1_bookTells_8 : decode cX1_bookTells 8 = .ok (.aload_n 0, 1) := dc_42 aX1_bookTells_8
theorem dX1_bookTells_9 : decode cX1_bookTells 9 = .ok (.bipush 20, 2) := dc_16 (a0 := 20) aX1_bookTells_9 (by decide)
theorem dX1_bookTells_11 : decode cX1_bookTells 11 = .ok (.iload_n 1, 1) := dc_27 aX1_bookTells_11
theorem dX1_bookTells_12 : decode cX1_bookTells 12 = .ok (.imul, 1) := dc_104 aX1_bookTells_12
theorem dX1_bookTells_13 : decode cX1_bookTells 13 = .ok (.iload_n 2, 1) := dc_28 aX1_bookTells_13
theorem dX1_bookTells_14 : decode cX1_bookTells 14 = .ok (.iadd, 1) := dc_96 aX1_bookTells_14
theorem dX1_bookTells_15 : decode cX1_bookTells 15 = .ok (.invokevirtual 87, 3) := dc_182 (a0 := 0) (b0 := 87) aX1_bookTells_15
theorem dX1_bookTells_18 : decode cX1_bookTells 18 = .ok (.ifCond .eq 5, 3) := dc_153 (a0 := 0) (b0 := 5) aX1_bookTells_18 (by decide)
theorem dX1_bookTells_21 : decode cX1_bookTells 21 = .ok (.iconst 1, 1) := dc_4 aX1_bookTells_21
theorem dX1_bookTells_22 : decode cX1_bookTells 22 = .ok (.ireturn, 1) := dc_172 aX1_bookTells_22
theorem dX1_bookTells_23 : decode cX1_bookTells 23 = .ok (.iinc 2 1, 3) := dc_132 (a0 := 2) (a1 := 1) aX1_bookTells_23 (by decide)
theorem dX1_bookTells_26 : decode cX1_bookTells 26 = .ok (.goto (-24), 3) := dc_167 (a0 := 255) (b0 := 232) aX1_bookTells_26 (by decide)
theorem dX1_bookTells_29 : decode cX1_bookTells 29 = .ok (.iconst 0, 1) := dc_3 aX1_bookTells_29
theorem dX1_bookTells_30 : decode cX1_bookTells 30 = .ok (.ireturn, 1) := dc_172 aX1_bookTells_30
set_option maxRecDepth 20000 in
theorem ggX1_howManyHouses_X1_degreeOf : GoodIn wsX1_howManyHouses wsX1_degreeOf := goodIn_k _ [[5, 0, 0, 0]] (by rfl) (by decide +kernel)
set_option maxRecDepth 20000 in
theorem gX1_howManyHouses_X1_degreeOf : GoodIn wsX1_howManyHouses (wsV RX1 83 RX1 yX1_degreeOf wsX1_degreeOf) := goodIn_app (goodIn_of _ (by decide +kernel)) ggX1_howManyHouses_X1_degreeOf
noncomputable def sX1_howManyHouses_33 : List Nat := 172 :: []
noncomputable def sX1_howManyHouses_32 : List Nat := 28 :: sX1_howManyHouses_33
noncomputable def sX1_howManyHouses_29 : List Nat := 167 :: 255 :: 231 :: sX1_howManyHouses_32
noncomputable def sX1_howManyHouses_26 : List Nat := 132 :: 3 :: 1 :: sX1_howManyHouses_29
noncomputable def sX1_howManyHouses_23 : List Nat := 132 :: 2 :: 1 :: sX1_howManyHouses_26
noncomputable def sX1_howManyHouses_20 : List Nat := 159 :: 0 :: 6 :: sX1_howManyHouses_23
noncomputable def sX1_howManyHouses_19 : List Nat := 2 :: sX1_howManyHouses_20
noncomputable def sX1_howManyHouses_16 : List Nat := 182 :: 0 :: 83 :: sX1_howManyHouses_19
noncomputable def sX1_howManyHouses_15 : List Nat := 96 :: sX1_howManyHouses_16
noncomputable def sX1_howManyHouses_14 : List Nat := 29 :: sX1_howManyHouses_15
noncomputable def sX1_howManyHouses_12 : List Nat := 16 :: 8 :: sX1_howManyHouses_14
noncomputable def sX1_howManyHouses_11 : List Nat := 27 :: sX1_howManyHouses_12
noncomputable def sX1_howManyHouses_10 : List Nat := 42 :: sX1_howManyHouses_11
noncomputable def sX1_howManyHouses_7 : List Nat := 163 :: 0 :: 25 :: sX1_howManyHouses_10
noncomputable def sX1_howManyHouses_5 : List Nat := 16 :: 12 :: sX1_howManyHouses_7
noncomputable def sX1_howManyHouses_4 : List Nat := 29 :: sX1_howManyHouses_5
noncomputable def sX1_howManyHouses_3 : List Nat := 62 :: sX1_howManyHouses_4
noncomputable def sX1_howManyHouses_2 : List Nat := 4 :: sX1_howManyHouses_3
noncomputable def sX1_howManyHouses_1 : List Nat := 61 :: sX1_howManyHouses_2
noncomputable def sX1_howManyHouses_0 : List Nat := 3 :: sX1_howManyHouses_1
theorem aX1_howManyHouses_0 : dc_at cX1_howManyHouses 0 sX1_howManyHouses_0 := dc_base (by decide +kernel)
theorem aX1_howManyHouses_1 : dc_at cX1_howManyHouses 1 sX1_howManyHouses_1 := dc_n1 aX1_howManyHouses_0
theorem aX1_howManyHouses_2 : dc_at cX1_howManyHouses 2 sX1_howManyHouses_2 := dc_n1 aX1_howManyHouses_1
theorem aX1_howManyHouses_3 : dc_at cX1_howManyHouses 3 sX1_howManyHouses_3 := dc_n1 aX1_howManyHouses_2
theorem aX1_howManyHouses_4 : dc_at cX1_howManyHouses 4 sX1_howManyHouses_4 := dc_n1 aX1_howManyHouses_3
theorem aX1_howManyHouses_5 : dc_at cX1_howManyHouses 5 sX1_howManyHouses_5 := dc_n1 aX1_howManyHouses_4
theorem aX1_howManyHouses_7 : dc_at cX1_howManyHouses 7 sX1_howManyHouses_7 := dc_n2 aX1_howManyHouses_5
theorem aX1_howManyHouses_10 : dc_at cX1_howManyHouses 10 sX1_howManyHouses_10 := dc_n3 aX1_howManyHouses_7
theorem aX1_howManyHouses_11 : dc_at cX1_howManyHouses 11 sX1_howManyHouses_11 := dc_n1 aX1_howManyHouses_10
theorem aX1_howManyHouses_12 : dc_at cX1_howManyHouses 12 sX1_howManyHouses_12 := dc_n1 aX1_howManyHouses_11
theorem aX1_howManyHouses_14 : dc_at cX1_howManyHouses 14 sX1_howManyHouses_14 := dc_n2 aX1_howManyHouses_12
theorem aX1_howManyHouses_15 : dc_at cX1_howManyHouses 15 sX1_howManyHouses_15 := dc_n1 aX1_howManyHouses_14
theorem aX1_howManyHouses_16 : dc_at cX1_howManyHouses 16 sX1_howManyHouses_16 := dc_n1 aX1_howManyHouses_15
theorem aX1_howManyHouses_19 : dc_at cX1_howManyHouses 19 sX1_howManyHouses_19 := dc_n3 aX1_howManyHouses_16
theorem aX1_howManyHouses_20 : dc_at cX1_howManyHouses 20 sX1_howManyHouses_20 := dc_n1 aX1_howManyHouses_19
theorem aX1_howManyHouses_23 : dc_at cX1_howManyHouses 23 sX1_howManyHouses_23 := dc_n3 aX1_howManyHouses_20
theorem aX1_howManyHouses_26 : dc_at cX1_howManyHouses 26 sX1_howManyHouses_26 := dc_n3 aX1_howManyHouses_23
theorem aX1_howManyHouses_29 : dc_at cX1_howManyHouses 29 sX1_howManyHouses_29 := dc_n3 aX1_howManyHouses_26
theorem aX1_howManyHouses_32 : dc_at cX1_howManyHouses 32 sX1_howManyHouses_32 := dc_n3 aX1_howManyHouses_29
theorem aX1_howManyHouses_33 : dc_at cX1_howManyHouses 33 sX1_howManyHouses_33 := dc_n1 aX1_howManyHouses_32
theorem dX1_howManyHouses_0 : decode cX1_howManyHouses 0 = .ok (.iconst 0, 1) := dc_3 aX1_howManyHouses_0
theorem dX1_howManyHouses_1 : decode cX1_howManyHouses 1 = .ok (.istore_n 2, 1) := dc_61 aX1_howManyHouses_1
theorem dX1_howManyHouses_2 : decode cX1_howManyHouses 2 = .ok (.iconst 1, 1) := dc_4 aX1_howManyHouses_2
theorem dX1_howManyHouses_3 : decode cX1_howManyHouses 3 = .ok (.istore_n 3, 1) := dc_62 aX1_howManyHouses_3
theorem dX1_howManyHouses_4 : decode cX1_howManyHouses 4 = .ok (.iload_n 3, 1) := dc_29 aX1_howManyHouses_4
theorem dX1_howManyHouses_5 : decode cX1_howManyHouses 5 = .ok (.bipush 12, 2) := dc_16 (a0 := 12) aX1_howManyHouses_5 (by decide)
theorem dX1_howManyHouses_7 : decode cX1_howManyHouses 7 = .ok (.if_icmp .gt 25, 3) := dc_163 (a0 := 0) (b0 := 25) aX1_howManyHouses_7 (by decide)
theorem dX1_howManyHouses_10 : decode cX1_howManyHouses 10 = .ok (.aload_n 0, 1) := dc_42 aX1_howManyHouses_10
theorem dX1_howManyHouses_11 : decode cX1_howManyHouses 11 = .ok (.iload_n 1, 1) := dc_27 aX1_howManyHouses_11
theorem dX1_howManyHouses_12 : decode cX1_howManyHouses 12 = .ok (.bipush 8, 2) := dc_16 (a0 := 8) aX1_howManyHouses_12 (by decide)
theorem dX1_howManyHouses_14 : decode cX1_howManyHouses 14 = .ok (.iload_n 3, 1) := dc_29 aX1_howManyHouses_14
theorem dX1_howManyHouses_15 : decode cX1_howManyHouses 15 = .ok (.iadd, 1) := dc_96 aX1_howManyHouses_15
theorem dX1_howManyHouses_16 : decode cX1_howManyHouses 16 = .ok (.invokevirtual 83, 3) := dc_182 (a0 := 0) (b0 := 83) aX1_howManyHouses_16
theorem dX1_howManyHouses_19 : decode cX1_howManyHouses 19 = .ok (.iconst (-1), 1) := dc_2 aX1_howManyHouses_19
theorem dX1_howManyHouses_20 : decode cX1_howManyHouses 20 = .ok (.if_icmp .eq 6, 3) := dc_159 (a0 := 0) (b0 := 6) aX1_howManyHouses_20 (by decide)
theorem dX1_howManyHouses_23 : decode cX1_howManyHouses 23 = .ok (.iinc 2 1, 3) := dc_132 (a0 := 2) (a1 := 1) aX1_howManyHouses_23 (by decide)
theorem dX1_howManyHouses_26 : decode cX1_howManyHouses 26 = .ok (.iinc 3 1, 3) := dc_132 (a0 := 3) (a1 := 1) aX1_howManyHouses_26 (by decide)
theorem dX1_howManyHouses_29 : decode cX1_howManyHouses 29 = .ok (.goto (-25), 3) := dc_167 (a0 := 255) (b0 := 231) aX1_howManyHouses_29 (by decide)
theorem dX1_howManyHouses_32 : decode cX1_howManyHouses 32 = .ok (.iload_n 2, 1) := dc_28 aX1_howManyHouses_32
theorem dX1_howManyHouses_33 : decode cX1_howManyHouses 33 = .ok (.ireturn, 1) := dc_172 aX1_howManyHouses_33
set_option maxRecDepth 20000 in
theorem ggX1_howManyDiffer_X1_degreeOf : GoodIn wsX1_howManyDiffer wsX1_degreeOf := goodIn_k _ [[5, 0, 28, 0]] (by rfl) (by decide +kernel)
set_option maxRecDepth 20000 in
theorem gX1_howManyDiffer_X1_degreeOf : GoodIn wsX1_howManyDiffer (wsV RX1 83 RX1 yX1_degreeOf wsX1_degreeOf) := goodIn_app (goodIn_of _ (by decide +kernel)) ggX1_howManyDiffer_X1_degreeOf
set_option maxRecDepth 20000 in
theorem ggX1_howManyDiffer_X2_houseDegree : GoodIn wsX1_howManyDiffer wsX2_houseDegree := goodIn_k _ [[11, 0, 0, 0], [10, 4, 0, 0, 0, 0, 0, 0, 0, 0, 0, 0, 0, 0, 0, 0, 0, 0, 0, 0, 0, 2, 0]] (by rfl) (by decide +kernel)
set_option maxRecDepth 20000 in
theorem gX1_howManyDiffer_X2_houseDegree : GoodIn wsX1_howManyDiffer (wsV RX1 90 RX2 yX2_houseDegree wsX2_houseDegree) := goodIn_app (goodIn_of _ (by decide +kernel)) ggX1_howManyDiffer_X2_houseDegree
noncomputable def sX1_howManyDiffer_67 : List Nat := 172 :: []
noncomputable def sX1_howManyDiffer_65 : List Nat := 21 :: 6 :: sX1_howManyDiffer_67
noncomputable def sX1_howManyDiffer_62 : List Nat := 167 :: 255 :: 209 :: sX1_howManyDiffer_65
noncomputable def sX1_howManyDiffer_59 : List Nat := 132 :: 7 :: 1 :: sX1_howManyDiffer_62
noncomputable def sX1_howManyDiffer_56 : List Nat := 132 :: 6 :: 1 :: sX1_howManyDiffer_59
noncomputable def sX1_howManyDiffer_53 : List Nat := 159 :: 0 :: 6 :: sX1_howManyDiffer_56
noncomputable def sX1_howManyDiffer_50 : List Nat := 182 :: 0 :: 90 :: sX1_howManyDiffer_53
noncomputable def sX1_howManyDiffer_48 : List Nat := 21 :: 7 :: sX1_howManyDiffer_50
noncomputable def sX1_howManyDiffer_46 : List Nat := 21 :: 4 :: sX1_howManyDiffer_48
noncomputable def sX1_howManyDiffer_45 : List Nat := 29 :: sX1_howManyDiffer_46
noncomputable def sX1_howManyDiffer_43 : List Nat := 21 :: 5 :: sX1_howManyDiffer_45
noncomputable def sX1_howManyDiffer_42 : List Nat := 43 :: sX1_howManyDiffer_43
noncomputable def sX1_howManyDiffer_40 : List Nat := 21 :: 8 :: sX1_howManyDiffer_42
noncomputable def sX1_howManyDiffer_37 : List Nat := 159 :: 0 :: 22 :: sX1_howManyDiffer_40
noncomputable def sX1_howManyDiffer_36 : List Nat := 2 :: sX1_howManyDiffer_37
noncomputable def sX1_howManyDiffer_34 : List Nat := 21 :: 8 :: sX1_howManyDiffer_36
noncomputable def sX1_howManyDiffer_32 : List Nat := 54 :: 8 :: sX1_howManyDiffer_34
noncomputable def sX1_howManyDiffer_29 : List Nat := 182 :: 0 :: 83 :: sX1_howManyDiffer_32
noncomputable def sX1_howManyDiffer_28 : List Nat := 96 :: sX1_howManyDiffer_29
noncomputable def sX1_howManyDiffer_26 : List Nat := 21 :: 7 :: sX1_howManyDiffer_28
noncomputable def sX1_howManyDiffer_24 : List Nat := 16 :: 8 :: sX1_howManyDiffer_26
noncomputable def sX1_howManyDiffer_23 : List Nat := 28 :: sX1_howManyDiffer_24
noncomputable def sX1_howManyDiffer_22 : List Nat := 42 :: sX1_howManyDiffer_23
noncomputable def sX1_howManyDiffer_19 : List Nat := 163 :: 0 :: 46 :: sX1_howManyDiffer_22
noncomputable def sX1_howManyDiffer_17 : List Nat := 16 :: 12 :: sX1_howManyDiffer_19
noncomputable def sX1_howManyDiffer_15 : List Nat := 21 :: 7 :: sX1_howManyDiffer_17
noncomputable def sX1_howManyDiffer_13 : List Nat := 54 :: 7 :: sX1_howManyDiffer_15
noncomputable def sX1_howManyDiffer_12 : List Nat := 4 :: sX1_howManyDiffer_13
noncomputable def sX1_howManyDiffer_10 : List Nat := 54 :: 6 :: sX1_howManyDiffer_12
noncomputable def sX1_howManyDiffer_9 : List Nat := 3 :: sX1_howManyDiffer_10
noncomputable def sX1_howManyDiffer_7 : List Nat := 54 :: 5 :: sX1_howManyDiffer_9
noncomputable def sX1_howManyDiffer_4 : List Nat := 182 :: 0 :: 83 :: sX1_howManyDiffer_7
noncomputable def sX1_howManyDiffer_2 : List Nat := 16 :: 7 :: sX1_howManyDiffer_4
noncomputable def sX1_howManyDiffer_1 : List Nat := 28 :: sX1_howManyDiffer_2
noncomputable def sX1_howManyDiffer_0 : List Nat := 42 :: sX1_howManyDiffer_1
theorem aX1_howManyDiffer_0 : dc_at cX1_howManyDiffer 0 sX1_howManyDiffer_0 := dc_base (by decide +kernel)
theorem aX1_howManyDiffer_1 : dc_at cX1_howManyDiffer 1 sX1_howManyDiffer_1 := dc_n1 aX1_howManyDiffer_0
theorem aX1_howManyDiffer_2 : dc_at cX1_howManyDiffer 2 sX1_howManyDiffer_2 := dc_n1 aX1_howManyDiffer_1
theorem aX1_howManyDiffer_4 : dc_at cX1_howManyDiffer 4 sX1_howManyDiffer_4 := dc_n2 aX1_howManyDiffer_2
theorem aX1_howManyDiffer_7 : dc_at cX1_howManyDiffer 7 sX1_howManyDiffer_7 := dc_n3 aX1_howManyDiffer_4
theorem aX1_howManyDiffer_9 : dc_at cX1_howManyDiffer 9 sX1_howManyDiffer_9 := dc_n2 aX1_howManyDiffer_7
theorem aX1_howManyDiffer_10 : dc_at cX1_howManyDiffer 10 sX1_howManyDiffer_10 := dc_n1 aX1_howManyDiffer_9
theorem aX1_howManyDiffer_12 : dc_at cX1_howManyDiffer 12 sX1_howManyDiffer_12 := dc_n2 aX1_howManyDiffer_10
theorem aX1_howManyDiffer_13 : dc_at cX1_howManyDiffer 13 sX1_howManyDiffer_13 := dc_n1 aX1_howManyDiffer_12
theorem aX1_howManyDiffer_15 : dc_at cX1_howManyDiffer 15 sX1_howManyDiffer_15 := dc_n2 aX1_howManyDiffer_13
theorem aX1_howManyDiffer_17 : dc_at cX1_howManyDiffer 17 sX1_howManyDiffer_17 := dc_n2 aX1_howManyDiffer_15
theorem aX1_howManyDiffer_19 : dc_at cX1_howManyDiffer 19 sX1_howManyDiffer_19 := dc_n2 aX1_howManyDiffer_17
theorem aX1_howManyDiffer_22 : dc_at cX1_howManyDiffer 22 sX1_howManyDiffer_22 := dc_n3 aX1_howManyDiffer_19
theorem aX1_howManyDiffer_23 : dc_at cX1_howManyDiffer 23 sX1_howManyDiffer_23 := dc_n1 aX1_howManyDiffer_22
theorem aX1_howManyDiffer_24 : dc_at cX1_howManyDiffer 24 sX1_howManyDiffer_24 := dc_n1 aX1_howManyDiffer_23
theorem aX1_howManyDiffer_26 : dc_at cX1_howManyDiffer 26 sX1_howManyDiffer_26 := dc_n2 aX1_howManyDiffer_24
theorem aX1_howManyDiffer_28 : dc_at cX1_howManyDiffer 28 sX1_howManyDiffer_28 := dc_n2 aX1_howManyDiffer_26
theorem aX1_howManyDiffer_29 : dc_at cX1_howManyDiffer 29 sX1_howManyDiffer_29 := dc_n1 aX1_howManyDiffer_28
theorem aX1_howManyDiffer_32 : dc_at cX1_howManyDiffer 32 sX1_howManyDiffer_32 := dc_n3 aX1_howManyDiffer_29
theorem aX1_howManyDiffer_34 : dc_at cX1_howManyDiffer 34 sX1_howManyDiffer_34 := dc_n2 aX1_howManyDiffer_32
theorem aX1_howManyDiffer_36 : dc_at cX1_howManyDiffer 36 sX1_howManyDiffer_36 := dc_n2 aX1_howManyDiffer_34
theorem aX1_howManyDiffer_37 : dc_at cX1_howManyDiffer 37 sX1_howManyDiffer_37 := dc_n1 aX1_howManyDiffer_36
theorem aX1_howManyDiffer_40 : dc_at cX1_howManyDiffer 40 sX1_howManyDiffer_40 := dc_n3 aX1_howManyDiffer_37
theorem aX1_howManyDiffer_42 : dc_at cX1_howManyDiffer 42 sX1_howManyDiffer_42 := dc_n2 aX1_howManyDiffer_40
theorem aX1_howManyDiffer_43 : dc_at cX1_howManyDiffer 43 sX1_howManyDiffer_43 := dc_n1 aX1_howManyDiffer_42
theorem aX1_howManyDiffer_45 : dc_at cX1_howManyDiffer 45 sX1_howManyDiffer_45 := dc_n2 aX1_howManyDiffer_43
theorem aX1_howManyDiffer_46 : dc_at cX1_howManyDiffer 46 sX1_howManyDiffer_46 := dc_n1 aX1_howManyDiffer_45
theorem aX1_howManyDiffer_48 : dc_at cX1_howManyDiffer 48 sX1_howManyDiffer_48 := dc_n2 aX1_howManyDiffer_46
theorem aX1_howManyDiffer_50 : dc_at cX1_howManyDiffer 50 sX1_howManyDiffer_50 := dc_n2 aX1_howManyDiffer_48
theorem aX1_howManyDiffer_53 : dc_at cX1_howManyDiffer 53 sX1_howManyDiffer_53 := dc_n3 aX1_howManyDiffer_50
theorem aX1_howManyDiffer_56 : dc_at cX1_howManyDiffer 56 sX1_howManyDiffer_56 := dc_n3 aX1_howManyDiffer_53
theorem aX1_howManyDiffer_59 : dc_at cX1_howManyDiffer 59 sX1_howManyDiffer_59 := dc_n3 aX1_howManyDiffer_56
theorem aX1_howManyDiffer_62 : dc_at cX1_howManyDiffer 62 sX1_howManyDiffer_62 := dc_n3 aX1_howManyDiffer_59
theorem aX1_howManyDiffer_65 : dc_at cX1_howManyDiffer 65 sX1_howManyDiffer_65 := dc_n3 aX1_howManyDiffer_62
theorem aX1_howManyDiffer_67 : dc_at cX1_howManyDiffer 67 sX1_howManyDiffer_67 := dc_n2 aX1_howManyDiffer_65
theorem dX1_howManyDiffer_0 : decode cX1_howManyDiffer 0 = .ok (.aload_n 0, 1) := dc_42 aX1_howManyDiffer_0
theorem dX1_howManyDiffer_1 : decode cX1_howManyDiffer 1 = .ok (.iload_n 2, 1) := dc_28 aX1_howManyDiffer_1
theorem dX1_howManyDiffer_2 : decode cX1_howManyDiffer 2 = .ok (.bipush 7, 2) := dc_16 (a0 := 7) aX1_howManyDiffer_2 (by decide)
theorem dX1_howManyDiffer_4 : decode cX1_howManyDiffer 4 = .ok (.invokevirtual 83, 3) := dc_182 (a0 := 0) (b0 := 83) aX1_howManyDiffer_4
theorem dX1_howManyDiffer_7 : decode cX1_howManyDiffer 7 = .ok (.istore 5, 2) := dc_54 (a0 := 5) aX1_howManyDiffer_7
theorem dX1_howManyDiffer_9 : decode cX1_howManyDiffer 9 = .ok (.iconst 0, 1) := dc_3 aX1_howManyDiffer_9
theorem dX1_howManyDiffer_10 : decode cX1_howManyDiffer 10 = .ok (.istore 6, 2) := dc_54 (a0 := 6) aX1_howManyDiffer_10
theorem dX1_howManyDiffer_12 : decode cX1_howManyDiffer 12 = .ok (.iconst 1, 1) := dc_4 aX1_howManyDiffer_12
theorem dX1_howManyDiffer_13 : decode cX1_howManyDiffer 13 = .ok (.istore 7, 2) := dc_54 (a0 := 7) aX1_howManyDiffer_13
theorem dX1_howManyDiffer_15 : decode cX1_howManyDiffer 15 = .ok (.iload 7, 2) := dc_21 (a0 := 7) aX1_howManyDiffer_15
theorem dX1_howManyDiffer_17 : decode cX1_howManyDiffer 17 = .ok (.bipush 12, 2) := dc_16 (a0 := 12) aX1_howManyDiffer_17 (by decide)
theorem dX1_howManyDiffer_19 : decode cX1_howManyDiffer 19 = .ok (.if_icmp .gt 46, 3) := dc_163 (a0 := 0) (b0 := 46) aX1_howManyDiffer_19 (by decide)
theorem dX1_howManyDiffer_22 : decode cX1_howManyDiffer 22 = .ok (.aload_n 0, 1) := dc_42 aX1_howManyDiffer_22
theorem dX1_howManyDiffer_23 : decode cX1_howManyDiffer 23 = .ok (.iload_n 2, 1) := dc_28 aX1_howManyDiffer_23
theorem dX1_howManyDiffer_24 : decode cX1_howManyDiffer 24 = .ok (.bipush 8, 2) := dc_16 (a0 := 8) aX1_howManyDiffer_24 (by decide)
theorem dX1_howManyDiffer_26 : decode cX1_howManyDiffer 26 = .ok (.iload 7, 2) := dc_21 (a0 := 7) aX1_howManyDiffer_26
theorem dX1_howManyDiffer_28 : decode cX1_howManyDiffer 28 = .ok (.iadd, 1) := dc_96 aX1_howManyDiffer_28
theorem dX1_howManyDiffer_29 : decode cX1_howManyDiffer 29 = .ok (.invokevirtual 83, 3) := dc_182 (a0 := 0) (b0 := 83) aX1_howManyDiffer_29
theorem dX1_howManyDiffer_32 : decode cX1_howManyDiffer 32 = .ok (.istore 8, 2) := dc_54 (a0 := 8) aX1_howManyDiffer_32
theorem dX1_howManyDiffer_34 : decode cX1_howManyDiffer 34 = .ok (.iload 8, 2) := dc_21 (a0 := 8) aX1_howManyDiffer_34
theorem dX1_howManyDiffer_36 : decode cX1_howManyDiffer 36 = .ok (.iconst (-1), 1) := dc_2 aX1_howManyDiffer_36
theorem dX1_howManyDiffer_37 : decode cX1_howManyDiffer 37 = .ok (.if_icmp .eq 22, 3) := dc_159 (a0 := 0) (b0 := 22) aX1_howManyDiffer_37 (by decide)
theorem dX1_howManyDiffer_40 : decode cX1_howManyDiffer 40 = .ok (.iload 8, 2) := dc_21 (a0 := 8) aX1_howManyDiffer_40
theorem dX1_howManyDiffer_42 : decode cX1_howManyDiffer 42 = .ok (.aload_n 1, 1) := dc_43 aX1_howManyDiffer_42
theorem dX1_howManyDiffer_43 : decode cX1_howManyDiffer 43 = .ok (.iload 5, 2) := dc_21 (a0 := 5) aX1_howManyDiffer_43
theorem dX1_howManyDiffer_45 : decode cX1_howManyDiffer 45 = .ok (.iload_n 3, 1) := dc_29 aX1_howManyDiffer_45
theorem dX1_howManyDiffer_46 : decode cX1_howManyDiffer 46 = .ok (.iload 4, 2) := dc_21 (a0 := 4) aX1_howManyDiffer_46
theorem dX1_howManyDiffer_48 : decode cX1_howManyDiffer 48 = .ok (.iload 7, 2) := dc_21 (a0 := 7) aX1_howManyDiffer_48
theorem dX1_howManyDiffer_50 : decode cX1_howManyDiffer 50 = .ok (.invokevirtual 90, 3) := dc_182 (a0 := 0) (b0 := 90) aX1_howManyDiffer_50
theorem dX1_howManyDiffer_53 : decode cX1_howManyDiffer 53 = .ok (.if_icmp .eq 6, 3) := dc_159 (a0 := 0) (b0 := 6) aX1_howManyDiffer_53 (by decide)
theorem dX1_howManyDiffer_56 : decode cX1_howManyDiffer 56 = .ok (.iinc 6 1, 3) := dc_132 (a0 := 6) (a1 := 1) aX1_howManyDiffer_56 (by decide)
theorem dX1_howManyDiffer_59 : decode cX1_howManyDiffer 59 = .ok (.iinc 7 1, 3) := dc_132 (a0 := 7) (a1 := 1) aX1_howManyDiffer_59 (by decide)
theorem dX1_howManyDiffer_62 : decode cX1_howManyDiffer 62 = .ok (.goto (-47), 3) := dc_167 (a0 := 255) (b0 := 209) aX1_howManyDiffer_62 (by decide)
theorem dX1_howManyDiffer_65 : decode cX1_howManyDiffer 65 = .ok (.iload 6, 2) := dc_21 (a0 := 6) aX1_howManyDiffer_65
theorem dX1_howManyDiffer_67 : decode cX1_howManyDiffer 67 = .ok (.ireturn, 1) := dc_172 aX1_howManyDiffer_67
set_option maxRecDepth 20000 in
theorem ggX1_lotOf_X1_degreeOf : GoodIn wsX1_lotOf wsX1_degreeOf := goodIn_k _ [[5, 0, 4, 0]] (by rfl) (by decide +kernel)
set_option maxRecDepth 20000 in
theorem gX1_lotOf_X1_degreeOf : GoodIn wsX1_lotOf (wsV RX1 83 RX1 yX1_degreeOf wsX1_degreeOf) := goodIn_app (goodIn_of _ (by decide +kernel)) ggX1_lotOf_X1_degreeOf
set_option maxRecDepth 20000 in
theorem ggX1_lotOf_J9_floorMod_7cf53 : GoodIn wsX1_lotOf wsJ9_floorMod_7cf53 := goodIn_k _ [[10]] (by rfl) (by decide +kernel)
set_option maxRecDepth 20000 in
theorem gX1_lotOf_J9_floorMod_7cf53 : GoodIn wsX1_lotOf (va_wsS RX1 96 yJ9_floorMod_7cf53 wsJ9_floorMod_7cf53) := goodIn_app (goodIn_of _ (by decide +kernel)) ggX1_lotOf_J9_floorMod_7cf53
noncomputable def sX1_lotOf_90 : List Nat := 172 :: []
noncomputable def sX1_lotOf_87 : List Nat := 184 :: 0 :: 96 :: sX1_lotOf_90
noncomputable def sX1_lotOf_84 : List Nat := 17 :: 1 :: 104 :: sX1_lotOf_87
noncomputable def sX1_lotOf_83 : List Nat := 100 :: sX1_lotOf_84
noncomputable def sX1_lotOf_82 : List Nat := 29 :: sX1_lotOf_83
noncomputable def sX1_lotOf_81 : List Nat := 96 :: sX1_lotOf_82
noncomputable def sX1_lotOf_80 : List Nat := 28 :: sX1_lotOf_81
noncomputable def sX1_lotOf_78 : List Nat := 21 :: 4 :: sX1_lotOf_80
noncomputable def sX1_lotOf_75 : List Nat := 167 :: 0 :: 9 :: sX1_lotOf_78
noncomputable def sX1_lotOf_74 : List Nat := 100 :: sX1_lotOf_75
noncomputable def sX1_lotOf_73 : List Nat := 28 :: sX1_lotOf_74
noncomputable def sX1_lotOf_72 : List Nat := 96 :: sX1_lotOf_73
noncomputable def sX1_lotOf_71 : List Nat := 29 :: sX1_lotOf_72
noncomputable def sX1_lotOf_69 : List Nat := 21 :: 4 :: sX1_lotOf_71
noncomputable def sX1_lotOf_66 : List Nat := 153 :: 0 :: 12 :: sX1_lotOf_69
noncomputable def sX1_lotOf_64 : List Nat := 21 :: 5 :: sX1_lotOf_66
noncomputable def sX1_lotOf_62 : List Nat := 54 :: 5 :: sX1_lotOf_64
noncomputable def sX1_lotOf_61 : List Nat := 3 :: sX1_lotOf_62
noncomputable def sX1_lotOf_58 : List Nat := 167 :: 0 :: 4 :: sX1_lotOf_61
noncomputable def sX1_lotOf_57 : List Nat := 4 :: sX1_lotOf_58
noncomputable def sX1_lotOf_54 : List Nat := 162 :: 0 :: 7 :: sX1_lotOf_57
noncomputable def sX1_lotOf_51 : List Nat := 17 :: 0 :: 180 :: sX1_lotOf_54
noncomputable def sX1_lotOf_48 : List Nat := 184 :: 0 :: 96 :: sX1_lotOf_51
noncomputable def sX1_lotOf_45 : List Nat := 17 :: 1 :: 104 :: sX1_lotOf_48
noncomputable def sX1_lotOf_44 : List Nat := 100 :: sX1_lotOf_45
noncomputable def sX1_lotOf_43 : List Nat := 28 :: sX1_lotOf_44
noncomputable def sX1_lotOf_41 : List Nat := 21 :: 4 :: sX1_lotOf_43
noncomputable def sX1_lotOf_40 : List Nat := 172 :: sX1_lotOf_41
noncomputable def sX1_lotOf_39 : List Nat := 2 :: sX1_lotOf_40
noncomputable def sX1_lotOf_36 : List Nat := 160 :: 0 :: 5 :: sX1_lotOf_39
noncomputable def sX1_lotOf_35 : List Nat := 2 :: sX1_lotOf_36
noncomputable def sX1_lotOf_33 : List Nat := 21 :: 4 :: sX1_lotOf_35
noncomputable def sX1_lotOf_30 : List Nat := 159 :: 0 :: 9 :: sX1_lotOf_33
noncomputable def sX1_lotOf_29 : List Nat := 2 :: sX1_lotOf_30
noncomputable def sX1_lotOf_28 : List Nat := 29 :: sX1_lotOf_29
noncomputable def sX1_lotOf_25 : List Nat := 159 :: 0 :: 14 :: sX1_lotOf_28
noncomputable def sX1_lotOf_24 : List Nat := 2 :: sX1_lotOf_25
noncomputable def sX1_lotOf_23 : List Nat := 28 :: sX1_lotOf_24
noncomputable def sX1_lotOf_21 : List Nat := 54 :: 4 :: sX1_lotOf_23
noncomputable def sX1_lotOf_18 : List Nat := 182 :: 0 :: 83 :: sX1_lotOf_21
noncomputable def sX1_lotOf_16 : List Nat := 16 :: 7 :: sX1_lotOf_18
noncomputable def sX1_lotOf_15 : List Nat := 27 :: sX1_lotOf_16
noncomputable def sX1_lotOf_14 : List Nat := 42 :: sX1_lotOf_15
noncomputable def sX1_lotOf_13 : List Nat := 62 :: sX1_lotOf_14
noncomputable def sX1_lotOf_10 : List Nat := 182 :: 0 :: 83 :: sX1_lotOf_13
noncomputable def sX1_lotOf_9 : List Nat := 4 :: sX1_lotOf_10
noncomputable def sX1_lotOf_8 : List Nat := 27 :: sX1_lotOf_9
noncomputable def sX1_lotOf_7 : List Nat := 42 :: sX1_lotOf_8
noncomputable def sX1_lotOf_6 : List Nat := 61 :: sX1_lotOf_7
noncomputable def sX1_lotOf_3 : List Nat := 182 :: 0 :: 83 :: sX1_lotOf_6
noncomputable def sX1_lotOf_2 : List Nat := 3 :: sX1_lotOf_3
noncomputable def sX1_lotOf_1 : List Nat := 27 :: sX1_lotOf_2
noncomputable def sX1_lotOf_0 : List Nat := 42 :: sX1_lotOf_1
theorem aX1_lotOf_0 : dc_at cX1_lotOf 0 sX1_lotOf_0 := dc_base (by decide +kernel)
theorem aX1_lotOf_1 : dc_at cX1_lotOf 1 sX1_lotOf_1 := dc_n1 aX1_lotOf_0
theorem aX1_lotOf_2 : dc_at cX1_lotOf 2 sX1_lotOf_2 := dc_n1 aX1_lotOf_1
theorem aX1_lotOf_3 : dc_at cX1_lotOf 3 sX1_lotOf_3 := dc_n1 aX1_lotOf_2
theorem aX1_lotOf_6 : dc_at cX1_lotOf 6 sX1_lotOf_6 := dc_n3 aX1_lotOf_3
theorem aX1_lotOf_7 : dc_at cX1_lotOf 7 sX1_lotOf_7 := dc_n1 aX1_lotOf_6
theorem aX1_lotOf_8 : dc_at cX1_lotOf 8 sX1_lotOf_8 := dc_n1 aX1_lotOf_7
theorem aX1_lotOf_9 : dc_at cX1_lotOf 9 sX1_lotOf_9 := dc_n1 aX1_lotOf_8
theorem aX1_lotOf_10 : dc_at cX1_lotOf 10 sX1_lotOf_10 := dc_n1 aX1_lotOf_9
theorem aX1_lotOf_13 : dc_at cX1_lotOf 13 sX1_lotOf_13 := dc_n3 aX1_lotOf_10
theorem aX1_lotOf_14 : dc_at cX1_lotOf 14 sX1_lotOf_14 := dc_n1 aX1_lotOf_13
theorem aX1_lotOf_15 : dc_at cX1_lotOf 15 sX1_lotOf_15 := dc_n1 aX1_lotOf_14
theorem aX1_lotOf_16 : dc_at cX1_lotOf 16 sX1_lotOf_16 := dc_n1 aX1_lotOf_15
theorem aX1_lotOf_18 : dc_at cX1_lotOf 18 sX1_lotOf_18 := dc_n2 aX1_lotOf_16
theorem aX1_lotOf_21 : dc_at cX1_lotOf 21 sX1_lotOf_21 := dc_n3 aX1_lotOf_18
theorem aX1_lotOf_23 : dc_at cX1_lotOf 23 sX1_lotOf_23 := dc_n2 aX1_lotOf_21
theorem aX1_lotOf_24 : dc_at cX1_lotOf 24 sX1_lotOf_24 := dc_n1 aX1_lotOf_23
theorem aX1_lotOf_25 : dc_at cX1_lotOf 25 sX1_lotOf_25 := dc_n1 aX1_lotOf_24
theorem aX1_lotOf_28 : dc_at cX1_lotOf 28 sX1_lotOf_28 := dc_n3 aX1_lotOf_25
theorem aX1_lotOf_29 : dc_at cX1_lotOf 29 sX1_lotOf_29 := dc_n1 aX1_lotOf_28
theorem aX1_lotOf_30 : dc_at cX1_lotOf 30 sX1_lotOf_30 := dc_n1 aX1_lotOf_29
theorem aX1_lotOf_33 : dc_at cX1_lotOf 33 sX1_lotOf_33 := dc_n3 aX1_lotOf_30
theorem aX1_lotOf_35 : dc_at cX1_lotOf 35 sX1_lotOf_35 := dc_n2 aX1_lotOf_33
theorem aX1_lotOf_36 : dc_at cX1_lotOf 36 sX1_lotOf_36 := dc_n1 aX1_lotOf_35
theorem aX1_lotOf_39 : dc_at cX1_lotOf 39 sX1_lotOf_39 := dc_n3 aX1_lotOf_36
theorem aX1_lotOf_40 : dc_at cX1_lotOf 40 sX1_lotOf_40 := dc_n1 aX1_lotOf_39
theorem aX1_lotOf_41 : dc_at cX1_lotOf 41 sX1_lotOf_41 := dc_n1 aX1_lotOf_40
theorem aX1_lotOf_43 : dc_at cX1_lotOf 43 sX1_lotOf_43 := dc_n2 aX1_lotOf_41
theorem aX1_lotOf_44 : dc_at cX1_lotOf 44 sX1_lotOf_44 := dc_n1 aX1_lotOf_43
theorem aX1_lotOf_45 : dc_at cX1_lotOf 45 sX1_lotOf_45 := dc_n1 aX1_lotOf_44
theorem aX1_lotOf_48 : dc_at cX1_lotOf 48 sX1_lotOf_48 := dc_n3 aX1_lotOf_45
theorem aX1_lotOf_51 : dc_at cX1_lotOf 51 sX1_lotOf_51 := dc_n3 aX1_lotOf_48
theorem aX1_lotOf_54 : dc_at cX1_lotOf 54 sX1_lotOf_54 := dc_n3 aX1_lotOf_51
theorem aX1_lotOf_57 : dc_at cX1_lotOf 57 sX1_lotOf_57 := dc_n3 aX1_lotOf_54
theorem aX1_lotOf_58 : dc_at cX1_lotOf 58 sX1_lotOf_58 := dc_n1 aX1_lotOf_57
theorem aX1_lotOf_61 : dc_at cX1_lotOf 61 sX1_lotOf_61 := dc_n3 aX1_lotOf_58
theorem aX1_lotOf_62 : dc_at cX1_lotOf 62 sX1_lotOf_62 := dc_n1 aX1_lotOf_61
theorem aX1_lotOf_64 : dc_at cX1_lotOf 64 sX1_lotOf_64 := dc_n2 aX1_lotOf_62
theorem aX1_lotOf_66 : dc_at cX1_lotOf 66 sX1_lotOf_66 := dc_n2 aX1_lotOf_64
theorem aX1_lotOf_69 : dc_at cX1_lotOf 69 sX1_lotOf_69 := dc_n3 aX1_lotOf_66
theorem aX1_lotOf_71 : dc_at cX1_lotOf 71 sX1_lotOf_71 := dc_n2 aX1_lotOf_69
theorem aX1_lotOf_72 : dc_at cX1_lotOf 72 sX1_lotOf_72 := dc_n1 aX1_lotOf_71
theorem aX1_lotOf_73 : dc_at cX1_lotOf 73 sX1_lotOf_73 := dc_n1 aX1_lotOf_72
theorem aX1_lotOf_74 : dc_at cX1_lotOf 74 sX1_lotOf_74 := dc_n1 aX1_lotOf_73
theorem aX1_lotOf_75 : dc_at cX1_lotOf 75 sX1_lotOf_75 := dc_n1 aX1_lotOf_74
theorem aX1_lotOf_78 : dc_at cX1_lotOf 78 sX1_lotOf_78 := dc_n3 aX1_lotOf_75
theorem aX1_lotOf_80 : dc_at cX1_lotOf 80 sX1_lotOf_80 := dc_n2 aX1_lotOf_78
theorem aX1_lotOf_81 : dc_at cX1_lotOf 81 sX1_lotOf_81 := dc_n1 aX1_lotOf_80
theorem aX1_lotOf_82 : dc_at cX1_lotOf 82 sX1_lotOf_82 := dc_n1 aX1_lotOf_81
theorem aX1_lotOf_83 : dc_at cX1_lotOf 83 sX1_lotOf_83 := dc_n1 aX1_lotOf_82
theorem aX1_lotOf_84 : dc_at cX1_lotOf 84 sX1_lotOf_84 := dc_n1 aX1_lotOf_83
theorem aX1_lotOf_87 : dc_at cX1_lotOf 87 sX1_lotOf_87 := dc_n3 aX1_lotOf_84
theorem aX1_lotOf_90 : dc_at cX1_lotOf 90 sX1_lotOf_90 := dc_n3 aX1_lotOf_87
theorem dX1_lotOf_0 : decode cX1_lotOf 0 = .ok (.aload_n 0, 1) := dc_42 aX1_lotOf_0
theorem dX1_lotOf_1 : decode cX1_lotOf 1 = .ok (.iload_n 1, 1) := dc_27 aX1_lotOf_1
theorem dX1_lotOf_2 : decode cX1_lotOf 2 = .ok (.iconst 0, 1) := dc_3 aX1_lotOf_2
theorem dX1_lotOf_3 : decode cX1_lotOf 3 = .ok (.invokevirtual 83, 3) := dc_182 (a0 := 0) (b0 := 83) aX1_lotOf_3
theorem dX1_lotOf_6 : decode cX1_lotOf 6 = .ok (.istore_n 2, 1) := dc_61 aX1_lotOf_6
theorem dX1_lotOf_7 : decode cX1_lotOf 7 = .ok (.aload_n 0, 1) := dc_42 aX1_lotOf_7
theorem dX1_lotOf_8 : decode cX1_lotOf 8 = .ok (.iload_n 1, 1) := dc_27 aX1_lotOf_8
theorem dX1_lotOf_9 : decode cX1_lotOf 9 = .ok (.iconst 1, 1) := dc_4 aX1_lotOf_9
theorem dX1_lotOf_10 : decode cX1_lotOf 10 = .ok (.invokevirtual 83, 3) := dc_182 (a0 := 0) (b0 := 83) aX1_lotOf_10
theorem dX1_lotOf_13 : decode cX1_lotOf 13 = .ok (.istore_n 3, 1) := dc_62 aX1_lotOf_13
theorem dX1_lotOf_14 : decode cX1_lotOf 14 = .ok (.aload_n 0, 1) := dc_42 aX1_lotOf_14
theorem dX1_lotOf_15 : decode cX1_lotOf 15 = .ok (.iload_n 1, 1) := dc_27 aX1_lotOf_15
theorem dX1_lotOf_16 : decode cX1_lotOf 16 = .ok (.bipush 7, 2) := dc_16 (a0 := 7) aX1_lotOf_16 (by decide)
theorem dX1_lotOf_18 : decode cX1_lotOf 18 = .ok (.invokevirtual 83, 3) := dc_182 (a0 := 0) (b0 := 83) aX1_lotOf_18
theorem dX1_lotOf_21 : decode cX1_lotOf 21 = .ok (.istore 4, 2) := dc_54 (a0 := 4) aX1_lotOf_21
theorem dX1_lotOf_23 : decode cX1_lotOf 23 = .ok (.iload_n 2, 1) := dc_28 aX1_lotOf_23
theorem dX1_lotOf_24 : decode cX1_lotOf 24 = .ok (.iconst (-1), 1) := dc_2 aX1_lotOf_24
theorem dX1_lotOf_25 : decode cX1_lotOf 25 = .ok (.if_icmp .eq 14, 3) := dc_159 (a0 := 0) (b0 := 14) aX1_lotOf_25 (by decide)
theorem dX1_lotOf_28 : decode cX1_lotOf 28 = .ok (.iload_n 3, 1) := dc_29 aX1_lotOf_28
theorem dX1_lotOf_29 : decode cX1_lotOf 29 = .ok (.iconst (-1), 1) := dc_2 aX1_lotOf_29
theorem dX1_lotOf_30 : decode cX1_lotOf 30 = .ok (.if_icmp .eq 9, 3) := dc_159 (a0 := 0) (b0 := 9) aX1_lotOf_30 (by decide)
theorem dX1_lotOf_33 : decode cX1_lotOf 33 = .ok (.iload 4, 2) := dc_21 (a0 := 4) aX1_lotOf_33
theorem dX1_lotOf_35 : decode cX1_lotOf 35 = .ok (.iconst (-1), 1) := dc_2 aX1_lotOf_35
theorem dX1_lotOf_36 : decode cX1_lotOf 36 = .ok (.if_icmp .ne 5, 3) := dc_160 (a0 := 0) (b0 := 5) aX1_lotOf_36 (by decide)
theorem dX1_lotOf_39 : decode cX1_lotOf 39 = .ok (.iconst (-1), 1) := dc_2 aX1_lotOf_39
theorem dX1_lotOf_40 : decode cX1_lotOf 40 = .ok (.ireturn, 1) := dc_172 aX1_lotOf_40
theorem dX1_lotOf_41 : decode cX1_lotOf 41 = .ok (.iload 4, 2) := dc_21 (a0 := 4) aX1_lotOf_41
theorem dX1_lotOf_43 : decode cX1_lotOf 43 = .ok (.iload_n 2, 1) := dc_28 aX1_lotOf_43
theorem dX1_lotOf_44 : decode cX1_lotOf 44 = .ok (.isub, 1) := dc_100 aX1_lotOf_44
theorem dX1_lotOf_45 : decode cX1_lotOf 45 = .ok (.sipush 360, 3) := dc_17 (a0 := 1) (b0 := 104) aX1_lotOf_45 (by decide)
theorem dX1_lotOf_48 : decode cX1_lotOf 48 = .ok (.invokestatic 96, 3) := dc_184 (a0 := 0) (b0 := 96) aX1_lotOf_48
theorem dX1_lotOf_51 : decode cX1_lotOf 51 = .ok (.sipush 180, 3) := dc_17 (a0 := 0) (b0 := 180) aX1_lotOf_51 (by decide)
theorem dX1_lotOf_54 : decode cX1_lotOf 54 = .ok (.if_icmp .ge 7, 3) := dc_162 (a0 := 0) (b0 := 7) aX1_lotOf_54 (by decide)
theorem dX1_lotOf_57 : decode cX1_lotOf 57 = .ok (.iconst 1, 1) := dc_4 aX1_lotOf_57
theorem dX1_lotOf_58 : decode cX1_lotOf 58 = .ok (.goto 4, 3) := dc_167 (a0 := 0) (b0 := 4) aX1_lotOf_58 (by decide)
theorem dX1_lotOf_61 : decode cX1_lotOf 61 = .ok (.iconst 0, 1) := dc_3 aX1_lotOf_61
theorem dX1_lotOf_62 : decode cX1_lotOf 62 = .ok (.istore 5, 2) := dc_54 (a0 := 5) aX1_lotOf_62
theorem dX1_lotOf_64 : decode cX1_lotOf 64 = .ok (.iload 5, 2) := dc_21 (a0 := 5) aX1_lotOf_64
theorem dX1_lotOf_66 : decode cX1_lotOf 66 = .ok (.ifCond .eq 12, 3) := dc_153 (a0 := 0) (b0 := 12) aX1_lotOf_66 (by decide)
theorem dX1_lotOf_69 : decode cX1_lotOf 69 = .ok (.iload 4, 2) := dc_21 (a0 := 4) aX1_lotOf_69
theorem dX1_lotOf_71 : decode cX1_lotOf 71 = .ok (.iload_n 3, 1) := dc_29 aX1_lotOf_71
theorem dX1_lotOf_72 : decode cX1_lotOf 72 = .ok (.iadd, 1) := dc_96 aX1_lotOf_72
theorem dX1_lotOf_73 : decode cX1_lotOf 73 = .ok (.iload_n 2, 1) := dc_28 aX1_lotOf_73
theorem dX1_lotOf_74 : decode cX1_lotOf 74 = .ok (.isub, 1) := dc_100 aX1_lotOf_74
theorem dX1_lotOf_75 : decode cX1_lotOf 75 = .ok (.goto 9, 3) := dc_167 (a0 := 0) (b0 := 9) aX1_lotOf_75 (by decide)
theorem dX1_lotOf_78 : decode cX1_lotOf 78 = .ok (.iload 4, 2) := dc_21 (a0 := 4) aX1_lotOf_78
theorem dX1_lotOf_80 : decode cX1_lotOf 80 = .ok (.iload_n 2, 1) := dc_28 aX1_lotOf_80
theorem dX1_lotOf_81 : decode cX1_lotOf 81 = .ok (.iadd, 1) := dc_96 aX1_lotOf_81
theorem dX1_lotOf_82 : decode cX1_lotOf 82 = .ok (.iload_n 3, 1) := dc_29 aX1_lotOf_82
theorem dX1_lotOf_83 : decode cX1_lotOf 83 = .ok (.isub, 1) := dc_100 aX1_lotOf_83
theorem dX1_lotOf_84 : decode cX1_lotOf 84 = .ok (.sipush 360, 3) := dc_17 (a0 := 1) (b0 := 104) aX1_lotOf_84 (by decide)
theorem dX1_lotOf_87 : decode cX1_lotOf 87 = .ok (.invokestatic 96, 3) := dc_184 (a0 := 0) (b0 := 96) aX1_lotOf_87
theorem dX1_lotOf_90 : decode cX1_lotOf 90 = .ok (.ireturn, 1) := dc_172 aX1_lotOf_90
noncomputable def sX1_howManyHanded_96 : List Nat := 172 :: []
noncomputable def sX1_howManyHanded_94 : List Nat := 21 :: 4 :: sX1_howManyHanded_96
noncomputable def sX1_howManyHanded_91 : List Nat := 167 :: 255 :: 171 :: sX1_howManyHanded_94
noncomputable def sX1_howManyHanded_88 : List Nat := 132 :: 5 :: 1 :: sX1_howManyHanded_91
noncomputable def sX1_howManyHanded_85 : List Nat := 132 :: 4 :: 1 :: sX1_howManyHanded_88
noncomputable def sX1_howManyHanded_82 : List Nat := 159 :: 0 :: 6 :: sX1_howManyHanded_85
noncomputable def sX1_howManyHanded_80 : List Nat := 21 :: 6 :: sX1_howManyHanded_82
noncomputable def sX1_howManyHanded_78 : List Nat := 21 :: 8 :: sX1_howManyHanded_80
noncomputable def sX1_howManyHanded_75 : List Nat := 159 :: 0 :: 13 :: sX1_howManyHanded_78
noncomputable def sX1_howManyHanded_74 : List Nat := 2 :: sX1_howManyHanded_75
noncomputable def sX1_howManyHanded_72 : List Nat := 21 :: 8 :: sX1_howManyHanded_74
noncomputable def sX1_howManyHanded_69 : List Nat := 160 :: 0 :: 19 :: sX1_howManyHanded_72
noncomputable def sX1_howManyHanded_67 : List Nat := 21 :: 7 :: sX1_howManyHanded_69
noncomputable def sX1_howManyHanded_65 : List Nat := 21 :: 6 :: sX1_howManyHanded_67
noncomputable def sX1_howManyHanded_62 : List Nat := 159 :: 0 :: 26 :: sX1_howManyHanded_65
noncomputable def sX1_howManyHanded_61 : List Nat := 2 :: sX1_howManyHanded_62
noncomputable def sX1_howManyHanded_59 : List Nat := 21 :: 6 :: sX1_howManyHanded_61
noncomputable def sX1_howManyHanded_57 : List Nat := 54 :: 8 :: sX1_howManyHanded_59
noncomputable def sX1_howManyHanded_56 : List Nat := 46 :: sX1_howManyHanded_57
noncomputable def sX1_howManyHanded_55 : List Nat := 96 :: sX1_howManyHanded_56
noncomputable def sX1_howManyHanded_53 : List Nat := 21 :: 5 :: sX1_howManyHanded_55
noncomputable def sX1_howManyHanded_52 : List Nat := 104 :: sX1_howManyHanded_53
noncomputable def sX1_howManyHanded_51 : List Nat := 29 :: sX1_howManyHanded_52
noncomputable def sX1_howManyHanded_48 : List Nat := 17 :: 1 :: 184 :: sX1_howManyHanded_51
noncomputable def sX1_howManyHanded_45 : List Nat := 180 :: 0 :: 9 :: sX1_howManyHanded_48
noncomputable def sX1_howManyHanded_44 : List Nat := 42 :: sX1_howManyHanded_45
noncomputable def sX1_howManyHanded_42 : List Nat := 54 :: 7 :: sX1_howManyHanded_44
noncomputable def sX1_howManyHanded_41 : List Nat := 46 :: sX1_howManyHanded_42
noncomputable def sX1_howManyHanded_40 : List Nat := 96 :: sX1_howManyHanded_41
noncomputable def sX1_howManyHanded_38 : List Nat := 21 :: 5 :: sX1_howManyHanded_40
noncomputable def sX1_howManyHanded_37 : List Nat := 104 :: sX1_howManyHanded_38
noncomputable def sX1_howManyHanded_36 : List Nat := 28 :: sX1_howManyHanded_37
noncomputable def sX1_howManyHanded_33 : List Nat := 17 :: 1 :: 184 :: sX1_howManyHanded_36
noncomputable def sX1_howManyHanded_30 : List Nat := 180 :: 0 :: 9 :: sX1_howManyHanded_33
noncomputable def sX1_howManyHanded_29 : List Nat := 42 :: sX1_howManyHanded_30
noncomputable def sX1_howManyHanded_27 : List Nat := 54 :: 6 :: sX1_howManyHanded_29
noncomputable def sX1_howManyHanded_26 : List Nat := 46 :: sX1_howManyHanded_27
noncomputable def sX1_howManyHanded_25 : List Nat := 96 :: sX1_howManyHanded_26
noncomputable def sX1_howManyHanded_23 : List Nat := 21 :: 5 :: sX1_howManyHanded_25
noncomputable def sX1_howManyHanded_22 : List Nat := 104 :: sX1_howManyHanded_23
noncomputable def sX1_howManyHanded_21 : List Nat := 27 :: sX1_howManyHanded_22
noncomputable def sX1_howManyHanded_18 : List Nat := 17 :: 1 :: 184 :: sX1_howManyHanded_21
noncomputable def sX1_howManyHanded_15 : List Nat := 180 :: 0 :: 9 :: sX1_howManyHanded_18
noncomputable def sX1_howManyHanded_14 : List Nat := 42 :: sX1_howManyHanded_15
noncomputable def sX1_howManyHanded_11 : List Nat := 162 :: 0 :: 83 :: sX1_howManyHanded_14
noncomputable def sX1_howManyHanded_8 : List Nat := 17 :: 1 :: 184 :: sX1_howManyHanded_11
noncomputable def sX1_howManyHanded_6 : List Nat := 21 :: 5 :: sX1_howManyHanded_8
noncomputable def sX1_howManyHanded_4 : List Nat := 54 :: 5 :: sX1_howManyHanded_6
noncomputable def sX1_howManyHanded_3 : List Nat := 3 :: sX1_howManyHanded_4
noncomputable def sX1_howManyHanded_1 : List Nat := 54 :: 4 :: sX1_howManyHanded_3
noncomputable def sX1_howManyHanded_0 : List Nat := 3 :: sX1_howManyHanded_1
theorem aX1_howManyHanded_0 : dc_at cX1_howManyHanded 0 sX1_howManyHanded_0 := dc_base (by decide +kernel)
theorem aX1_howManyHanded_1 : dc_at cX1_howManyHanded 1 sX1_howManyHanded_1 := dc_n1 aX1_howManyHanded_0
theorem aX1_howManyHanded_3 : dc_at cX1_howManyHanded 3 sX1_howManyHanded_3 := dc_n2 aX1_howManyHanded_1
theorem aX1_howManyHanded_4 : dc_at cX1_howManyHanded 4 sX1_howManyHanded_4 := dc_n1 aX1_howManyHanded_3
theorem aX1_howManyHanded_6 : dc_at cX1_howManyHanded 6 sX1_howManyHanded_6 := dc_n2 aX1_howManyHanded_4
theorem aX1_howManyHanded_8 : dc_at cX1_howManyHanded 8 sX1_howManyHanded_8 := dc_n2 aX1_howManyHanded_6
theorem aX1_howManyHanded_11 : dc_at cX1_howManyHanded 11 sX1_howManyHanded_11 := dc_n3 aX1_howManyHanded_8
theorem aX1_howManyHanded_14 : dc_at cX1_howManyHanded 14 sX1_howManyHanded_14 := dc_n3 aX1_howManyHanded_11
theorem aX1_howManyHanded_15 : dc_at cX1_howManyHanded 15 sX1_howManyHanded_15 := dc_n1 aX1_howManyHanded_14
theorem aX1_howManyHanded_18 : dc_at cX1_howManyHanded 18 sX1_howManyHanded_18 := dc_n3 aX1_howManyHanded_15
theorem aX1_howManyHanded_21 : dc_at cX1_howManyHanded 21 sX1_howManyHanded_21 := dc_n3 aX1_howManyHanded_18
theorem aX1_howManyHanded_22 : dc_at cX1_howManyHanded 22 sX1_howManyHanded_22 := dc_n1 aX1_howManyHanded_21
theorem aX1_howManyHanded_23 : dc_at cX1_howManyHanded 23 sX1_howManyHanded_23 := dc_n1 aX1_howManyHanded_22
theorem aX1_howManyHanded_25 : dc_at cX1_howManyHanded 25 sX1_howManyHanded_25 := dc_n2 aX1_howManyHanded_23
theorem aX1_howManyHanded_26 : dc_at cX1_howManyHanded 26 sX1_howManyHanded_26 := dc_n1 aX1_howManyHanded_25
theorem aX1_howManyHanded_27 : dc_at cX1_howManyHanded 27 sX1_howManyHanded_27 := dc_n1 aX1_howManyHanded_26
theorem aX1_howManyHanded_29 : dc_at cX1_howManyHanded 29 sX1_howManyHanded_29 := dc_n2 aX1_howManyHanded_27
theorem aX1_howManyHanded_30 : dc_at cX1_howManyHanded 30 sX1_howManyHanded_30 := dc_n1 aX1_howManyHanded_29
theorem aX1_howManyHanded_33 : dc_at cX1_howManyHanded 33 sX1_howManyHanded_33 := dc_n3 aX1_howManyHanded_30
theorem aX1_howManyHanded_36 : dc_at cX1_howManyHanded 36 sX1_howManyHanded_36 := dc_n3 aX1_howManyHanded_33
theorem aX1_howManyHanded_37 : dc_at cX1_howManyHanded 37 sX1_howManyHanded_37 := dc_n1 aX1_howManyHanded_36
theorem aX1_howManyHanded_38 : dc_at cX1_howManyHanded 38 sX1_howManyHanded_38 := dc_n1 aX1_howManyHanded_37
theorem aX1_howManyHanded_40 : dc_at cX1_howManyHanded 40 sX1_howManyHanded_40 := dc_n2 aX1_howManyHanded_38
theorem aX1_howManyHanded_41 : dc_at cX1_howManyHanded 41 sX1_howManyHanded_41 := dc_n1 aX1_howManyHanded_40
theorem aX1_howManyHanded_42 : dc_at cX1_howManyHanded 42 sX1_howManyHanded_42 := dc_n1 aX1_howManyHanded_41
theorem aX1_howManyHanded_44 : dc_at cX1_howManyHanded 44 sX1_howManyHanded_44 := dc_n2 aX1_howManyHanded_42
theorem aX1_howManyHanded_45 : dc_at cX1_howManyHanded 45 sX1_howManyHanded_45 := dc_n1 aX1_howManyHanded_44
theorem aX1_howManyHanded_48 : dc_at cX1_howManyHanded 48 sX1_howManyHanded_48 := dc_n3 aX1_howManyHanded_45
theorem aX1_howManyHanded_51 : dc_at cX1_howManyHanded 51 sX1_howManyHanded_51 := dc_n3 aX1_howManyHanded_48
theorem aX1_howManyHanded_52 : dc_at cX1_howManyHanded 52 sX1_howManyHanded_52 := dc_n1 aX1_howManyHanded_51
theorem aX1_howManyHanded_53 : dc_at cX1_howManyHanded 53 sX1_howManyHanded_53 := dc_n1 aX1_howManyHanded_52
theorem aX1_howManyHanded_55 : dc_at cX1_howManyHanded 55 sX1_howManyHanded_55 := dc_n2 aX1_howManyHanded_53
theorem aX1_howManyHanded_56 : dc_at cX1_howManyHanded 56 sX1_howManyHanded_56 := dc_n1 aX1_howManyHanded_55
theorem aX1_howManyHanded_57 : dc_at cX1_howManyHanded 57 sX1_howManyHanded_57 := dc_n1 aX1_howManyHanded_56
theorem aX1_howManyHanded_59 : dc_at cX1_howManyHanded 59 sX1_howManyHanded_59 := dc_n2 aX1_howManyHanded_57
theorem aX1_howManyHanded_61 : dc_at cX1_howManyHanded 61 sX1_howManyHanded_61 := dc_n2 aX1_howManyHanded_59
theorem aX1_howManyHanded_62 : dc_at cX1_howManyHanded 62 sX1_howManyHanded_62 := dc_n1 aX1_howManyHanded_61
theorem aX1_howManyHanded_65 : dc_at cX1_howManyHanded 65 sX1_howManyHanded_65 := dc_n3 aX1_howManyHanded_62
theorem aX1_howManyHanded_67 : dc_at cX1_howManyHanded 67 sX1_howManyHanded_67 := dc_n2 aX1_howManyHanded_65
theorem aX1_howManyHanded_69 : dc_at cX1_howManyHanded 69 sX1_howManyHanded_69 := dc_n2 aX1_howManyHanded_67
theorem aX1_howManyHanded_72 : dc_at cX1_howManyHanded 72 sX1_howManyHanded_72 := dc_n3 aX1_howManyHanded_69
theorem aX1_howManyHanded_74 : dc_at cX1_howManyHanded 74 sX1_howManyHanded_74 := dc_n2 aX1_howManyHanded_72
theorem aX1_howManyHanded_75 : dc_at cX1_howManyHanded 75 sX1_howManyHanded_75 := dc_n1 aX1_howManyHanded_74
theorem aX1_howManyHanded_78 : dc_at cX1_howManyHanded 78 sX1_howManyHanded_78 := dc_n3 aX1_howManyHanded_75
theorem aX1_howManyHanded_80 : dc_at cX1_howManyHanded 80 sX1_howManyHanded_80 := dc_n2 aX1_howManyHanded_78
theorem aX1_howManyHanded_82 : dc_at cX1_howManyHanded 82 sX1_howManyHanded_82 := dc_n2 aX1_howManyHanded_80
theorem aX1_howManyHanded_85 : dc_at cX1_howManyHanded 85 sX1_howManyHanded_85 := dc_n3 aX1_howManyHanded_82
theorem aX1_howManyHanded_88 : dc_at cX1_howManyHanded 88 sX1_howManyHanded_88 := dc_n3 aX1_howManyHanded_85
theorem aX1_howManyHanded_91 : dc_at cX1_howManyHanded 91 sX1_howManyHanded_91 := dc_n3 aX1_howManyHanded_88
theorem aX1_howManyHanded_94 : dc_at cX1_howManyHanded 94 sX1_howManyHanded_94 := dc_n3 aX1_howManyHanded_91
theorem aX1_howManyHanded_96 : dc_at cX1_howManyHanded 96 sX1_howManyHanded_96 := dc_n2 aX1_howManyHanded_94
theorem dX1_howManyHanded_0 : decode cX1_howManyHanded 0 = .ok (.iconst 0, 1) := dc_3 aX1_howManyHanded_0
theorem dX1_howManyHanded_1 : decode cX1_howManyHanded 1 = .ok (.istore 4, 2) := dc_54 (a0 := 4) aX1_howManyHanded_1
theorem dX1_howManyHanded_3 : decode cX1_howManyHanded 3 = .ok (.iconst 0, 1) := dc_3 aX1_howManyHanded_3
theorem dX1_howManyHanded_4 : decode cX1_howManyHanded 4 = .ok (.istore 5, 2) := dc_54 (a0 := 5) aX1_howManyHanded_4
theorem dX1_howManyHanded_6 : decode cX1_howManyHanded 6 = .ok (.iload 5, 2) := dc_21 (a0 := 5) aX1_howManyHanded_6
theorem dX1_howManyHanded_8 : decode cX1_howManyHanded 8 = .ok (.sipush 440, 3) := dc_17 (a0 := 1) (b0 := 184) aX1_howManyHanded_8 (by decide)
theorem dX1_howManyHanded_11 : decode cX1_howManyHanded 11 = .ok (.if_icmp .ge 83, 3) := dc_162 (a0 := 0) (b0 := 83) aX1_howManyHanded_11 (by decide)
theorem dX1_howManyHanded_14 : decode cX1_howManyHanded 14 = .ok (.aload_n 0, 1) := dc_42 aX1_howManyHanded_14
theorem dX1_howManyHanded_15 : decode cX1_howManyHanded 15 = .ok (.getfield 9, 3) := dc_180 (a0 := 0) (b0 := 9) aX1_howManyHanded_15
theorem dX1_howManyHanded_18 : decode cX1_howManyHanded 18 = .ok (.sipush 440, 3) := dc_17 (a0 := 1) (b0 := 184) aX1_howManyHanded_18 (by decide)
theorem dX1_howManyHanded_21 : decode cX1_howManyHanded 21 = .ok (.iload_n 1, 1) := dc_27 aX1_howManyHanded_21
theorem dX1_howManyHanded_22 : decode cX1_howManyHanded 22 = .ok (.imul, 1) := dc_104 aX1_howManyHanded_22
theorem dX1_howManyHanded_23 : decode cX1_howManyHanded 23 = .ok (.iload 5, 2) := dc_21 (a0 := 5) aX1_howManyHanded_23
theorem dX1_howManyHanded_25 : decode cX1_howManyHanded 25 = .ok (.iadd, 1) := dc_96 aX1_howManyHanded_25
theorem dX1_howManyHanded_26 : decode cX1_howManyHanded 26 = .ok (.iaload, 1) := dc_46 aX1_howManyHanded_26
theorem dX1_howManyHanded_27 : decode cX1_howManyHanded 27 = .ok (.istore 6, 2) := dc_54 (a0 := 6) aX1_howManyHanded_27
theorem dX1_howManyHanded_29 : decode cX1_howManyHanded 29 = .ok (.aload_n 0, 1) := dc_42 aX1_howManyHanded_29
theorem dX1_howManyHanded_30 : decode cX1_howManyHanded 30 = .ok (.getfield 9, 3) := dc_180 (a0 := 0) (b0 := 9) aX1_howManyHanded_30
theorem dX1_howManyHanded_33 : decode cX1_howManyHanded 33 = .ok (.sipush 440, 3) := dc_17 (a0 := 1) (b0 := 184) aX1_howManyHanded_33 (by decide)
theorem dX1_howManyHanded_36 : decode cX1_howManyHanded 36 = .ok (.iload_n 2, 1) := dc_28 aX1_howManyHanded_36
theorem dX1_howManyHanded_37 : decode cX1_howManyHanded 37 = .ok (.imul, 1) := dc_104 aX1_howManyHanded_37
theorem dX1_howManyHanded_38 : decode cX1_howManyHanded 38 = .ok (.iload 5, 2) := dc_21 (a0 := 5) aX1_howManyHanded_38
theorem dX1_howManyHanded_40 : decode cX1_howManyHanded 40 = .ok (.iadd, 1) := dc_96 aX1_howManyHanded_40
theorem dX1_howManyHanded_41 : decode cX1_howManyHanded 41 = .ok (.iaload, 1) := dc_46 aX1_howManyHanded_41
theorem dX1_howManyHanded_42 : decode cX1_howManyHanded 42 = .ok (.istore 7, 2) := dc_54 (a0 := 7) aX1_howManyHanded_42
theorem dX1_howManyHanded_44 : decode cX1_howManyHanded 44 = .ok (.aload_n 0, 1) := dc_42 aX1_howManyHanded_44
theorem dX1_howManyHanded_45 : decode cX1_howManyHanded 45 = .ok (.getfield 9, 3) := dc_180 (a0 := 0) (b0 := 9) aX1_howManyHanded_45
theorem dX1_howManyHanded_48 : decode cX1_howManyHanded 48 = .ok (.sipush 440, 3) := dc_17 (a0 := 1) (b0 := 184) aX1_howManyHanded_48 (by decide)
theorem dX1_howManyHanded_51 : decode cX1_howManyHanded 51 = .ok (.iload_n 3, 1) := dc_29 aX1_howManyHanded_51
theorem dX1_howManyHanded_52 : decode cX1_howManyHanded 52 = .ok (.imul, 1) := dc_104 aX1_howManyHanded_52
theorem dX1_howManyHanded_53 : decode cX1_howManyHanded 53 = .ok (.iload 5, 2) := dc_21 (a0 := 5) aX1_howManyHanded_53
theorem dX1_howManyHanded_55 : decode cX1_howManyHanded 55 = .ok (.iadd, 1) := dc_96 aX1_howManyHanded_55
theorem dX1_howManyHanded_56 : decode cX1_howManyHanded 56 = .ok (.iaload, 1) := dc_46 aX1_howManyHanded_56
theorem dX1_howManyHanded_57 : decode cX1_howManyHanded 57 = .ok (.istore 8, 2) := dc_54 (a0 := 8) aX1_howManyHanded_57
theorem dX1_howManyHanded_59 : decode cX1_howManyHanded 59 = .ok (.iload 6, 2) := dc_21 (a0 := 6) aX1_howManyHanded_59
theorem dX1_howManyHanded_61 : decode cX1_howManyHanded 61 = .ok (.iconst (-1), 1) := dc_2 aX1_howManyHanded_61
theorem dX1_howManyHanded_62 : decode cX1_howManyHanded 62 = .ok (.if_icmp .eq 26, 3) := dc_159 (a0 := 0) (b0 := 26) aX1_howManyHanded_62 (by decide)
theorem dX1_howManyHanded_65 : decode cX1_howManyHanded 65 = .ok (.iload 6, 2) := dc_21 (a0 := 6) aX1_howManyHanded_65
theorem dX1_howManyHanded_67 : decode cX1_howManyHanded 67 = .ok (.iload 7, 2) := dc_21 (a0 := 7) aX1_howManyHanded_67
theorem dX1_howManyHanded_69 : decode cX1_howManyHanded 69 = .ok (.if_icmp .ne 19, 3) := dc_160 (a0 := 0) (b0 := 19) aX1_howManyHanded_69 (by decide)
theorem dX1_howManyHanded_72 : decode cX1_howManyHanded 72 = .ok (.iload 8, 2) := dc_21 (a0 := 8) aX1_howManyHanded_72
theorem dX1_howManyHanded_74 : decode cX1_howManyHanded 74 = .ok (.iconst (-1), 1) := dc_2 aX1_howManyHanded_74
theorem dX1_howManyHanded_75 : decode cX1_howManyHanded 75 = .ok (.if_icmp .eq 13, 3) := dc_159 (a0 := 0) (b0 := 13) aX1_howManyHanded_75 (by decide)
theorem dX1_howManyHanded_78 : decode cX1_howManyHanded 78 = .ok (.iload 8, 2) := dc_21 (a0 := 8) aX1_howManyHanded_78
theorem dX1_howManyHanded_80 : decode cX1_howManyHanded 80 = .ok (.iload 6, 2) := dc_21 (a0 := 6) aX1_howManyHanded_80
theorem dX1_howManyHanded_82 : decode cX1_howManyHanded 82 = .ok (.if_icmp .eq 6, 3) := dc_159 (a0 := 0) (b0 := 6) aX1_howManyHanded_82 (by decide)
theorem dX1_howManyHanded_85 : decode cX1_howManyHanded 85 = .ok (.iinc 4 1, 3) := dc_132 (a0 := 4) (a1 := 1) aX1_howManyHanded_85 (by decide)
theorem dX1_howManyHanded_88 : decode cX1_howManyHanded 88 = .ok (.iinc 5 1, 3) := dc_132 (a0 := 5) (a1 := 1) aX1_howManyHanded_88 (by decide)
theorem dX1_howManyHanded_91 : decode cX1_howManyHanded 91 = .ok (.goto (-85), 3) := dc_167 (a0 := 255) (b0 := 171) aX1_howManyHanded_91 (by decide)
theorem dX1_howManyHanded_94 : decode cX1_howManyHanded 94 = .ok (.iload 4, 2) := dc_21 (a0 := 4) aX1_howManyHanded_94
theorem dX1_howManyHanded_96 : decode cX1_howManyHanded 96 = .ok (.ireturn, 1) := dc_172 aX1_howManyHanded_96
noncomputable def sX2_init_12 : List Nat := 177 :: []
noncomputable def sX2_init_9 : List Nat := 181 :: 0 :: 11 :: sX2_init_12
noncomputable def sX2_init_7 : List Nat := 188 :: 10 :: sX2_init_9
noncomputable def sX2_init_5 : List Nat := 16 :: 91 :: sX2_init_7
noncomputable def sX2_init_4 : List Nat := 42 :: sX2_init_5
noncomputable def sX2_init_1 : List Nat := 183 :: 0 :: 3 :: sX2_init_4
noncomputable def sX2_init_0 : List Nat := 42 :: sX2_init_1
theorem aX2_init_0 : dc_at cX2_init 0 sX2_init_0 := dc_base (by decide +kernel)
theorem aX2_init_1 : dc_at cX2_init 1 sX2_init_1 := dc_n1 aX2_init_0
theorem aX2_init_4 : dc_at cX2_init 4 sX2_init_4 := dc_n3 aX2_init_1
theorem aX2_init_5 : dc_at cX2_init 5 sX2_init_5 := dc_n1 aX2_init_4
theorem aX2_init_7 : dc_at cX2_init 7 sX2_init_7 := dc_n2 aX2_init_5
theorem aX2_init_9 : dc_at cX2_init 9 sX2_init_9 := dc_n2 aX2_init_7
theorem aX2_init_12 : dc_at cX2_init 12 sX2_init_12 := dc_n3 aX2_init_9
theorem dX2_init_0 : decode cX2_init 0 = .ok (.aload_n 0, 1) := dc_42 aX2_init_0
theorem dX2_init_1 : decode cX2_init 1 = .ok (.invokespecial 3, 3) := dc_183 (a0 := 0) (b0 := 3) aX2_init_1
theorem dX2_init_4 : decode cX2_init 4 = .ok (.aload_n 0, 1) := dc_42 aX2_init_4
theorem dX2_init_5 : decode cX2_init 5 = .ok (.bipush 91, 2) := dc_16 (a0 := 91) aX2_init_5 (by decide)
theorem dX2_init_7 : decode cX2_init 7 = .ok (.newarray .int, 2) := dc_188_10 aX2_init_7
theorem dX2_init_9 : decode cX2_init 9 = .ok (.putfield 11, 3) := dc_181 (a0 := 0) (b0 := 11) aX2_init_9
theorem dX2_init_12 : decode cX2_init 12 = .ok (.return_, 1) := dc_177 aX2_init_12
noncomputable def sX2_copyFrom_23 : List Nat := 177 :: []
noncomputable def sX2_copyFrom_20 : List Nat := 181 :: 0 :: 21 :: sX2_copyFrom_23
noncomputable def sX2_copyFrom_17 : List Nat := 180 :: 0 :: 21 :: sX2_copyFrom_20
noncomputable def sX2_copyFrom_16 : List Nat := 43 :: sX2_copyFrom_17
noncomputable def sX2_copyFrom_15 : List Nat := 42 :: sX2_copyFrom_16
noncomputable def sX2_copyFrom_12 : List Nat := 184 :: 0 :: 15 :: sX2_copyFrom_15
noncomputable def sX2_copyFrom_10 : List Nat := 16 :: 91 :: sX2_copyFrom_12
noncomputable def sX2_copyFrom_9 : List Nat := 3 :: sX2_copyFrom_10
noncomputable def sX2_copyFrom_6 : List Nat := 180 :: 0 :: 11 :: sX2_copyFrom_9
noncomputable def sX2_copyFrom_5 : List Nat := 42 :: sX2_copyFrom_6
noncomputable def sX2_copyFrom_4 : List Nat := 3 :: sX2_copyFrom_5
noncomputable def sX2_copyFrom_1 : List Nat := 180 :: 0 :: 11 :: sX2_copyFrom_4
noncomputable def sX2_copyFrom_0 : List Nat := 43 :: sX2_copyFrom_1
theorem aX2_copyFrom_0 : dc_at cX2_copyFrom 0 sX2_copyFrom_0 := dc_base (by decide +kernel)
theorem aX2_copyFrom_1 : dc_at cX2_copyFrom 1 sX2_copyFrom_1 := dc_n1 aX2_copyFrom_0
theorem aX2_copyFrom_4 : dc_at cX2_copyFrom 4 sX2_copyFrom_4 := dc_n3 aX2_copyFrom_1
theorem aX2_copyFrom_5 : dc_at cX2_copyFrom 5 sX2_copyFrom_5 := dc_n1 aX2_copyFrom_4
theorem aX2_copyFrom_6 : dc_at cX2_copyFrom 6 sX2_copyFrom_6 := dc_n1 aX2_copyFrom_5
theorem aX2_copyFrom_9 : dc_at cX2_copyFrom 9 sX2_copyFrom_9 := dc_n3 aX2_copyFrom_6
theorem aX2_copyFrom_10 : dc_at cX2_copyFrom 10 sX2_copyFrom_10 := dc_n1 aX2_copyFrom_9
theorem aX2_copyFrom_12 : dc_at cX2_copyFrom 12 sX2_copyFrom_12 := dc_n2 aX2_copyFrom_10
theorem aX2_copyFrom_15 : dc_at cX2_copyFrom 15 sX2_copyFrom_15 := dc_n3 aX2_copyFrom_12
theorem aX2_copyFrom_16 : dc_at cX2_copyFrom 16 sX2_copyFrom_16 := dc_n1 aX2_copyFrom_15
theorem aX2_copyFrom_17 : dc_at cX2_copyFrom 17 sX2_copyFrom_17 := dc_n1 aX2_copyFrom_16
theorem aX2_copyFrom_20 : dc_at cX2_copyFrom 20 sX2_copyFrom_20 := dc_n3 aX2_copyFrom_17
theorem aX2_copyFrom_23 : dc_at cX2_copyFrom 23 sX2_copyFrom_23 := dc_n3 aX2_copyFrom_20
theorem dX2_copyFrom_0 : decode cX2_copyFrom 0 = .ok (.aload_n 1, 1) := dc_43 aX2_copyFrom_0
theorem dX2_copyFrom_1 : decode cX2_copyFrom 1 = .ok (.getfield 11, 3) := dc_180 (a0 := 0) (b0 := 11) aX2_copyFrom_1
theorem dX2_copyFrom_4 : decode cX2_copyFrom 4 = .ok (.iconst 0, 1) := dc_3 aX2_copyFrom_4
theorem dX2_copyFrom_5 : decode cX2_copyFrom 5 = .ok (.aload_n 0, 1) := dc_42 aX2_copyFrom_5
theorem dX2_copyFrom_6 : decode cX2_copyFrom 6 = .ok (.getfield 11, 3) := dc_180 (a0 := 0) (b0 := 11) aX2_copyFrom_6
theorem dX2_copyFrom_9 : decode cX2_copyFrom 9 = .ok (.iconst 0, 1) := dc_3 aX2_copyFrom_9
theorem dX2_copyFrom_10 : decode cX2_copyFrom 10 = .ok (.bipush 91, 2) := dc_16 (a0 := 91) aX2_copyFrom_10 (by decide)
theorem dX2_copyFrom_12 : decode cX2_copyFrom 12 = .ok (.invokestatic 15, 3) := dc_184 (a0 := 0) (b0 := 15) aX2_copyFrom_12
theorem dX2_copyFrom_15 : decode cX2_copyFrom 15 = .ok (.aload_n 0, 1) := dc_42 aX2_copyFrom_15
theorem dX2_copyFrom_16 : decode cX2_copyFrom 16 = .ok (.aload_n 1, 1) := dc_43 aX2_copyFrom_16
theorem dX2_copyFrom_17 : decode cX2_copyFrom 17 = .ok (.getfield 21, 3) := dc_180 (a0 := 0) (b0 := 21) aX2_copyFrom_17
theorem dX2_copyFrom_20 : decode cX2_copyFrom 20 = .ok (.putfield 21, 3) := dc_181 (a0 := 0) (b0 := 21) aX2_copyFrom_20
theorem dX2_copyFrom_23 : decode cX2_copyFrom 23 = .ok (.return_, 1) := dc_177 aX2_copyFrom_23
set_option maxRecDepth 20000 in
theorem ggX2_readClimate_X9_refuse : GoodIn wsX2_readClimate wsX9_refuse := goodIn_k _ [[6, 0, 0, 0, 47, 0, 0, 0, 0, 0, 0, 0, 0, 0]] (by rfl) (by decide +kernel)
set_option maxRecDepth 20000 in
theorem gX2_readClimate_X9_refuse : GoodIn wsX2_readClimate (wsV RX2 27 RX9 yX9_refuse wsX9_refuse) := goodIn_app (goodIn_of _ (by decide +kernel)) ggX2_readClimate_X9_refuse
set_option maxRecDepth 20000 in
theorem ggX2_readClimate_X9_step : GoodIn wsX2_readClimate wsX9_step := goodIn_k _ [[13, 0, 0, 0], [8, 8, 0, 0, 0], [5, 15, 0, 0, 0, 0, 0, 0, 29, 0, 0, 0, 0, 0, 0, 0, 0, 0]] (by rfl) (by decide +kernel)
set_option maxRecDepth 20000 in
theorem gX2_readClimate_X9_step : GoodIn wsX2_readClimate (wsV RX2 31 RX9 yX9_step wsX9_step) := goodIn_app (goodIn_of _ (by decide +kernel)) ggX2_readClimate_X9_step
set_option maxRecDepth 20000 in
theorem ggX2_readClimate_X9_takeNumber : GoodIn wsX2_readClimate wsX9_takeNumber := goodIn_k _ [[31, 0, 0, 0], [5, 29], [17], [14], [8, 9, 17, 0], [3, 0, 1, 0, 1, 28], [11, 0, 0, 1, 0, 2, 0, 0, 0, 0, 0, 0, 0, 0, 29, 0, 0, 0, 0, 0, 0, 0, 0, 0]] (by rfl) (by decide +kernel)
set_option maxRecDepth 20000 in
theorem gX2_readClimate_X9_takeNumber : GoodIn wsX2_readClimate (wsV RX2 34 RX9 yX9_takeNumber wsX9_takeNumber) := goodIn_app (goodIn_of _ (by decide +kernel)) ggX2_readClimate_X9_takeNumber
set_option maxRecDepth 20000 in
theorem ggX2_readClimate_X2_readRising : GoodIn wsX2_readClimate wsX2_readRising := goodIn_k _ [[43, 0, 0, 0, 0, 0, 0, 0], [1, 26, 0, 0], [5, 25, 0, 0, 0, 0], [17], [14], [8, 9, 17, 0], [3, 0, 1, 0, 1, 28], [11, 0, 0, 1, 0, 2, 0, 0, 0, 0, 0, 0, 0, 0, 29, 0, 0, 0, 0, 0, 0, 0, 0, 0], [55, 0]] (by rfl) (by decide +kernel)
set_option maxRecDepth 20000 in
theorem gX2_readClimate_X2_readRising : GoodIn wsX2_readClimate (wsV RX2 38 RX2 yX2_readRising wsX2_readRising) := goodIn_app (goodIn_of _ (by decide +kernel)) ggX2_readClimate_X2_readRising
set_option maxRecDepth 20000 in
theorem ggX2_readClimate_X9_takeStop : GoodIn wsX2_readClimate wsX9_takeStop := goodIn_k _ [[54], [17, 19], [3, 0, 0, 0, 0, 0, 0, 28], [11, 0, 0, 0, 0, 0, 1, 0, 0, 0, 0, 0, 0, 0, 0, 0, 29, 0, 0, 0, 0, 0, 0, 0, 0, 0]] (by rfl) (by decide +kernel)
set_option maxRecDepth 20000 in
theorem gX2_readClimate_X9_takeStop : GoodIn wsX2_readClimate (wsV RX2 42 RX9 yX9_takeStop wsX9_takeStop) := goodIn_app (goodIn_of _ (by decide +kernel)) ggX2_readClimate_X9_takeStop
noncomputable def sX2_readClimate_58 : List Nat := 172 :: []
noncomputable def sX2_readClimate_55 : List Nat := 182 :: 0 :: 42 :: sX2_readClimate_58
noncomputable def sX2_readClimate_54 : List Nat := 43 :: sX2_readClimate_55
noncomputable def sX2_readClimate_51 : List Nat := 181 :: 0 :: 21 :: sX2_readClimate_54
noncomputable def sX2_readClimate_50 : List Nat := 96 :: sX2_readClimate_51
noncomputable def sX2_readClimate_49 : List Nat := 4 :: sX2_readClimate_50
noncomputable def sX2_readClimate_46 : List Nat := 180 :: 0 :: 21 :: sX2_readClimate_49
noncomputable def sX2_readClimate_45 : List Nat := 89 :: sX2_readClimate_46
noncomputable def sX2_readClimate_44 : List Nat := 42 :: sX2_readClimate_45
noncomputable def sX2_readClimate_43 : List Nat := 172 :: sX2_readClimate_44
noncomputable def sX2_readClimate_42 : List Nat := 3 :: sX2_readClimate_43
noncomputable def sX2_readClimate_39 : List Nat := 154 :: 0 :: 5 :: sX2_readClimate_42
noncomputable def sX2_readClimate_36 : List Nat := 182 :: 0 :: 38 :: sX2_readClimate_39
noncomputable def sX2_readClimate_35 : List Nat := 43 :: sX2_readClimate_36
noncomputable def sX2_readClimate_34 : List Nat := 42 :: sX2_readClimate_35
noncomputable def sX2_readClimate_31 : List Nat := 153 :: 0 :: 11 :: sX2_readClimate_34
noncomputable def sX2_readClimate_28 : List Nat := 182 :: 0 :: 34 :: sX2_readClimate_31
noncomputable def sX2_readClimate_25 : List Nat := 180 :: 0 :: 21 :: sX2_readClimate_28
noncomputable def sX2_readClimate_24 : List Nat := 42 :: sX2_readClimate_25
noncomputable def sX2_readClimate_21 : List Nat := 180 :: 0 :: 21 :: sX2_readClimate_24
noncomputable def sX2_readClimate_20 : List Nat := 42 :: sX2_readClimate_21
noncomputable def sX2_readClimate_19 : List Nat := 43 :: sX2_readClimate_20
noncomputable def sX2_readClimate_16 : List Nat := 182 :: 0 :: 31 :: sX2_readClimate_19
noncomputable def sX2_readClimate_15 : List Nat := 43 :: sX2_readClimate_16
noncomputable def sX2_readClimate_14 : List Nat := 172 :: sX2_readClimate_15
noncomputable def sX2_readClimate_11 : List Nat := 182 :: 0 :: 27 :: sX2_readClimate_14
noncomputable def sX2_readClimate_10 : List Nat := 5 :: sX2_readClimate_11
noncomputable def sX2_readClimate_9 : List Nat := 43 :: sX2_readClimate_10
noncomputable def sX2_readClimate_6 : List Nat := 161 :: 0 :: 9 :: sX2_readClimate_9
noncomputable def sX2_readClimate_4 : List Nat := 16 :: 7 :: sX2_readClimate_6
noncomputable def sX2_readClimate_1 : List Nat := 180 :: 0 :: 21 :: sX2_readClimate_4
noncomputable def sX2_readClimate_0 : List Nat := 42 :: sX2_readClimate_1
theorem aX2_readClimate_0 : dc_at cX2_readClimate 0 sX2_readClimate_0 := dc_base (by decide +kernel)
theorem aX2_readClimate_1 : dc_at cX2_readClimate 1 sX2_readClimate_1 := dc_n1 aX2_readClimate_0
theorem aX2_readClimate_4 : dc_at cX2_readClimate 4 sX2_readClimate_4 := dc_n3 aX2_readClimate_1
theorem aX2_readClimate_6 : dc_at cX2_readClimate 6 sX2_readClimate_6 := dc_n2 aX2_readClimate_4
theorem aX2_readClimate_9 : dc_at cX2_readClimate 9 sX2_readClimate_9 := dc_n3 aX2_readClimate_6
theorem aX2_readClimate_10 : dc_at cX2_readClimate 10 sX2_readClimate_10 := dc_n1 aX2_readClimate_9
theorem aX2_readClimate_11 : dc_at cX2_readClimate 11 sX2_readClimate_11 := dc_n1 aX2_readClimate_10
theorem aX2_readClimate_14 : dc_at cX2_readClimate 14 sX2_readClimate_14 := dc_n3 aX2_readClimate_11
theorem aX2_readClimate_15 : dc_at cX2_readClimate 15 sX2_readClimate_15 := dc_n1 aX2_readClimate_14
theorem aX2_readClimate_16 : dc_at cX2_readClimate 16 sX2_readClimate_16 := dc_n1 aX2_readClimate_15
theorem aX2_readClimate_19 : dc_at cX2_readClimate 19 sX2_readClimate_19 := dc_n3 aX2_readClimate_16
theorem aX2_readClimate_20 : dc_at cX2_readClimate 20 sX2_readClimate_20 := dc_n1 aX2_readClimate_19
theorem aX2_readClimate_21 : dc_at cX2_readClimate 21 sX2_readClimate_21 := dc_n1 aX2_readClimate_20
theorem aX2_readClimate_24 : dc_at cX2_readClimate 24 sX2_readClimate_24 := dc_n3 aX2_readClimate_21
theorem aX2_readClimate_25 : dc_at cX2_readClimate 25 sX2_readClimate_25 := dc_n1 aX2_readClimate_24
theorem aX2_readClimate_28 : dc_at cX2_readClimate 28 sX2_readClimate_28 := dc_n3 aX2_readClimate_25
theorem aX2_readClimate_31 : dc_at cX2_readClimate 31 sX2_readClimate_31 := dc_n3 aX2_readClimate_28
theorem aX2_readClimate_34 : dc_at cX2_readClimate 34 sX2_readClimate_34 := dc_n3 aX2_readClimate_31
theorem aX2_readClimate_35 : dc_at cX2_readClimate 35 sX2_readClimate_35 := dc_n1 aX2_readClimate_34
theorem aX2_readClimate_36 : dc_at cX2_readClimate 36 sX2_readClimate_36 := dc_n1 aX2_readClimate_35
theorem aX2_readClimate_39 : dc_at cX2_readClimate 39 sX2_readClimate_39 := dc_n3 aX2_readClimate_36
theorem aX2_readClimate_42 : dc_at cX2_readClimate 42 sX2_readClimate_42 := dc_n3 aX2_readClimate_39
theorem aX2_readClimate_43 : dc_at cX2_readClimate 43 sX2_readClimate_43 := dc_n1 aX2_readClimate_42
theorem aX2_readClimate_44 : dc_at cX2_readClimate 44 sX2_readClimate_44 := dc_n1 aX2_readClimate_43
theorem aX2_readClimate_45 : dc_at cX2_readClimate 45 sX2_readClimate_45 := dc_n1 aX2_readClimate_44
theorem aX2_readClimate_46 : dc_at cX2_readClimate 46 sX2_readClimate_46 := dc_n1 aX2_readClimate_45
theorem aX2_readClimate_49 : dc_at cX2_readClimate 49 sX2_readClimate_49 := dc_n3 aX2_readClimate_46
theorem aX2_readClimate_50 : dc_at cX2_readClimate 50 sX2_readClimate_50 := dc_n1 aX2_readClimate_49
theorem aX2_readClimate_51 : dc_at cX2_readClimate 51 sX2_readClimate_51 := dc_n1 aX2_readClimate_50
theorem aX2_readClimate_54 : dc_at cX2_readClimate 54 sX2_readClimate_54 := dc_n3 aX2_readClimate_51
theorem aX2_readClimate_55 : dc_at cX2_readClimate 55 sX2_readClimate_55 := dc_n1 aX2_readClimate_54
theorem aX2_readClimate_58 : dc_at cX2_readClimate 58 sX2_readClimate_58 := dc_n3 aX2_readClimate_55
theorem dX2_readClimate_0 : decode cX2_readClimate 0 = .ok (.aload_n 0, 1) := dc_42 aX2_readClimate_0
theorem dX2_readClimate_1 : decode cX2_readClimate 1 = .ok (.getfield 21, 3) := dc_180 (a0 := 0) (b0 := 21) aX2_readClimate_1
theorem dX2_readClimate_4 : decode cX2_readClimate 4 = .ok (.bipush 7, 2) := dc_16 (a0 := 7) aX2_readClimate_4 (by decide)
theorem dX2_readClimate_6 : decode cX2_readClimate 6 = .ok (.if_icmp .lt 9, 3) := dc_161 (a0 := 0) (b0 := 9) aX2_readClimate_6 (by decide)
theorem dX2_readClimate_9 : decode cX2_readClimate 9 = .ok (.aload_n 1, 1) := dc_43 aX2_readClimate_9
theorem dX2_readClimate_10 : decode cX2_readClimate 10 = .ok (.iconst 2, 1) := dc_5 aX2_readClimate_10
theorem dX2_readClimate_11 : decode cX2_readClimate 11 = .ok (.invokevirtual 27, 3) := dc_182 (a0 := 0) (b0 := 27) aX2_readClimate_11
theorem dX2_readClimate_14 : decode cX2_readClimate 14 = .ok (.ireturn, 1) := dc_172 aX2_readClimate_14
theorem dX2_readClimate_15 : decode cX2_readClimate 15 = .ok (.aload_n 1, 1) := dc_43 aX2_readClimate_15
theorem dX2_readClimate_16 : decode cX2_readClimate 16 = .ok (.invokevirtual 31, 3) := dc_182 (a0 := 0) (b0 := 31) aX2_readClimate_16
theorem dX2_readClimate_19 : decode cX2_readClimate 19 = .ok (.aload_n 1, 1) := dc_43 aX2_readClimate_19
theorem dX2_readClimate_20 : decode cX2_readClimate 20 = .ok (.aload_n 0, 1) := dc_42 aX2_readClimate_20
theorem dX2_readClimate_21 : decode cX2_readClimate 21 = .ok (.getfield 21, 3) := dc_180 (a0 := 0) (b0 := 21) aX2_readClimate_21
theorem dX2_readClimate_24 : decode cX2_readClimate 24 = .ok (.aload_n 0, 1) := dc_42 aX2_readClimate_24
theorem dX2_readClimate_25 : decode cX2_readClimate 25 = .ok (.getfield 21, 3) := dc_180 (a0 := 0) (b0 := 21) aX2_readClimate_25
theorem dX2_readClimate_28 : decode cX2_readClimate 28 = .ok (.invokevirtual 34, 3) := dc_182 (a0 := 0) (b0 := 34) aX2_readClimate_28
theorem dX2_readClimate_31 : decode cX2_readClimate 31 = .ok (.ifCond .eq 11, 3) := dc_153 (a0 := 0) (b0 := 11) aX2_readClimate_31 (by decide)
theorem dX2_readClimate_34 : decode cX2_readClimate 34 = .ok (.aload_n 0, 1) := dc_42 aX2_readClimate_34
theorem dX2_readClimate_35 : decode cX2_readClimate 35 = .ok (.aload_n 1, 1) := dc_43 aX2_readClimate_35
theorem dX2_readClimate_36 : decode cX2_readClimate 36 = .ok (.invokevirtual 38, 3) := dc_182 (a0 := 0) (b0 := 38) aX2_readClimate_36
theorem dX2_readClimate_39 : decode cX2_readClimate 39 = .ok (.ifCond .ne 5, 3) := dc_154 (a0 := 0) (b0 := 5) aX2_readClimate_39 (by decide)
theorem dX2_readClimate_42 : decode cX2_readClimate 42 = .ok (.iconst 0, 1) := dc_3 aX2_readClimate_42
theorem dX2_readClimate_43 : decode cX2_readClimate 43 = .ok (.ireturn, 1) := dc_172 aX2_readClimate_43
theorem dX2_readClimate_44 : decode cX2_readClimate 44 = .ok (.aload_n 0, 1) := dc_42 aX2_readClimate_44
theorem dX2_readClimate_45 : decode cX2_readClimate 45 = .ok (.dup, 1) := dc_89 aX2_readClimate_45
theorem dX2_readClimate_46 : decode cX2_readClimate 46 = .ok (.getfield 21, 3) := dc_180 (a0 := 0) (b0 := 21) aX2_readClimate_46
theorem dX2_readClimate_49 : decode cX2_readClimate 49 = .ok (.iconst 1, 1) := dc_4 aX2_readClimate_49
theorem dX2_readClimate_50 : decode cX2_readClimate 50 = .ok (.iadd, 1) := dc_96 aX2_readClimate_50
theorem dX2_readClimate_51 : decode cX2_readClimate 51 = .ok (.putfield 21, 3) := dc_181 (a0 := 0) (b0 := 21) aX2_readClimate_51
theorem dX2_readClimate_54 : decode cX2_readClimate 54 = .ok (.aload_n 1, 1) := dc_43 aX2_readClimate_54
theorem dX2_readClimate_55 : decode cX2_readClimate 55 = .ok (.invokevirtual 42, 3) := dc_182 (a0 := 0) (b0 := 42) aX2_readClimate_55
theorem dX2_readClimate_58 : decode cX2_readClimate 58 = .ok (.ireturn, 1) := dc_172 aX2_readClimate_58
set_option maxRecDepth 20000 in
theorem ggX2_readRising_X9_takeNumber : GoodIn wsX2_readRising wsX9_takeNumber := goodIn_k _ [[13, 0, 0, 0], [12, 4, 0, 0, 0, 0, 0, 0, 0, 0, 0, 0, 0, 0, 0, 0, 0, 0, 0, 0, 0, 0, 0, 0, 0, 0, 0, 0, 0, 0, 0, 0, 0, 0, 0, 0, 0, 0]] (by rfl) (by decide +kernel)
set_option maxRecDepth 20000 in
theorem gX2_readRising_X9_takeNumber : GoodIn wsX2_readRising (wsV RX2 34 RX9 yX9_takeNumber wsX9_takeNumber) := goodIn_app (goodIn_of _ (by decide +kernel)) ggX2_readRising_X9_takeNumber
noncomputable def sX2_readRising_97 : List Nat := 172 :: []
noncomputable def sX2_readRising_96 : List Nat := 4 :: sX2_readRising_97
noncomputable def sX2_readRising_93 : List Nat := 167 :: 255 :: 167 :: sX2_readRising_96
noncomputable def sX2_readRising_90 : List Nat := 132 :: 3 :: 1 :: sX2_readRising_93
noncomputable def sX2_readRising_89 : List Nat := 79 :: sX2_readRising_90
noncomputable def sX2_readRising_88 : List Nat := 28 :: sX2_readRising_89
noncomputable def sX2_readRising_87 : List Nat := 96 :: sX2_readRising_88
noncomputable def sX2_readRising_86 : List Nat := 4 :: sX2_readRising_87
noncomputable def sX2_readRising_85 : List Nat := 96 :: sX2_readRising_86
noncomputable def sX2_readRising_84 : List Nat := 29 :: sX2_readRising_85
noncomputable def sX2_readRising_83 : List Nat := 104 :: sX2_readRising_84
noncomputable def sX2_readRising_80 : List Nat := 180 :: 0 :: 21 :: sX2_readRising_83
noncomputable def sX2_readRising_79 : List Nat := 42 :: sX2_readRising_80
noncomputable def sX2_readRising_77 : List Nat := 16 :: 13 :: sX2_readRising_79
noncomputable def sX2_readRising_74 : List Nat := 180 :: 0 :: 11 :: sX2_readRising_77
noncomputable def sX2_readRising_73 : List Nat := 42 :: sX2_readRising_74
noncomputable def sX2_readRising_72 : List Nat := 61 :: sX2_readRising_73
noncomputable def sX2_readRising_71 : List Nat := 96 :: sX2_readRising_72
noncomputable def sX2_readRising_68 : List Nat := 180 :: 0 :: 53 :: sX2_readRising_71
noncomputable def sX2_readRising_67 : List Nat := 43 :: sX2_readRising_68
noncomputable def sX2_readRising_66 : List Nat := 28 :: sX2_readRising_67
noncomputable def sX2_readRising_65 : List Nat := 172 :: sX2_readRising_66
noncomputable def sX2_readRising_64 : List Nat := 3 :: sX2_readRising_65
noncomputable def sX2_readRising_61 : List Nat := 154 :: 0 :: 5 :: sX2_readRising_64
noncomputable def sX2_readRising_58 : List Nat := 182 :: 0 :: 34 :: sX2_readRising_61
noncomputable def sX2_readRising_56 : List Nat := 18 :: 52 :: sX2_readRising_58
noncomputable def sX2_readRising_53 : List Nat := 167 :: 0 :: 5 :: sX2_readRising_56
noncomputable def sX2_readRising_51 : List Nat := 21 :: 4 :: sX2_readRising_53
noncomputable def sX2_readRising_48 : List Nat := 153 :: 0 :: 8 :: sX2_readRising_51
noncomputable def sX2_readRising_46 : List Nat := 21 :: 5 :: sX2_readRising_48
noncomputable def sX2_readRising_45 : List Nat := 4 :: sX2_readRising_46
noncomputable def sX2_readRising_42 : List Nat := 167 :: 0 :: 4 :: sX2_readRising_45
noncomputable def sX2_readRising_39 : List Nat := 184 :: 0 :: 46 :: sX2_readRising_42
noncomputable def sX2_readRising_37 : List Nat := 21 :: 4 :: sX2_readRising_39
noncomputable def sX2_readRising_36 : List Nat := 4 :: sX2_readRising_37
noncomputable def sX2_readRising_33 : List Nat := 153 :: 0 :: 12 :: sX2_readRising_36
noncomputable def sX2_readRising_31 : List Nat := 21 :: 5 :: sX2_readRising_33
noncomputable def sX2_readRising_30 : List Nat := 43 :: sX2_readRising_31
noncomputable def sX2_readRising_28 : List Nat := 54 :: 5 :: sX2_readRising_30
noncomputable def sX2_readRising_27 : List Nat := 3 :: sX2_readRising_28
noncomputable def sX2_readRising_24 : List Nat := 167 :: 0 :: 4 :: sX2_readRising_27
noncomputable def sX2_readRising_23 : List Nat := 4 :: sX2_readRising_24
noncomputable def sX2_readRising_20 : List Nat := 160 :: 0 :: 7 :: sX2_readRising_23
noncomputable def sX2_readRising_18 : List Nat := 16 :: 11 :: sX2_readRising_20
noncomputable def sX2_readRising_17 : List Nat := 29 :: sX2_readRising_18
noncomputable def sX2_readRising_15 : List Nat := 54 :: 4 :: sX2_readRising_17
noncomputable def sX2_readRising_14 : List Nat := 100 :: sX2_readRising_15
noncomputable def sX2_readRising_13 : List Nat := 28 :: sX2_readRising_14
noncomputable def sX2_readRising_10 : List Nat := 17 :: 14 :: 16 :: sX2_readRising_13
noncomputable def sX2_readRising_7 : List Nat := 162 :: 0 :: 89 :: sX2_readRising_10
noncomputable def sX2_readRising_5 : List Nat := 16 :: 12 :: sX2_readRising_7
noncomputable def sX2_readRising_4 : List Nat := 29 :: sX2_readRising_5
noncomputable def sX2_readRising_3 : List Nat := 62 :: sX2_readRising_4
noncomputable def sX2_readRising_2 : List Nat := 3 :: sX2_readRising_3
noncomputable def sX2_readRising_1 : List Nat := 61 :: sX2_readRising_2
noncomputable def sX2_readRising_0 : List Nat := 3 :: sX2_readRising_1
theorem aX2_readRising_0 : dc_at cX2_readRising 0 sX2_readRising_0 := dc_base (by decide +kernel)
theorem aX2_readRising_1 : dc_at cX2_readRising 1 sX2_readRising_1 := dc_n1 aX2_readRising_0
theorem aX2_readRising_2 : dc_at cX2_readRising 2 sX2_readRising_2 := dc_n1 aX2_readRising_1
theorem aX2_readRising_3 : dc_at cX2_readRising 3 sX2_readRising_3 := dc_n1 aX2_readRising_2
theorem aX2_readRising_4 : dc_at cX2_readRising 4 sX2_readRising_4 := dc_n1 aX2_readRising_3
theorem aX2_readRising_5 : dc_at cX2_readRising 5 sX2_readRising_5 := dc_n1 aX2_readRising_4
theorem aX2_readRising_7 : dc_at cX2_readRising 7 sX2_readRising_7 := dc_n2 aX2_readRising_5
theorem aX2_readRising_10 : dc_at cX2_readRising 10 sX2_readRising_10 := dc_n3 aX2_readRising_7
theorem aX2_readRising_13 : dc_at cX2_readRising 13 sX2_readRising_13 := dc_n3 aX2_readRising_10
theorem aX2_readRising_14 : dc_at cX2_readRising 14 sX2_readRising_14 := dc_n1 aX2_readRising_13
theorem aX2_readRising_15 : dc_at cX2_readRising 15 sX2_readRising_15 := dc_n1 aX2_readRising_14
theorem aX2_readRising_17 : dc_at cX2_readRising 17 sX2_readRising_17 := dc_n2 aX2_readRising_15
theorem aX2_readRising_18 : dc_at cX2_readRising 18 sX2_readRising_18 := dc_n1 aX2_readRising_17
theorem aX2_readRising_20 : dc_at cX2_readRising 20 sX2_readRising_20 := dc_n2 aX2_readRising_18
theorem aX2_readRising_23 : dc_at cX2_readRising 23 sX2_readRising_23 := dc_n3 aX2_readRising_20
theorem aX2_readRising_24 : dc_at cX2_readRising 24 sX2_readRising_24 := dc_n1 aX2_readRising_23
theorem aX2_readRising_27 : dc_at cX2_readRising 27 sX2_readRising_27 := dc_n3 aX2_readRising_24
theorem aX2_readRising_28 : dc_at cX2_readRising 28 sX2_readRising_28 := dc_n1 aX2_readRising_27
theorem aX2_readRising_30 : dc_at cX2_readRising 30 sX2_readRising_30 := dc_n2 aX2_readRising_28
theorem aX2_readRising_31 : dc_at cX2_readRising 31 sX2_readRising_31 := dc_n1 aX2_readRising_30
theorem aX2_readRising_33 : dc_at cX2_readRising 33 sX2_readRising_33 := dc_n2 aX2_readRising_31
theorem aX2_readRising_36 : dc_at cX2_readRising 36 sX2_readRising_36 := dc_n3 aX2_readRising_33
theorem aX2_readRising_37 : dc_at cX2_readRising 37 sX2_readRising_37 := dc_n1 aX2_readRising_36
theorem aX2_readRising_39 : dc_at cX2_readRising 39 sX2_readRising_39 := dc_n2 aX2_readRising_37
theorem aX2_readRising_42 : dc_at cX2_readRising 42 sX2_readRising_42 := dc_n3 aX2_readRising_39
theorem aX2_readRising_45 : dc_at cX2_readRising 45 sX2_readRising_45 := dc_n3 aX2_readRising_42
theorem aX2_readRising_46 : dc_at cX2_readRising 46 sX2_readRising_46 := dc_n1 aX2_readRising_45
theorem aX2_readRising_48 : dc_at cX2_readRising 48 sX2_readRising_48 := dc_n2 aX2_readRising_46
theorem aX2_readRising_51 : dc_at cX2_readRising 51 sX2_readRising_51 := dc_n3 aX2_readRising_48
theorem aX2_readRising_53 : dc_at cX2_readRising 53 sX2_readRising_53 := dc_n2 aX2_readRising_51
theorem aX2_readRising_56 : dc_at cX2_readRising 56 sX2_readRising_56 := dc_n3 aX2_readRising_53
theorem aX2_readRising_58 : dc_at cX2_readRising 58 sX2_readRising_58 := dc_n2 aX2_readRising_56
theorem aX2_readRising_61 : dc_at cX2_readRising 61 sX2_readRising_61 := dc_n3 aX2_readRising_58
theorem aX2_readRising_64 : dc_at cX2_readRising 64 sX2_readRising_64 := dc_n3 aX2_readRising_61
theorem aX2_readRising_65 : dc_at cX2_readRising 65 sX2_readRising_65 := dc_n1 aX2_readRising_64
theorem aX2_readRising_66 : dc_at cX2_readRising 66 sX2_readRising_66 := dc_n1 aX2_readRising_65
theorem aX2_readRising_67 : dc_at cX2_readRising 67 sX2_readRising_67 := dc_n1 aX2_readRising_66
theorem aX2_readRising_68 : dc_at cX2_readRising 68 sX2_readRising_68 := dc_n1 aX2_readRising_67
theorem aX2_readRising_71 : dc_at cX2_readRising 71 sX2_readRising_71 := dc_n3 aX2_readRising_68
theorem aX2_readRising_72 : dc_at cX2_readRising 72 sX2_readRising_72 := dc_n1 aX2_readRising_71
theorem aX2_readRising_73 : dc_at cX2_readRising 73 sX2_readRising_73 := dc_n1 aX2_readRising_72
theorem aX2_readRising_74 : dc_at cX2_readRising 74 sX2_readRising_74 := dc_n1 aX2_readRising_73
theorem aX2_readRising_77 : dc_at cX2_readRising 77 sX2_readRising_77 := dc_n3 aX2_readRising_74
theorem aX2_readRising_79 : dc_at cX2_readRising 79 sX2_readRising_79 := dc_n2 aX2_readRising_77
theorem aX2_readRising_80 : dc_at cX2_readRising 80 sX2_readRising_80 := dc_n1 aX2_readRising_79
theorem aX2_readRising_83 : dc_at cX2_readRising 83 sX2_readRising_83 := dc_n3 aX2_readRising_80
theorem aX2_readRising_84 : dc_at cX2_readRising 84 sX2_readRising_84 := dc_n1 aX2_readRising_83
theorem aX2_readRising_85 : dc_at cX2_readRising 85 sX2_readRising_85 := dc_n1 aX2_readRising_84
theorem aX2_readRising_86 : dc_at cX2_readRising 86 sX2_readRising_86 := dc_n1 aX2_readRising_85
theorem aX2_readRising_87 : dc_at cX2_readRising 87 sX2_readRising_87 := dc_n1 aX2_readRising_86
theorem aX2_readRising_88 : dc_at cX2_readRising 88 sX2_readRising_88 := dc_n1 aX2_readRising_87
theorem aX2_readRising_89 : dc_at cX2_readRising 89 sX2_readRising_89 := dc_n1 aX2_readRising_88
theorem aX2_readRising_90 : dc_at cX2_readRising 90 sX2_readRising_90 := dc_n1 aX2_readRising_89
theorem aX2_readRising_93 : dc_at cX2_readRising 93 sX2_readRising_93 := dc_n3 aX2_readRising_90
theorem aX2_readRising_96 : dc_at cX2_readRising 96 sX2_readRising_96 := dc_n3 aX2_readRising_93
theorem aX2_readRising_97 : dc_at cX2_readRising 97 sX2_readRising_97 := dc_n1 aX2_readRising_96
theorem dX2_readRising_0 : decode cX2_readRising 0 = .ok (.iconst 0, 1) := dc_3 aX2_readRising_0
theorem dX2_readRising_1 : decode cX2_readRising 1 = .ok (.istore_n 2, 1) := dc_61 aX2_readRising_1
theorem dX2_readRising_2 : decode cX2_readRising 2 = .ok (.iconst 0, 1) := dc_3 aX2_readRising_2
theorem dX2_readRising_3 : decode cX2_readRising 3 = .ok (.istore_n 3, 1) := dc_62 aX2_readRising_3
theorem dX2_readRising_4 : decode cX2_readRising 4 = .ok (.iload_n 3, 1) := dc_29 aX2_readRising_4
theorem dX2_readRising_5 : decode cX2_readRising 5 = .ok (.bipush 12, 2) := dc_16 (a0 := 12) aX2_readRising_5 (by decide)
theorem dX2_readRising_7 : decode cX2_readRising 7 = .ok (.if_icmp .ge 89, 3) := dc_162 (a0 := 0) (b0 := 89) aX2_readRising_7 (by decide)
theorem dX2_readRising_10 : decode cX2_readRising 10 = .ok (.sipush 3600, 3) := dc_17 (a0 := 14) (b0 := 16) aX2_readRising_10 (by decide)
theorem dX2_readRising_13 : decode cX2_readRising 13 = .ok (.iload_n 2, 1) := dc_28 aX2_readRising_13
theorem dX2_readRising_14 : decode cX2_readRising 14 = .ok (.isub, 1) := dc_100 aX2_readRising_14
theorem dX2_readRising_15 : decode cX2_readRising 15 = .ok (.istore 4, 2) := dc_54 (a0 := 4) aX2_readRising_15
theorem dX2_readRising_17 : decode cX2_readRising 17 = .ok (.iload_n 3, 1) := dc_29 aX2_readRising_17
theorem dX2_readRising_18 : decode cX2_readRising 18 = .ok (.bipush 11, 2) := dc_16 (a0 := 11) aX2_readRising_18 (by decide)
theorem dX2_readRising_20 : decode cX2_readRising 20 = .ok (.if_icmp .ne 7, 3) := dc_160 (a0 := 0) (b0 := 7) aX2_readRising_20 (by decide)
theorem dX2_readRising_23 : decode cX2_readRising 23 = .ok (.iconst 1, 1) := dc_4 aX2_readRising_23
theorem dX2_readRising_24 : decode cX2_readRising 24 = .ok (.goto 4, 3) := dc_167 (a0 := 0) (b0 := 4) aX2_readRising_24 (by decide)
theorem dX2_readRising_27 : decode cX2_readRising 27 = .ok (.iconst 0, 1) := dc_3 aX2_readRising_27
theorem dX2_readRising_28 : decode cX2_readRising 28 = .ok (.istore 5, 2) := dc_54 (a0 := 5) aX2_readRising_28
theorem dX2_readRising_30 : decode cX2_readRising 30 = .ok (.aload_n 1, 1) := dc_43 aX2_readRising_30
theorem dX2_readRising_31 : decode cX2_readRising 31 = .ok (.iload 5, 2) := dc_21 (a0 := 5) aX2_readRising_31
theorem dX2_readRising_33 : decode cX2_readRising 33 = .ok (.ifCond .eq 12, 3) := dc_153 (a0 := 0) (b0 := 12) aX2_readRising_33 (by decide)
theorem dX2_readRising_36 : decode cX2_readRising 36 = .ok (.iconst 1, 1) := dc_4 aX2_readRising_36
theorem dX2_readRising_37 : decode cX2_readRising 37 = .ok (.iload 4, 2) := dc_21 (a0 := 4) aX2_readRising_37
theorem dX2_readRising_39 : decode cX2_readRising 39 = .ok (.invokestatic 46, 3) := dc_184 (a0 := 0) (b0 := 46) aX2_readRising_39
theorem dX2_readRising_42 : decode cX2_readRising 42 = .ok (.goto 4, 3) := dc_167 (a0 := 0) (b0 := 4) aX2_readRising_42 (by decide)
theorem dX2_readRising_45 : decode cX2_readRising 45 = .ok (.iconst 1, 1) := dc_4 aX2_readRising_45
theorem dX2_readRising_46 : decode cX2_readRising 46 = .ok (.iload 5, 2) := dc_21 (a0 := 5) aX2_readRising_46
theorem dX2_readRising_48 : decode cX2_readRising 48 = .ok (.ifCond .eq 8, 3) := dc_153 (a0 := 0) (b0 := 8) aX2_readRising_48 (by decide)
theorem dX2_readRising_51 : decode cX2_readRising 51 = .ok (.iload 4, 2) := dc_21 (a0 := 4) aX2_readRising_51
theorem dX2_readRising_53 : decode cX2_readRising 53 = .ok (.goto 5, 3) := dc_167 (a0 := 0) (b0 := 5) aX2_readRising_53 (by decide)
theorem dX2_readRising_56 : decode cX2_readRising 56 = .ok (.ldc 52, 2) := dc_18 (a0 := 52) aX2_readRising_56
theorem dX2_readRising_58 : decode cX2_readRising 58 = .ok (.invokevirtual 34, 3) := dc_182 (a0 := 0) (b0 := 34) aX2_readRising_58
theorem dX2_readRising_61 : decode cX2_readRising 61 = .ok (.ifCond .ne 5, 3) := dc_154 (a0 := 0) (b0 := 5) aX2_readRising_61 (by decide)
theorem dX2_readRising_64 : decode cX2_readRising 64 = .ok (.iconst 0, 1) := dc_3 aX2_readRising_64
theorem dX2_readRising_65 : decode cX2_readRising 65 = .ok (.ireturn, 1) := dc_172 aX2_readRising_65
theorem dX2_readRising_66 : decode cX2_readRising 66 = .ok (.iload_n 2, 1) := dc_28 aX2_readRising_66
theorem dX2_readRising_67 : decode cX2_readRising 67 = .ok (.aload_n 1, 1) := dc_43 aX2_readRising_67
theorem dX2_readRising_68 : decode cX2_readRising 68 = .ok (.getfield 53, 3) := dc_180 (a0 := 0) (b0 := 53) aX2_readRising_68
theorem dX2_readRising_71 : decode cX2_readRising 71 = .ok (.iadd, 1) := dc_96 aX2_readRising_71
theorem dX2_readRising_72 : decode cX2_readRising 72 = .ok (.istore_n 2, 1) := dc_61 aX2_readRising_72
theorem dX2_readRising_73 : decode cX2_readRising 73 = .ok (.aload_n 0, 1) := dc_42 aX2_readRising_73
theorem dX2_readRising_74 : decode cX2_readRising 74 = .ok (.getfield 11, 3) := dc_180 (a0 := 0) (b0 := 11) aX2_readRising_74
theorem dX2_readRising_77 : decode cX2_readRising 77 = .ok (.bipush 13, 2) := dc_16 (a0 := 13) aX2_readRising_77 (by decide)
theorem dX2_readRising_79 : decode cX2_readRising 79 = .ok (.aload_n 0, 1) := dc_42 aX2_readRising_79
theorem dX2_readRising_80 : decode cX2_readRising 80 = .ok (.getfield 21, 3) := dc_180 (a0 := 0) (b0 := 21) aX2_readRising_80
theorem dX2_readRising_83 : decode cX2_readRising 83 = .ok (.imul, 1) := dc_104 aX2_readRising_83
theorem dX2_readRising_84 : decode cX2_readRising 84 = .ok (.iload_n 3, 1) := dc_29 aX2_readRising_84
theorem dX2_readRising_85 : decode cX2_readRising 85 = .ok (.iadd, 1) := dc_96 aX2_readRising_85
theorem dX2_readRising_86 : decode cX2_readRising 86 = .ok (.iconst 1, 1) := dc_4 aX2_readRising_86
theorem dX2_readRising_87 : decode cX2_readRising 87 = .ok (.iadd, 1) := dc_96 aX2_readRising_87
theorem dX2_readRising_88 : decode cX2_readRising 88 = .ok (.iload_n 2, 1) := dc_28 aX2_readRising_88
theorem dX2_readRising_89 : decode cX2_readRising 89 = .ok (.iastore, 1) := dc_79 aX2_readRising_89
theorem dX2_readRising_90 : decode cX2_readRising 90 = .ok (.iinc 3 1, 3) := dc_132 (a0 := 3) (a1 := 1) aX2_readRising_90 (by decide)
theorem dX2_readRising_93 : decode cX2_readRising 93 = .ok (.goto (-89), 3) := dc_167 (a0 := 255) (b0 := 167) aX2_readRising_93 (by decide)
theorem dX2_readRising_96 : decode cX2_readRising 96 = .ok (.iconst 1, 1) := dc_4 aX2_readRising_96
theorem dX2_readRising_97 : decode cX2_readRising 97 = .ok (.ireturn, 1) := dc_172 aX2_readRising_97
noncomputable def sX2_climbOf_52 : List Nat := 172 :: []
noncomputable def sX2_climbOf_51 : List Nat := 96 :: sX2_climbOf_52
noncomputable def sX2_climbOf_50 : List Nat := 104 :: sX2_climbOf_51
noncomputable def sX2_climbOf_49 : List Nat := 112 :: sX2_climbOf_50
noncomputable def sX2_climbOf_46 : List Nat := 17 :: 7 :: 8 :: sX2_climbOf_49
noncomputable def sX2_climbOf_45 : List Nat := 28 :: sX2_climbOf_46
noncomputable def sX2_climbOf_43 : List Nat := 21 :: 5 :: sX2_climbOf_45
noncomputable def sX2_climbOf_42 : List Nat := 104 :: sX2_climbOf_43
noncomputable def sX2_climbOf_40 : List Nat := 21 :: 4 :: sX2_climbOf_42
noncomputable def sX2_climbOf_37 : List Nat := 17 :: 7 :: 8 :: sX2_climbOf_40
noncomputable def sX2_climbOf_35 : List Nat := 54 :: 5 :: sX2_climbOf_37
noncomputable def sX2_climbOf_34 : List Nat := 100 :: sX2_climbOf_35
noncomputable def sX2_climbOf_32 : List Nat := 21 :: 4 :: sX2_climbOf_34
noncomputable def sX2_climbOf_31 : List Nat := 46 :: sX2_climbOf_32
noncomputable def sX2_climbOf_30 : List Nat := 96 :: sX2_climbOf_31
noncomputable def sX2_climbOf_29 : List Nat := 4 :: sX2_climbOf_30
noncomputable def sX2_climbOf_28 : List Nat := 96 :: sX2_climbOf_29
noncomputable def sX2_climbOf_27 : List Nat := 29 :: sX2_climbOf_28
noncomputable def sX2_climbOf_26 : List Nat := 104 :: sX2_climbOf_27
noncomputable def sX2_climbOf_25 : List Nat := 27 :: sX2_climbOf_26
noncomputable def sX2_climbOf_23 : List Nat := 16 :: 13 :: sX2_climbOf_25
noncomputable def sX2_climbOf_20 : List Nat := 180 :: 0 :: 11 :: sX2_climbOf_23
noncomputable def sX2_climbOf_19 : List Nat := 42 :: sX2_climbOf_20
noncomputable def sX2_climbOf_17 : List Nat := 54 :: 4 :: sX2_climbOf_19
noncomputable def sX2_climbOf_16 : List Nat := 46 :: sX2_climbOf_17
noncomputable def sX2_climbOf_15 : List Nat := 96 :: sX2_climbOf_16
noncomputable def sX2_climbOf_14 : List Nat := 29 :: sX2_climbOf_15
noncomputable def sX2_climbOf_13 : List Nat := 104 :: sX2_climbOf_14
noncomputable def sX2_climbOf_12 : List Nat := 27 :: sX2_climbOf_13
noncomputable def sX2_climbOf_10 : List Nat := 16 :: 13 :: sX2_climbOf_12
noncomputable def sX2_climbOf_7 : List Nat := 180 :: 0 :: 11 :: sX2_climbOf_10
noncomputable def sX2_climbOf_6 : List Nat := 42 :: sX2_climbOf_7
noncomputable def sX2_climbOf_5 : List Nat := 62 :: sX2_climbOf_6
noncomputable def sX2_climbOf_4 : List Nat := 108 :: sX2_climbOf_5
noncomputable def sX2_climbOf_1 : List Nat := 17 :: 7 :: 8 :: sX2_climbOf_4
noncomputable def sX2_climbOf_0 : List Nat := 28 :: sX2_climbOf_1
theorem aX2_climbOf_0 : dc_at cX2_climbOf 0 sX2_climbOf_0 := dc_base (by decide +kernel)
theorem aX2_climbOf_1 : dc_at cX2_climbOf 1 sX2_climbOf_1 := dc_n1 aX2_climbOf_0
theorem aX2_climbOf_4 : dc_at cX2_climbOf 4 sX2_climbOf_4 := dc_n3 aX2_climbOf_1
theorem aX2_climbOf_5 : dc_at cX2_climbOf 5 sX2_climbOf_5 := dc_n1 aX2_climbOf_4
theorem aX2_climbOf_6 : dc_at cX2_climbOf 6 sX2_climbOf_6 := dc_n1 aX2_climbOf_5
theorem aX2_climbOf_7 : dc_at cX2_climbOf 7 sX2_climbOf_7 := dc_n1 aX2_climbOf_6
theorem aX2_climbOf_10 : dc_at cX2_climbOf 10 sX2_climbOf_10 := dc_n3 aX2_climbOf_7
theorem aX2_climbOf_12 : dc_at cX2_climbOf 12 sX2_climbOf_12 := dc_n2 aX2_climbOf_10
theorem aX2_climbOf_13 : dc_at cX2_climbOf 13 sX2_climbOf_13 := dc_n1 aX2_climbOf_12
theorem aX2_climbOf_14 : dc_at cX2_climbOf 14 sX2_climbOf_14 := dc_n1 aX2_climbOf_13
theorem aX2_climbOf_15 : dc_at cX2_climbOf 15 sX2_climbOf_15 := dc_n1 aX2_climbOf_14
theorem aX2_climbOf_16 : dc_at cX2_climbOf 16 sX2_climbOf_16 := dc_n1 aX2_climbOf_15
theorem aX2_climbOf_17 : dc_at cX2_climbOf 17 sX2_climbOf_17 := dc_n1 aX2_climbOf_16
theorem aX2_climbOf_19 : dc_at cX2_climbOf 19 sX2_climbOf_19 := dc_n2 aX2_climbOf_17
theorem aX2_climbOf_20 : dc_at cX2_climbOf 20 sX2_climbOf_20 := dc_n1 aX2_climbOf_19
theorem aX2_climbOf_23 : dc_at cX2_climbOf 23 sX2_climbOf_23 := dc_n3 aX2_climbOf_20
theorem aX2_climbOf_25 : dc_at cX2_climbOf 25 sX2_climbOf_25 := dc_n2 aX2_climbOf_23
theorem aX2_climbOf_26 : dc_at cX2_climbOf 26 sX2_climbOf_26 := dc_n1 aX2_climbOf_25
theorem aX2_climbOf_27 : dc_at cX2_climbOf 27 sX2_climbOf_27 := dc_n1 aX2_climbOf_26
theorem aX2_climbOf_28 : dc_at cX2_climbOf 28 sX2_climbOf_28 := dc_n1 aX2_climbOf_27
theorem aX2_climbOf_29 : dc_at cX2_climbOf 29 sX2_climbOf_29 := dc_n1 aX2_climbOf_28
theorem aX2_climbOf_30 : dc_at cX2_climbOf 30 sX2_climbOf_30 := dc_n1 aX2_climbOf_29
theorem aX2_climbOf_31 : dc_at cX2_climbOf 31 sX2_climbOf_31 := dc_n1 aX2_climbOf_30
theorem aX2_climbOf_32 : dc_at cX2_climbOf 32 sX2_climbOf_32 := dc_n1 aX2_climbOf_31
theorem aX2_climbOf_34 : dc_at cX2_climbOf 34 sX2_climbOf_34 := dc_n2 aX2_climbOf_32
theorem aX2_climbOf_35 : dc_at cX2_climbOf 35 sX2_climbOf_35 := dc_n1 aX2_climbOf_34
theorem aX2_climbOf_37 : dc_at cX2_climbOf 37 sX2_climbOf_37 := dc_n2 aX2_climbOf_35
theorem aX2_climbOf_40 : dc_at cX2_climbOf 40 sX2_climbOf_40 := dc_n3 aX2_climbOf_37
theorem aX2_climbOf_42 : dc_at cX2_climbOf 42 sX2_climbOf_42 := dc_n2 aX2_climbOf_40
theorem aX2_climbOf_43 : dc_at cX2_climbOf 43 sX2_climbOf_43 := dc_n1 aX2_climbOf_42
theorem aX2_climbOf_45 : dc_at cX2_climbOf 45 sX2_climbOf_45 := dc_n2 aX2_climbOf_43
theorem aX2_climbOf_46 : dc_at cX2_climbOf 46 sX2_climbOf_46 := dc_n1 aX2_climbOf_45
theorem aX2_climbOf_49 : dc_at cX2_climbOf 49 sX2_climbOf_49 := dc_n3 aX2_climbOf_46
theorem aX2_climbOf_50 : dc_at cX2_climbOf 50 sX2_climbOf_50 := dc_n1 aX2_climbOf_49
theorem aX2_climbOf_51 : dc_at cX2_climbOf 51 sX2_climbOf_51 := dc_n1 aX2_climbOf_50
theorem aX2_climbOf_52 : dc_at cX2_climbOf 52 sX2_climbOf_52 := dc_n1 aX2_climbOf_51
theorem dX2_climbOf_0 : decode cX2_climbOf 0 = .ok (.iload_n 2, 1) := dc_28 aX2_climbOf_0
theorem dX2_climbOf_1 : decode cX2_climbOf 1 = .ok (.sipush 1800, 3) := dc_17 (a0 := 7) (b0 := 8) aX2_climbOf_1 (by decide)
theorem dX2_climbOf_4 : decode cX2_climbOf 4 = .ok (.idiv, 1) := dc_108 aX2_climbOf_4
theorem dX2_climbOf_5 : decode cX2_climbOf 5 = .ok (.istore_n 3, 1) := dc_62 aX2_climbOf_5
theorem dX2_climbOf_6 : decode cX2_climbOf 6 = .ok (.aload_n 0, 1) := dc_42 aX2_climbOf_6
theorem dX2_climbOf_7 : decode cX2_climbOf 7 = .ok (.getfield 11, 3) := dc_180 (a0 := 0) (b0 := 11) aX2_climbOf_7
theorem dX2_climbOf_10 : decode cX2_climbOf 10 = .ok (.bipush 13, 2) := dc_16 (a0 := 13) aX2_climbOf_10 (by decide)
theorem dX2_climbOf_12 : decode cX2_climbOf 12 = .ok (.iload_n 1, 1) := dc_27 aX2_climbOf_12
theorem dX2_climbOf_13 : decode cX2_climbOf 13 = .ok (.imul, 1) := dc_104 aX2_climbOf_13
theorem dX2_climbOf_14 : decode cX2_climbOf 14 = .ok (.iload_n 3, 1) := dc_29 aX2_climbOf_14
theorem dX2_climbOf_15 : decode cX2_climbOf 15 = .ok (.iadd, 1) := dc_96 aX2_climbOf_15
theorem dX2_climbOf_16 : decode cX2_climbOf 16 = .ok (.iaload, 1) := dc_46 aX2_climbOf_16
theorem dX2_climbOf_17 : decode cX2_climbOf 17 = .ok (.istore 4, 2) := dc_54 (a0 := 4) aX2_climbOf_17
theorem dX2_climbOf_19 : decode cX2_climbOf 19 = .ok (.aload_n 0, 1) := dc_42 aX2_climbOf_19
theorem dX2_climbOf_20 : decode cX2_climbOf 20 = .ok (.getfield 11, 3) := dc_180 (a0 := 0) (b0 := 11) aX2_climbOf_20
theorem dX2_climbOf_23 : decode cX2_climbOf 23 = .ok (.bipush 13, 2) := dc_16 (a0 := 13) aX2_climbOf_23 (by decide)
theorem dX2_climbOf_25 : decode cX2_climbOf 25 = .ok (.iload_n 1, 1) := dc_27 aX2_climbOf_25
theorem dX2_climbOf_26 : decode cX2_climbOf 26 = .ok (.imul, 1) := dc_104 aX2_climbOf_26
theorem dX2_climbOf_27 : decode cX2_climbOf 27 = .ok (.iload_n 3, 1) := dc_29 aX2_climbOf_27
theorem dX2_climbOf_28 : decode cX2_climbOf 28 = .ok (.iadd, 1) := dc_96 aX2_climbOf_28
theorem dX2_climbOf_29 : decode cX2_climbOf 29 = .ok (.iconst 1, 1) := dc_4 aX2_climbOf_29
theorem dX2_climbOf_30 : decode cX2_climbOf 30 = .ok (.iadd, 1) := dc_96 aX2_climbOf_30
theorem dX2_climbOf_31 : decode cX2_climbOf 31 = .ok (.iaload, 1) := dc_46 aX2_climbOf_31
theorem dX2_climbOf_32 : decode cX2_climbOf 32 = .ok (.iload 4, 2) := dc_21 (a0 := 4) aX2_climbOf_32
theorem dX2_climbOf_34 : decode cX2_climbOf 34 = .ok (.isub, 1) := dc_100 aX2_climbOf_34
theorem dX2_climbOf_35 : decode cX2_climbOf 35 = .ok (.istore 5, 2) := dc_54 (a0 := 5) aX2_climbOf_35
theorem dX2_climbOf_37 : decode cX2_climbOf 37 = .ok (.sipush 1800, 3) := dc_17 (a0 := 7) (b0 := 8) aX2_climbOf_37 (by decide)
theorem dX2_climbOf_40 : decode cX2_climbOf 40 = .ok (.iload 4, 2) := dc_21 (a0 := 4) aX2_climbOf_40
theorem dX2_climbOf_42 : decode cX2_climbOf 42 = .ok (.imul, 1) := dc_104 aX2_climbOf_42
theorem dX2_climbOf_43 : decode cX2_climbOf 43 = .ok (.iload 5, 2) := dc_21 (a0 := 5) aX2_climbOf_43
theorem dX2_climbOf_45 : decode cX2_climbOf 45 = .ok (.iload_n 2, 1) := dc_28 aX2_climbOf_45
theorem dX2_climbOf_46 : decode cX2_climbOf 46 = .ok (.sipush 1800, 3) := dc_17 (a0 := 7) (b0 := 8) aX2_climbOf_46 (by decide)
theorem dX2_climbOf_49 : decode cX2_climbOf 49 = .ok (.irem, 1) := dc_112 aX2_climbOf_49
theorem dX2_climbOf_50 : decode cX2_climbOf 50 = .ok (.imul, 1) := dc_104 aX2_climbOf_50
theorem dX2_climbOf_51 : decode cX2_climbOf 51 = .ok (.iadd, 1) := dc_96 aX2_climbOf_51
theorem dX2_climbOf_52 : decode cX2_climbOf 52 = .ok (.ireturn, 1) := dc_172 aX2_climbOf_52
noncomputable def sX2_placeOf_97 : List Nat := 172 :: []
noncomputable def sX2_placeOf_96 : List Nat := 96 :: sX2_placeOf_97
noncomputable def sX2_placeOf_95 : List Nat := 108 :: sX2_placeOf_96
noncomputable def sX2_placeOf_93 : List Nat := 21 :: 5 :: sX2_placeOf_95
noncomputable def sX2_placeOf_92 : List Nat := 100 :: sX2_placeOf_93
noncomputable def sX2_placeOf_91 : List Nat := 104 :: sX2_placeOf_92
noncomputable def sX2_placeOf_89 : List Nat := 21 :: 4 :: sX2_placeOf_91
noncomputable def sX2_placeOf_86 : List Nat := 17 :: 7 :: 8 :: sX2_placeOf_89
noncomputable def sX2_placeOf_85 : List Nat := 28 :: sX2_placeOf_86
noncomputable def sX2_placeOf_84 : List Nat := 104 :: sX2_placeOf_85
noncomputable def sX2_placeOf_83 : List Nat := 29 :: sX2_placeOf_84
noncomputable def sX2_placeOf_80 : List Nat := 17 :: 7 :: 8 :: sX2_placeOf_83
noncomputable def sX2_placeOf_79 : List Nat := 172 :: sX2_placeOf_80
noncomputable def sX2_placeOf_78 : List Nat := 3 :: sX2_placeOf_79
noncomputable def sX2_placeOf_75 : List Nat := 162 :: 0 :: 5 :: sX2_placeOf_78
noncomputable def sX2_placeOf_74 : List Nat := 4 :: sX2_placeOf_75
noncomputable def sX2_placeOf_72 : List Nat := 21 :: 5 :: sX2_placeOf_74
noncomputable def sX2_placeOf_70 : List Nat := 54 :: 5 :: sX2_placeOf_72
noncomputable def sX2_placeOf_69 : List Nat := 100 :: sX2_placeOf_70
noncomputable def sX2_placeOf_67 : List Nat := 21 :: 4 :: sX2_placeOf_69
noncomputable def sX2_placeOf_66 : List Nat := 46 :: sX2_placeOf_67
noncomputable def sX2_placeOf_65 : List Nat := 96 :: sX2_placeOf_66
noncomputable def sX2_placeOf_64 : List Nat := 4 :: sX2_placeOf_65
noncomputable def sX2_placeOf_63 : List Nat := 96 :: sX2_placeOf_64
noncomputable def sX2_placeOf_62 : List Nat := 29 :: sX2_placeOf_63
noncomputable def sX2_placeOf_61 : List Nat := 104 :: sX2_placeOf_62
noncomputable def sX2_placeOf_60 : List Nat := 27 :: sX2_placeOf_61
noncomputable def sX2_placeOf_58 : List Nat := 16 :: 13 :: sX2_placeOf_60
noncomputable def sX2_placeOf_55 : List Nat := 180 :: 0 :: 11 :: sX2_placeOf_58
noncomputable def sX2_placeOf_54 : List Nat := 42 :: sX2_placeOf_55
noncomputable def sX2_placeOf_52 : List Nat := 54 :: 4 :: sX2_placeOf_54
noncomputable def sX2_placeOf_51 : List Nat := 46 :: sX2_placeOf_52
noncomputable def sX2_placeOf_50 : List Nat := 96 :: sX2_placeOf_51
noncomputable def sX2_placeOf_49 : List Nat := 29 :: sX2_placeOf_50
noncomputable def sX2_placeOf_48 : List Nat := 104 :: sX2_placeOf_49
noncomputable def sX2_placeOf_47 : List Nat := 27 :: sX2_placeOf_48
noncomputable def sX2_placeOf_45 : List Nat := 16 :: 13 :: sX2_placeOf_47
noncomputable def sX2_placeOf_42 : List Nat := 180 :: 0 :: 11 :: sX2_placeOf_45
noncomputable def sX2_placeOf_41 : List Nat := 42 :: sX2_placeOf_42
noncomputable def sX2_placeOf_38 : List Nat := 167 :: 255 :: 223 :: sX2_placeOf_41
noncomputable def sX2_placeOf_35 : List Nat := 132 :: 4 :: 1 :: sX2_placeOf_38
noncomputable def sX2_placeOf_34 : List Nat := 62 :: sX2_placeOf_35
noncomputable def sX2_placeOf_32 : List Nat := 21 :: 4 :: sX2_placeOf_34
noncomputable def sX2_placeOf_29 : List Nat := 163 :: 0 :: 12 :: sX2_placeOf_32
noncomputable def sX2_placeOf_28 : List Nat := 28 :: sX2_placeOf_29
noncomputable def sX2_placeOf_27 : List Nat := 104 :: sX2_placeOf_28
noncomputable def sX2_placeOf_26 : List Nat := 46 :: sX2_placeOf_27
noncomputable def sX2_placeOf_25 : List Nat := 96 :: sX2_placeOf_26
noncomputable def sX2_placeOf_23 : List Nat := 21 :: 4 :: sX2_placeOf_25
noncomputable def sX2_placeOf_22 : List Nat := 104 :: sX2_placeOf_23
noncomputable def sX2_placeOf_21 : List Nat := 27 :: sX2_placeOf_22
noncomputable def sX2_placeOf_19 : List Nat := 16 :: 13 :: sX2_placeOf_21
noncomputable def sX2_placeOf_16 : List Nat := 180 :: 0 :: 11 :: sX2_placeOf_19
noncomputable def sX2_placeOf_15 : List Nat := 42 :: sX2_placeOf_16
noncomputable def sX2_placeOf_12 : List Nat := 17 :: 7 :: 8 :: sX2_placeOf_15
noncomputable def sX2_placeOf_9 : List Nat := 162 :: 0 :: 32 :: sX2_placeOf_12
noncomputable def sX2_placeOf_7 : List Nat := 16 :: 12 :: sX2_placeOf_9
noncomputable def sX2_placeOf_5 : List Nat := 21 :: 4 :: sX2_placeOf_7
noncomputable def sX2_placeOf_3 : List Nat := 54 :: 4 :: sX2_placeOf_5
noncomputable def sX2_placeOf_2 : List Nat := 4 :: sX2_placeOf_3
noncomputable def sX2_placeOf_1 : List Nat := 62 :: sX2_placeOf_2
noncomputable def sX2_placeOf_0 : List Nat := 3 :: sX2_placeOf_1
theorem aX2_placeOf_0 : dc_at cX2_placeOf 0 sX2_placeOf_0 := dc_base (by decide +kernel)
theorem aX2_placeOf_1 : dc_at cX2_placeOf 1 sX2_placeOf_1 := dc_n1 aX2_placeOf_0
theorem aX2_placeOf_2 : dc_at cX2_placeOf 2 sX2_placeOf_2 := dc_n1 aX2_placeOf_1
theorem aX2_placeOf_3 : dc_at cX2_placeOf 3 sX2_placeOf_3 := dc_n1 aX2_placeOf_2
theorem aX2_placeOf_5 : dc_at cX2_placeOf 5 sX2_placeOf_5 := dc_n2 aX2_placeOf_3
theorem aX2_placeOf_7 : dc_at cX2_placeOf 7 sX2_placeOf_7 := dc_n2 aX2_placeOf_5
theorem aX2_placeOf_9 : dc_at cX2_placeOf 9 sX2_placeOf_9 := dc_n2 aX2_placeOf_7
theorem aX2_placeOf_12 : dc_at cX2_placeOf 12 sX2_placeOf_12 := dc_n3 aX2_placeOf_9
theorem aX2_placeOf_15 : dc_at cX2_placeOf 15 sX2_placeOf_15 := dc_n3 aX2_placeOf_12
theorem aX2_placeOf_16 : dc_at cX2_placeOf 16 sX2_placeOf_16 := dc_n1 aX2_placeOf_15
theorem aX2_placeOf_19 : dc_at cX2_placeOf 19 sX2_placeOf_19 := dc_n3 aX2_placeOf_16
theorem aX2_placeOf_21 : dc_at cX2_placeOf 21 sX2_placeOf_21 := dc_n2 aX2_placeOf_19
theorem aX2_placeOf_22 : dc_at cX2_placeOf 22 sX2_placeOf_22 := dc_n1 aX2_placeOf_21
theorem aX2_placeOf_23 : dc_at cX2_placeOf 23 sX2_placeOf_23 := dc_n1 aX2_placeOf_22
theorem aX2_placeOf_25 : dc_at cX2_placeOf 25 sX2_placeOf_25 := dc_n2 aX2_placeOf_23
theorem aX2_placeOf_26 : dc_at cX2_placeOf 26 sX2_placeOf_26 := dc_n1 aX2_placeOf_25
theorem aX2_placeOf_27 : dc_at cX2_placeOf 27 sX2_placeOf_27 := dc_n1 aX2_placeOf_26
theorem aX2_placeOf_28 : dc_at cX2_placeOf 28 sX2_placeOf_28 := dc_n1 aX2_placeOf_27
theorem aX2_placeOf_29 : dc_at cX2_placeOf 29 sX2_placeOf_29 := dc_n1 aX2_placeOf_28
theorem aX2_placeOf_32 : dc_at cX2_placeOf 32 sX2_placeOf_32 := dc_n3 aX2_placeOf_29
theorem aX2_placeOf_34 : dc_at cX2_placeOf 34 sX2_placeOf_34 := dc_n2 aX2_placeOf_32
theorem aX2_placeOf_35 : dc_at cX2_placeOf 35 sX2_placeOf_35 := dc_n1 aX2_placeOf_34
theorem aX2_placeOf_38 : dc_at cX2_placeOf 38 sX2_placeOf_38 := dc_n3 aX2_placeOf_35
theorem aX2_placeOf_41 : dc_at cX2_placeOf 41 sX2_placeOf_41 := dc_n3 aX2_placeOf_38
theorem aX2_placeOf_42 : dc_at cX2_placeOf 42 sX2_placeOf_42 := dc_n1 aX2_placeOf_41
theorem aX2_placeOf_45 : dc_at cX2_placeOf 45 sX2_placeOf_45 := dc_n3 aX2_placeOf_42
theorem aX2_placeOf_47 : dc_at cX2_placeOf 47 sX2_placeOf_47 := dc_n2 aX2_placeOf_45
theorem aX2_placeOf_48 : dc_at cX2_placeOf 48 sX2_placeOf_48 := dc_n1 aX2_placeOf_47
theorem aX2_placeOf_49 : dc_at cX2_placeOf 49 sX2_placeOf_49 := dc_n1 aX2_placeOf_48
theorem aX2_placeOf_50 : dc_at cX2_placeOf 50 sX2_placeOf_50 := dc_n1 aX2_placeOf_49
theorem aX2_placeOf_51 : dc_at cX2_placeOf 51 sX2_placeOf_51 := dc_n1 aX2_placeOf_50
theorem aX2_placeOf_52 : dc_at cX2_placeOf 52 sX2_placeOf_52 := dc_n1 aX2_placeOf_51
theorem aX2_placeOf_54 : dc_at cX2_placeOf 54 sX2_placeOf_54 := dc_n2 aX2_placeOf_52
theorem aX2_placeOf_55 : dc_at cX2_placeOf 55 sX2_placeOf_55 := dc_n1 aX2_placeOf_54
theorem aX2_placeOf_58 : dc_at cX2_placeOf 58 sX2_placeOf_58 := dc_n3 aX2_placeOf_55
theorem aX2_placeOf_60 : dc_at cX2_placeOf 60 sX2_placeOf_60 := dc_n2 aX2_placeOf_58
theorem aX2_placeOf_61 : dc_at cX2_placeOf 61 sX2_placeOf_61 := dc_n1 aX2_placeOf_60
theorem aX2_placeOf_62 : dc_at cX2_placeOf 62 sX2_placeOf_62 := dc_n1 aX2_placeOf_61
theorem aX2_placeOf_63 : dc_at cX2_placeOf 63 sX2_placeOf_63 := dc_n1 aX2_placeOf_62
theorem aX2_placeOf_64 : dc_at cX2_placeOf 64 sX2_placeOf_64 := dc_n1 aX2_placeOf_63
theorem aX2_placeOf_65 : dc_at cX2_placeOf 65 sX2_placeOf_65 := dc_n1 aX2_placeOf_64
theorem aX2_placeOf_66 : dc_at cX2_placeOf 66 sX2_placeOf_66 := dc_n1 aX2_placeOf_65
theorem aX2_placeOf_67 : dc_at cX2_placeOf 67 sX2_placeOf_67 := dc_n1 aX2_placeOf_66
theorem aX2_placeOf_69 : dc_at cX2_placeOf 69 sX2_placeOf_69 := dc_n2 aX2_placeOf_67
theorem aX2_placeOf_70 : dc_at cX2_placeOf 70 sX2_placeOf_70 := dc_n1 aX2_placeOf_69
theorem aX2_placeOf_72 : dc_at cX2_placeOf 72 sX2_placeOf_72 := dc_n2 aX2_placeOf_70
theorem aX2_placeOf_74 : dc_at cX2_placeOf 74 sX2_placeOf_74 := dc_n2 aX2_placeOf_72
theorem aX2_placeOf_75 : dc_at cX2_placeOf 75 sX2_placeOf_75 := dc_n1 aX2_placeOf_74
theorem aX2_placeOf_78 : dc_at cX2_placeOf 78 sX2_placeOf_78 := dc_n3 aX2_placeOf_75
theorem aX2_placeOf_79 : dc_at cX2_placeOf 79 sX2_placeOf_79 := dc_n1 aX2_placeOf_78
theorem aX2_placeOf_80 : dc_at cX2_placeOf 80 sX2_placeOf_80 := dc_n1 aX2_placeOf_79
theorem aX2_placeOf_83 : dc_at cX2_placeOf 83 sX2_placeOf_83 := dc_n3 aX2_placeOf_80
theorem aX2_placeOf_84 : dc_at cX2_placeOf 84 sX2_placeOf_84 := dc_n1 aX2_placeOf_83
theorem aX2_placeOf_85 : dc_at cX2_placeOf 85 sX2_placeOf_85 := dc_n1 aX2_placeOf_84
theorem aX2_placeOf_86 : dc_at cX2_placeOf 86 sX2_placeOf_86 := dc_n1 aX2_placeOf_85
theorem aX2_placeOf_89 : dc_at cX2_placeOf 89 sX2_placeOf_89 := dc_n3 aX2_placeOf_86
theorem aX2_placeOf_91 : dc_at cX2_placeOf 91 sX2_placeOf_91 := dc_n2 aX2_placeOf_89
theorem aX2_placeOf_92 : dc_at cX2_placeOf 92 sX2_placeOf_92 := dc_n1 aX2_placeOf_91
theorem aX2_placeOf_93 : dc_at cX2_placeOf 93 sX2_placeOf_93 := dc_n1 aX2_placeOf_92
theorem aX2_placeOf_95 : dc_at cX2_placeOf 95 sX2_placeOf_95 := dc_n2 aX2_placeOf_93
theorem aX2_placeOf_96 : dc_at cX2_placeOf 96 sX2_placeOf_96 := dc_n1 aX2_placeOf_95
theorem aX2_placeOf_97 : dc_at cX2_placeOf 97 sX2_placeOf_97 := dc_n1 aX2_placeOf_96
theorem dX2_placeOf_0 : decode cX2_placeOf 0 = .ok (.iconst 0, 1) := dc_3 aX2_placeOf_0
theorem dX2_placeOf_1 : decode cX2_placeOf 1 = .ok (.istore_n 3, 1) := dc_62 aX2_placeOf_1
theorem dX2_placeOf_2 : decode cX2_placeOf 2 = .ok (.iconst 1, 1) := dc_4 aX2_placeOf_2
theorem dX2_placeOf_3 : decode cX2_placeOf 3 = .ok (.istore 4, 2) := dc_54 (a0 := 4) aX2_placeOf_3
theorem dX2_placeOf_5 : decode cX2_placeOf 5 = .ok (.iload 4, 2) := dc_21 (a0 := 4) aX2_placeOf_5
theorem dX2_placeOf_7 : decode cX2_placeOf 7 = .ok (.bipush 12, 2) := dc_16 (a0 := 12) aX2_placeOf_7 (by decide)
theorem dX2_placeOf_9 : decode cX2_placeOf 9 = .ok (.if_icmp .ge 32, 3) := dc_162 (a0 := 0) (b0 := 32) aX2_placeOf_9 (by decide)
theorem dX2_placeOf_12 : decode cX2_placeOf 12 = .ok (.sipush 1800, 3) := dc_17 (a0 := 7) (b0 := 8) aX2_placeOf_12 (by decide)
theorem dX2_placeOf_15 : decode cX2_placeOf 15 = .ok (.aload_n 0, 1) := dc_42 aX2_placeOf_15
theorem dX2_placeOf_16 : decode cX2_placeOf 16 = .ok (.getfield 11, 3) := dc_180 (a0 := 0) (b0 := 11) aX2_placeOf_16
theorem dX2_placeOf_19 : decode cX2_placeOf 19 = .ok (.bipush 13, 2) := dc_16 (a0 := 13) aX2_placeOf_19 (by decide)
theorem dX2_placeOf_21 : decode cX2_placeOf 21 = .ok (.iload_n 1, 1) := dc_27 aX2_placeOf_21
theorem dX2_placeOf_22 : decode cX2_placeOf 22 = .ok (.imul, 1) := dc_104 aX2_placeOf_22
theorem dX2_placeOf_23 : decode cX2_placeOf 23 = .ok (.iload 4, 2) := dc_21 (a0 := 4) aX2_placeOf_23
theorem dX2_placeOf_25 : decode cX2_placeOf 25 = .ok (.iadd, 1) := dc_96 aX2_placeOf_25
theorem dX2_placeOf_26 : decode cX2_placeOf 26 = .ok (.iaload, 1) := dc_46 aX2_placeOf_26
theorem dX2_placeOf_27 : decode cX2_placeOf 27 = .ok (.imul, 1) := dc_104 aX2_placeOf_27
theorem dX2_placeOf_28 : decode cX2_placeOf 28 = .ok (.iload_n 2, 1) := dc_28 aX2_placeOf_28
theorem dX2_placeOf_29 : decode cX2_placeOf 29 = .ok (.if_icmp .gt 12, 3) := dc_163 (a0 := 0) (b0 := 12) aX2_placeOf_29 (by decide)
theorem dX2_placeOf_32 : decode cX2_placeOf 32 = .ok (.iload 4, 2) := dc_21 (a0 := 4) aX2_placeOf_32
theorem dX2_placeOf_34 : decode cX2_placeOf 34 = .ok (.istore_n 3, 1) := dc_62 aX2_placeOf_34
theorem dX2_placeOf_35 : decode cX2_placeOf 35 = .ok (.iinc 4 1, 3) := dc_132 (a0 := 4) (a1 := 1) aX2_placeOf_35 (by decide)
theorem dX2_placeOf_38 : decode cX2_placeOf 38 = .ok (.goto (-33), 3) := dc_167 (a0 := 255) (b0 := 223) aX2_placeOf_38 (by decide)
theorem dX2_placeOf_41 : decode cX2_placeOf 41 = .ok (.aload_n 0, 1) := dc_42 aX2_placeOf_41
theorem dX2_placeOf_42 : decode cX2_placeOf 42 = .ok (.getfield 11, 3) := dc_180 (a0 := 0) (b0 := 11) aX2_placeOf_42
theorem dX2_placeOf_45 : decode cX2_placeOf 45 = .ok (.bipush 13, 2) := dc_16 (a0 := 13) aX2_placeOf_45 (by decide)
theorem dX2_placeOf_47 : decode cX2_placeOf 47 = .ok (.iload_n 1, 1) := dc_27 aX2_placeOf_47
theorem dX2_placeOf_48 : decode cX2_placeOf 48 = .ok (.imul, 1) := dc_104 aX2_placeOf_48
theorem dX2_placeOf_49 : decode cX2_placeOf 49 = .ok (.iload_n 3, 1) := dc_29 aX2_placeOf_49
theorem dX2_placeOf_50 : decode cX2_placeOf 50 = .ok (.iadd, 1) := dc_96 aX2_placeOf_50
theorem dX2_placeOf_51 : decode cX2_placeOf 51 = .ok (.iaload, 1) := dc_46 aX2_placeOf_51
theorem dX2_placeOf_52 : decode cX2_placeOf 52 = .ok (.istore 4, 2) := dc_54 (a0 := 4) aX2_placeOf_52
theorem dX2_placeOf_54 : decode cX2_placeOf 54 = .ok (.aload_n 0, 1) := dc_42 aX2_placeOf_54
theorem dX2_placeOf_55 : decode cX2_placeOf 55 = .ok (.getfield 11, 3) := dc_180 (a0 := 0) (b0 := 11) aX2_placeOf_55
theorem dX2_placeOf_58 : decode cX2_placeOf 58 = .ok (.bipush 13, 2) := dc_16 (a0 := 13) aX2_placeOf_58 (by decide)
theorem dX2_placeOf_60 : decode cX2_placeOf 60 = .ok (.iload_n 1, 1) := dc_27 aX2_placeOf_60
theorem dX2_placeOf_61 : decode cX2_placeOf 61 = .ok (.imul, 1) := dc_104 aX2_placeOf_61
theorem dX2_placeOf_62 : decode cX2_placeOf 62 = .ok (.iload_n 3, 1) := dc_29 aX2_placeOf_62
theorem dX2_placeOf_63 : decode cX2_placeOf 63 = .ok (.iadd, 1) := dc_96 aX2_placeOf_63
theorem dX2_placeOf_64 : decode cX2_placeOf 64 = .ok (.iconst 1, 1) := dc_4 aX2_placeOf_64
theorem dX2_placeOf_65 : decode cX2_placeOf 65 = .ok (.iadd, 1) := dc_96 aX2_placeOf_65
theorem dX2_placeOf_66 : decode cX2_placeOf 66 = .ok (.iaload, 1) := dc_46 aX2_placeOf_66
theorem dX2_placeOf_67 : decode cX2_placeOf 67 = .ok (.iload 4, 2) := dc_21 (a0 := 4) aX2_placeOf_67
theorem dX2_placeOf_69 : decode cX2_placeOf 69 = .ok (.isub, 1) := dc_100 aX2_placeOf_69
theorem dX2_placeOf_70 : decode cX2_placeOf 70 = .ok (.istore 5, 2) := dc_54 (a0 := 5) aX2_placeOf_70
theorem dX2_placeOf_72 : decode cX2_placeOf 72 = .ok (.iload 5, 2) := dc_21 (a0 := 5) aX2_placeOf_72
theorem dX2_placeOf_74 : decode cX2_placeOf 74 = .ok (.iconst 1, 1) := dc_4 aX2_placeOf_74
theorem dX2_placeOf_75 : decode cX2_placeOf 75 = .ok (.if_icmp .ge 5, 3) := dc_162 (a0 := 0) (b0 := 5) aX2_placeOf_75 (by decide)
theorem dX2_placeOf_78 : decode cX2_placeOf 78 = .ok (.iconst 0, 1) := dc_3 aX2_placeOf_78
theorem dX2_placeOf_79 : decode cX2_placeOf 79 = .ok (.ireturn, 1) := dc_172 aX2_placeOf_79
theorem dX2_placeOf_80 : decode cX2_placeOf 80 = .ok (.sipush 1800, 3) := dc_17 (a0 := 7) (b0 := 8) aX2_placeOf_80 (by decide)
theorem dX2_placeOf_83 : decode cX2_placeOf 83 = .ok (.iload_n 3, 1) := dc_29 aX2_placeOf_83
theorem dX2_placeOf_84 : decode cX2_placeOf 84 = .ok (.imul, 1) := dc_104 aX2_placeOf_84
theorem dX2_placeOf_85 : decode cX2_placeOf 85 = .ok (.iload_n 2, 1) := dc_28 aX2_placeOf_85
theorem dX2_placeOf_86 : decode cX2_placeOf 86 = .ok (.sipush 1800, 3) := dc_17 (a0 := 7) (b0 := 8) aX2_placeOf_86 (by decide)
theorem dX2_placeOf_89 : decode cX2_placeOf 89 = .ok (.iload 4, 2) := dc_21 (a0 := 4) aX2_placeOf_89
theorem dX2_placeOf_91 : decode cX2_placeOf 91 = .ok (.imul, 1) := dc_104 aX2_placeOf_91
theorem dX2_placeOf_92 : decode cX2_placeOf 92 = .ok (.isub, 1) := dc_100 aX2_placeOf_92
theorem dX2_placeOf_93 : decode cX2_placeOf 93 = .ok (.iload 5, 2) := dc_21 (a0 := 5) aX2_placeOf_93
theorem dX2_placeOf_95 : decode cX2_placeOf 95 = .ok (.idiv, 1) := dc_108 aX2_placeOf_95
theorem dX2_placeOf_96 : decode cX2_placeOf 96 = .ok (.iadd, 1) := dc_96 aX2_placeOf_96
theorem dX2_placeOf_97 : decode cX2_placeOf 97 = .ok (.ireturn, 1) := dc_172 aX2_placeOf_97
set_option maxRecDepth 20000 in
theorem ggX2_risingAt_X2_climbOf : GoodIn wsX2_risingAt wsX2_climbOf := goodIn_k _ [[6, 0, 4, 0]] (by rfl) (by decide +kernel)
set_option maxRecDepth 20000 in
theorem gX2_risingAt_X2_climbOf : GoodIn wsX2_risingAt (wsV RX2 56 RX2 yX2_climbOf wsX2_climbOf) := goodIn_app (goodIn_of _ (by decide +kernel)) ggX2_risingAt_X2_climbOf
set_option maxRecDepth 20000 in
theorem ggX2_risingAt_X2_placeOf : GoodIn wsX2_risingAt wsX2_placeOf := goodIn_k _ [[11], [7, 4, 0]] (by rfl) (by decide +kernel)
set_option maxRecDepth 20000 in
theorem gX2_risingAt_X2_placeOf : GoodIn wsX2_risingAt (wsV RX2 60 RX2 yX2_placeOf wsX2_placeOf) := goodIn_app (goodIn_of _ (by decide +kernel)) ggX2_risingAt_X2_placeOf
noncomputable def sX2_risingAt_20 : List Nat := 172 :: []
noncomputable def sX2_risingAt_17 : List Nat := 182 :: 0 :: 60 :: sX2_risingAt_20
noncomputable def sX2_risingAt_16 : List Nat := 112 :: sX2_risingAt_17
noncomputable def sX2_risingAt_14 : List Nat := 18 :: 59 :: sX2_risingAt_16
noncomputable def sX2_risingAt_13 : List Nat := 96 :: sX2_risingAt_14
noncomputable def sX2_risingAt_12 : List Nat := 104 :: sX2_risingAt_13
noncomputable def sX2_risingAt_11 : List Nat := 29 :: sX2_risingAt_12
noncomputable def sX2_risingAt_8 : List Nat := 17 :: 70 :: 80 :: sX2_risingAt_11
noncomputable def sX2_risingAt_5 : List Nat := 182 :: 0 :: 56 :: sX2_risingAt_8
noncomputable def sX2_risingAt_4 : List Nat := 28 :: sX2_risingAt_5
noncomputable def sX2_risingAt_3 : List Nat := 27 :: sX2_risingAt_4
noncomputable def sX2_risingAt_2 : List Nat := 42 :: sX2_risingAt_3
noncomputable def sX2_risingAt_1 : List Nat := 27 :: sX2_risingAt_2
noncomputable def sX2_risingAt_0 : List Nat := 42 :: sX2_risingAt_1
theorem aX2_risingAt_0 : dc_at cX2_risingAt 0 sX2_risingAt_0 := dc_base (by decide +kernel)
theorem aX2_risingAt_1 : dc_at cX2_risingAt 1 sX2_risingAt_1 := dc_n1 aX2_risingAt_0
theorem aX2_risingAt_2 : dc_at cX2_risingAt 2 sX2_risingAt_2 := dc_n1 aX2_risingAt_1
theorem aX2_risingAt_3 : dc_at cX2_risingAt 3 sX2_risingAt_3 := dc_n1 aX2_risingAt_2
theorem aX2_risingAt_4 : dc_at cX2_risingAt 4 sX2_risingAt_4 := dc_n1 aX2_risingAt_3
theorem aX2_risingAt_5 : dc_at cX2_risingAt 5 sX2_risingAt_5 := dc_n1 aX2_risingAt_4
theorem aX2_risingAt_8 : dc_at cX2_risingAt 8 sX2_risingAt_8 := dc_n3 aX2_risingAt_5
theorem aX2_risingAt_11 : dc_at cX2_risingAt 11 sX2_risingAt_11 := dc_n3 aX2_risingAt_8
theorem aX2_risingAt_12 : dc_at cX2_risingAt 12 sX2_risingAt_12 := dc_n1 aX2_risingAt_11
theorem aX2_risingAt_13 : dc_at cX2_risingAt 13 sX2_risingAt_13 := dc_n1 aX2_risingAt_12
theorem aX2_risingAt_14 : dc_at cX2_risingAt 14 sX2_risingAt_14 := dc_n1 aX2_risingAt_13
theorem aX2_risingAt_16 : dc_at cX2_risingAt 16 sX2_risingAt_16 := dc_n2 aX2_risingAt_14
theorem aX2_risingAt_17 : dc_at cX2_risingAt 17 sX2_risingAt_17 := dc_n1 aX2_risingAt_16
theorem aX2_risingAt_20 : dc_at cX2_risingAt 20 sX2_risingAt_20 := dc_n3 aX2_risingAt_17
theorem dX2_risingAt_0 : decode cX2_risingAt 0 = .ok (.aload_n 0, 1) := dc_42 aX2_risingAt_0
theorem dX2_risingAt_1 : decode cX2_risingAt 1 = .ok (.iload_n 1, 1) := dc_27 aX2_risingAt_1
theorem dX2_risingAt_2 : decode cX2_risingAt 2 = .ok (.aload_n 0, 1) := dc_42 aX2_risingAt_2
theorem dX2_risingAt_3 : decode cX2_risingAt 3 = .ok (.iload_n 1, 1) := dc_27 aX2_risingAt_3
theorem dX2_risingAt_4 : decode cX2_risingAt 4 = .ok (.iload_n 2, 1) := dc_28 aX2_risingAt_4
theorem dX2_risingAt_5 : decode cX2_risingAt 5 = .ok (.invokevirtual 56, 3) := dc_182 (a0 := 0) (b0 := 56) aX2_risingAt_5
theorem dX2_risingAt_8 : decode cX2_risingAt 8 = .ok (.sipush 18000, 3) := dc_17 (a0 := 70) (b0 := 80) aX2_risingAt_8 (by decide)
theorem dX2_risingAt_11 : decode cX2_risingAt 11 = .ok (.iload_n 3, 1) := dc_29 aX2_risingAt_11
theorem dX2_risingAt_12 : decode cX2_risingAt 12 = .ok (.imul, 1) := dc_104 aX2_risingAt_12
theorem dX2_risingAt_13 : decode cX2_risingAt 13 = .ok (.iadd, 1) := dc_96 aX2_risingAt_13
theorem dX2_risingAt_14 : decode cX2_risingAt 14 = .ok (.ldc 59, 2) := dc_18 (a0 := 59) aX2_risingAt_14
theorem dX2_risingAt_16 : decode cX2_risingAt 16 = .ok (.irem, 1) := dc_112 aX2_risingAt_16
theorem dX2_risingAt_17 : decode cX2_risingAt 17 = .ok (.invokevirtual 60, 3) := dc_182 (a0 := 0) (b0 := 60) aX2_risingAt_17
theorem dX2_risingAt_20 : decode cX2_risingAt 20 = .ok (.ireturn, 1) := dc_172 aX2_risingAt_20
set_option maxRecDepth 20000 in
theorem ggX2_middleOf_X2_climbOf : GoodIn wsX2_middleOf wsX2_climbOf := goodIn_k _ [[7, 0, 8, 0]] (by rfl) (by decide +kernel)
set_option maxRecDepth 20000 in
theorem gX2_middleOf_X2_climbOf : GoodIn wsX2_middleOf (wsV RX2 56 RX2 yX2_climbOf wsX2_climbOf) := goodIn_app (goodIn_of _ (by decide +kernel)) ggX2_middleOf_X2_climbOf
set_option maxRecDepth 20000 in
theorem ggX2_middleOf_J9_floorMod_7cf53 : GoodIn wsX2_middleOf wsJ9_floorMod_7cf53 := goodIn_k _ [[12]] (by rfl) (by decide +kernel)
set_option maxRecDepth 20000 in
theorem gX2_middleOf_J9_floorMod_7cf53 : GoodIn wsX2_middleOf (va_wsS RX2 64 yJ9_floorMod_7cf53 wsJ9_floorMod_7cf53) := goodIn_app (goodIn_of _ (by decide +kernel)) ggX2_middleOf_J9_floorMod_7cf53
set_option maxRecDepth 20000 in
theorem ggX2_middleOf_X2_placeOf : GoodIn wsX2_middleOf wsX2_placeOf := goodIn_k _ [[16], [8, 8, 0]] (by rfl) (by decide +kernel)
set_option maxRecDepth 20000 in
theorem gX2_middleOf_X2_placeOf : GoodIn wsX2_middleOf (wsV RX2 60 RX2 yX2_placeOf wsX2_placeOf) := goodIn_app (goodIn_of _ (by decide +kernel)) ggX2_middleOf_X2_placeOf
noncomputable def sX2_middleOf_19 : List Nat := 172 :: []
noncomputable def sX2_middleOf_16 : List Nat := 182 :: 0 :: 60 :: sX2_middleOf_19
noncomputable def sX2_middleOf_13 : List Nat := 184 :: 0 :: 64 :: sX2_middleOf_16
noncomputable def sX2_middleOf_11 : List Nat := 18 :: 59 :: sX2_middleOf_13
noncomputable def sX2_middleOf_10 : List Nat := 100 :: sX2_middleOf_11
noncomputable def sX2_middleOf_8 : List Nat := 18 :: 63 :: sX2_middleOf_10
noncomputable def sX2_middleOf_5 : List Nat := 182 :: 0 :: 56 :: sX2_middleOf_8
noncomputable def sX2_middleOf_4 : List Nat := 28 :: sX2_middleOf_5
noncomputable def sX2_middleOf_3 : List Nat := 27 :: sX2_middleOf_4
noncomputable def sX2_middleOf_2 : List Nat := 42 :: sX2_middleOf_3
noncomputable def sX2_middleOf_1 : List Nat := 3 :: sX2_middleOf_2
noncomputable def sX2_middleOf_0 : List Nat := 42 :: sX2_middleOf_1
theorem aX2_middleOf_0 : dc_at cX2_middleOf 0 sX2_middleOf_0 := dc_base (by decide +kernel)
theorem aX2_middleOf_1 : dc_at cX2_middleOf 1 sX2_middleOf_1 := dc_n1 aX2_middleOf_0
theorem aX2_middleOf_2 : dc_at cX2_middleOf 2 sX2_middleOf_2 := dc_n1 aX2_middleOf_1
theorem aX2_middleOf_3 : dc_at cX2_middleOf 3 sX2_middleOf_3 := dc_n1 aX2_middleOf_2
theorem aX2_middleOf_4 : dc_at cX2_middleOf 4 sX2_middleOf_4 := dc_n1 aX2_middleOf_3
theorem aX2_middleOf_5 : dc_at cX2_middleOf 5 sX2_middleOf_5 := dc_n1 aX2_middleOf_4
theorem aX2_middleOf_8 : dc_at cX2_middleOf 8 sX2_middleOf_8 := dc_n3 aX2_middleOf_5
theorem aX2_middleOf_10 : dc_at cX2_middleOf 10 sX2_middleOf_10 := dc_n2 aX2_middleOf_8
theorem aX2_middleOf_11 : dc_at cX2_middleOf 11 sX2_middleOf_11 := dc_n1 aX2_middleOf_10
theorem aX2_middleOf_13 : dc_at cX2_middleOf 13 sX2_middleOf_13 := dc_n2 aX2_middleOf_11
theorem aX2_middleOf_16 : dc_at cX2_middleOf 16 sX2_middleOf_16 := dc_n3 aX2_middleOf_13
theorem aX2_middleOf_19 : dc_at cX2_middleOf 19 sX2_middleOf_19 := dc_n3 aX2_middleOf_16
theorem dX2_middleOf_0 : decode cX2_middleOf 0 = .ok (.aload_n 0, 1) := dc_42 aX2_middleOf_0
theorem dX2_middleOf_1 : decode cX2_middleOf 1 = .ok (.iconst 0, 1) := dc_3 aX2_middleOf_1
theorem dX2_middleOf_2 : decode cX2_middleOf 2 = .ok (.aload_n 0, 1) := dc_42 aX2_middleOf_2
theorem dX2_middleOf_3 : decode cX2_middleOf 3 = .ok (.iload_n 1, 1) := dc_27 aX2_middleOf_3
theorem dX2_middleOf_4 : decode cX2_middleOf 4 = .ok (.iload_n 2, 1) := dc_28 aX2_middleOf_4
theorem dX2_middleOf_5 : decode cX2_middleOf 5 = .ok (.invokevirtual 56, 3) := dc_182 (a0 := 0) (b0 := 56) aX2_middleOf_5
theorem dX2_middleOf_8 : decode cX2_middleOf 8 = .ok (.ldc 63, 2) := dc_18 (a0 := 63) aX2_middleOf_8
theorem dX2_middleOf_10 : decode cX2_middleOf 10 = .ok (.isub, 1) := dc_100 aX2_middleOf_10
theorem dX2_middleOf_11 : decode cX2_middleOf 11 = .ok (.ldc 59, 2) := dc_18 (a0 := 59) aX2_middleOf_11
theorem dX2_middleOf_13 : decode cX2_middleOf 13 = .ok (.invokestatic 64, 3) := dc_184 (a0 := 0) (b0 := 64) aX2_middleOf_13
theorem dX2_middleOf_16 : decode cX2_middleOf 16 = .ok (.invokevirtual 60, 3) := dc_182 (a0 := 0) (b0 := 60) aX2_middleOf_16
theorem dX2_middleOf_19 : decode cX2_middleOf 19 = .ok (.ireturn, 1) := dc_172 aX2_middleOf_19
set_option maxRecDepth 20000 in
theorem ggX2_isHour_X2_risingAt : GoodIn wsX2_isHour wsX2_risingAt := goodIn_k _ [[5, 0, 0, 0, 0], [4, 5, 0, 0, 0, 0, 0, 0, 0]] (by rfl) (by decide +kernel)
set_option maxRecDepth 20000 in
theorem gX2_isHour_X2_risingAt : GoodIn wsX2_isHour (wsV RX2 67 RX2 yX2_risingAt wsX2_risingAt) := goodIn_app (goodIn_of _ (by decide +kernel)) ggX2_isHour_X2_risingAt
noncomputable def sX2_isHour_23 : List Nat := 172 :: []
noncomputable def sX2_isHour_22 : List Nat := 3 :: sX2_isHour_23
noncomputable def sX2_isHour_19 : List Nat := 167 :: 0 :: 4 :: sX2_isHour_22
noncomputable def sX2_isHour_18 : List Nat := 4 :: sX2_isHour_19
noncomputable def sX2_isHour_15 : List Nat := 160 :: 0 :: 7 :: sX2_isHour_18
noncomputable def sX2_isHour_13 : List Nat := 21 :: 4 :: sX2_isHour_15
noncomputable def sX2_isHour_12 : List Nat := 108 :: sX2_isHour_13
noncomputable def sX2_isHour_10 : List Nat := 16 :: 60 :: sX2_isHour_12
noncomputable def sX2_isHour_7 : List Nat := 182 :: 0 :: 67 :: sX2_isHour_10
noncomputable def sX2_isHour_6 : List Nat := 28 :: sX2_isHour_7
noncomputable def sX2_isHour_5 : List Nat := 104 :: sX2_isHour_6
noncomputable def sX2_isHour_4 : List Nat := 29 :: sX2_isHour_5
noncomputable def sX2_isHour_2 : List Nat := 16 :: 60 :: sX2_isHour_4
noncomputable def sX2_isHour_1 : List Nat := 27 :: sX2_isHour_2
noncomputable def sX2_isHour_0 : List Nat := 42 :: sX2_isHour_1
theorem aX2_isHour_0 : dc_at cX2_isHour 0 sX2_isHour_0 := dc_base (by decide +kernel)
theorem aX2_isHour_1 : dc_at cX2_isHour 1 sX2_isHour_1 := dc_n1 aX2_isHour_0
theorem aX2_isHour_2 : dc_at cX2_isHour 2 sX2_isHour_2 := dc_n1 aX2_isHour_1
theorem aX2_isHour_4 : dc_at cX2_isHour 4 sX2_isHour_4 := dc_n2 aX2_isHour_2
theorem aX2_isHour_5 : dc_at cX2_isHour 5 sX2_isHour_5 := dc_n1 aX2_isHour_4
theorem aX2_isHour_6 : dc_at cX2_isHour 6 sX2_isHour_6 := dc_n1 aX2_isHour_5
theorem aX2_isHour_7 : dc_at cX2_isHour 7 sX2_isHour_7 := dc_n1 aX2_isHour_6
theorem aX2_isHour_10 : dc_at cX2_isHour 10 sX2_isHour_10 := dc_n3 aX2_isHour_7
theorem aX2_isHour_12 : dc_at cX2_isHour 12 sX2_isHour_12 := dc_n2 aX2_isHour_10
theorem aX2_isHour_13 : dc_at cX2_isHour 13 sX2_isHour_13 := dc_n1 aX2_isHour_12
theorem aX2_isHour_15 : dc_at cX2_isHour 15 sX2_isHour_15 := dc_n2 aX2_isHour_13
theorem aX2_isHour_18 : dc_at cX2_isHour 18 sX2_isHour_18 := dc_n3 aX2_isHour_15
theorem aX2_isHour_19 : dc_at cX2_isHour 19 sX2_isHour_19 := dc_n1 aX2_isHour_18
theorem aX2_isHour_22 : dc_at cX2_isHour 22 sX2_isHour_22 := dc_n3 aX2_isHour_19
theorem aX2_isHour_23 : dc_at cX2_isHour 23 sX2_isHour_23 := dc_n1 aX2_isHour_22
theorem dX2_isHour_0 : decode cX2_isHour 0 = .ok (.aload_n 0, 1) := dc_42 aX2_isHour_0
theorem dX2_isHour_1 : decode cX2_isHour 1 = .ok (.iload_n 1, 1) := dc_27 aX2_isHour_1
theorem dX2_isHour_2 : decode cX2_isHour 2 = .ok (.bipush 60, 2) := dc_16 (a0 := 60) aX2_isHour_2 (by decide)
theorem dX2_isHour_4 : decode cX2_isHour 4 = .ok (.iload_n 3, 1) := dc_29 aX2_isHour_4
theorem dX2_isHour_5 : decode cX2_isHour 5 = .ok (.imul, 1) := dc_104 aX2_isHour_5
theorem dX2_isHour_6 : decode cX2_isHour 6 = .ok (.iload_n 2, 1) := dc_28 aX2_isHour_6
theorem dX2_isHour_7 : decode cX2_isHour 7 = .ok (.invokevirtual 67, 3) := dc_182 (a0 := 0) (b0 := 67) aX2_isHour_7
theorem dX2_isHour_10 : decode cX2_isHour 10 = .ok (.bipush 60, 2) := dc_16 (a0 := 60) aX2_isHour_10 (by decide)
theorem dX2_isHour_12 : decode cX2_isHour 12 = .ok (.idiv, 1) := dc_108 aX2_isHour_12
theorem dX2_isHour_13 : decode cX2_isHour 13 = .ok (.iload 4, 2) := dc_21 (a0 := 4) aX2_isHour_13
theorem dX2_isHour_15 : decode cX2_isHour 15 = .ok (.if_icmp .ne 7, 3) := dc_160 (a0 := 0) (b0 := 7) aX2_isHour_15 (by decide)
theorem dX2_isHour_18 : decode cX2_isHour 18 = .ok (.iconst 1, 1) := dc_4 aX2_isHour_18
theorem dX2_isHour_19 : decode cX2_isHour 19 = .ok (.goto 4, 3) := dc_167 (a0 := 0) (b0 := 4) aX2_isHour_19 (by decide)
theorem dX2_isHour_22 : decode cX2_isHour 22 = .ok (.iconst 0, 1) := dc_3 aX2_isHour_22
theorem dX2_isHour_23 : decode cX2_isHour 23 = .ok (.ireturn, 1) := dc_172 aX2_isHour_23
set_option maxRecDepth 20000 in
theorem ggX2_hasHour_X2_isHour : GoodIn wsX2_hasHour wsX2_isHour := goodIn_k _ [[5, 0, 0, 0], [4, 4, 0, 0, 0, 0, 0, 0, 0, 0, 0, 0, 0, 0]] (by rfl) (by decide +kernel)
set_option maxRecDepth 20000 in
theorem gX2_hasHour_X2_isHour : GoodIn wsX2_hasHour (wsV RX2 71 RX2 yX2_isHour wsX2_isHour) := goodIn_app (goodIn_of _ (by decide +kernel)) ggX2_hasHour_X2_isHour
noncomputable def sX2_hasHour_32 : List Nat := 172 :: []
noncomputable def sX2_hasHour_31 : List Nat := 3 :: sX2_hasHour_32
noncomputable def sX2_hasHour_28 : List Nat := 167 :: 255 :: 231 :: sX2_hasHour_31
noncomputable def sX2_hasHour_25 : List Nat := 132 :: 4 :: 1 :: sX2_hasHour_28
noncomputable def sX2_hasHour_24 : List Nat := 172 :: sX2_hasHour_25
noncomputable def sX2_hasHour_23 : List Nat := 4 :: sX2_hasHour_24
noncomputable def sX2_hasHour_20 : List Nat := 153 :: 0 :: 5 :: sX2_hasHour_23
noncomputable def sX2_hasHour_17 : List Nat := 182 :: 0 :: 71 :: sX2_hasHour_20
noncomputable def sX2_hasHour_16 : List Nat := 29 :: sX2_hasHour_17
noncomputable def sX2_hasHour_15 : List Nat := 28 :: sX2_hasHour_16
noncomputable def sX2_hasHour_13 : List Nat := 21 :: 4 :: sX2_hasHour_15
noncomputable def sX2_hasHour_12 : List Nat := 27 :: sX2_hasHour_13
noncomputable def sX2_hasHour_11 : List Nat := 42 :: sX2_hasHour_12
noncomputable def sX2_hasHour_8 : List Nat := 162 :: 0 :: 23 :: sX2_hasHour_11
noncomputable def sX2_hasHour_5 : List Nat := 17 :: 1 :: 104 :: sX2_hasHour_8
noncomputable def sX2_hasHour_3 : List Nat := 21 :: 4 :: sX2_hasHour_5
noncomputable def sX2_hasHour_1 : List Nat := 54 :: 4 :: sX2_hasHour_3
noncomputable def sX2_hasHour_0 : List Nat := 3 :: sX2_hasHour_1
theorem aX2_hasHour_0 : dc_at cX2_hasHour 0 sX2_hasHour_0 := dc_base (by decide +kernel)
theorem aX2_hasHour_1 : dc_at cX2_hasHour 1 sX2_hasHour_1 := dc_n1 aX2_hasHour_0
theorem aX2_hasHour_3 : dc_at cX2_hasHour 3 sX2_hasHour_3 := dc_n2 aX2_hasHour_1
theorem aX2_hasHour_5 : dc_at cX2_hasHour 5 sX2_hasHour_5 := dc_n2 aX2_hasHour_3
theorem aX2_hasHour_8 : dc_at cX2_hasHour 8 sX2_hasHour_8 := dc_n3 aX2_hasHour_5
theorem aX2_hasHour_11 : dc_at cX2_hasHour 11 sX2_hasHour_11 := dc_n3 aX2_hasHour_8
theorem aX2_hasHour_12 : dc_at cX2_hasHour 12 sX2_hasHour_12 := dc_n1 aX2_hasHour_11
theorem aX2_hasHour_13 : dc_at cX2_hasHour 13 sX2_hasHour_13 := dc_n1 aX2_hasHour_12
theorem aX2_hasHour_15 : dc_at cX2_hasHour 15 sX2_hasHour_15 := dc_n2 aX2_hasHour_13
theorem aX2_hasHour_16 : dc_at cX2_hasHour 16 sX2_hasHour_16 := dc_n1 aX2_hasHour_15
theorem aX2_hasHour_17 : dc_at cX2_hasHour 17 sX2_hasHour_17 := dc_n1 aX2_hasHour_16
theorem aX2_hasHour_20 : dc_at cX2_hasHour 20 sX2_hasHour_20 := dc_n3 aX2_hasHour_17
theorem aX2_hasHour_23 : dc_at cX2_hasHour 23 sX2_hasHour_23 := dc_n3 aX2_hasHour_20
theorem aX2_hasHour_24 : dc_at cX2_hasHour 24 sX2_hasHour_24 := dc_n1 aX2_hasHour_23
theorem aX2_hasHour_25 : dc_at cX2_hasHour 25 sX2_hasHour_25 := dc_n1 aX2_hasHour_24
theorem aX2_hasHour_28 : dc_at cX2_hasHour 28 sX2_hasHour_28 := dc_n3 aX2_hasHour_25
theorem aX2_hasHour_31 : dc_at cX2_hasHour 31 sX2_hasHour_31 := dc_n3 aX2_hasHour_28
theorem aX2_hasHour_32 : dc_at cX2_hasHour 32 sX2_hasHour_32 := dc_n1 aX2_hasHour_31
theorem dX2_hasHour_0 : decode cX2_hasHour 0 = .ok (.iconst 0, 1) := dc_3 aX2_hasHour_0
theorem dX2_hasHour_1 : decode cX2_hasHour 1 = .ok (.istore 4, 2) := dc_54 (a0 := 4) aX2_hasHour_1
theorem dX2_hasHour_3 : decode cX2_hasHour 3 = .ok (.iload 4, 2) := dc_21 (a0 := 4) aX2_hasHour_3
theorem dX2_hasHour_5 : decode cX2_hasHour 5 = .ok (.sipush 360, 3) := dc_17 (a0 := 1) (b0 := 104) aX2_hasHour_5 (by decide)
theorem dX2_hasHour_8 : decode cX2_hasHour 8 = .ok (.if_icmp .ge 23, 3) := dc_162 (a0 := 0) (b0 := 23) aX2_hasHour_8 (by decide)
theorem dX2_hasHour_11 : decode cX2_hasHour 11 = .ok (.aload_n 0, 1) := dc_42 aX2_hasHour_11
theorem dX2_hasHour_12 : decode cX2_hasHour 12 = .ok (.iload_n 1, 1) := dc_27 aX2_hasHour_12
theorem dX2_hasHour_13 : decode cX2_hasHour 13 = .ok (.iload 4, 2) := dc_21 (a0 := 4) aX2_hasHour_13
theorem dX2_hasHour_15 : decode cX2_hasHour 15 = .ok (.iload_n 2, 1) := dc_28 aX2_hasHour_15
theorem dX2_hasHour_16 : decode cX2_hasHour 16 = .ok (.iload_n 3, 1) := dc_29 aX2_hasHour_16
theorem dX2_hasHour_17 : decode cX2_hasHour 17 = .ok (.invokevirtual 71, 3) := dc_182 (a0 := 0) (b0 := 71) aX2_hasHour_17
theorem dX2_hasHour_20 : decode cX2_hasHour 20 = .ok (.ifCond .eq 5, 3) := dc_153 (a0 := 0) (b0 := 5) aX2_hasHour_20 (by decide)
theorem dX2_hasHour_23 : decode cX2_hasHour 23 = .ok (.iconst 1, 1) := dc_4 aX2_hasHour_23
theorem dX2_hasHour_24 : decode cX2_hasHour 24 = .ok (.ireturn, 1) := dc_172 aX2_hasHour_24
theorem dX2_hasHour_25 : decode cX2_hasHour 25 = .ok (.iinc 4 1, 3) := dc_132 (a0 := 4) (a1 := 1) aX2_hasHour_25 (by decide)
theorem dX2_hasHour_28 : decode cX2_hasHour 28 = .ok (.goto (-25), 3) := dc_167 (a0 := 255) (b0 := 231) aX2_hasHour_28 (by decide)
theorem dX2_hasHour_31 : decode cX2_hasHour 31 = .ok (.iconst 0, 1) := dc_3 aX2_hasHour_31
theorem dX2_hasHour_32 : decode cX2_hasHour 32 = .ok (.ireturn, 1) := dc_172 aX2_hasHour_32
set_option maxRecDepth 20000 in
theorem ggX2_howManyHours_X2_isHour : GoodIn wsX2_howManyHours wsX2_isHour := goodIn_k _ [[6, 0, 0, 0], [5, 4, 0, 0, 0, 0, 0, 0, 0, 0, 0, 0, 0, 0]] (by rfl) (by decide +kernel)
set_option maxRecDepth 20000 in
theorem gX2_howManyHours_X2_isHour : GoodIn wsX2_howManyHours (wsV RX2 71 RX2 yX2_isHour wsX2_isHour) := goodIn_app (goodIn_of _ (by decide +kernel)) ggX2_howManyHours_X2_isHour
noncomputable def sX2_howManyHours_49 : List Nat := 172 :: []
noncomputable def sX2_howManyHours_48 : List Nat := 29 :: sX2_howManyHours_49
noncomputable def sX2_howManyHours_45 : List Nat := 167 :: 255 :: 216 :: sX2_howManyHours_48
noncomputable def sX2_howManyHours_42 : List Nat := 132 :: 4 :: 1 :: sX2_howManyHours_45
noncomputable def sX2_howManyHours_39 : List Nat := 132 :: 3 :: 1 :: sX2_howManyHours_42
noncomputable def sX2_howManyHours_36 : List Nat := 153 :: 0 :: 6 :: sX2_howManyHours_39
noncomputable def sX2_howManyHours_33 : List Nat := 182 :: 0 :: 71 :: sX2_howManyHours_36
noncomputable def sX2_howManyHours_32 : List Nat := 28 :: sX2_howManyHours_33
noncomputable def sX2_howManyHours_31 : List Nat := 27 :: sX2_howManyHours_32
noncomputable def sX2_howManyHours_30 : List Nat := 112 :: sX2_howManyHours_31
noncomputable def sX2_howManyHours_27 : List Nat := 17 :: 1 :: 104 :: sX2_howManyHours_30
noncomputable def sX2_howManyHours_25 : List Nat := 21 :: 4 :: sX2_howManyHours_27
noncomputable def sX2_howManyHours_24 : List Nat := 108 :: sX2_howManyHours_25
noncomputable def sX2_howManyHours_21 : List Nat := 17 :: 1 :: 104 :: sX2_howManyHours_24
noncomputable def sX2_howManyHours_19 : List Nat := 21 :: 4 :: sX2_howManyHours_21
noncomputable def sX2_howManyHours_18 : List Nat := 42 :: sX2_howManyHours_19
noncomputable def sX2_howManyHours_15 : List Nat := 162 :: 0 :: 33 :: sX2_howManyHours_18
noncomputable def sX2_howManyHours_14 : List Nat := 104 :: sX2_howManyHours_15
noncomputable def sX2_howManyHours_11 : List Nat := 180 :: 0 :: 21 :: sX2_howManyHours_14
noncomputable def sX2_howManyHours_10 : List Nat := 42 :: sX2_howManyHours_11
noncomputable def sX2_howManyHours_7 : List Nat := 17 :: 1 :: 104 :: sX2_howManyHours_10
noncomputable def sX2_howManyHours_5 : List Nat := 21 :: 4 :: sX2_howManyHours_7
noncomputable def sX2_howManyHours_3 : List Nat := 54 :: 4 :: sX2_howManyHours_5
noncomputable def sX2_howManyHours_2 : List Nat := 3 :: sX2_howManyHours_3
noncomputable def sX2_howManyHours_1 : List Nat := 62 :: sX2_howManyHours_2
noncomputable def sX2_howManyHours_0 : List Nat := 3 :: sX2_howManyHours_1
theorem aX2_howManyHours_0 : dc_at cX2_howManyHours 0 sX2_howManyHours_0 := dc_base (by decide +kernel)
theorem aX2_howManyHours_1 : dc_at cX2_howManyHours 1 sX2_howManyHours_1 := dc_n1 aX2_howManyHours_0
theorem aX2_howManyHours_2 : dc_at cX2_howManyHours 2 sX2_howManyHours_2 := dc_n1 aX2_howManyHours_1
theorem aX2_howManyHours_3 : dc_at cX2_howManyHours 3 sX2_howManyHours_3 := dc_n1 aX2_howManyHours_2
theorem aX2_howManyHours_5 : dc_at cX2_howManyHours 5 sX2_howManyHours_5 := dc_n2 aX2_howManyHours_3
theorem aX2_howManyHours_7 : dc_at cX2_howManyHours 7 sX2_howManyHours_7 := dc_n2 aX2_howManyHours_5
theorem aX2_howManyHours_10 : dc_at cX2_howManyHours 10 sX2_howManyHours_10 := dc_n3 aX2_howManyHours_7
theorem aX2_howManyHours_11 : dc_at cX2_howManyHours 11 sX2_howManyHours_11 := dc_n1 aX2_howManyHours_10
theorem aX2_howManyHours_14 : dc_at cX2_howManyHours 14 sX2_howManyHours_14 := dc_n3 aX2_howManyHours_11
theorem aX2_howManyHours_15 : dc_at cX2_howManyHours 15 sX2_howManyHours_15 := dc_n1 aX2_howManyHours_14
theorem aX2_howManyHours_18 : dc_at cX2_howManyHours 18 sX2_howManyHours_18 := dc_n3 aX2_howManyHours_15
theorem aX2_howManyHours_19 : dc_at cX2_howManyHours 19 sX2_howManyHours_19 := dc_n1 aX2_howManyHours_18
theorem aX2_howManyHours_21 : dc_at cX2_howManyHours 21 sX2_howManyHours_21 := dc_n2 aX2_howManyHours_19
theorem aX2_howManyHours_24 : dc_at cX2_howManyHours 24 sX2_howManyHours_24 := dc_n3 aX2_howManyHours_21
theorem aX2_howManyHours_25 : dc_at cX2_howManyHours 25 sX2_howManyHours_25 := dc_n1 aX2_howManyHours_24
theorem aX2_howManyHours_27 : dc_at cX2_howManyHours 27 sX2_howManyHours_27 := dc_n2 aX2_howManyHours_25
theorem aX2_howManyHours_30 : dc_at cX2_howManyHours 30 sX2_howManyHours_30 := dc_n3 aX2_howManyHours_27
theorem aX2_howManyHours_31 : dc_at cX2_howManyHours 31 sX2_howManyHours_31 := dc_n1 aX2_howManyHours_30
theorem aX2_howManyHours_32 : dc_at cX2_howManyHours 32 sX2_howManyHours_32 := dc_n1 aX2_howManyHours_31
theorem aX2_howManyHours_33 : dc_at cX2_howManyHours 33 sX2_howManyHours_33 := dc_n1 aX2_howManyHours_32
theorem aX2_howManyHours_36 : dc_at cX2_howManyHours 36 sX2_howManyHours_36 := dc_n3 aX2_howManyHours_33
theorem aX2_howManyHours_39 : dc_at cX2_howManyHours 39 sX2_howManyHours_39 := dc_n3 aX2_howManyHours_36
theorem aX2_howManyHours_42 : dc_at cX2_howManyHours 42 sX2_howManyHours_42 := dc_n3 aX2_howManyHours_39
theorem aX2_howManyHours_45 : dc_at cX2_howManyHours 45 sX2_howManyHours_45 := dc_n3 aX2_howManyHours_42
theorem aX2_howManyHours_48 : dc_at cX2_howManyHours 48 sX2_howManyHours_48 := dc_n3 aX2_howManyHours_45
theorem aX2_howManyHours_49 : dc_at cX2_howManyHours 49 sX2_howManyHours_49 := dc_n1 aX2_howManyHours_48
theorem dX2_howManyHours_0 : decode cX2_howManyHours 0 = .ok (.iconst 0, 1) := dc_3 aX2_howManyHours_0
theorem dX2_howManyHours_1 : decode cX2_howManyHours 1 = .ok (.istore_n 3, 1) := dc_62 aX2_howManyHours_1
theorem dX2_howManyHours_2 : decode cX2_howManyHours 2 = .ok (.iconst 0, 1) := dc_3 aX2_howManyHours_2
theorem dX2_howManyHours_3 : decode cX2_howManyHours 3 = .ok (.istore 4, 2) := dc_54 (a0 := 4) aX2_howManyHours_3
theorem dX2_howManyHours_5 : decode cX2_howManyHours 5 = .ok (.iload 4, 2) := dc_21 (a0 := 4) aX2_howManyHours_5
theorem dX2_howManyHours_7 : decode cX2_howManyHours 7 = .ok (.sipush 360, 3) := dc_17 (a0 := 1) (b0 := 104) aX2_howManyHours_7 (by decide)
theorem dX2_howManyHours_10 : decode cX2_howManyHours 10 = .ok (.aload_n 0, 1) := dc_42 aX2_howManyHours_10
theorem dX2_howManyHours_11 : decode cX2_howManyHours 11 = .ok (.getfield 21, 3) := dc_180 (a0 := 0) (b0 := 21) aX2_howManyHours_11
theorem dX2_howManyHours_14 : decode cX2_howManyHours 14 = .ok (.imul, 1) := dc_104 aX2_howManyHours_14
theorem dX2_howManyHours_15 : decode cX2_howManyHours 15 = .ok (.if_icmp .ge 33, 3) := dc_162 (a0 := 0) (b0 := 33) aX2_howManyHours_15 (by decide)
theorem dX2_howManyHours_18 : decode cX2_howManyHours 18 = .ok (.aload_n 0, 1) := dc_42 aX2_howManyHours_18
theorem dX2_howManyHours_19 : decode cX2_howManyHours 19 = .ok (.iload 4, 2) := dc_21 (a0 := 4) aX2_howManyHours_19
theorem dX2_howManyHours_21 : decode cX2_howManyHours 21 = .ok (.sipush 360, 3) := dc_17 (a0 := 1) (b0 := 104) aX2_howManyHours_21 (by decide)
theorem dX2_howManyHours_24 : decode cX2_howManyHours 24 = .ok (.idiv, 1) := dc_108 aX2_howManyHours_24
theorem dX2_howManyHours_25 : decode cX2_howManyHours 25 = .ok (.iload 4, 2) := dc_21 (a0 := 4) aX2_howManyHours_25
theorem dX2_howManyHours_27 : decode cX2_howManyHours 27 = .ok (.sipush 360, 3) := dc_17 (a0 := 1) (b0 := 104) aX2_howManyHours_27 (by decide)
theorem dX2_howManyHours_30 : decode cX2_howManyHours 30 = .ok (.irem, 1) := dc_112 aX2_howManyHours_30
theorem dX2_howManyHours_31 : decode cX2_howManyHours 31 = .ok (.iload_n 1, 1) := dc_27 aX2_howManyHours_31
theorem dX2_howManyHours_32 : decode cX2_howManyHours 32 = .ok (.iload_n 2, 1) := dc_28 aX2_howManyHours_32
theorem dX2_howManyHours_33 : decode cX2_howManyHours 33 = .ok (.invokevirtual 71, 3) := dc_182 (a0 := 0) (b0 := 71) aX2_howManyHours_33
theorem dX2_howManyHours_36 : decode cX2_howManyHours 36 = .ok (.ifCond .eq 6, 3) := dc_153 (a0 := 0) (b0 := 6) aX2_howManyHours_36 (by decide)
theorem dX2_howManyHours_39 : decode cX2_howManyHours 39 = .ok (.iinc 3 1, 3) := dc_132 (a0 := 3) (a1 := 1) aX2_howManyHours_39 (by decide)
theorem dX2_howManyHours_42 : decode cX2_howManyHours 42 = .ok (.iinc 4 1, 3) := dc_132 (a0 := 4) (a1 := 1) aX2_howManyHours_42 (by decide)
theorem dX2_howManyHours_45 : decode cX2_howManyHours 45 = .ok (.goto (-40), 3) := dc_167 (a0 := 255) (b0 := 216) aX2_howManyHours_45 (by decide)
theorem dX2_howManyHours_48 : decode cX2_howManyHours 48 = .ok (.iload_n 3, 1) := dc_29 aX2_howManyHours_48
theorem dX2_howManyHours_49 : decode cX2_howManyHours 49 = .ok (.ireturn, 1) := dc_172 aX2_howManyHours_49
set_option maxRecDepth 20000 in
theorem ggX2_nthHour_X2_isHour : GoodIn wsX2_nthHour wsX2_isHour := goodIn_k _ [[6, 0, 0, 0], [5, 4, 0, 0, 0, 0, 0, 0, 0, 0, 0, 0, 0, 0]] (by rfl) (by decide +kernel)
set_option maxRecDepth 20000 in
theorem gX2_nthHour_X2_isHour : GoodIn wsX2_nthHour (wsV RX2 71 RX2 yX2_isHour wsX2_isHour) := goodIn_app (goodIn_of _ (by decide +kernel)) ggX2_nthHour_X2_isHour
noncomputable def sX2_nthHour_63 : List Nat := 172 :: []
noncomputable def sX2_nthHour_62 : List Nat := 2 :: sX2_nthHour_63
noncomputable def sX2_nthHour_59 : List Nat := 167 :: 255 :: 203 :: sX2_nthHour_62
noncomputable def sX2_nthHour_56 : List Nat := 132 :: 5 :: 1 :: sX2_nthHour_59
noncomputable def sX2_nthHour_53 : List Nat := 132 :: 4 :: 255 :: sX2_nthHour_56
noncomputable def sX2_nthHour_52 : List Nat := 172 :: sX2_nthHour_53
noncomputable def sX2_nthHour_50 : List Nat := 21 :: 5 :: sX2_nthHour_52
noncomputable def sX2_nthHour_47 : List Nat := 154 :: 0 :: 6 :: sX2_nthHour_50
noncomputable def sX2_nthHour_45 : List Nat := 21 :: 4 :: sX2_nthHour_47
noncomputable def sX2_nthHour_42 : List Nat := 153 :: 0 :: 14 :: sX2_nthHour_45
noncomputable def sX2_nthHour_39 : List Nat := 182 :: 0 :: 71 :: sX2_nthHour_42
noncomputable def sX2_nthHour_38 : List Nat := 28 :: sX2_nthHour_39
noncomputable def sX2_nthHour_37 : List Nat := 27 :: sX2_nthHour_38
noncomputable def sX2_nthHour_36 : List Nat := 112 :: sX2_nthHour_37
noncomputable def sX2_nthHour_33 : List Nat := 17 :: 1 :: 104 :: sX2_nthHour_36
noncomputable def sX2_nthHour_31 : List Nat := 21 :: 5 :: sX2_nthHour_33
noncomputable def sX2_nthHour_30 : List Nat := 108 :: sX2_nthHour_31
noncomputable def sX2_nthHour_27 : List Nat := 17 :: 1 :: 104 :: sX2_nthHour_30
noncomputable def sX2_nthHour_25 : List Nat := 21 :: 5 :: sX2_nthHour_27
noncomputable def sX2_nthHour_24 : List Nat := 42 :: sX2_nthHour_25
noncomputable def sX2_nthHour_21 : List Nat := 155 :: 0 :: 41 :: sX2_nthHour_24
noncomputable def sX2_nthHour_19 : List Nat := 21 :: 4 :: sX2_nthHour_21
noncomputable def sX2_nthHour_16 : List Nat := 162 :: 0 :: 46 :: sX2_nthHour_19
noncomputable def sX2_nthHour_15 : List Nat := 104 :: sX2_nthHour_16
noncomputable def sX2_nthHour_12 : List Nat := 180 :: 0 :: 21 :: sX2_nthHour_15
noncomputable def sX2_nthHour_11 : List Nat := 42 :: sX2_nthHour_12
noncomputable def sX2_nthHour_8 : List Nat := 17 :: 1 :: 104 :: sX2_nthHour_11
noncomputable def sX2_nthHour_6 : List Nat := 21 :: 5 :: sX2_nthHour_8
noncomputable def sX2_nthHour_4 : List Nat := 54 :: 5 :: sX2_nthHour_6
noncomputable def sX2_nthHour_3 : List Nat := 3 :: sX2_nthHour_4
noncomputable def sX2_nthHour_1 : List Nat := 54 :: 4 :: sX2_nthHour_3
noncomputable def sX2_nthHour_0 : List Nat := 29 :: sX2_nthHour_1
theorem aX2_nthHour_0 : dc_at cX2_nthHour 0 sX2_nthHour_0 := dc_base (by decide +kernel)
theorem aX2_nthHour_1 : dc_at cX2_nthHour 1 sX2_nthHour_1 := dc_n1 aX2_nthHour_0
theorem aX2_nthHour_3 : dc_at cX2_nthHour 3 sX2_nthHour_3 := dc_n2 aX2_nthHour_1
theorem aX2_nthHour_4 : dc_at cX2_nthHour 4 sX2_nthHour_4 := dc_n1 aX2_nthHour_3
theorem aX2_nthHour_6 : dc_at cX2_nthHour 6 sX2_nthHour_6 := dc_n2 aX2_nthHour_4
theorem aX2_nthHour_8 : dc_at cX2_nthHour 8 sX2_nthHour_8 := dc_n2 aX2_nthHour_6
theorem aX2_nthHour_11 : dc_at cX2_nthHour 11 sX2_nthHour_11 := dc_n3 aX2_nthHour_8
theorem aX2_nthHour_12 : dc_at cX2_nthHour 12 sX2_nthHour_12 := dc_n1 aX2_nthHour_11
theorem aX2_nthHour_15 : dc_at cX2_nthHour 15 sX2_nthHour_15 := dc_n3 aX2_nthHour_12
theorem aX2_nthHour_16 : dc_at cX2_nthHour 16 sX2_nthHour_16 := dc_n1 aX2_nthHour_15
theorem aX2_nthHour_19 : dc_at cX2_nthHour 19 sX2_nthHour_19 := dc_n3 aX2_nthHour_16
theorem aX2_nthHour_21 : dc_at cX2_nthHour 21 sX2_nthHour_21 := dc_n2 aX2_nthHour_19
theorem aX2_nthHour_24 : dc_at cX2_nthHour 24 sX2_nthHour_24 := dc_n3 aX2_nthHour_21
theorem aX2_nthHour_25 : dc_at cX2_nthHour 25 sX2_nthHour_25 := dc_n1 aX2_nthHour_24
theorem aX2_nthHour_27 : dc_at cX2_nthHour 27 sX2_nthHour_27 := dc_n2 aX2_nthHour_25
theorem aX2_nthHour_30 : dc_at cX2_nthHour 30 sX2_nthHour_30 := dc_n3 aX2_nthHour_27
theorem aX2_nthHour_31 : dc_at cX2_nthHour 31 sX2_nthHour_31 := dc_n1 aX2_nthHour_30
theorem aX2_nthHour_33 : dc_at cX2_nthHour 33 sX2_nthHour_33 := dc_n2 aX2_nthHour_31
theorem aX2_nthHour_36 : dc_at cX2_nthHour 36 sX2_nthHour_36 := dc_n3 aX2_nthHour_33
theorem aX2_nthHour_37 : dc_at cX2_nthHour 37 sX2_nthHour_37 := dc_n1 aX2_nthHour_36
theorem aX2_nthHour_38 : dc_at cX2_nthHour 38 sX2_nthHour_38 := dc_n1 aX2_nthHour_37
theorem aX2_nthHour_39 : dc_at cX2_nthHour 39 sX2_nthHour_39 := dc_n1 aX2_nthHour_38
theorem aX2_nthHour_42 : dc_at cX2_nthHour 42 sX2_nthHour_42 := dc_n3 aX2_nthHour_39
theorem aX2_nthHour_45 : dc_at cX2_nthHour 45 sX2_nthHour_45 := dc_n3 aX2_nthHour_42
theorem aX2_nthHour_47 : dc_at cX2_nthHour 47 sX2_nthHour_47 := dc_n2 aX2_nthHour_45
theorem aX2_nthHour_50 : dc_at cX2_nthHour 50 sX2_nthHour_50 := dc_n3 aX2_nthHour_47
theorem aX2_nthHour_52 : dc_at cX2_nthHour 52 sX2_nthHour_52 := dc_n2 aX2_nthHour_50
theorem aX2_nthHour_53 : dc_at cX2_nthHour 53 sX2_nthHour_53 := dc_n1 aX2_nthHour_52
theorem aX2_nthHour_56 : dc_at cX2_nthHour 56 sX2_nthHour_56 := dc_n3 aX2_nthHour_53
theorem aX2_nthHour_59 : dc_at cX2_nthHour 59 sX2_nthHour_59 := dc_n3 aX2_nthHour_56
theorem aX2_nthHour_62 : dc_at cX2_nthHour 62 sX2_nthHour_62 := dc_n3 aX2_nthHour_59
theorem aX2_nthHour_63 : dc_at cX2_nthHour 63 sX2_nthHour_63 := dc_n1 aX2_nthHour_62
theorem dX2_nthHour_0 : decode cX2_nthHour 0 = .ok (.iload_n 3, 1) := dc_29 aX2_nthHour_0
theorem dX2_nthHour_1 : decode cX2_nthHour 1 = .ok (.istore 4, 2) := dc_54 (a0 := 4) aX2_nthHour_1
theorem dX2_nthHour_3 : decode cX2_nthHour 3 = .ok (.iconst 0, 1) := dc_3 aX2_nthHour_3
theorem dX2_nthHour_4 : decode cX2_nthHour 4 = .ok (.istore 5, 2) := dc_54 (a0 := 5) aX2_nthHour_4
theorem dX2_nthHour_6 : decode cX2_nthHour 6 = .ok (.iload 5, 2) := dc_21 (a0 := 5) aX2_nthHour_6
theorem dX2_nthHour_8 : decode cX2_nthHour 8 = .ok (.sipush 360, 3) := dc_17 (a0 := 1) (b0 := 104) aX2_nthHour_8 (by decide)
theorem dX2_nthHour_11 : decode cX2_nthHour 11 = .ok (.aload_n 0, 1) := dc_42 aX2_nthHour_11
theorem dX2_nthHour_12 : decode cX2_nthHour 12 = .ok (.getfield 21, 3) := dc_180 (a0 := 0) (b0 := 21) aX2_nthHour_12
theorem dX2_nthHour_15 : decode cX2_nthHour 15 = .ok (.imul, 1) := dc_104 aX2_nthHour_15
theorem dX2_nthHour_16 : decode cX2_nthHour 16 = .ok (.if_icmp .ge 46, 3) := dc_162 (a0 := 0) (b0 := 46) aX2_nthHour_16 (by decide)
theorem dX2_nthHour_19 : decode cX2_nthHour 19 = .ok (.iload 4, 2) := dc_21 (a0 := 4) aX2_nthHour_19
theorem dX2_nthHour_21 : decode cX2_nthHour 21 = .ok (.ifCond .lt 41, 3) := dc_155 (a0 := 0) (b0 := 41) aX2_nthHour_21 (by decide)
theorem dX2_nthHour_24 : decode cX2_nthHour 24 = .ok (.aload_n 0, 1) := dc_42 aX2_nthHour_24
theorem dX2_nthHour_25 : decode cX2_nthHour 25 = .ok (.iload 5, 2) := dc_21 (a0 := 5) aX2_nthHour_25
theorem dX2_nthHour_27 : decode cX2_nthHour 27 = .ok (.sipush 360, 3) := dc_17 (a0 := 1) (b0 := 104) aX2_nthHour_27 (by decide)
theorem dX2_nthHour_30 : decode cX2_nthHour 30 = .ok (.idiv, 1) := dc_108 aX2_nthHour_30
theorem dX2_nthHour_31 : decode cX2_nthHour 31 = .ok (.iload 5, 2) := dc_21 (a0 := 5) aX2_nthHour_31
theorem dX2_nthHour_33 : decode cX2_nthHour 33 = .ok (.sipush 360, 3) := dc_17 (a0 := 1) (b0 := 104) aX2_nthHour_33 (by decide)
theorem dX2_nthHour_36 : decode cX2_nthHour 36 = .ok (.irem, 1) := dc_112 aX2_nthHour_36
theorem dX2_nthHour_37 : decode cX2_nthHour 37 = .ok (.iload_n 1, 1) := dc_27 aX2_nthHour_37
theorem dX2_nthHour_38 : decode cX2_nthHour 38 = .ok (.iload_n 2, 1) := dc_28 aX2_nthHour_38
theorem dX2_nthHour_39 : decode cX2_nthHour 39 = .ok (.invokevirtual 71, 3) := dc_182 (a0 := 0) (b0 := 71) aX2_nthHour_39
theorem dX2_nthHour_42 : decode cX2_nthHour 42 = .ok (.ifCond .eq 14, 3) := dc_153 (a0 := 0) (b0 := 14) aX2_nthHour_42 (by decide)
theorem dX2_nthHour_45 : decode cX2_nthHour 45 = .ok (.iload 4, 2) := dc_21 (a0 := 4) aX2_nthHour_45
theorem dX2_nthHour_47 : decode cX2_nthHour 47 = .ok (.ifCond .ne 6, 3) := dc_154 (a0 := 0) (b0 := 6) aX2_nthHour_47 (by decide)
theorem dX2_nthHour_50 : decode cX2_nthHour 50 = .ok (.iload 5, 2) := dc_21 (a0 := 5) aX2_nthHour_50
theorem dX2_nthHour_52 : decode cX2_nthHour 52 = .ok (.ireturn, 1) := dc_172 aX2_nthHour_52
theorem dX2_nthHour_53 : decode cX2_nthHour 53 = .ok (.iinc 4 (-1), 3) := dc_132 (a0 := 4) (a1 := 255) aX2_nthHour_53 (by decide)
theorem dX2_nthHour_56 : decode cX2_nthHour 56 = .ok (.iinc 5 1, 3) := dc_132 (a0 := 5) (a1 := 1) aX2_nthHour_56 (by decide)
theorem dX2_nthHour_59 : decode cX2_nthHour 59 = .ok (.goto (-53), 3) := dc_167 (a0 := 255) (b0 := 203) aX2_nthHour_59 (by decide)
theorem dX2_nthHour_62 : decode cX2_nthHour 62 = .ok (.iconst (-1), 1) := dc_2 aX2_nthHour_62
theorem dX2_nthHour_63 : decode cX2_nthHour 63 = .ok (.ireturn, 1) := dc_172 aX2_nthHour_63
set_option maxRecDepth 20000 in
theorem ggX2_houseDegree_X2_houseByMiddle : GoodIn wsX2_houseDegree wsX2_houseByMiddle := goodIn_k _ [[5, 0, 0, 0], [4, 4, 0, 0, 0, 0, 0, 0, 0, 0, 0, 0, 0, 0, 0, 0, 0, 0, 0]] (by rfl) (by decide +kernel)
set_option maxRecDepth 20000 in
theorem gX2_houseDegree_X2_houseByMiddle : GoodIn wsX2_houseDegree (wsV RX2 75 RX2 yX2_houseByMiddle wsX2_houseByMiddle) := goodIn_app (goodIn_of _ (by decide +kernel)) ggX2_houseDegree_X2_houseByMiddle
noncomputable def sX2_houseDegree_47 : List Nat := 172 :: []
noncomputable def sX2_houseDegree_44 : List Nat := 182 :: 0 :: 75 :: sX2_houseDegree_47
noncomputable def sX2_houseDegree_42 : List Nat := 21 :: 4 :: sX2_houseDegree_44
noncomputable def sX2_houseDegree_41 : List Nat := 29 :: sX2_houseDegree_42
noncomputable def sX2_houseDegree_40 : List Nat := 27 :: sX2_houseDegree_41
noncomputable def sX2_houseDegree_39 : List Nat := 42 :: sX2_houseDegree_40
noncomputable def sX2_houseDegree_38 : List Nat := 172 :: sX2_houseDegree_39
noncomputable def sX2_houseDegree_37 : List Nat := 112 :: sX2_houseDegree_38
noncomputable def sX2_houseDegree_34 : List Nat := 17 :: 1 :: 104 :: sX2_houseDegree_37
noncomputable def sX2_houseDegree_33 : List Nat := 96 :: sX2_houseDegree_34
noncomputable def sX2_houseDegree_32 : List Nat := 104 :: sX2_houseDegree_33
noncomputable def sX2_houseDegree_31 : List Nat := 100 :: sX2_houseDegree_32
noncomputable def sX2_houseDegree_30 : List Nat := 4 :: sX2_houseDegree_31
noncomputable def sX2_houseDegree_28 : List Nat := 21 :: 4 :: sX2_houseDegree_30
noncomputable def sX2_houseDegree_26 : List Nat := 16 :: 30 :: sX2_houseDegree_28
noncomputable def sX2_houseDegree_25 : List Nat := 27 :: sX2_houseDegree_26
noncomputable def sX2_houseDegree_22 : List Nat := 160 :: 0 :: 17 :: sX2_houseDegree_25
noncomputable def sX2_houseDegree_21 : List Nat := 4 :: sX2_houseDegree_22
noncomputable def sX2_houseDegree_20 : List Nat := 28 :: sX2_houseDegree_21
noncomputable def sX2_houseDegree_19 : List Nat := 172 :: sX2_houseDegree_20
noncomputable def sX2_houseDegree_18 : List Nat := 104 :: sX2_houseDegree_19
noncomputable def sX2_houseDegree_16 : List Nat := 16 :: 30 :: sX2_houseDegree_18
noncomputable def sX2_houseDegree_15 : List Nat := 112 :: sX2_houseDegree_16
noncomputable def sX2_houseDegree_13 : List Nat := 16 :: 12 :: sX2_houseDegree_15
noncomputable def sX2_houseDegree_12 : List Nat := 100 :: sX2_houseDegree_13
noncomputable def sX2_houseDegree_11 : List Nat := 4 :: sX2_houseDegree_12
noncomputable def sX2_houseDegree_10 : List Nat := 96 :: sX2_houseDegree_11
noncomputable def sX2_houseDegree_8 : List Nat := 21 :: 4 :: sX2_houseDegree_10
noncomputable def sX2_houseDegree_7 : List Nat := 108 :: sX2_houseDegree_8
noncomputable def sX2_houseDegree_5 : List Nat := 16 :: 30 :: sX2_houseDegree_7
noncomputable def sX2_houseDegree_4 : List Nat := 27 :: sX2_houseDegree_5
noncomputable def sX2_houseDegree_1 : List Nat := 154 :: 0 :: 19 :: sX2_houseDegree_4
noncomputable def sX2_houseDegree_0 : List Nat := 28 :: sX2_houseDegree_1
theorem aX2_houseDegree_0 : dc_at cX2_houseDegree 0 sX2_houseDegree_0 := dc_base (by decide +kernel)
theorem aX2_houseDegree_1 : dc_at cX2_houseDegree 1 sX2_houseDegree_1 := dc_n1 aX2_houseDegree_0
theorem aX2_houseDegree_4 : dc_at cX2_houseDegree 4 sX2_houseDegree_4 := dc_n3 aX2_houseDegree_1
theorem aX2_houseDegree_5 : dc_at cX2_houseDegree 5 sX2_houseDegree_5 := dc_n1 aX2_houseDegree_4
theorem aX2_houseDegree_7 : dc_at cX2_houseDegree 7 sX2_houseDegree_7 := dc_n2 aX2_houseDegree_5
theorem aX2_houseDegree_8 : dc_at cX2_houseDegree 8 sX2_houseDegree_8 := dc_n1 aX2_houseDegree_7
theorem aX2_houseDegree_10 : dc_at cX2_houseDegree 10 sX2_houseDegree_10 := dc_n2 aX2_houseDegree_8
theorem aX2_houseDegree_11 : dc_at cX2_houseDegree 11 sX2_houseDegree_11 := dc_n1 aX2_houseDegree_10
theorem aX2_houseDegree_12 : dc_at cX2_houseDegree 12 sX2_houseDegree_12 := dc_n1 aX2_houseDegree_11
theorem aX2_houseDegree_13 : dc_at cX2_houseDegree 13 sX2_houseDegree_13 := dc_n1 aX2_houseDegree_12
theorem aX2_houseDegree_15 : dc_at cX2_houseDegree 15 sX2_houseDegree_15 := dc_n2 aX2_houseDegree_13
theorem aX2_houseDegree_16 : dc_at cX2_houseDegree 16 sX2_houseDegree_16 := dc_n1 aX2_houseDegree_15
theorem aX2_houseDegree_18 : dc_at cX2_houseDegree 18 sX2_houseDegree_18 := dc_n2 aX2_houseDegree_16
theorem aX2_houseDegree_19 : dc_at cX2_houseDegree 19 sX2_houseDegree_19 := dc_n1 aX2_houseDegree_18
theorem aX2_houseDegree_20 : dc_at cX2_houseDegree 20 sX2_houseDegree_20 := dc_n1 aX2_houseDegree_19
theorem aX2_houseDegree_21 : dc_at cX2_houseDegree 21 sX2_houseDegree_21 := dc_n1 aX2_houseDegree_20
theorem aX2_houseDegree_22 : dc_at cX2_houseDegree 22 sX2_houseDegree_22 := dc_n1 aX2_houseDegree_21
theorem aX2_houseDegree_25 : dc_at cX2_houseDegree 25 sX2_houseDegree_25 := dc_n3 aX2_houseDegree_22
theorem aX2_houseDegree_26 : dc_at cX2_houseDegree 26 sX2_houseDegree_26 := dc_n1 aX2_houseDegree_25
theorem aX2_houseDegree_28 : dc_at cX2_houseDegree 28 sX2_houseDegree_28 := dc_n2 aX2_houseDegree_26
theorem aX2_houseDegree_30 : dc_at cX2_houseDegree 30 sX2_houseDegree_30 := dc_n2 aX2_houseDegree_28
theorem aX2_houseDegree_31 : dc_at cX2_houseDegree 31 sX2_houseDegree_31 := dc_n1 aX2_houseDegree_30
theorem aX2_houseDegree_32 : dc_at cX2_houseDegree 32 sX2_houseDegree_32 := dc_n1 aX2_houseDegree_31
theorem aX2_houseDegree_33 : dc_at cX2_houseDegree 33 sX2_houseDegree_33 := dc_n1 aX2_houseDegree_32
theorem aX2_houseDegree_34 : dc_at cX2_houseDegree 34 sX2_houseDegree_34 := dc_n1 aX2_houseDegree_33
theorem aX2_houseDegree_37 : dc_at cX2_houseDegree 37 sX2_houseDegree_37 := dc_n3 aX2_houseDegree_34
theorem aX2_houseDegree_38 : dc_at cX2_houseDegree 38 sX2_houseDegree_38 := dc_n1 aX2_houseDegree_37
theorem aX2_houseDegree_39 : dc_at cX2_houseDegree 39 sX2_houseDegree_39 := dc_n1 aX2_houseDegree_38
theorem aX2_houseDegree_40 : dc_at cX2_houseDegree 40 sX2_houseDegree_40 := dc_n1 aX2_houseDegree_39
theorem aX2_houseDegree_41 : dc_at cX2_houseDegree 41 sX2_houseDegree_41 := dc_n1 aX2_houseDegree_40
theorem aX2_houseDegree_42 : dc_at cX2_houseDegree 42 sX2_houseDegree_42 := dc_n1 aX2_houseDegree_41
theorem aX2_houseDegree_44 : dc_at cX2_houseDegree 44 sX2_houseDegree_44 := dc_n2 aX2_houseDegree_42
theorem aX2_houseDegree_47 : dc_at cX2_houseDegree 47 sX2_houseDegree_47 := dc_n3 aX2_houseDegree_44
theorem dX2_houseDegree_0 : decode cX2_houseDegree 0 = .ok (.iload_n 2, 1) := dc_28 aX2_houseDegree_0
theorem dX2_houseDegree_1 : decode cX2_houseDegree 1 = .ok (.ifCond .ne 19, 3) := dc_154 (a0 := 0) (b0 := 19) aX2_houseDegree_1 (by decide)
theorem dX2_houseDegree_4 : decode cX2_houseDegree 4 = .ok (.iload_n 1, 1) := dc_27 aX2_houseDegree_4
theorem dX2_houseDegree_5 : decode cX2_houseDegree 5 = .ok (.bipush 30, 2) := dc_16 (a0 := 30) aX2_houseDegree_5 (by decide)
theorem dX2_houseDegree_7 : decode cX2_houseDegree 7 = .ok (.idiv, 1) := dc_108 aX2_houseDegree_7
theorem dX2_houseDegree_8 : decode cX2_houseDegree 8 = .ok (.iload 4, 2) := dc_21 (a0 := 4) aX2_houseDegree_8
theorem dX2_houseDegree_10 : decode cX2_houseDegree 10 = .ok (.iadd, 1) := dc_96 aX2_houseDegree_10
theorem dX2_houseDegree_11 : decode cX2_houseDegree 11 = .ok (.iconst 1, 1) := dc_4 aX2_houseDegree_11
theorem dX2_houseDegree_12 : decode cX2_houseDegree 12 = .ok (.isub, 1) := dc_100 aX2_houseDegree_12
theorem dX2_houseDegree_13 : decode cX2_houseDegree 13 = .ok (.bipush 12, 2) := dc_16 (a0 := 12) aX2_houseDegree_13 (by decide)
theorem dX2_houseDegree_15 : decode cX2_houseDegree 15 = .ok (.irem, 1) := dc_112 aX2_houseDegree_15
theorem dX2_houseDegree_16 : decode cX2_houseDegree 16 = .ok (.bipush 30, 2) := dc_16 (a0 := 30) aX2_houseDegree_16 (by decide)
theorem dX2_houseDegree_18 : decode cX2_houseDegree 18 = .ok (.imul, 1) := dc_104 aX2_houseDegree_18
theorem dX2_houseDegree_19 : decode cX2_houseDegree 19 = .ok (.ireturn, 1) := dc_172 aX2_houseDegree_19
theorem dX2_houseDegree_20 : decode cX2_houseDegree 20 = .ok (.iload_n 2, 1) := dc_28 aX2_houseDegree_20
theorem dX2_houseDegree_21 : decode cX2_houseDegree 21 = .ok (.iconst 1, 1) := dc_4 aX2_houseDegree_21
theorem dX2_houseDegree_22 : decode cX2_houseDegree 22 = .ok (.if_icmp .ne 17, 3) := dc_160 (a0 := 0) (b0 := 17) aX2_houseDegree_22 (by decide)
theorem dX2_houseDegree_25 : decode cX2_houseDegree 25 = .ok (.iload_n 1, 1) := dc_27 aX2_houseDegree_25
theorem dX2_houseDegree_26 : decode cX2_houseDegree 26 = .ok (.bipush 30, 2) := dc_16 (a0 := 30) aX2_houseDegree_26 (by decide)
theorem dX2_houseDegree_28 : decode cX2_houseDegree 28 = .ok (.iload 4, 2) := dc_21 (a0 := 4) aX2_houseDegree_28
theorem dX2_houseDegree_30 : decode cX2_houseDegree 30 = .ok (.iconst 1, 1) := dc_4 aX2_houseDegree_30
theorem dX2_houseDegree_31 : decode cX2_houseDegree 31 = .ok (.isub, 1) := dc_100 aX2_houseDegree_31
theorem dX2_houseDegree_32 : decode cX2_houseDegree 32 = .ok (.imul, 1) := dc_104 aX2_houseDegree_32
theorem dX2_houseDegree_33 : decode cX2_houseDegree 33 = .ok (.iadd, 1) := dc_96 aX2_houseDegree_33
theorem dX2_houseDegree_34 : decode cX2_houseDegree 34 = .ok (.sipush 360, 3) := dc_17 (a0 := 1) (b0 := 104) aX2_houseDegree_34 (by decide)
theorem dX2_houseDegree_37 : decode cX2_houseDegree 37 = .ok (.irem, 1) := dc_112 aX2_houseDegree_37
theorem dX2_houseDegree_38 : decode cX2_houseDegree 38 = .ok (.ireturn, 1) := dc_172 aX2_houseDegree_38
theorem dX2_houseDegree_39 : decode cX2_houseDegree 39 = .ok (.aload_n 0, 1) := dc_42 aX2_houseDegree_39
theorem dX2_houseDegree_40 : decode cX2_houseDegree 40 = .ok (.iload_n 1, 1) := dc_27 aX2_houseDegree_40
theorem dX2_houseDegree_41 : decode cX2_houseDegree 41 = .ok (.iload_n 3, 1) := dc_29 aX2_houseDegree_41
theorem dX2_houseDegree_42 : decode cX2_houseDegree 42 = .ok (.iload 4, 2) := dc_21 (a0 := 4) aX2_houseDegree_42
theorem dX2_houseDegree_44 : decode cX2_houseDegree 44 = .ok (.invokevirtual 75, 3) := dc_182 (a0 := 0) (b0 := 75) aX2_houseDegree_44
theorem dX2_houseDegree_47 : decode cX2_houseDegree 47 = .ok (.ireturn, 1) := dc_172 aX2_houseDegree_47
set_option maxRecDepth 20000 in
theorem ggX2_houseByMiddle_X2_middleOf : GoodIn wsX2_houseByMiddle wsX2_middleOf := goodIn_k _ [[5, 0, 0, 0, 0, 0], [4, 6, 0, 0, 0, 0, 0, 0, 0, 0, 0, 0, 0]] (by rfl) (by decide +kernel)
set_option maxRecDepth 20000 in
theorem gX2_houseByMiddle_X2_middleOf : GoodIn wsX2_houseByMiddle (wsV RX2 78 RX2 yX2_middleOf wsX2_middleOf) := goodIn_app (goodIn_of _ (by decide +kernel)) ggX2_houseByMiddle_X2_middleOf
set_option maxRecDepth 20000 in
theorem ggX2_houseByMiddle_J9_floorMod_7cf53 : GoodIn wsX2_houseByMiddle wsJ9_floorMod_7cf53 := goodIn_k _ [[16]] (by rfl) (by decide +kernel)
set_option maxRecDepth 20000 in
theorem gX2_houseByMiddle_J9_floorMod_7cf53 : GoodIn wsX2_houseByMiddle (va_wsS RX2 64 yJ9_floorMod_7cf53 wsJ9_floorMod_7cf53) := goodIn_app (goodIn_of _ (by decide +kernel)) ggX2_houseByMiddle_J9_floorMod_7cf53
noncomputable def sX2_houseByMiddle_138 : List Nat := 172 :: []
noncomputable def sX2_houseByMiddle_137 : List Nat := 112 :: sX2_houseByMiddle_138
noncomputable def sX2_houseByMiddle_134 : List Nat := 17 :: 1 :: 104 :: sX2_houseByMiddle_137
noncomputable def sX2_houseByMiddle_132 : List Nat := 21 :: 7 :: sX2_houseByMiddle_134
noncomputable def sX2_houseByMiddle_129 : List Nat := 167 :: 0 :: 5 :: sX2_houseByMiddle_132
noncomputable def sX2_houseByMiddle_128 : List Nat := 96 :: sX2_houseByMiddle_129
noncomputable def sX2_houseByMiddle_125 : List Nat := 17 :: 0 :: 180 :: sX2_houseByMiddle_128
noncomputable def sX2_houseByMiddle_123 : List Nat := 21 :: 7 :: sX2_houseByMiddle_125
noncomputable def sX2_houseByMiddle_120 : List Nat := 153 :: 0 :: 12 :: sX2_houseByMiddle_123
noncomputable def sX2_houseByMiddle_118 : List Nat := 21 :: 4 :: sX2_houseByMiddle_120
noncomputable def sX2_houseByMiddle_116 : List Nat := 54 :: 7 :: sX2_houseByMiddle_118
noncomputable def sX2_houseByMiddle_115 : List Nat := 96 :: sX2_houseByMiddle_116
noncomputable def sX2_houseByMiddle_114 : List Nat := 108 :: sX2_houseByMiddle_115
noncomputable def sX2_houseByMiddle_113 : List Nat := 6 :: sX2_houseByMiddle_114
noncomputable def sX2_houseByMiddle_112 : List Nat := 104 :: sX2_houseByMiddle_113
noncomputable def sX2_houseByMiddle_109 : List Nat := 184 :: 0 :: 64 :: sX2_houseByMiddle_112
noncomputable def sX2_houseByMiddle_106 : List Nat := 17 :: 1 :: 104 :: sX2_houseByMiddle_109
noncomputable def sX2_houseByMiddle_105 : List Nat := 100 :: sX2_houseByMiddle_106
noncomputable def sX2_houseByMiddle_104 : List Nat := 27 :: sX2_houseByMiddle_105
noncomputable def sX2_houseByMiddle_103 : List Nat := 96 :: sX2_houseByMiddle_104
noncomputable def sX2_houseByMiddle_100 : List Nat := 17 :: 0 :: 180 :: sX2_houseByMiddle_103
noncomputable def sX2_houseByMiddle_98 : List Nat := 21 :: 6 :: sX2_houseByMiddle_100
noncomputable def sX2_houseByMiddle_97 : List Nat := 100 :: sX2_houseByMiddle_98
noncomputable def sX2_houseByMiddle_96 : List Nat := 4 :: sX2_houseByMiddle_97
noncomputable def sX2_houseByMiddle_94 : List Nat := 21 :: 5 :: sX2_houseByMiddle_96
noncomputable def sX2_houseByMiddle_93 : List Nat := 27 :: sX2_houseByMiddle_94
noncomputable def sX2_houseByMiddle_90 : List Nat := 167 :: 0 :: 28 :: sX2_houseByMiddle_93
noncomputable def sX2_houseByMiddle_88 : List Nat := 54 :: 7 :: sX2_houseByMiddle_90
noncomputable def sX2_houseByMiddle_87 : List Nat := 96 :: sX2_houseByMiddle_88
noncomputable def sX2_houseByMiddle_86 : List Nat := 108 :: sX2_houseByMiddle_87
noncomputable def sX2_houseByMiddle_85 : List Nat := 6 :: sX2_houseByMiddle_86
noncomputable def sX2_houseByMiddle_84 : List Nat := 104 :: sX2_houseByMiddle_85
noncomputable def sX2_houseByMiddle_81 : List Nat := 184 :: 0 :: 64 :: sX2_houseByMiddle_84
noncomputable def sX2_houseByMiddle_78 : List Nat := 17 :: 1 :: 104 :: sX2_houseByMiddle_81
noncomputable def sX2_houseByMiddle_77 : List Nat := 100 :: sX2_houseByMiddle_78
noncomputable def sX2_houseByMiddle_75 : List Nat := 21 :: 6 :: sX2_houseByMiddle_77
noncomputable def sX2_houseByMiddle_74 : List Nat := 27 :: sX2_houseByMiddle_75
noncomputable def sX2_houseByMiddle_73 : List Nat := 100 :: sX2_houseByMiddle_74
noncomputable def sX2_houseByMiddle_71 : List Nat := 16 :: 10 :: sX2_houseByMiddle_73
noncomputable def sX2_houseByMiddle_69 : List Nat := 21 :: 5 :: sX2_houseByMiddle_71
noncomputable def sX2_houseByMiddle_67 : List Nat := 21 :: 6 :: sX2_houseByMiddle_69
noncomputable def sX2_houseByMiddle_64 : List Nat := 161 :: 0 :: 29 :: sX2_houseByMiddle_67
noncomputable def sX2_houseByMiddle_62 : List Nat := 16 :: 10 :: sX2_houseByMiddle_64
noncomputable def sX2_houseByMiddle_60 : List Nat := 21 :: 5 :: sX2_houseByMiddle_62
noncomputable def sX2_houseByMiddle_58 : List Nat := 54 :: 6 :: sX2_houseByMiddle_60
noncomputable def sX2_houseByMiddle_57 : List Nat := 108 :: sX2_houseByMiddle_58
noncomputable def sX2_houseByMiddle_55 : List Nat := 16 :: 60 :: sX2_houseByMiddle_57
noncomputable def sX2_houseByMiddle_52 : List Nat := 182 :: 0 :: 78 :: sX2_houseByMiddle_55
noncomputable def sX2_houseByMiddle_51 : List Nat := 104 :: sX2_houseByMiddle_52
noncomputable def sX2_houseByMiddle_50 : List Nat := 27 :: sX2_houseByMiddle_51
noncomputable def sX2_houseByMiddle_48 : List Nat := 16 :: 60 :: sX2_houseByMiddle_50
noncomputable def sX2_houseByMiddle_47 : List Nat := 28 :: sX2_houseByMiddle_48
noncomputable def sX2_houseByMiddle_46 : List Nat := 42 :: sX2_houseByMiddle_47
noncomputable def sX2_houseByMiddle_44 : List Nat := 54 :: 5 :: sX2_houseByMiddle_46
noncomputable def sX2_houseByMiddle_43 : List Nat := 100 :: sX2_houseByMiddle_44
noncomputable def sX2_houseByMiddle_41 : List Nat := 16 :: 6 :: sX2_houseByMiddle_43
noncomputable def sX2_houseByMiddle_40 : List Nat := 29 :: sX2_houseByMiddle_41
noncomputable def sX2_houseByMiddle_37 : List Nat := 167 :: 0 :: 7 :: sX2_houseByMiddle_40
noncomputable def sX2_houseByMiddle_36 : List Nat := 96 :: sX2_houseByMiddle_37
noncomputable def sX2_houseByMiddle_34 : List Nat := 16 :: 6 :: sX2_houseByMiddle_36
noncomputable def sX2_houseByMiddle_33 : List Nat := 29 :: sX2_houseByMiddle_34
noncomputable def sX2_houseByMiddle_30 : List Nat := 162 :: 0 :: 10 :: sX2_houseByMiddle_33
noncomputable def sX2_houseByMiddle_28 : List Nat := 16 :: 7 :: sX2_houseByMiddle_30
noncomputable def sX2_houseByMiddle_27 : List Nat := 29 :: sX2_houseByMiddle_28
noncomputable def sX2_houseByMiddle_24 : List Nat := 167 :: 0 :: 20 :: sX2_houseByMiddle_27
noncomputable def sX2_houseByMiddle_23 : List Nat := 29 :: sX2_houseByMiddle_24
noncomputable def sX2_houseByMiddle_20 : List Nat := 154 :: 0 :: 7 :: sX2_houseByMiddle_23
noncomputable def sX2_houseByMiddle_18 : List Nat := 21 :: 4 :: sX2_houseByMiddle_20
noncomputable def sX2_houseByMiddle_16 : List Nat := 54 :: 4 :: sX2_houseByMiddle_18
noncomputable def sX2_houseByMiddle_15 : List Nat := 3 :: sX2_houseByMiddle_16
noncomputable def sX2_houseByMiddle_12 : List Nat := 167 :: 0 :: 4 :: sX2_houseByMiddle_15
noncomputable def sX2_houseByMiddle_11 : List Nat := 4 :: sX2_houseByMiddle_12
noncomputable def sX2_houseByMiddle_8 : List Nat := 163 :: 0 :: 7 :: sX2_houseByMiddle_11
noncomputable def sX2_houseByMiddle_6 : List Nat := 16 :: 9 :: sX2_houseByMiddle_8
noncomputable def sX2_houseByMiddle_5 : List Nat := 29 :: sX2_houseByMiddle_6
noncomputable def sX2_houseByMiddle_2 : List Nat := 161 :: 0 :: 13 :: sX2_houseByMiddle_5
noncomputable def sX2_houseByMiddle_1 : List Nat := 7 :: sX2_houseByMiddle_2
noncomputable def sX2_houseByMiddle_0 : List Nat := 29 :: sX2_houseByMiddle_1
theorem aX2_houseByMiddle_0 : dc_at cX2_houseByMiddle 0 sX2_houseByMiddle_0 := dc_base (by decide +kernel)
theorem aX2_houseByMiddle_1 : dc_at cX2_houseByMiddle 1 sX2_houseByMiddle_1 := dc_n1 aX2_houseByMiddle_0
theorem aX2_houseByMiddle_2 : dc_at cX2_houseByMiddle 2 sX2_houseByMiddle_2 := dc_n1 aX2_houseByMiddle_1
theorem aX2_houseByMiddle_5 : dc_at cX2_houseByMiddle 5 sX2_houseByMiddle_5 := dc_n3 aX2_houseByMiddle_2
theorem aX2_houseByMiddle_6 : dc_at cX2_houseByMiddle 6 sX2_houseByMiddle_6 := dc_n1 aX2_houseByMiddle_5
theorem aX2_houseByMiddle_8 : dc_at cX2_houseByMiddle 8 sX2_houseByMiddle_8 := dc_n2 aX2_houseByMiddle_6
theorem aX2_houseByMiddle_11 : dc_at cX2_houseByMiddle 11 sX2_houseByMiddle_11 := dc_n3 aX2_houseByMiddle_8
theorem aX2_houseByMiddle_12 : dc_at cX2_houseByMiddle 12 sX2_houseByMiddle_12 := dc_n1 aX2_houseByMiddle_11
theorem aX2_houseByMiddle_15 : dc_at cX2_houseByMiddle 15 sX2_houseByMiddle_15 := dc_n3 aX2_houseByMiddle_12
theorem aX2_houseByMiddle_16 : dc_at cX2_houseByMiddle 16 sX2_houseByMiddle_16 := dc_n1 aX2_houseByMiddle_15
theorem aX2_houseByMiddle_18 : dc_at cX2_houseByMiddle 18 sX2_houseByMiddle_18 := dc_n2 aX2_houseByMiddle_16
theorem aX2_houseByMiddle_20 : dc_at cX2_houseByMiddle 20 sX2_houseByMiddle_20 := dc_n2 aX2_houseByMiddle_18
theorem aX2_houseByMiddle_23 : dc_at cX2_houseByMiddle 23 sX2_houseByMiddle_23 := dc_n3 aX2_houseByMiddle_20
theorem aX2_houseByMiddle_24 : dc_at cX2_houseByMiddle 24 sX2_houseByMiddle_24 := dc_n1 aX2_houseByMiddle_23
theorem aX2_houseByMiddle_27 : dc_at cX2_houseByMiddle 27 sX2_houseByMiddle_27 := dc_n3 aX2_houseByMiddle_24
theorem aX2_houseByMiddle_28 : dc_at cX2_houseByMiddle 28 sX2_houseByMiddle_28 := dc_n1 aX2_houseByMiddle_27
theorem aX2_houseByMiddle_30 : dc_at cX2_houseByMiddle 30 sX2_houseByMiddle_30 := dc_n2 aX2_houseByMiddle_28
theorem aX2_houseByMiddle_33 : dc_at cX2_houseByMiddle 33 sX2_houseByMiddle_33 := dc_n3 aX2_houseByMiddle_30
theorem aX2_houseByMiddle_34 : dc_at cX2_houseByMiddle 34 sX2_houseByMiddle_34 := dc_n1 aX2_houseByMiddle_33
theorem aX2_houseByMiddle_36 : dc_at cX2_houseByMiddle 36 sX2_houseByMiddle_36 := dc_n2 aX2_houseByMiddle_34
theorem aX2_houseByMiddle_37 : dc_at cX2_houseByMiddle 37 sX2_houseByMiddle_37 := dc_n1 aX2_houseByMiddle_36
theorem aX2_houseByMiddle_40 : dc_at cX2_houseByMiddle 40 sX2_houseByMiddle_40 := dc_n3 aX2_houseByMiddle_37
theorem aX2_houseByMiddle_41 : dc_at cX2_houseByMiddle 41 sX2_houseByMiddle_41 := dc_n1 aX2_houseByMiddle_40
theorem aX2_houseByMiddle_43 : dc_at cX2_houseByMiddle 43 sX2_houseByMiddle_43 := dc_n2 aX2_houseByMiddle_41
theorem aX2_houseByMiddle_44 : dc_at cX2_houseByMiddle 44 sX2_houseByMiddle_44 := dc_n1 aX2_houseByMiddle_43
theorem aX2_houseByMiddle_46 : dc_at cX2_houseByMiddle 46 sX2_houseByMiddle_46 := dc_n2 aX2_houseByMiddle_44
theorem aX2_houseByMiddle_47 : dc_at cX2_houseByMiddle 47 sX2_houseByMiddle_47 := dc_n1 aX2_houseByMiddle_46
theorem aX2_houseByMiddle_48 : dc_at cX2_houseByMiddle 48 sX2_houseByMiddle_48 := dc_n1 aX2_houseByMiddle_47
theorem aX2_houseByMiddle_50 : dc_at cX2_houseByMiddle 50 sX2_houseByMiddle_50 := dc_n2 aX2_houseByMiddle_48
theorem aX2_houseByMiddle_51 : dc_at cX2_houseByMiddle 51 sX2_houseByMiddle_51 := dc_n1 aX2_houseByMiddle_50
theorem aX2_houseByMiddle_52 : dc_at cX2_houseByMiddle 52 sX2_houseByMiddle_52 := dc_n1 aX2_houseByMiddle_51
theorem aX2_houseByMiddle_55 : dc_at cX2_houseByMiddle 55 sX2_houseByMiddle_55 := dc_n3 aX2_houseByMiddle_52
theorem aX2_houseByMiddle_57 : dc_at cX2_houseByMiddle 57 sX2_houseByMiddle_57 := dc_n2 aX2_houseByMiddle_55
theorem aX2_houseByMiddle_58 : dc_at cX2_houseByMiddle 58 sX2_houseByMiddle_58 := dc_n1 aX2_houseByMiddle_57
theorem aX2_houseByMiddle_60 : dc_at cX2_houseByMiddle 60 sX2_houseByMiddle_60 := dc_n2 aX2_houseByMiddle_58
theorem aX2_houseByMiddle_62 : dc_at cX2_houseByMiddle 62 sX2_houseByMiddle_62 := dc_n2 aX2_houseByMiddle_60
theorem aX2_houseByMiddle_64 : dc_at cX2_houseByMiddle 64 sX2_houseByMiddle_64 := dc_n2 aX2_houseByMiddle_62
theorem aX2_houseByMiddle_67 : dc_at cX2_houseByMiddle 67 sX2_houseByMiddle_67 := dc_n3 aX2_houseByMiddle_64
theorem aX2_houseByMiddle_69 : dc_at cX2_houseByMiddle 69 sX2_houseByMiddle_69 := dc_n2 aX2_houseByMiddle_67
theorem aX2_houseByMiddle_71 : dc_at cX2_houseByMiddle 71 sX2_houseByMiddle_71 := dc_n2 aX2_houseByMiddle_69
theorem aX2_houseByMiddle_73 : dc_at cX2_houseByMiddle 73 sX2_houseByMiddle_73 := dc_n2 aX2_houseByMiddle_71
theorem aX2_houseByMiddle_74 : dc_at cX2_houseByMiddle 74 sX2_houseByMiddle_74 := dc_n1 aX2_houseByMiddle_73
theorem aX2_houseByMiddle_75 : dc_at cX2_houseByMiddle 75 sX2_houseByMiddle_75 := dc_n1 aX2_houseByMiddle_74
theorem aX2_houseByMiddle_77 : dc_at cX2_houseByMiddle 77 sX2_houseByMiddle_77 := dc_n2 aX2_houseByMiddle_75
theorem aX2_houseByMiddle_78 : dc_at cX2_houseByMiddle 78 sX2_houseByMiddle_78 := dc_n1 aX2_houseByMiddle_77
theorem aX2_houseByMiddle_81 : dc_at cX2_houseByMiddle 81 sX2_houseByMiddle_81 := dc_n3 aX2_houseByMiddle_78
theorem aX2_houseByMiddle_84 : dc_at cX2_houseByMiddle 84 sX2_houseByMiddle_84 := dc_n3 aX2_houseByMiddle_81
theorem aX2_houseByMiddle_85 : dc_at cX2_houseByMiddle 85 sX2_houseByMiddle_85 := dc_n1 aX2_houseByMiddle_84
theorem aX2_houseByMiddle_86 : dc_at cX2_houseByMiddle 86 sX2_houseByMiddle_86 := dc_n1 aX2_houseByMiddle_85
theorem aX2_houseByMiddle_87 : dc_at cX2_houseByMiddle 87 sX2_houseByMiddle_87 := dc_n1 aX2_houseByMiddle_86
theorem aX2_houseByMiddle_88 : dc_at cX2_houseByMiddle 88 sX2_houseByMiddle_88 := dc_n1 aX2_houseByMiddle_87
theorem aX2_houseByMiddle_90 : dc_at cX2_houseByMiddle 90 sX2_houseByMiddle_90 := dc_n2 aX2_houseByMiddle_88
theorem aX2_houseByMiddle_93 : dc_at cX2_houseByMiddle 93 sX2_houseByMiddle_93 := dc_n3 aX2_houseByMiddle_90
theorem aX2_houseByMiddle_94 : dc_at cX2_houseByMiddle 94 sX2_houseByMiddle_94 := dc_n1 aX2_houseByMiddle_93
theorem aX2_houseByMiddle_96 : dc_at cX2_houseByMiddle 96 sX2_houseByMiddle_96 := dc_n2 aX2_houseByMiddle_94
theorem aX2_houseByMiddle_97 : dc_at cX2_houseByMiddle 97 sX2_houseByMiddle_97 := dc_n1 aX2_houseByMiddle_96
theorem aX2_houseByMiddle_98 : dc_at cX2_houseByMiddle 98 sX2_houseByMiddle_98 := dc_n1 aX2_houseByMiddle_97
theorem aX2_houseByMiddle_100 : dc_at cX2_houseByMiddle 100 sX2_houseByMiddle_100 := dc_n2 aX2_houseByMiddle_98
theorem aX2_houseByMiddle_103 : dc_at cX2_houseByMiddle 103 sX2_houseByMiddle_103 := dc_n3 aX2_houseByMiddle_100
theorem aX2_houseByMiddle_104 : dc_at cX2_houseByMiddle 104 sX2_houseByMiddle_104 := dc_n1 aX2_houseByMiddle_103
theorem aX2_houseByMiddle_105 : dc_at cX2_houseByMiddle 105 sX2_houseByMiddle_105 := dc_n1 aX2_houseByMiddle_104
theorem aX2_houseByMiddle_106 : dc_at cX2_houseByMiddle 106 sX2_houseByMiddle_106 := dc_n1 aX2_houseByMiddle_105
theorem aX2_houseByMiddle_109 : dc_at cX2_houseByMiddle 109 sX2_houseByMiddle_109 := dc_n3 aX2_houseByMiddle_106
theorem aX2_houseByMiddle_112 : dc_at cX2_houseByMiddle 112 sX2_houseByMiddle_112 := dc_n3 aX2_houseByMiddle_109
theorem aX2_houseByMiddle_113 : dc_at cX2_houseByMiddle 113 sX2_houseByMiddle_113 := dc_n1 aX2_houseByMiddle_112
theorem aX2_houseByMiddle_114 : dc_at cX2_houseByMiddle 114 sX2_houseByMiddle_114 := dc_n1 aX2_houseByMiddle_113
theorem aX2_houseByMiddle_115 : dc_at cX2_houseByMiddle 115 sX2_houseByMiddle_115 := dc_n1 aX2_houseByMiddle_114
theorem aX2_houseByMiddle_116 : dc_at cX2_houseByMiddle 116 sX2_houseByMiddle_116 := dc_n1 aX2_houseByMiddle_115
theorem aX2_houseByMiddle_118 : dc_at cX2_houseByMiddle 118 sX2_houseByMiddle_118 := dc_n2 aX2_houseByMiddle_116
theorem aX2_houseByMiddle_120 : dc_at cX2_houseByMiddle 120 sX2_houseByMiddle_120 := dc_n2 aX2_houseByMiddle_118
theorem aX2_houseByMiddle_123 : dc_at cX2_houseByMiddle 123 sX2_houseByMiddle_123 := dc_n3 aX2_houseByMiddle_120
theorem aX2_houseByMiddle_125 : dc_at cX2_houseByMiddle 125 sX2_houseByMiddle_125 := dc_n2 aX2_houseByMiddle_123
theorem aX2_houseByMiddle_128 : dc_at cX2_houseByMiddle 128 sX2_houseByMiddle_128 := dc_n3 aX2_houseByMiddle_125
theorem aX2_houseByMiddle_129 : dc_at cX2_houseByMiddle 129 sX2_houseByMiddle_129 := dc_n1 aX2_houseByMiddle_128
theorem aX2_houseByMiddle_132 : dc_at cX2_houseByMiddle 132 sX2_houseByMiddle_132 := dc_n3 aX2_houseByMiddle_129
theorem aX2_houseByMiddle_134 : dc_at cX2_houseByMiddle 134 sX2_houseByMiddle_134 := dc_n2 aX2_houseByMiddle_132
theorem aX2_houseByMiddle_137 : dc_at cX2_houseByMiddle 137 sX2_houseByMiddle_137 := dc_n3 aX2_houseByMiddle_134
theorem aX2_houseByMiddle_138 : dc_at cX2_houseByMiddle 138 sX2_houseByMiddle_138 := dc_n1 aX2_houseByMiddle_137
theorem dX2_houseByMiddle_0 : decode cX2_houseByMiddle 0 = .ok (.iload_n 3, 1) := dc_29 aX2_houseByMiddle_0
theorem dX2_houseByMiddle_1 : decode cX2_houseByMiddle 1 = .ok (.iconst 4, 1) := dc_7 aX2_houseByMiddle_1
theorem dX2_houseByMiddle_2 : decode cX2_houseByMiddle 2 = .ok (.if_icmp .lt 13, 3) := dc_161 (a0 := 0) (b0 := 13) aX2_houseByMiddle_2 (by decide)
theorem dX2_houseByMiddle_5 : decode cX2_houseByMiddle 5 = .ok (.iload_n 3, 1) := dc_29 aX2_houseByMiddle_5
theorem dX2_houseByMiddle_6 : decode cX2_houseByMiddle 6 = .ok (.bipush 9, 2) := dc_16 (a0 := 9) aX2_houseByMiddle_6 (by decide)
theorem dX2_houseByMiddle_8 : decode cX2_houseByMiddle 8 = .ok (.if_icmp .gt 7, 3) := dc_163 (a0 := 0) (b0 := 7) aX2_houseByMiddle_8 (by decide)
theorem dX2_houseByMiddle_11 : decode cX2_houseByMiddle 11 = .ok (.iconst 1, 1) := dc_4 aX2_houseByMiddle_11
theorem dX2_houseByMiddle_12 : decode cX2_houseByMiddle 12 = .ok (.goto 4, 3) := dc_167 (a0 := 0) (b0 := 4) aX2_houseByMiddle_12 (by decide)
theorem dX2_houseByMiddle_15 : decode cX2_houseByMiddle 15 = .ok (.iconst 0, 1) := dc_3 aX2_houseByMiddle_15
theorem dX2_houseByMiddle_16 : decode cX2_houseByMiddle 16 = .ok (.istore 4, 2) := dc_54 (a0 := 4) aX2_houseByMiddle_16
theorem dX2_houseByMiddle_18 : decode cX2_houseByMiddle 18 = .ok (.iload 4, 2) := dc_21 (a0 := 4) aX2_houseByMiddle_18
theorem dX2_houseByMiddle_20 : decode cX2_houseByMiddle 20 = .ok (.ifCond .ne 7, 3) := dc_154 (a0 := 0) (b0 := 7) aX2_houseByMiddle_20 (by decide)
theorem dX2_houseByMiddle_23 : decode cX2_houseByMiddle 23 = .ok (.iload_n 3, 1) := dc_29 aX2_houseByMiddle_23
theorem dX2_houseByMiddle_24 : decode cX2_houseByMiddle 24 = .ok (.goto 20, 3) := dc_167 (a0 := 0) (b0 := 20) aX2_houseByMiddle_24 (by decide)
theorem dX2_houseByMiddle_27 : decode cX2_houseByMiddle 27 = .ok (.iload_n 3, 1) := dc_29 aX2_houseByMiddle_27
theorem dX2_houseByMiddle_28 : decode cX2_houseByMiddle 28 = .ok (.bipush 7, 2) := dc_16 (a0 := 7) aX2_houseByMiddle_28 (by decide)
theorem dX2_houseByMiddle_30 : decode cX2_houseByMiddle 30 = .ok (.if_icmp .ge 10, 3) := dc_162 (a0 := 0) (b0 := 10) aX2_houseByMiddle_30 (by decide)
theorem dX2_houseByMiddle_33 : decode cX2_houseByMiddle 33 = .ok (.iload_n 3, 1) := dc_29 aX2_houseByMiddle_33
theorem dX2_houseByMiddle_34 : decode cX2_houseByMiddle 34 = .ok (.bipush 6, 2) := dc_16 (a0 := 6) aX2_houseByMiddle_34 (by decide)
theorem dX2_houseByMiddle_36 : decode cX2_houseByMiddle 36 = .ok (.iadd, 1) := dc_96 aX2_houseByMiddle_36
theorem dX2_houseByMiddle_37 : decode cX2_houseByMiddle 37 = .ok (.goto 7, 3) := dc_167 (a0 := 0) (b0 := 7) aX2_houseByMiddle_37 (by decide)
theorem dX2_houseByMiddle_40 : decode cX2_houseByMiddle 40 = .ok (.iload_n 3, 1) := dc_29 aX2_houseByMiddle_40
theorem dX2_houseByMiddle_41 : decode cX2_houseByMiddle 41 = .ok (.bipush 6, 2) := dc_16 (a0 := 6) aX2_houseByMiddle_41 (by decide)
theorem dX2_houseByMiddle_43 : decode cX2_houseByMiddle 43 = .ok (.isub, 1) := dc_100 aX2_houseByMiddle_43
theorem dX2_houseByMiddle_44 : decode cX2_houseByMiddle 44 = .ok (.istore 5, 2) := dc_54 (a0 := 5) aX2_houseByMiddle_44
theorem dX2_houseByMiddle_46 : decode cX2_houseByMiddle 46 = .ok (.aload_n 0, 1) := dc_42 aX2_houseByMiddle_46
theorem dX2_houseByMiddle_47 : decode cX2_houseByMiddle 47 = .ok (.iload_n 2, 1) := dc_28 aX2_houseByMiddle_47
theorem dX2_houseByMiddle_48 : decode cX2_houseByMiddle 48 = .ok (.bipush 60, 2) := dc_16 (a0 := 60) aX2_houseByMiddle_48 (by decide)
theorem dX2_houseByMiddle_50 : decode cX2_houseByMiddle 50 = .ok (.iload_n 1, 1) := dc_27 aX2_houseByMiddle_50
theorem dX2_houseByMiddle_51 : decode cX2_houseByMiddle 51 = .ok (.imul, 1) := dc_104 aX2_houseByMiddle_51
theorem dX2_houseByMiddle_52 : decode cX2_houseByMiddle 52 = .ok (.invokevirtual 78, 3) := dc_182 (a0 := 0) (b0 := 78) aX2_houseByMiddle_52
theorem dX2_houseByMiddle_55 : decode cX2_houseByMiddle 55 = .ok (.bipush 60, 2) := dc_16 (a0 := 60) aX2_houseByMiddle_55 (by decide)
theorem dX2_houseByMiddle_57 : decode cX2_houseByMiddle 57 = .ok (.idiv, 1) := dc_108 aX2_houseByMiddle_57
theorem dX2_houseByMiddle_58 : decode cX2_houseByMiddle 58 = .ok (.istore 6, 2) := dc_54 (a0 := 6) aX2_houseByMiddle_58
theorem dX2_houseByMiddle_60 : decode cX2_houseByMiddle 60 = .ok (.iload 5, 2) := dc_21 (a0 := 5) aX2_houseByMiddle_60
theorem dX2_houseByMiddle_62 : decode cX2_houseByMiddle 62 = .ok (.bipush 10, 2) := dc_16 (a0 := 10) aX2_houseByMiddle_62 (by decide)
theorem dX2_houseByMiddle_64 : decode cX2_houseByMiddle 64 = .ok (.if_icmp .lt 29, 3) := dc_161 (a0 := 0) (b0 := 29) aX2_houseByMiddle_64 (by decide)
theorem dX2_houseByMiddle_67 : decode cX2_houseByMiddle 67 = .ok (.iload 6, 2) := dc_21 (a0 := 6) aX2_houseByMiddle_67
theorem dX2_houseByMiddle_69 : decode cX2_houseByMiddle 69 = .ok (.iload 5, 2) := dc_21 (a0 := 5) aX2_houseByMiddle_69
theorem dX2_houseByMiddle_71 : decode cX2_houseByMiddle 71 = .ok (.bipush 10, 2) := dc_16 (a0 := 10) aX2_houseByMiddle_71 (by decide)
theorem dX2_houseByMiddle_73 : decode cX2_houseByMiddle 73 = .ok (.isub, 1) := dc_100 aX2_houseByMiddle_73
theorem dX2_houseByMiddle_74 : decode cX2_houseByMiddle 74 = .ok (.iload_n 1, 1) := dc_27 aX2_houseByMiddle_74
theorem dX2_houseByMiddle_75 : decode cX2_houseByMiddle 75 = .ok (.iload 6, 2) := dc_21 (a0 := 6) aX2_houseByMiddle_75
theorem dX2_houseByMiddle_77 : decode cX2_houseByMiddle 77 = .ok (.isub, 1) := dc_100 aX2_houseByMiddle_77
theorem dX2_houseByMiddle_78 : decode cX2_houseByMiddle 78 = .ok (.sipush 360, 3) := dc_17 (a0 := 1) (b0 := 104) aX2_houseByMiddle_78 (by decide)
theorem dX2_houseByMiddle_81 : decode cX2_houseByMiddle 81 = .ok (.invokestatic 64, 3) := dc_184 (a0 := 0) (b0 := 64) aX2_houseByMiddle_81
theorem dX2_houseByMiddle_84 : decode cX2_houseByMiddle 84 = .ok (.imul, 1) := dc_104 aX2_houseByMiddle_84
theorem dX2_houseByMiddle_85 : decode cX2_houseByMiddle 85 = .ok (.iconst 3, 1) := dc_6 aX2_houseByMiddle_85
theorem dX2_houseByMiddle_86 : decode cX2_houseByMiddle 86 = .ok (.idiv, 1) := dc_108 aX2_houseByMiddle_86
theorem dX2_houseByMiddle_87 : decode cX2_houseByMiddle 87 = .ok (.iadd, 1) := dc_96 aX2_houseByMiddle_87
theorem dX2_houseByMiddle_88 : decode cX2_houseByMiddle 88 = .ok (.istore 7, 2) := dc_54 (a0 := 7) aX2_houseByMiddle_88
theorem dX2_houseByMiddle_90 : decode cX2_houseByMiddle 90 = .ok (.goto 28, 3) := dc_167 (a0 := 0) (b0 := 28) aX2_houseByMiddle_90 (by decide)
theorem dX2_houseByMiddle_93 : decode cX2_houseByMiddle 93 = .ok (.iload_n 1, 1) := dc_27 aX2_houseByMiddle_93
theorem dX2_houseByMiddle_94 : decode cX2_houseByMiddle 94 = .ok (.iload 5, 2) := dc_21 (a0 := 5) aX2_houseByMiddle_94
theorem dX2_houseByMiddle_96 : decode cX2_houseByMiddle 96 = .ok (.iconst 1, 1) := dc_4 aX2_houseByMiddle_96
theorem dX2_houseByMiddle_97 : decode cX2_houseByMiddle 97 = .ok (.isub, 1) := dc_100 aX2_houseByMiddle_97
theorem dX2_houseByMiddle_98 : decode cX2_houseByMiddle 98 = .ok (.iload 6, 2) := dc_21 (a0 := 6) aX2_houseByMiddle_98
theorem dX2_houseByMiddle_100 : decode cX2_houseByMiddle 100 = .ok (.sipush 180, 3) := dc_17 (a0 := 0) (b0 := 180) aX2_houseByMiddle_100 (by decide)
theorem dX2_houseByMiddle_103 : decode cX2_houseByMiddle 103 = .ok (.iadd, 1) := dc_96 aX2_houseByMiddle_103
theorem dX2_houseByMiddle_104 : decode cX2_houseByMiddle 104 = .ok (.iload_n 1, 1) := dc_27 aX2_houseByMiddle_104
theorem dX2_houseByMiddle_105 : decode cX2_houseByMiddle 105 = .ok (.isub, 1) := dc_100 aX2_houseByMiddle_105
theorem dX2_houseByMiddle_106 : decode cX2_houseByMiddle 106 = .ok (.sipush 360, 3) := dc_17 (a0 := 1) (b0 := 104) aX2_houseByMiddle_106 (by decide)
theorem dX2_houseByMiddle_109 : decode cX2_houseByMiddle 109 = .ok (.invokestatic 64, 3) := dc_184 (a0 := 0) (b0 := 64) aX2_houseByMiddle_109
theorem dX2_houseByMiddle_112 : decode cX2_houseByMiddle 112 = .ok (.imul, 1) := dc_104 aX2_houseByMiddle_112
theorem dX2_houseByMiddle_113 : decode cX2_houseByMiddle 113 = .ok (.iconst 3, 1) := dc_6 aX2_houseByMiddle_113
theorem dX2_houseByMiddle_114 : decode cX2_houseByMiddle 114 = .ok (.idiv, 1) := dc_108 aX2_houseByMiddle_114
theorem dX2_houseByMiddle_115 : decode cX2_houseByMiddle 115 = .ok (.iadd, 1) := dc_96 aX2_houseByMiddle_115
theorem dX2_houseByMiddle_116 : decode cX2_houseByMiddle 116 = .ok (.istore 7, 2) := dc_54 (a0 := 7) aX2_houseByMiddle_116
theorem dX2_houseByMiddle_118 : decode cX2_houseByMiddle 118 = .ok (.iload 4, 2) := dc_21 (a0 := 4) aX2_houseByMiddle_118
theorem dX2_houseByMiddle_120 : decode cX2_houseByMiddle 120 = .ok (.ifCond .eq 12, 3) := dc_153 (a0 := 0) (b0 := 12) aX2_houseByMiddle_120 (by decide)
theorem dX2_houseByMiddle_123 : decode cX2_houseByMiddle 123 = .ok (.iload 7, 2) := dc_21 (a0 := 7) aX2_houseByMiddle_123
theorem dX2_houseByMiddle_125 : decode cX2_houseByMiddle 125 = .ok (.sipush 180, 3) := dc_17 (a0 := 0) (b0 := 180) aX2_houseByMiddle_125 (by decide)
theorem dX2_houseByMiddle_128 : decode cX2_houseByMiddle 128 = .ok (.iadd, 1) := dc_96 aX2_houseByMiddle_128
theorem dX2_houseByMiddle_129 : decode cX2_houseByMiddle 129 = .ok (.goto 5, 3) := dc_167 (a0 := 0) (b0 := 5) aX2_houseByMiddle_129 (by decide)
theorem dX2_houseByMiddle_132 : decode cX2_houseByMiddle 132 = .ok (.iload 7, 2) := dc_21 (a0 := 7) aX2_houseByMiddle_132
theorem dX2_houseByMiddle_134 : decode cX2_houseByMiddle 134 = .ok (.sipush 360, 3) := dc_17 (a0 := 1) (b0 := 104) aX2_houseByMiddle_134 (by decide)
theorem dX2_houseByMiddle_137 : decode cX2_houseByMiddle 137 = .ok (.irem, 1) := dc_112 aX2_houseByMiddle_137
theorem dX2_houseByMiddle_138 : decode cX2_houseByMiddle 138 = .ok (.ireturn, 1) := dc_172 aX2_houseByMiddle_138
noncomputable def sX3_init_12 : List Nat := 177 :: []
noncomputable def sX3_init_9 : List Nat := 181 :: 0 :: 9 :: sX3_init_12
noncomputable def sX3_init_7 : List Nat := 188 :: 10 :: sX3_init_9
noncomputable def sX3_init_5 : List Nat := 16 :: 7 :: sX3_init_7
noncomputable def sX3_init_4 : List Nat := 42 :: sX3_init_5
noncomputable def sX3_init_1 : List Nat := 183 :: 0 :: 3 :: sX3_init_4
noncomputable def sX3_init_0 : List Nat := 42 :: sX3_init_1
theorem aX3_init_0 : dc_at cX3_init 0 sX3_init_0 := dc_base (by decide +kernel)
theorem aX3_init_1 : dc_at cX3_init 1 sX3_init_1 := dc_n1 aX3_init_0
theorem aX3_init_4 : dc_at cX3_init 4 sX3_init_4 := dc_n3 aX3_init_1
theorem aX3_init_5 : dc_at cX3_init 5 sX3_init_5 := dc_n1 aX3_init_4
theorem aX3_init_7 : dc_at cX3_init 7 sX3_init_7 := dc_n2 aX3_init_5
theorem aX3_init_9 : dc_at cX3_init 9 sX3_init_9 := dc_n2 aX3_init_7
theorem aX3_init_12 : dc_at cX3_init 12 sX3_init_12 := dc_n3 aX3_init_9
theorem dX3_init_0 : decode cX3_init 0 = .ok (.aload_n 0, 1) := dc_42 aX3_init_0
theorem dX3_init_1 : decode cX3_init 1 = .ok (.invokespecial 3, 3) := dc_183 (a0 := 0) (b0 := 3) aX3_init_1
theorem dX3_init_4 : decode cX3_init 4 = .ok (.aload_n 0, 1) := dc_42 aX3_init_4
theorem dX3_init_5 : decode cX3_init 5 = .ok (.bipush 7, 2) := dc_16 (a0 := 7) aX3_init_5 (by decide)
theorem dX3_init_7 : decode cX3_init 7 = .ok (.newarray .int, 2) := dc_188_10 aX3_init_7
theorem dX3_init_9 : decode cX3_init 9 = .ok (.putfield 9, 3) := dc_181 (a0 := 0) (b0 := 9) aX3_init_9
theorem dX3_init_12 : decode cX3_init 12 = .ok (.return_, 1) := dc_177 aX3_init_12
set_option maxRecDepth 20000 in
theorem ggX3_costOn_X1_degreeOf : GoodIn wsX3_costOn wsX1_degreeOf := goodIn_k _ [[6, 0, 51, 0]] (by rfl) (by decide +kernel)
set_option maxRecDepth 20000 in
theorem gX3_costOn_X1_degreeOf : GoodIn wsX3_costOn (wsV RX3 15 RX1 yX1_degreeOf wsX1_degreeOf) := goodIn_app (goodIn_of _ (by decide +kernel)) ggX3_costOn_X1_degreeOf
set_option maxRecDepth 20000 in
theorem ggX3_costOn_X5_degreeOn : GoodIn wsX3_costOn wsX5_degreeOn := goodIn_k _ [[12, 0, 0, 0], [11, 4, 0, 0, 0, 0, 0, 0, 0, 0, 0, 0, 0, 0, 0, 0, 0, 0, 0, 0, 0, 0, 0, 0, 14, 0, 0, 0, 0, 0]] (by rfl) (by decide +kernel)
set_option maxRecDepth 20000 in
theorem gX3_costOn_X5_degreeOn : GoodIn wsX3_costOn (wsV RX3 27 RX5 yX5_degreeOn wsX5_degreeOn) := goodIn_app (goodIn_of _ (by decide +kernel)) ggX3_costOn_X5_degreeOn
set_option maxRecDepth 20000 in
theorem ggX3_costOn_X4_costBeside : GoodIn wsX3_costOn wsX4_costBeside := goodIn_k _ [[43, 0, 0, 0], [42, 4, 0, 0, 0, 0, 0, 8, 0]] (by rfl) (by decide +kernel)
set_option maxRecDepth 20000 in
theorem gX3_costOn_X4_costBeside : GoodIn wsX3_costOn (wsV RX3 31 RX4 yX4_costBeside wsX4_costBeside) := goodIn_app (goodIn_of _ (by decide +kernel)) ggX3_costOn_X4_costBeside
noncomputable def sX3_costOn_97 : List Nat := 172 :: []
noncomputable def sX3_costOn_95 : List Nat := 21 :: 7 :: sX3_costOn_97
noncomputable def sX3_costOn_92 : List Nat := 167 :: 255 :: 201 :: sX3_costOn_95
noncomputable def sX3_costOn_89 : List Nat := 132 :: 8 :: 1 :: sX3_costOn_92
noncomputable def sX3_costOn_87 : List Nat := 54 :: 7 :: sX3_costOn_89
noncomputable def sX3_costOn_86 : List Nat := 96 :: sX3_costOn_87
noncomputable def sX3_costOn_83 : List Nat := 182 :: 0 :: 31 :: sX3_costOn_86
noncomputable def sX3_costOn_80 : List Nat := 182 :: 0 :: 27 :: sX3_costOn_83
noncomputable def sX3_costOn_78 : List Nat := 21 :: 4 :: sX3_costOn_80
noncomputable def sX3_costOn_76 : List Nat := 21 :: 8 :: sX3_costOn_78
noncomputable def sX3_costOn_75 : List Nat := 29 :: sX3_costOn_76
noncomputable def sX3_costOn_74 : List Nat := 42 :: sX3_costOn_75
noncomputable def sX3_costOn_72 : List Nat := 21 :: 9 :: sX3_costOn_74
noncomputable def sX3_costOn_69 : List Nat := 180 :: 0 :: 21 :: sX3_costOn_72
noncomputable def sX3_costOn_68 : List Nat := 42 :: sX3_costOn_69
noncomputable def sX3_costOn_66 : List Nat := 21 :: 7 :: sX3_costOn_68
noncomputable def sX3_costOn_63 : List Nat := 159 :: 0 :: 26 :: sX3_costOn_66
noncomputable def sX3_costOn_62 : List Nat := 2 :: sX3_costOn_63
noncomputable def sX3_costOn_60 : List Nat := 21 :: 9 :: sX3_costOn_62
noncomputable def sX3_costOn_58 : List Nat := 54 :: 9 :: sX3_costOn_60
noncomputable def sX3_costOn_55 : List Nat := 182 :: 0 :: 15 :: sX3_costOn_58
noncomputable def sX3_costOn_53 : List Nat := 21 :: 8 :: sX3_costOn_55
noncomputable def sX3_costOn_52 : List Nat := 28 :: sX3_costOn_53
noncomputable def sX3_costOn_51 : List Nat := 43 :: sX3_costOn_52
noncomputable def sX3_costOn_48 : List Nat := 163 :: 0 :: 47 :: sX3_costOn_51
noncomputable def sX3_costOn_46 : List Nat := 21 :: 5 :: sX3_costOn_48
noncomputable def sX3_costOn_44 : List Nat := 21 :: 7 :: sX3_costOn_46
noncomputable def sX3_costOn_41 : List Nat := 162 :: 0 :: 54 :: sX3_costOn_44
noncomputable def sX3_costOn_39 : List Nat := 16 :: 7 :: sX3_costOn_41
noncomputable def sX3_costOn_37 : List Nat := 21 :: 8 :: sX3_costOn_39
noncomputable def sX3_costOn_35 : List Nat := 54 :: 8 :: sX3_costOn_37
noncomputable def sX3_costOn_34 : List Nat := 3 :: sX3_costOn_35
noncomputable def sX3_costOn_32 : List Nat := 54 :: 7 :: sX3_costOn_34
noncomputable def sX3_costOn_31 : List Nat := 3 :: sX3_costOn_32
noncomputable def sX3_costOn_28 : List Nat := 167 :: 0 :: 4 :: sX3_costOn_31
noncomputable def sX3_costOn_26 : List Nat := 16 :: 30 :: sX3_costOn_28
noncomputable def sX3_costOn_23 : List Nat := 159 :: 0 :: 8 :: sX3_costOn_26
noncomputable def sX3_costOn_22 : List Nat := 112 :: sX3_costOn_23
noncomputable def sX3_costOn_19 : List Nat := 17 :: 1 :: 109 :: sX3_costOn_22
noncomputable def sX3_costOn_17 : List Nat := 21 :: 4 :: sX3_costOn_19
noncomputable def sX3_costOn_15 : List Nat := 21 :: 6 :: sX3_costOn_17
noncomputable def sX3_costOn_12 : List Nat := 159 :: 0 :: 19 :: sX3_costOn_15
noncomputable def sX3_costOn_11 : List Nat := 2 :: sX3_costOn_12
noncomputable def sX3_costOn_9 : List Nat := 21 :: 6 :: sX3_costOn_11
noncomputable def sX3_costOn_7 : List Nat := 54 :: 6 :: sX3_costOn_9
noncomputable def sX3_costOn_4 : List Nat := 182 :: 0 :: 15 :: sX3_costOn_7
noncomputable def sX3_costOn_2 : List Nat := 16 :: 21 :: sX3_costOn_4
noncomputable def sX3_costOn_1 : List Nat := 28 :: sX3_costOn_2
noncomputable def sX3_costOn_0 : List Nat := 43 :: sX3_costOn_1
theorem aX3_costOn_0 : dc_at cX3_costOn 0 sX3_costOn_0 := dc_base (by decide +kernel)
theorem aX3_costOn_1 : dc_at cX3_costOn 1 sX3_costOn_1 := dc_n1 aX3_costOn_0
theorem aX3_costOn_2 : dc_at cX3_costOn 2 sX3_costOn_2 := dc_n1 aX3_costOn_1
theorem aX3_costOn_4 : dc_at cX3_costOn 4 sX3_costOn_4 := dc_n2 aX3_costOn_2
theorem aX3_costOn_7 : dc_at cX3_costOn 7 sX3_costOn_7 := dc_n3 aX3_costOn_4
theorem aX3_costOn_9 : dc_at cX3_costOn 9 sX3_costOn_9 := dc_n2 aX3_costOn_7
theorem aX3_costOn_11 : dc_at cX3_costOn 11 sX3_costOn_11 := dc_n2 aX3_costOn_9
theorem aX3_costOn_12 : dc_at cX3_costOn 12 sX3_costOn_12 := dc_n1 aX3_costOn_11
theorem aX3_costOn_15 : dc_at cX3_costOn 15 sX3_costOn_15 := dc_n3 aX3_costOn_12
theorem aX3_costOn_17 : dc_at cX3_costOn 17 sX3_costOn_17 := dc_n2 aX3_costOn_15
theorem aX3_costOn_19 : dc_at cX3_costOn 19 sX3_costOn_19 := dc_n2 aX3_costOn_17
theorem aX3_costOn_22 : dc_at cX3_costOn 22 sX3_costOn_22 := dc_n3 aX3_costOn_19
theorem aX3_costOn_23 : dc_at cX3_costOn 23 sX3_costOn_23 := dc_n1 aX3_costOn_22
theorem aX3_costOn_26 : dc_at cX3_costOn 26 sX3_costOn_26 := dc_n3 aX3_costOn_23
theorem aX3_costOn_28 : dc_at cX3_costOn 28 sX3_costOn_28 := dc_n2 aX3_costOn_26
theorem aX3_costOn_31 : dc_at cX3_costOn 31 sX3_costOn_31 := dc_n3 aX3_costOn_28
theorem aX3_costOn_32 : dc_at cX3_costOn 32 sX3_costOn_32 := dc_n1 aX3_costOn_31
theorem aX3_costOn_34 : dc_at cX3_costOn 34 sX3_costOn_34 := dc_n2 aX3_costOn_32
theorem aX3_costOn_35 : dc_at cX3_costOn 35 sX3_costOn_35 := dc_n1 aX3_costOn_34
theorem aX3_costOn_37 : dc_at cX3_costOn 37 sX3_costOn_37 := dc_n2 aX3_costOn_35
theorem aX3_costOn_39 : dc_at cX3_costOn 39 sX3_costOn_39 := dc_n2 aX3_costOn_37
theorem aX3_costOn_41 : dc_at cX3_costOn 41 sX3_costOn_41 := dc_n2 aX3_costOn_39
theorem aX3_costOn_44 : dc_at cX3_costOn 44 sX3_costOn_44 := dc_n3 aX3_costOn_41
theorem aX3_costOn_46 : dc_at cX3_costOn 46 sX3_costOn_46 := dc_n2 aX3_costOn_44
theorem aX3_costOn_48 : dc_at cX3_costOn 48 sX3_costOn_48 := dc_n2 aX3_costOn_46
theorem aX3_costOn_51 : dc_at cX3_costOn 51 sX3_costOn_51 := dc_n3 aX3_costOn_48
theorem aX3_costOn_52 : dc_at cX3_costOn 52 sX3_costOn_52 := dc_n1 aX3_costOn_51
theorem aX3_costOn_53 : dc_at cX3_costOn 53 sX3_costOn_53 := dc_n1 aX3_costOn_52
theorem aX3_costOn_55 : dc_at cX3_costOn 55 sX3_costOn_55 := dc_n2 aX3_costOn_53
theorem aX3_costOn_58 : dc_at cX3_costOn 58 sX3_costOn_58 := dc_n3 aX3_costOn_55
theorem aX3_costOn_60 : dc_at cX3_costOn 60 sX3_costOn_60 := dc_n2 aX3_costOn_58
theorem aX3_costOn_62 : dc_at cX3_costOn 62 sX3_costOn_62 := dc_n2 aX3_costOn_60
theorem aX3_costOn_63 : dc_at cX3_costOn 63 sX3_costOn_63 := dc_n1 aX3_costOn_62
theorem aX3_costOn_66 : dc_at cX3_costOn 66 sX3_costOn_66 := dc_n3 aX3_costOn_63
theorem aX3_costOn_68 : dc_at cX3_costOn 68 sX3_costOn_68 := dc_n2 aX3_costOn_66
theorem aX3_costOn_69 : dc_at cX3_costOn 69 sX3_costOn_69 := dc_n1 aX3_costOn_68
theorem aX3_costOn_72 : dc_at cX3_costOn 72 sX3_costOn_72 := dc_n3 aX3_costOn_69
theorem aX3_costOn_74 : dc_at cX3_costOn 74 sX3_costOn_74 := dc_n2 aX3_costOn_72
theorem aX3_costOn_75 : dc_at cX3_costOn 75 sX3_costOn_75 := dc_n1 aX3_costOn_74
theorem aX3_costOn_76 : dc_at cX3_costOn 76 sX3_costOn_76 := dc_n1 aX3_costOn_75
theorem aX3_costOn_78 : dc_at cX3_costOn 78 sX3_costOn_78 := dc_n2 aX3_costOn_76
theorem aX3_costOn_80 : dc_at cX3_costOn 80 sX3_costOn_80 := dc_n2 aX3_costOn_78
theorem aX3_costOn_83 : dc_at cX3_costOn 83 sX3_costOn_83 := dc_n3 aX3_costOn_80
theorem aX3_costOn_86 : dc_at cX3_costOn 86 sX3_costOn_86 := dc_n3 aX3_costOn_83
theorem aX3_costOn_87 : dc_at cX3_costOn 87 sX3_costOn_87 := dc_n1 aX3_costOn_86
theorem aX3_costOn_89 : dc_at cX3_costOn 89 sX3_costOn_89 := dc_n2 aX3_costOn_87
theorem aX3_costOn_92 : dc_at cX3_costOn 92 sX3_costOn_92 := dc_n3 aX3_costOn_89
theorem aX3_costOn_95 : dc_at cX3_costOn 95 sX3_costOn_95 := dc_n3 aX3_costOn_92
theorem aX3_costOn_97 : dc_at cX3_costOn 97 sX3_costOn_97 := dc_n2 aX3_costOn_95
theorem dX3_costOn_0 : decode cX3_costOn 0 = .ok (.aload_n 1, 1) := dc_43 aX3_costOn_0
theorem dX3_costOn_1 : decode cX3_costOn 1 = .ok (.iload_n 2, 1) := dc_28 aX3_costOn_1
theorem dX3_costOn_2 : decode cX3_costOn 2 = .ok (.bipush 21, 2) := dc_16 (a0 := 21) aX3_costOn_2 (by decide)
theorem dX3_costOn_4 : decode cX3_costOn 4 = .ok (.invokevirtual 15, 3) := dc_182 (a0 := 0) (b0 := 15) aX3_costOn_4
theorem dX3_costOn_7 : decode cX3_costOn 7 = .ok (.istore 6, 2) := dc_54 (a0 := 6) aX3_costOn_7
theorem dX3_costOn_9 : decode cX3_costOn 9 = .ok (.iload 6, 2) := dc_21 (a0 := 6) aX3_costOn_9
theorem dX3_costOn_11 : decode cX3_costOn 11 = .ok (.iconst (-1), 1) := dc_2 aX3_costOn_11
theorem dX3_costOn_12 : decode cX3_costOn 12 = .ok (.if_icmp .eq 19, 3) := dc_159 (a0 := 0) (b0 := 19) aX3_costOn_12 (by decide)
theorem dX3_costOn_15 : decode cX3_costOn 15 = .ok (.iload 6, 2) := dc_21 (a0 := 6) aX3_costOn_15
theorem dX3_costOn_17 : decode cX3_costOn 17 = .ok (.iload 4, 2) := dc_21 (a0 := 4) aX3_costOn_17
theorem dX3_costOn_19 : decode cX3_costOn 19 = .ok (.sipush 365, 3) := dc_17 (a0 := 1) (b0 := 109) aX3_costOn_19 (by decide)
theorem dX3_costOn_22 : decode cX3_costOn 22 = .ok (.irem, 1) := dc_112 aX3_costOn_22
theorem dX3_costOn_23 : decode cX3_costOn 23 = .ok (.if_icmp .eq 8, 3) := dc_159 (a0 := 0) (b0 := 8) aX3_costOn_23 (by decide)
theorem dX3_costOn_26 : decode cX3_costOn 26 = .ok (.bipush 30, 2) := dc_16 (a0 := 30) aX3_costOn_26 (by decide)
theorem dX3_costOn_28 : decode cX3_costOn 28 = .ok (.goto 4, 3) := dc_167 (a0 := 0) (b0 := 4) aX3_costOn_28 (by decide)
theorem dX3_costOn_31 : decode cX3_costOn 31 = .ok (.iconst 0, 1) := dc_3 aX3_costOn_31
theorem dX3_costOn_32 : decode cX3_costOn 32 = .ok (.istore 7, 2) := dc_54 (a0 := 7) aX3_costOn_32
theorem dX3_costOn_34 : decode cX3_costOn 34 = .ok (.iconst 0, 1) := dc_3 aX3_costOn_34
theorem dX3_costOn_35 : decode cX3_costOn 35 = .ok (.istore 8, 2) := dc_54 (a0 := 8) aX3_costOn_35
theorem dX3_costOn_37 : decode cX3_costOn 37 = .ok (.iload 8, 2) := dc_21 (a0 := 8) aX3_costOn_37
theorem dX3_costOn_39 : decode cX3_costOn 39 = .ok (.bipush 7, 2) := dc_16 (a0 := 7) aX3_costOn_39 (by decide)
theorem dX3_costOn_41 : decode cX3_costOn 41 = .ok (.if_icmp .ge 54, 3) := dc_162 (a0 := 0) (b0 := 54) aX3_costOn_41 (by decide)
theorem dX3_costOn_44 : decode cX3_costOn 44 = .ok (.iload 7, 2) := dc_21 (a0 := 7) aX3_costOn_44
theorem dX3_costOn_46 : decode cX3_costOn 46 = .ok (.iload 5, 2) := dc_21 (a0 := 5) aX3_costOn_46
theorem dX3_costOn_48 : decode cX3_costOn 48 = .ok (.if_icmp .gt 47, 3) := dc_163 (a0 := 0) (b0 := 47) aX3_costOn_48 (by decide)
theorem dX3_costOn_51 : decode cX3_costOn 51 = .ok (.aload_n 1, 1) := dc_43 aX3_costOn_51
theorem dX3_costOn_52 : decode cX3_costOn 52 = .ok (.iload_n 2, 1) := dc_28 aX3_costOn_52
theorem dX3_costOn_53 : decode cX3_costOn 53 = .ok (.iload 8, 2) := dc_21 (a0 := 8) aX3_costOn_53
theorem dX3_costOn_55 : decode cX3_costOn 55 = .ok (.invokevirtual 15, 3) := dc_182 (a0 := 0) (b0 := 15) aX3_costOn_55
theorem dX3_costOn_58 : decode cX3_costOn 58 = .ok (.istore 9, 2) := dc_54 (a0 := 9) aX3_costOn_58
theorem dX3_costOn_60 : decode cX3_costOn 60 = .ok (.iload 9, 2) := dc_21 (a0 := 9) aX3_costOn_60
theorem dX3_costOn_62 : decode cX3_costOn 62 = .ok (.iconst (-1), 1) := dc_2 aX3_costOn_62
theorem dX3_costOn_63 : decode cX3_costOn 63 = .ok (.if_icmp .eq 26, 3) := dc_159 (a0 := 0) (b0 := 26) aX3_costOn_63 (by decide)
theorem dX3_costOn_66 : decode cX3_costOn 66 = .ok (.iload 7, 2) := dc_21 (a0 := 7) aX3_costOn_66
theorem dX3_costOn_68 : decode cX3_costOn 68 = .ok (.aload_n 0, 1) := dc_42 aX3_costOn_68
theorem dX3_costOn_69 : decode cX3_costOn 69 = .ok (.getfield 21, 3) := dc_180 (a0 := 0) (b0 := 21) aX3_costOn_69
theorem dX3_costOn_72 : decode cX3_costOn 72 = .ok (.iload 9, 2) := dc_21 (a0 := 9) aX3_costOn_72
theorem dX3_costOn_74 : decode cX3_costOn 74 = .ok (.aload_n 0, 1) := dc_42 aX3_costOn_74
theorem dX3_costOn_75 : decode cX3_costOn 75 = .ok (.iload_n 3, 1) := dc_29 aX3_costOn_75
theorem dX3_costOn_76 : decode cX3_costOn 76 = .ok (.iload 8, 2) := dc_21 (a0 := 8) aX3_costOn_76
theorem dX3_costOn_78 : decode cX3_costOn 78 = .ok (.iload 4, 2) := dc_21 (a0 := 4) aX3_costOn_78
theorem dX3_costOn_80 : decode cX3_costOn 80 = .ok (.invokevirtual 27, 3) := dc_182 (a0 := 0) (b0 := 27) aX3_costOn_80
theorem dX3_costOn_83 : decode cX3_costOn 83 = .ok (.invokevirtual 31, 3) := dc_182 (a0 := 0) (b0 := 31) aX3_costOn_83
theorem dX3_costOn_86 : decode cX3_costOn 86 = .ok (.iadd, 1) := dc_96 aX3_costOn_86
theorem dX3_costOn_87 : decode cX3_costOn 87 = .ok (.istore 7, 2) := dc_54 (a0 := 7) aX3_costOn_87
theorem dX3_costOn_89 : decode cX3_costOn 89 = .ok (.iinc 8 1, 3) := dc_132 (a0 := 8) (a1 := 1) aX3_costOn_89 (by decide)
theorem dX3_costOn_92 : decode cX3_costOn 92 = .ok (.goto (-55), 3) := dc_167 (a0 := 255) (b0 := 201) aX3_costOn_92 (by decide)
theorem dX3_costOn_95 : decode cX3_costOn 95 = .ok (.iload 7, 2) := dc_21 (a0 := 7) aX3_costOn_95
theorem dX3_costOn_97 : decode cX3_costOn 97 = .ok (.ireturn, 1) := dc_172 aX3_costOn_97
set_option maxRecDepth 20000 in
theorem ggX3_setsAt_X5_degreeOn : GoodIn wsX3_setsAt wsX5_degreeOn := goodIn_k _ [[5, 0, 0, 0], [4, 4, 0, 0, 0, 0, 0, 0, 0, 0, 0, 0, 0, 0, 0, 0, 0, 0, 0, 0, 0, 0, 0, 0, 0, 0, 0, 0, 0, 0]] (by rfl) (by decide +kernel)
set_option maxRecDepth 20000 in
theorem gX3_setsAt_X5_degreeOn : GoodIn wsX3_setsAt (wsV RX3 27 RX5 yX5_degreeOn wsX5_degreeOn) := goodIn_app (goodIn_of _ (by decide +kernel)) ggX3_setsAt_X5_degreeOn
noncomputable def sX3_setsAt_41 : List Nat := 172 :: []
noncomputable def sX3_setsAt_39 : List Nat := 21 :: 4 :: sX3_setsAt_41
noncomputable def sX3_setsAt_36 : List Nat := 167 :: 255 :: 226 :: sX3_setsAt_39
noncomputable def sX3_setsAt_33 : List Nat := 132 :: 5 :: 1 :: sX3_setsAt_36
noncomputable def sX3_setsAt_31 : List Nat := 54 :: 4 :: sX3_setsAt_33
noncomputable def sX3_setsAt_30 : List Nat := 128 :: sX3_setsAt_31
noncomputable def sX3_setsAt_29 : List Nat := 120 :: sX3_setsAt_30
noncomputable def sX3_setsAt_27 : List Nat := 21 :: 5 :: sX3_setsAt_29
noncomputable def sX3_setsAt_26 : List Nat := 4 :: sX3_setsAt_27
noncomputable def sX3_setsAt_24 : List Nat := 21 :: 4 :: sX3_setsAt_26
noncomputable def sX3_setsAt_21 : List Nat := 160 :: 0 :: 12 :: sX3_setsAt_24
noncomputable def sX3_setsAt_20 : List Nat := 27 :: sX3_setsAt_21
noncomputable def sX3_setsAt_17 : List Nat := 182 :: 0 :: 27 :: sX3_setsAt_20
noncomputable def sX3_setsAt_16 : List Nat := 29 :: sX3_setsAt_17
noncomputable def sX3_setsAt_15 : List Nat := 28 :: sX3_setsAt_16
noncomputable def sX3_setsAt_13 : List Nat := 21 :: 5 :: sX3_setsAt_15
noncomputable def sX3_setsAt_12 : List Nat := 42 :: sX3_setsAt_13
noncomputable def sX3_setsAt_9 : List Nat := 162 :: 0 :: 30 :: sX3_setsAt_12
noncomputable def sX3_setsAt_8 : List Nat := 7 :: sX3_setsAt_9
noncomputable def sX3_setsAt_6 : List Nat := 21 :: 5 :: sX3_setsAt_8
noncomputable def sX3_setsAt_4 : List Nat := 54 :: 5 :: sX3_setsAt_6
noncomputable def sX3_setsAt_3 : List Nat := 3 :: sX3_setsAt_4
noncomputable def sX3_setsAt_1 : List Nat := 54 :: 4 :: sX3_setsAt_3
noncomputable def sX3_setsAt_0 : List Nat := 3 :: sX3_setsAt_1
theorem aX3_setsAt_0 : dc_at cX3_setsAt 0 sX3_setsAt_0 := dc_base (by decide +kernel)
theorem aX3_setsAt_1 : dc_at cX3_setsAt 1 sX3_setsAt_1 := dc_n1 aX3_setsAt_0
theorem aX3_setsAt_3 : dc_at cX3_setsAt 3 sX3_setsAt_3 := dc_n2 aX3_setsAt_1
theorem aX3_setsAt_4 : dc_at cX3_setsAt 4 sX3_setsAt_4 := dc_n1 aX3_setsAt_3
theorem aX3_setsAt_6 : dc_at cX3_setsAt 6 sX3_setsAt_6 := dc_n2 aX3_setsAt_4
theorem aX3_setsAt_8 : dc_at cX3_setsAt 8 sX3_setsAt_8 := dc_n2 aX3_setsAt_6
theorem aX3_setsAt_9 : dc_at cX3_setsAt 9 sX3_setsAt_9 := dc_n1 aX3_setsAt_8
theorem aX3_setsAt_12 : dc_at cX3_setsAt 12 sX3_setsAt_12 := dc_n3 aX3_setsAt_9
theorem aX3_setsAt_13 : dc_at cX3_setsAt 13 sX3_setsAt_13 := dc_n1 aX3_setsAt_12
theorem aX3_setsAt_15 : dc_at cX3_setsAt 15 sX3_setsAt_15 := dc_n2 aX3_setsAt_13
theorem aX3_setsAt_16 : dc_at cX3_setsAt 16 sX3_setsAt_16 := dc_n1 aX3_setsAt_15
theorem aX3_setsAt_17 : dc_at cX3_setsAt 17 sX3_setsAt_17 := dc_n1 aX3_setsAt_16
theorem aX3_setsAt_20 : dc_at cX3_setsAt 20 sX3_setsAt_20 := dc_n3 aX3_setsAt_17
theorem aX3_setsAt_21 : dc_at cX3_setsAt 21 sX3_setsAt_21 := dc_n1 aX3_setsAt_20
theorem aX3_setsAt_24 : dc_at cX3_setsAt 24 sX3_setsAt_24 := dc_n3 aX3_setsAt_21
theorem aX3_setsAt_26 : dc_at cX3_setsAt 26 sX3_setsAt_26 := dc_n2 aX3_setsAt_24
theorem aX3_setsAt_27 : dc_at cX3_setsAt 27 sX3_setsAt_27 := dc_n1 aX3_setsAt_26
theorem aX3_setsAt_29 : dc_at cX3_setsAt 29 sX3_setsAt_29 := dc_n2 aX3_setsAt_27
theorem aX3_setsAt_30 : dc_at cX3_setsAt 30 sX3_setsAt_30 := dc_n1 aX3_setsAt_29
theorem aX3_setsAt_31 : dc_at cX3_setsAt 31 sX3_setsAt_31 := dc_n1 aX3_setsAt_30
theorem aX3_setsAt_33 : dc_at cX3_setsAt 33 sX3_setsAt_33 := dc_n2 aX3_setsAt_31
theorem aX3_setsAt_36 : dc_at cX3_setsAt 36 sX3_setsAt_36 := dc_n3 aX3_setsAt_33
theorem aX3_setsAt_39 : dc_at cX3_setsAt 39 sX3_setsAt_39 := dc_n3 aX3_setsAt_36
theorem aX3_setsAt_41 : dc_at cX3_setsAt 41 sX3_setsAt_41 := dc_n2 aX3_setsAt_39
theorem dX3_setsAt_0 : decode cX3_setsAt 0 = .ok (.iconst 0, 1) := dc_3 aX3_setsAt_0
theorem dX3_setsAt_1 : decode cX3_setsAt 1 = .ok (.istore 4, 2) := dc_54 (a0 := 4) aX3_setsAt_1
theorem dX3_setsAt_3 : decode cX3_setsAt 3 = .ok (.iconst 0, 1) := dc_3 aX3_setsAt_3
theorem dX3_setsAt_4 : decode cX3_setsAt 4 = .ok (.istore 5, 2) := dc_54 (a0 := 5) aX3_setsAt_4
theorem dX3_setsAt_6 : decode cX3_setsAt 6 = .ok (.iload 5, 2) := dc_21 (a0 := 5) aX3_setsAt_6
theorem dX3_setsAt_8 : decode cX3_setsAt 8 = .ok (.iconst 4, 1) := dc_7 aX3_setsAt_8
theorem dX3_setsAt_9 : decode cX3_setsAt 9 = .ok (.if_icmp .ge 30, 3) := dc_162 (a0 := 0) (b0 := 30) aX3_setsAt_9 (by decide)
theorem dX3_setsAt_12 : decode cX3_setsAt 12 = .ok (.aload_n 0, 1) := dc_42 aX3_setsAt_12
theorem dX3_setsAt_13 : decode cX3_setsAt 13 = .ok (.iload 5, 2) := dc_21 (a0 := 5) aX3_setsAt_13
theorem dX3_setsAt_15 : decode cX3_setsAt 15 = .ok (.iload_n 2, 1) := dc_28 aX3_setsAt_15
theorem dX3_setsAt_16 : decode cX3_setsAt 16 = .ok (.iload_n 3, 1) := dc_29 aX3_setsAt_16
theorem dX3_setsAt_17 : decode cX3_setsAt 17 = .ok (.invokevirtual 27, 3) := dc_182 (a0 := 0) (b0 := 27) aX3_setsAt_17
theorem dX3_setsAt_20 : decode cX3_setsAt 20 = .ok (.iload_n 1, 1) := dc_27 aX3_setsAt_20
theorem dX3_setsAt_21 : decode cX3_setsAt 21 = .ok (.if_icmp .ne 12, 3) := dc_160 (a0 := 0) (b0 := 12) aX3_setsAt_21 (by decide)
theorem dX3_setsAt_24 : decode cX3_setsAt 24 = .ok (.iload 4, 2) := dc_21 (a0 := 4) aX3_setsAt_24
theorem dX3_setsAt_26 : decode cX3_setsAt 26 = .ok (.iconst 1, 1) := dc_4 aX3_setsAt_26
theorem dX3_setsAt_27 : decode cX3_setsAt 27 = .ok (.iload 5, 2) := dc_21 (a0 := 5) aX3_setsAt_27
theorem dX3_setsAt_29 : decode cX3_setsAt 29 = .ok (.ishl, 1) := dc_120 aX3_setsAt_29
theorem dX3_setsAt_30 : decode cX3_setsAt 30 = .ok (.ior, 1) := dc_128 aX3_setsAt_30
theorem dX3_setsAt_31 : decode cX3_setsAt 31 = .ok (.istore 4, 2) := dc_54 (a0 := 4) aX3_setsAt_31
theorem dX3_setsAt_33 : decode cX3_setsAt 33 = .ok (.iinc 5 1, 3) := dc_132 (a0 := 5) (a1 := 1) aX3_setsAt_33 (by decide)
theorem dX3_setsAt_36 : decode cX3_setsAt 36 = .ok (.goto (-30), 3) := dc_167 (a0 := 255) (b0 := 226) aX3_setsAt_36 (by decide)
theorem dX3_setsAt_39 : decode cX3_setsAt 39 = .ok (.iload 4, 2) := dc_21 (a0 := 4) aX3_setsAt_39
theorem dX3_setsAt_41 : decode cX3_setsAt 41 = .ok (.ireturn, 1) := dc_172 aX3_setsAt_41
set_option maxRecDepth 20000 in
theorem ggX3_isMixed_X1_degreeOf : GoodIn wsX3_isMixed wsX1_degreeOf := goodIn_k _ [[5, 0, 35, 0]] (by rfl) (by decide +kernel)
set_option maxRecDepth 20000 in
theorem gX3_isMixed_X1_degreeOf : GoodIn wsX3_isMixed (wsV RX3 15 RX1 yX1_degreeOf wsX1_degreeOf) := goodIn_app (goodIn_of _ (by decide +kernel)) ggX3_isMixed_X1_degreeOf
set_option maxRecDepth 20000 in
theorem ggX3_isMixed_X3_setsAt : GoodIn wsX3_isMixed wsX3_setsAt := goodIn_k _ [[10, 0, 0, 0, 0, 0, 0, 0, 0, 0, 0, 0, 0, 0, 0, 0, 0, 0, 0, 0, 0, 0, 0, 0, 0, 0, 0, 0, 0, 0, 0, 0, 2, 0, 0, 0, 0, 0]] (by rfl) (by decide +kernel)
set_option maxRecDepth 20000 in
theorem gX3_isMixed_X3_setsAt : GoodIn wsX3_isMixed (va_wsS RX3 36 yX3_setsAt wsX3_setsAt) := goodIn_app (goodIn_of _ (by decide +kernel)) ggX3_isMixed_X3_setsAt
noncomputable def sX3_isMixed_70 : List Nat := 172 :: []
noncomputable def sX3_isMixed_69 : List Nat := 3 :: sX3_isMixed_70
noncomputable def sX3_isMixed_66 : List Nat := 167 :: 0 :: 4 :: sX3_isMixed_69
noncomputable def sX3_isMixed_65 : List Nat := 4 :: sX3_isMixed_66
noncomputable def sX3_isMixed_62 : List Nat := 154 :: 0 :: 7 :: sX3_isMixed_65
noncomputable def sX3_isMixed_60 : List Nat := 21 :: 4 :: sX3_isMixed_62
noncomputable def sX3_isMixed_57 : List Nat := 167 :: 255 :: 206 :: sX3_isMixed_60
noncomputable def sX3_isMixed_54 : List Nat := 132 :: 5 :: 1 :: sX3_isMixed_57
noncomputable def sX3_isMixed_52 : List Nat := 54 :: 4 :: sX3_isMixed_54
noncomputable def sX3_isMixed_51 : List Nat := 126 :: sX3_isMixed_52
noncomputable def sX3_isMixed_49 : List Nat := 21 :: 7 :: sX3_isMixed_51
noncomputable def sX3_isMixed_47 : List Nat := 21 :: 4 :: sX3_isMixed_49
noncomputable def sX3_isMixed_46 : List Nat := 172 :: sX3_isMixed_47
noncomputable def sX3_isMixed_45 : List Nat := 3 :: sX3_isMixed_46
noncomputable def sX3_isMixed_42 : List Nat := 154 :: 0 :: 5 :: sX3_isMixed_45
noncomputable def sX3_isMixed_40 : List Nat := 21 :: 7 :: sX3_isMixed_42
noncomputable def sX3_isMixed_38 : List Nat := 54 :: 7 :: sX3_isMixed_40
noncomputable def sX3_isMixed_35 : List Nat := 184 :: 0 :: 36 :: sX3_isMixed_38
noncomputable def sX3_isMixed_34 : List Nat := 29 :: sX3_isMixed_35
noncomputable def sX3_isMixed_32 : List Nat := 21 :: 5 :: sX3_isMixed_34
noncomputable def sX3_isMixed_30 : List Nat := 21 :: 6 :: sX3_isMixed_32
noncomputable def sX3_isMixed_29 : List Nat := 42 :: sX3_isMixed_30
noncomputable def sX3_isMixed_26 : List Nat := 159 :: 0 :: 28 :: sX3_isMixed_29
noncomputable def sX3_isMixed_25 : List Nat := 2 :: sX3_isMixed_26
noncomputable def sX3_isMixed_23 : List Nat := 21 :: 6 :: sX3_isMixed_25
noncomputable def sX3_isMixed_21 : List Nat := 54 :: 6 :: sX3_isMixed_23
noncomputable def sX3_isMixed_18 : List Nat := 182 :: 0 :: 15 :: sX3_isMixed_21
noncomputable def sX3_isMixed_16 : List Nat := 21 :: 5 :: sX3_isMixed_18
noncomputable def sX3_isMixed_15 : List Nat := 28 :: sX3_isMixed_16
noncomputable def sX3_isMixed_14 : List Nat := 43 :: sX3_isMixed_15
noncomputable def sX3_isMixed_11 : List Nat := 162 :: 0 :: 49 :: sX3_isMixed_14
noncomputable def sX3_isMixed_9 : List Nat := 16 :: 7 :: sX3_isMixed_11
noncomputable def sX3_isMixed_7 : List Nat := 21 :: 5 :: sX3_isMixed_9
noncomputable def sX3_isMixed_5 : List Nat := 54 :: 5 :: sX3_isMixed_7
noncomputable def sX3_isMixed_4 : List Nat := 3 :: sX3_isMixed_5
noncomputable def sX3_isMixed_2 : List Nat := 54 :: 4 :: sX3_isMixed_4
noncomputable def sX3_isMixed_0 : List Nat := 16 :: 15 :: sX3_isMixed_2
theorem aX3_isMixed_0 : dc_at cX3_isMixed 0 sX3_isMixed_0 := dc_base (by decide +kernel)
theorem aX3_isMixed_2 : dc_at cX3_isMixed 2 sX3_isMixed_2 := dc_n2 aX3_isMixed_0
theorem aX3_isMixed_4 : dc_at cX3_isMixed 4 sX3_isMixed_4 := dc_n2 aX3_isMixed_2
theorem aX3_isMixed_5 : dc_at cX3_isMixed 5 sX3_isMixed_5 := dc_n1 aX3_isMixed_4
theorem aX3_isMixed_7 : dc_at cX3_isMixed 7 sX3_isMixed_7 := dc_n2 aX3_isMixed_5
theorem aX3_isMixed_9 : dc_at cX3_isMixed 9 sX3_isMixed_9 := dc_n2 aX3_isMixed_7
theorem aX3_isMixed_11 : dc_at cX3_isMixed 11 sX3_isMixed_11 := dc_n2 aX3_isMixed_9
theorem aX3_isMixed_14 : dc_at cX3_isMixed 14 sX3_isMixed_14 := dc_n3 aX3_isMixed_11
theorem aX3_isMixed_15 : dc_at cX3_isMixed 15 sX3_isMixed_15 := dc_n1 aX3_isMixed_14
theorem aX3_isMixed_16 : dc_at cX3_isMixed 16 sX3_isMixed_16 := dc_n1 aX3_isMixed_15
theorem aX3_isMixed_18 : dc_at cX3_isMixed 18 sX3_isMixed_18 := dc_n2 aX3_isMixed_16
theorem aX3_isMixed_21 : dc_at cX3_isMixed 21 sX3_isMixed_21 := dc_n3 aX3_isMixed_18
theorem aX3_isMixed_23 : dc_at cX3_isMixed 23 sX3_isMixed_23 := dc_n2 aX3_isMixed_21
theorem aX3_isMixed_25 : dc_at cX3_isMixed 25 sX3_isMixed_25 := dc_n2 aX3_isMixed_23
theorem aX3_isMixed_26 : dc_at cX3_isMixed 26 sX3_isMixed_26 := dc_n1 aX3_isMixed_25
theorem aX3_isMixed_29 : dc_at cX3_isMixed 29 sX3_isMixed_29 := dc_n3 aX3_isMixed_26
theorem aX3_isMixed_30 : dc_at cX3_isMixed 30 sX3_isMixed_30 := dc_n1 aX3_isMixed_29
theorem aX3_isMixed_32 : dc_at cX3_isMixed 32 sX3_isMixed_32 := dc_n2 aX3_isMixed_30
theorem aX3_isMixed_34 : dc_at cX3_isMixed 34 sX3_isMixed_34 := dc_n2 aX3_isMixed_32
theorem aX3_isMixed_35 : dc_at cX3_isMixed 35 sX3_isMixed_35 := dc_n1 aX3_isMixed_34
theorem aX3_isMixed_38 : dc_at cX3_isMixed 38 sX3_isMixed_38 := dc_n3 aX3_isMixed_35
theorem aX3_isMixed_40 : dc_at cX3_isMixed 40 sX3_isMixed_40 := dc_n2 aX3_isMixed_38
theorem aX3_isMixed_42 : dc_at cX3_isMixed 42 sX3_isMixed_42 := dc_n2 aX3_isMixed_40
theorem aX3_isMixed_45 : dc_at cX3_isMixed 45 sX3_isMixed_45 := dc_n3 aX3_isMixed_42
theorem aX3_isMixed_46 : dc_at cX3_isMixed 46 sX3_isMixed_46 := dc_n1 aX3_isMixed_45
theorem aX3_isMixed_47 : dc_at cX3_isMixed 47 sX3_isMixed_47 := dc_n1 aX3_isMixed_46
theorem aX3_isMixed_49 : dc_at cX3_isMixed 49 sX3_isMixed_49 := dc_n2 aX3_isMixed_47
theorem aX3_isMixed_51 : dc_at cX3_isMixed 51 sX3_isMixed_51 := dc_n2 aX3_isMixed_49
theorem aX3_isMixed_52 : dc_at cX3_isMixed 52 sX3_isMixed_52 := dc_n1 aX3_isMixed_51
theorem aX3_isMixed_54 : dc_at cX3_isMixed 54 sX3_isMixed_54 := dc_n2 aX3_isMixed_52
theorem aX3_isMixed_57 : dc_at cX3_isMixed 57 sX3_isMixed_57 := dc_n3 aX3_isMixed_54
theorem aX3_isMixed_60 : dc_at cX3_isMixed 60 sX3_isMixed_60 := dc_n3 aX3_isMixed_57
theorem aX3_isMixed_62 : dc_at cX3_isMixed 62 sX3_isMixed_62 := dc_n2 aX3_isMixed_60
theorem aX3_isMixed_65 : dc_at cX3_isMixed 65 sX3_isMixed_65 := dc_n3 aX3_isMixed_62
theorem aX3_isMixed_66 : dc_at cX3_isMixed 66 sX3_isMixed_66 := dc_n1 aX3_isMixed_65
theorem aX3_isMixed_69 : dc_at cX3_isMixed 69 sX3_isMixed_69 := dc_n3 aX3_isMixed_66
theorem aX3_isMixed_70 : dc_at cX3_isMixed 70 sX3_isMixed_70 := dc_n1 aX3_isMixed_69
theorem dX3_isMixed_0 : decode cX3_isMixed 0 = .ok (.bipush 15, 2) := dc_16 (a0 := 15) aX3_isMixed_0 (by decide)
theorem dX3_isMixed_2 : decode cX3_isMixed 2 = .ok (.istore 4, 2) := dc_54 (a0 := 4) aX3_isMixed_2
theorem dX3_isMixed_4 : decode cX3_isMixed 4 = .ok (.iconst 0, 1) := dc_3 aX3_isMixed_4
theorem dX3_isMixed_5 : decode cX3_isMixed 5 = .ok (.istore 5, 2) := dc_54 (a0 := 5) aX3_isMixed_5
theorem dX3_isMixed_7 : decode cX3_isMixed 7 = .ok (.iload 5, 2) := dc_21 (a0 := 5) aX3_isMixed_7
theorem dX3_isMixed_9 : decode cX3_isMixed 9 = .ok (.bipush 7, 2) := dc_16 (a0 := 7) aX3_isMixed_9 (by decide)
theorem dX3_isMixed_11 : decode cX3_isMixed 11 = .ok (.if_icmp .ge 49, 3) := dc_162 (a0 := 0) (b0 := 49) aX3_isMixed_11 (by decide)
theorem dX3_isMixed_14 : decode cX3_isMixed 14 = .ok (.aload_n 1, 1) := dc_43 aX3_isMixed_14
theorem dX3_isMixed_15 : decode cX3_isMixed 15 = .ok (.iload_n 2, 1) := dc_28 aX3_isMixed_15
theorem dX3_isMixed_16 : decode cX3_isMixed 16 = .ok (.iload 5, 2) := dc_21 (a0 := 5) aX3_isMixed_16
theorem dX3_isMixed_18 : decode cX3_isMixed 18 = .ok (.invokevirtual 15, 3) := dc_182 (a0 := 0) (b0 := 15) aX3_isMixed_18
theorem dX3_isMixed_21 : decode cX3_isMixed 21 = .ok (.istore 6, 2) := dc_54 (a0 := 6) aX3_isMixed_21
theorem dX3_isMixed_23 : decode cX3_isMixed 23 = .ok (.iload 6, 2) := dc_21 (a0 := 6) aX3_isMixed_23
theorem dX3_isMixed_25 : decode cX3_isMixed 25 = .ok (.iconst (-1), 1) := dc_2 aX3_isMixed_25
theorem dX3_isMixed_26 : decode cX3_isMixed 26 = .ok (.if_icmp .eq 28, 3) := dc_159 (a0 := 0) (b0 := 28) aX3_isMixed_26 (by decide)
theorem dX3_isMixed_29 : decode cX3_isMixed 29 = .ok (.aload_n 0, 1) := dc_42 aX3_isMixed_29
theorem dX3_isMixed_30 : decode cX3_isMixed 30 = .ok (.iload 6, 2) := dc_21 (a0 := 6) aX3_isMixed_30
theorem dX3_isMixed_32 : decode cX3_isMixed 32 = .ok (.iload 5, 2) := dc_21 (a0 := 5) aX3_isMixed_32
theorem dX3_isMixed_34 : decode cX3_isMixed 34 = .ok (.iload_n 3, 1) := dc_29 aX3_isMixed_34
theorem dX3_isMixed_35 : decode cX3_isMixed 35 = .ok (.invokestatic 36, 3) := dc_184 (a0 := 0) (b0 := 36) aX3_isMixed_35
theorem dX3_isMixed_38 : decode cX3_isMixed 38 = .ok (.istore 7, 2) := dc_54 (a0 := 7) aX3_isMixed_38
theorem dX3_isMixed_40 : decode cX3_isMixed 40 = .ok (.iload 7, 2) := dc_21 (a0 := 7) aX3_isMixed_40
theorem dX3_isMixed_42 : decode cX3_isMixed 42 = .ok (.ifCond .ne 5, 3) := dc_154 (a0 := 0) (b0 := 5) aX3_isMixed_42 (by decide)
theorem dX3_isMixed_45 : decode cX3_isMixed 45 = .ok (.iconst 0, 1) := dc_3 aX3_isMixed_45
theorem dX3_isMixed_46 : decode cX3_isMixed 46 = .ok (.ireturn, 1) := dc_172 aX3_isMixed_46
theorem dX3_isMixed_47 : decode cX3_isMixed 47 = .ok (.iload 4, 2) := dc_21 (a0 := 4) aX3_isMixed_47
theorem dX3_isMixed_49 : decode cX3_isMixed 49 = .ok (.iload 7, 2) := dc_21 (a0 := 7) aX3_isMixed_49
theorem dX3_isMixed_51 : decode cX3_isMixed 51 = .ok (.iand, 1) := dc_126 aX3_isMixed_51
theorem dX3_isMixed_52 : decode cX3_isMixed 52 = .ok (.istore 4, 2) := dc_54 (a0 := 4) aX3_isMixed_52
theorem dX3_isMixed_54 : decode cX3_isMixed 54 = .ok (.iinc 5 1, 3) := dc_132 (a0 := 5) (a1 := 1) aX3_isMixed_54 (by decide)
theorem dX3_isMixed_57 : decode cX3_isMixed 57 = .ok (.goto (-50), 3) := dc_167 (a0 := 255) (b0 := 206) aX3_isMixed_57 (by decide)
theorem dX3_isMixed_60 : decode cX3_isMixed 60 = .ok (.iload 4, 2) := dc_21 (a0 := 4) aX3_isMixed_60
theorem dX3_isMixed_62 : decode cX3_isMixed 62 = .ok (.ifCond .ne 7, 3) := dc_154 (a0 := 0) (b0 := 7) aX3_isMixed_62 (by decide)
theorem dX3_isMixed_65 : decode cX3_isMixed 65 = .ok (.iconst 1, 1) := dc_4 aX3_isMixed_65
theorem dX3_isMixed_66 : decode cX3_isMixed 66 = .ok (.goto 4, 3) := dc_167 (a0 := 0) (b0 := 4) aX3_isMixed_66 (by decide)
theorem dX3_isMixed_69 : decode cX3_isMixed 69 = .ok (.iconst 0, 1) := dc_3 aX3_isMixed_69
theorem dX3_isMixed_70 : decode cX3_isMixed 70 = .ok (.ireturn, 1) := dc_172 aX3_isMixed_70
set_option maxRecDepth 20000 in
theorem ggX3_setSharers_X1_degreeOf : GoodIn wsX3_setSharers wsX1_degreeOf := goodIn_k _ [[6, 0, 36, 0]] (by rfl) (by decide +kernel)
set_option maxRecDepth 20000 in
theorem gX3_setSharers_X1_degreeOf : GoodIn wsX3_setSharers (wsV RX3 15 RX1 yX1_degreeOf wsX1_degreeOf) := goodIn_app (goodIn_of _ (by decide +kernel)) ggX3_setSharers_X1_degreeOf
set_option maxRecDepth 20000 in
theorem ggX3_setSharers_X3_setsAt : GoodIn wsX3_setSharers wsX3_setsAt := goodIn_k _ [[11, 0, 0, 0, 0, 0, 0, 0, 0, 0, 0, 0, 0, 0, 0, 0, 0, 0, 0, 0, 0, 0, 0, 0, 0, 0, 0, 0, 0, 0, 0, 0, 3, 0, 0, 0, 0, 0]] (by rfl) (by decide +kernel)
set_option maxRecDepth 20000 in
theorem gX3_setSharers_X3_setsAt : GoodIn wsX3_setSharers (va_wsS RX3 36 yX3_setsAt wsX3_setsAt) := goodIn_app (goodIn_of _ (by decide +kernel)) ggX3_setSharers_X3_setsAt
noncomputable def sX3_setSharers_68 : List Nat := 177 :: []
noncomputable def sX3_setSharers_65 : List Nat := 167 :: 255 :: 194 :: sX3_setSharers_68
noncomputable def sX3_setSharers_62 : List Nat := 132 :: 5 :: 1 :: sX3_setSharers_65
noncomputable def sX3_setSharers_61 : List Nat := 79 :: sX3_setSharers_62
noncomputable def sX3_setSharers_59 : List Nat := 21 :: 7 :: sX3_setSharers_61
noncomputable def sX3_setSharers_56 : List Nat := 167 :: 0 :: 5 :: sX3_setSharers_59
noncomputable def sX3_setSharers_55 : List Nat := 2 :: sX3_setSharers_56
noncomputable def sX3_setSharers_52 : List Nat := 160 :: 0 :: 7 :: sX3_setSharers_55
noncomputable def sX3_setSharers_51 : List Nat := 4 :: sX3_setSharers_52
noncomputable def sX3_setSharers_50 : List Nat := 126 :: sX3_setSharers_51
noncomputable def sX3_setSharers_49 : List Nat := 4 :: sX3_setSharers_50
noncomputable def sX3_setSharers_47 : List Nat := 21 :: 7 :: sX3_setSharers_49
noncomputable def sX3_setSharers_45 : List Nat := 21 :: 5 :: sX3_setSharers_47
noncomputable def sX3_setSharers_42 : List Nat := 180 :: 0 :: 9 :: sX3_setSharers_45
noncomputable def sX3_setSharers_41 : List Nat := 42 :: sX3_setSharers_42
noncomputable def sX3_setSharers_39 : List Nat := 54 :: 7 :: sX3_setSharers_41
noncomputable def sX3_setSharers_36 : List Nat := 184 :: 0 :: 36 :: sX3_setSharers_39
noncomputable def sX3_setSharers_34 : List Nat := 21 :: 4 :: sX3_setSharers_36
noncomputable def sX3_setSharers_32 : List Nat := 21 :: 5 :: sX3_setSharers_34
noncomputable def sX3_setSharers_30 : List Nat := 21 :: 6 :: sX3_setSharers_32
noncomputable def sX3_setSharers_29 : List Nat := 43 :: sX3_setSharers_30
noncomputable def sX3_setSharers_26 : List Nat := 167 :: 0 :: 13 :: sX3_setSharers_29
noncomputable def sX3_setSharers_25 : List Nat := 4 :: sX3_setSharers_26
noncomputable def sX3_setSharers_22 : List Nat := 160 :: 0 :: 7 :: sX3_setSharers_25
noncomputable def sX3_setSharers_21 : List Nat := 2 :: sX3_setSharers_22
noncomputable def sX3_setSharers_19 : List Nat := 21 :: 6 :: sX3_setSharers_21
noncomputable def sX3_setSharers_17 : List Nat := 54 :: 6 :: sX3_setSharers_19
noncomputable def sX3_setSharers_14 : List Nat := 182 :: 0 :: 15 :: sX3_setSharers_17
noncomputable def sX3_setSharers_12 : List Nat := 21 :: 5 :: sX3_setSharers_14
noncomputable def sX3_setSharers_11 : List Nat := 29 :: sX3_setSharers_12
noncomputable def sX3_setSharers_10 : List Nat := 44 :: sX3_setSharers_11
noncomputable def sX3_setSharers_7 : List Nat := 162 :: 0 :: 61 :: sX3_setSharers_10
noncomputable def sX3_setSharers_5 : List Nat := 16 :: 7 :: sX3_setSharers_7
noncomputable def sX3_setSharers_3 : List Nat := 21 :: 5 :: sX3_setSharers_5
noncomputable def sX3_setSharers_1 : List Nat := 54 :: 5 :: sX3_setSharers_3
noncomputable def sX3_setSharers_0 : List Nat := 3 :: sX3_setSharers_1
theorem aX3_setSharers_0 : dc_at cX3_setSharers 0 sX3_setSharers_0 := dc_base (by decide +kernel)
theorem aX3_setSharers_1 : dc_at cX3_setSharers 1 sX3_setSharers_1 := dc_n1 aX3_setSharers_0
theorem aX3_setSharers_3 : dc_at cX3_setSharers 3 sX3_setSharers_3 := dc_n2 aX3_setSharers_1
theorem aX3_setSharers_5 : dc_at cX3_setSharers 5 sX3_setSharers_5 := dc_n2 aX3_setSharers_3
theorem aX3_setSharers_7 : dc_at cX3_setSharers 7 sX3_setSharers_7 := dc_n2 aX3_setSharers_5
theorem aX3_setSharers_10 : dc_at cX3_setSharers 10 sX3_setSharers_10 := dc_n3 aX3_setSharers_7
theorem aX3_setSharers_11 : dc_at cX3_setSharers 11 sX3_setSharers_11 := dc_n1 aX3_setSharers_10
theorem aX3_setSharers_12 : dc_at cX3_setSharers 12 sX3_setSharers_12 := dc_n1 aX3_setSharers_11
theorem aX3_setSharers_14 : dc_at cX3_setSharers 14 sX3_setSharers_14 := dc_n2 aX3_setSharers_12
theorem aX3_setSharers_17 : dc_at cX3_setSharers 17 sX3_setSharers_17 := dc_n3 aX3_setSharers_14
theorem aX3_setSharers_19 : dc_at cX3_setSharers 19 sX3_setSharers_19 := dc_n2 aX3_setSharers_17
theorem aX3_setSharers_21 : dc_at cX3_setSharers 21 sX3_setSharers_21 := dc_n2 aX3_setSharers_19
theorem aX3_setSharers_22 : dc_at cX3_setSharers 22 sX3_setSharers_22 := dc_n1 aX3_setSharers_21
theorem aX3_setSharers_25 : dc_at cX3_setSharers 25 sX3_setSharers_25 := dc_n3 aX3_setSharers_22
theorem aX3_setSharers_26 : dc_at cX3_setSharers 26 sX3_setSharers_26 := dc_n1 aX3_setSharers_25
theorem aX3_setSharers_29 : dc_at cX3_setSharers 29 sX3_setSharers_29 := dc_n3 aX3_setSharers_26
theorem aX3_setSharers_30 : dc_at cX3_setSharers 30 sX3_setSharers_30 := dc_n1 aX3_setSharers_29
theorem aX3_setSharers_32 : dc_at cX3_setSharers 32 sX3_setSharers_32 := dc_n2 aX3_setSharers_30
theorem aX3_setSharers_34 : dc_at cX3_setSharers 34 sX3_setSharers_34 := dc_n2 aX3_setSharers_32
theorem aX3_setSharers_36 : dc_at cX3_setSharers 36 sX3_setSharers_36 := dc_n2 aX3_setSharers_34
theorem aX3_setSharers_39 : dc_at cX3_setSharers 39 sX3_setSharers_39 := dc_n3 aX3_setSharers_36
theorem aX3_setSharers_41 : dc_at cX3_setSharers 41 sX3_setSharers_41 := dc_n2 aX3_setSharers_39
theorem aX3_setSharers_42 : dc_at cX3_setSharers 42 sX3_setSharers_42 := dc_n1 aX3_setSharers_41
theorem aX3_setSharers_45 : dc_at cX3_setSharers 45 sX3_setSharers_45 := dc_n3 aX3_setSharers_42
theorem aX3_setSharers_47 : dc_at cX3_setSharers 47 sX3_setSharers_47 := dc_n2 aX3_setSharers_45
theorem aX3_setSharers_49 : dc_at cX3_setSharers 49 sX3_setSharers_49 := dc_n2 aX3_setSharers_47
theorem aX3_setSharers_50 : dc_at cX3_setSharers 50 sX3_setSharers_50 := dc_n1 aX3_setSharers_49
theorem aX3_setSharers_51 : dc_at cX3_setSharers 51 sX3_setSharers_51 := dc_n1 aX3_setSharers_50
theorem aX3_setSharers_52 : dc_at cX3_setSharers 52 sX3_setSharers_52 := dc_n1 aX3_setSharers_51
theorem aX3_setSharers_55 : dc_at cX3_setSharers 55 sX3_setSharers_55 := dc_n3 aX3_setSharers_52
theorem aX3_setSharers_56 : dc_at cX3_setSharers 56 sX3_setSharers_56 := dc_n1 aX3_setSharers_55
theorem aX3_setSharers_59 : dc_at cX3_setSharers 59 sX3_setSharers_59 := dc_n3 aX3_setSharers_56
theorem aX3_setSharers_61 : dc_at cX3_setSharers 61 sX3_setSharers_61 := dc_n2 aX3_setSharers_59
theorem aX3_setSharers_62 : dc_at cX3_setSharers 62 sX3_setSharers_62 := dc_n1 aX3_setSharers_61
theorem aX3_setSharers_65 : dc_at cX3_setSharers 65 sX3_setSharers_65 := dc_n3 aX3_setSharers_62
theorem aX3_setSharers_68 : dc_at cX3_setSharers 68 sX3_setSharers_68 := dc_n3 aX3_setSharers_65
theorem dX3_setSharers_0 : decode cX3_setSharers 0 = .ok (.iconst 0, 1) := dc_3 aX3_setSharers_0
theorem dX3_setSharers_1 : decode cX3_setSharers 1 = .ok (.istore 5, 2) := dc_54 (a0 := 5) aX3_setSharers_1
theorem dX3_setSharers_3 : decode cX3_setSharers 3 = .ok (.iload 5, 2) := dc_21 (a0 := 5) aX3_setSharers_3
theorem dX3_setSharers_5 : decode cX3_setSharers 5 = .ok (.bipush 7, 2) := dc_16 (a0 := 7) aX3_setSharers_5 (by decide)
theorem dX3_setSharers_7 : decode cX3_setSharers 7 = .ok (.if_icmp .ge 61, 3) := dc_162 (a0 := 0) (b0 := 61) aX3_setSharers_7 (by decide)
theorem dX3_setSharers_10 : decode cX3_setSharers 10 = .ok (.aload_n 2, 1) := dc_44 aX3_setSharers_10
theorem dX3_setSharers_11 : decode cX3_setSharers 11 = .ok (.iload_n 3, 1) := dc_29 aX3_setSharers_11
theorem dX3_setSharers_12 : decode cX3_setSharers 12 = .ok (.iload 5, 2) := dc_21 (a0 := 5) aX3_setSharers_12
theorem dX3_setSharers_14 : decode cX3_setSharers 14 = .ok (.invokevirtual 15, 3) := dc_182 (a0 := 0) (b0 := 15) aX3_setSharers_14
theorem dX3_setSharers_17 : decode cX3_setSharers 17 = .ok (.istore 6, 2) := dc_54 (a0 := 6) aX3_setSharers_17
theorem dX3_setSharers_19 : decode cX3_setSharers 19 = .ok (.iload 6, 2) := dc_21 (a0 := 6) aX3_setSharers_19
theorem dX3_setSharers_21 : decode cX3_setSharers 21 = .ok (.iconst (-1), 1) := dc_2 aX3_setSharers_21
theorem dX3_setSharers_22 : decode cX3_setSharers 22 = .ok (.if_icmp .ne 7, 3) := dc_160 (a0 := 0) (b0 := 7) aX3_setSharers_22 (by decide)
theorem dX3_setSharers_25 : decode cX3_setSharers 25 = .ok (.iconst 1, 1) := dc_4 aX3_setSharers_25
theorem dX3_setSharers_26 : decode cX3_setSharers 26 = .ok (.goto 13, 3) := dc_167 (a0 := 0) (b0 := 13) aX3_setSharers_26 (by decide)
theorem dX3_setSharers_29 : decode cX3_setSharers 29 = .ok (.aload_n 1, 1) := dc_43 aX3_setSharers_29
theorem dX3_setSharers_30 : decode cX3_setSharers 30 = .ok (.iload 6, 2) := dc_21 (a0 := 6) aX3_setSharers_30
theorem dX3_setSharers_32 : decode cX3_setSharers 32 = .ok (.iload 5, 2) := dc_21 (a0 := 5) aX3_setSharers_32
theorem dX3_setSharers_34 : decode cX3_setSharers 34 = .ok (.iload 4, 2) := dc_21 (a0 := 4) aX3_setSharers_34
theorem dX3_setSharers_36 : decode cX3_setSharers 36 = .ok (.invokestatic 36, 3) := dc_184 (a0 := 0) (b0 := 36) aX3_setSharers_36
theorem dX3_setSharers_39 : decode cX3_setSharers 39 = .ok (.istore 7, 2) := dc_54 (a0 := 7) aX3_setSharers_39
theorem dX3_setSharers_41 : decode cX3_setSharers 41 = .ok (.aload_n 0, 1) := dc_42 aX3_setSharers_41
theorem dX3_setSharers_42 : decode cX3_setSharers 42 = .ok (.getfield 9, 3) := dc_180 (a0 := 0) (b0 := 9) aX3_setSharers_42
theorem dX3_setSharers_45 : decode cX3_setSharers 45 = .ok (.iload 5, 2) := dc_21 (a0 := 5) aX3_setSharers_45
theorem dX3_setSharers_47 : decode cX3_setSharers 47 = .ok (.iload 7, 2) := dc_21 (a0 := 7) aX3_setSharers_47
theorem dX3_setSharers_49 : decode cX3_setSharers 49 = .ok (.iconst 1, 1) := dc_4 aX3_setSharers_49
theorem dX3_setSharers_50 : decode cX3_setSharers 50 = .ok (.iand, 1) := dc_126 aX3_setSharers_50
theorem dX3_setSharers_51 : decode cX3_setSharers 51 = .ok (.iconst 1, 1) := dc_4 aX3_setSharers_51
theorem dX3_setSharers_52 : decode cX3_setSharers 52 = .ok (.if_icmp .ne 7, 3) := dc_160 (a0 := 0) (b0 := 7) aX3_setSharers_52 (by decide)
theorem dX3_setSharers_55 : decode cX3_setSharers 55 = .ok (.iconst (-1), 1) := dc_2 aX3_setSharers_55
theorem dX3_setSharers_56 : decode cX3_setSharers 56 = .ok (.goto 5, 3) := dc_167 (a0 := 0) (b0 := 5) aX3_setSharers_56 (by decide)
theorem dX3_setSharers_59 : decode cX3_setSharers 59 = .ok (.iload 7, 2) := dc_21 (a0 := 7) aX3_setSharers_59
theorem dX3_setSharers_61 : decode cX3_setSharers 61 = .ok (.iastore, 1) := dc_79 aX3_setSharers_61
theorem dX3_setSharers_62 : decode cX3_setSharers 62 = .ok (.iinc 5 1, 3) := dc_132 (a0 := 5) (a1 := 1) aX3_setSharers_62 (by decide)
theorem dX3_setSharers_65 : decode cX3_setSharers 65 = .ok (.goto (-62), 3) := dc_167 (a0 := 255) (b0 := 194) aX3_setSharers_65 (by decide)
theorem dX3_setSharers_68 : decode cX3_setSharers 68 = .ok (.return_, 1) := dc_177 aX3_setSharers_68
noncomputable def sX3_isShared_29 : List Nat := 172 :: []
noncomputable def sX3_isShared_28 : List Nat := 3 :: sX3_isShared_29
noncomputable def sX3_isShared_25 : List Nat := 167 :: 0 :: 4 :: sX3_isShared_28
noncomputable def sX3_isShared_24 : List Nat := 4 :: sX3_isShared_25
noncomputable def sX3_isShared_21 : List Nat := 160 :: 0 :: 7 :: sX3_isShared_24
noncomputable def sX3_isShared_20 : List Nat := 4 :: sX3_isShared_21
noncomputable def sX3_isShared_19 : List Nat := 126 :: sX3_isShared_20
noncomputable def sX3_isShared_18 : List Nat := 4 :: sX3_isShared_19
noncomputable def sX3_isShared_17 : List Nat := 122 :: sX3_isShared_18
noncomputable def sX3_isShared_16 : List Nat := 28 :: sX3_isShared_17
noncomputable def sX3_isShared_15 : List Nat := 46 :: sX3_isShared_16
noncomputable def sX3_isShared_14 : List Nat := 27 :: sX3_isShared_15
noncomputable def sX3_isShared_11 : List Nat := 180 :: 0 :: 9 :: sX3_isShared_14
noncomputable def sX3_isShared_10 : List Nat := 42 :: sX3_isShared_11
noncomputable def sX3_isShared_7 : List Nat := 159 :: 0 :: 21 :: sX3_isShared_10
noncomputable def sX3_isShared_6 : List Nat := 2 :: sX3_isShared_7
noncomputable def sX3_isShared_5 : List Nat := 46 :: sX3_isShared_6
noncomputable def sX3_isShared_4 : List Nat := 27 :: sX3_isShared_5
noncomputable def sX3_isShared_1 : List Nat := 180 :: 0 :: 9 :: sX3_isShared_4
noncomputable def sX3_isShared_0 : List Nat := 42 :: sX3_isShared_1
theorem aX3_isShared_0 : dc_at cX3_isShared 0 sX3_isShared_0 := dc_base (by decide +kernel)
theorem aX3_isShared_1 : dc_at cX3_isShared 1 sX3_isShared_1 := dc_n1 aX3_isShared_0
theorem aX3_isShared_4 : dc_at cX3_isShared 4 sX3_isShared_4 := dc_n3 aX3_isShared_1
theorem aX3_isShared_5 : dc_at cX3_isShared 5 sX3_isShared_5 := dc_n1 aX3_isShared_4
theorem aX3_isShared_6 : dc_at cX3_isShared 6 sX3_isShared_6 := dc_n1 aX3_isShared_5
theorem aX3_isShared_7 : dc_at cX3_isShared 7 sX3_isShared_7 := dc_n1 aX3_isShared_6
theorem aX3_isShared_10 : dc_at cX3_isShared 10 sX3_isShared_10 := dc_n3 aX3_isShared_7
theorem aX3_isShared_11 : dc_at cX3_isShared 11 sX3_isShared_11 := dc_n1 aX3_isShared_10
theorem aX3_isShared_14 : dc_at cX3_isShared 14 sX3_isShared_14 := dc_n3 aX3_isShared_11
theorem aX3_isShared_15 : dc_at cX3_isShared 15 sX3_isShared_15 := dc_n1 aX3_isShared_14
theorem aX3_isShared_16 : dc_at cX3_isShared 16 sX3_isShared_16 := dc_n1 aX3_isShared_15
theorem aX3_isShared_17 : dc_at cX3_isShared 17 sX3_isShared_17 := dc_n1 aX3_isShared_16
theorem aX3_isShared_18 : dc_at cX3_isShared 18 sX3_isShared_18 := dc_n1 aX3_isShared_17
theorem aX3_isShared_19 : dc_at cX3_isShared 19 sX3_isShared_19 := dc_n1 aX3_isShared_18
theorem aX3_isShared_20 : dc_at cX3_isShared 20 sX3_isShared_20 := dc_n1 aX3_isShared_19
theorem aX3_isShared_21 : dc_at cX3_isShared 21 sX3_isShared_21 := dc_n1 aX3_isShared_20
theorem aX3_isShared_24 : dc_at cX3_isShared 24 sX3_isShared_24 := dc_n3 aX3_isShared_21
theorem aX3_isShared_25 : dc_at cX3_isShared 25 sX3_isShared_25 := dc_n1 aX3_isShared_24
theorem aX3_isShared_28 : dc_at cX3_isShared 28 sX3_isShared_28 := dc_n3 aX3_isShared_25
theorem aX3_isShared_29 : dc_at cX3_isShared 29 sX3_isShared_29 := dc_n1 aX3_isShared_28
theorem dX3_isShared_0 : decode cX3_isShared 0 = .ok (.aload_n 0, 1) := dc_42 aX3_isShared_0
theorem dX3_isShared_1 : decode cX3_isShared 1 = .ok (.getfield 9, 3) := dc_180 (a0 := 0) (b0 := 9) aX3_isShared_1
theorem dX3_isShared_4 : decode cX3_isShared 4 = .ok (.iload_n 1, 1) := dc_27 aX3_isShared_4
theorem dX3_isShared_5 : decode cX3_isShared 5 = .ok (.iaload, 1) := dc_46 aX3_isShared_5
theorem dX3_isShared_6 : decode cX3_isShared 6 = .ok (.iconst (-1), 1) := dc_2 aX3_isShared_6
theorem dX3_isShared_7 : decode cX3_isShared 7 = .ok (.if_icmp .eq 21, 3) := dc_159 (a0 := 0) (b0 := 21) aX3_isShared_7 (by decide)
theorem dX3_isShared_10 : decode cX3_isShared 10 = .ok (.aload_n 0, 1) := dc_42 aX3_isShared_10
theorem dX3_isShared_11 : decode cX3_isShared 11 = .ok (.getfield 9, 3) := dc_180 (a0 := 0) (b0 := 9) aX3_isShared_11
theorem dX3_isShared_14 : decode cX3_isShared 14 = .ok (.iload_n 1, 1) := dc_27 aX3_isShared_14
theorem dX3_isShared_15 : decode cX3_isShared 15 = .ok (.iaload, 1) := dc_46 aX3_isShared_15
theorem dX3_isShared_16 : decode cX3_isShared 16 = .ok (.iload_n 2, 1) := dc_28 aX3_isShared_16
theorem dX3_isShared_17 : decode cX3_isShared 17 = .ok (.ishr, 1) := dc_122 aX3_isShared_17
theorem dX3_isShared_18 : decode cX3_isShared 18 = .ok (.iconst 1, 1) := dc_4 aX3_isShared_18
theorem dX3_isShared_19 : decode cX3_isShared 19 = .ok (.iand, 1) := dc_126 aX3_isShared_19
theorem dX3_isShared_20 : decode cX3_isShared 20 = .ok (.iconst 1, 1) := dc_4 aX3_isShared_20
theorem dX3_isShared_21 : decode cX3_isShared 21 = .ok (.if_icmp .ne 7, 3) := dc_160 (a0 := 0) (b0 := 7) aX3_isShared_21 (by decide)
theorem dX3_isShared_24 : decode cX3_isShared 24 = .ok (.iconst 1, 1) := dc_4 aX3_isShared_24
theorem dX3_isShared_25 : decode cX3_isShared 25 = .ok (.goto 4, 3) := dc_167 (a0 := 0) (b0 := 4) aX3_isShared_25 (by decide)
theorem dX3_isShared_28 : decode cX3_isShared 28 = .ok (.iconst 0, 1) := dc_3 aX3_isShared_28
theorem dX3_isShared_29 : decode cX3_isShared 29 = .ok (.ireturn, 1) := dc_172 aX3_isShared_29
noncomputable def sX3_howManyErrors_30 : List Nat := 172 :: []
noncomputable def sX3_howManyErrors_29 : List Nat := 27 :: sX3_howManyErrors_30
noncomputable def sX3_howManyErrors_26 : List Nat := 167 :: 255 :: 234 :: sX3_howManyErrors_29
noncomputable def sX3_howManyErrors_23 : List Nat := 132 :: 2 :: 1 :: sX3_howManyErrors_26
noncomputable def sX3_howManyErrors_20 : List Nat := 132 :: 1 :: 1 :: sX3_howManyErrors_23
noncomputable def sX3_howManyErrors_17 : List Nat := 159 :: 0 :: 6 :: sX3_howManyErrors_20
noncomputable def sX3_howManyErrors_16 : List Nat := 2 :: sX3_howManyErrors_17
noncomputable def sX3_howManyErrors_15 : List Nat := 46 :: sX3_howManyErrors_16
noncomputable def sX3_howManyErrors_14 : List Nat := 28 :: sX3_howManyErrors_15
noncomputable def sX3_howManyErrors_11 : List Nat := 180 :: 0 :: 9 :: sX3_howManyErrors_14
noncomputable def sX3_howManyErrors_10 : List Nat := 42 :: sX3_howManyErrors_11
noncomputable def sX3_howManyErrors_7 : List Nat := 162 :: 0 :: 22 :: sX3_howManyErrors_10
noncomputable def sX3_howManyErrors_5 : List Nat := 16 :: 7 :: sX3_howManyErrors_7
noncomputable def sX3_howManyErrors_4 : List Nat := 28 :: sX3_howManyErrors_5
noncomputable def sX3_howManyErrors_3 : List Nat := 61 :: sX3_howManyErrors_4
noncomputable def sX3_howManyErrors_2 : List Nat := 3 :: sX3_howManyErrors_3
noncomputable def sX3_howManyErrors_1 : List Nat := 60 :: sX3_howManyErrors_2
noncomputable def sX3_howManyErrors_0 : List Nat := 3 :: sX3_howManyErrors_1
theorem aX3_howManyErrors_0 : dc_at cX3_howManyErrors 0 sX3_howManyErrors_0 := dc_base (by decide +kernel)
theorem aX3_howManyErrors_1 : dc_at cX3_howManyErrors 1 sX3_howManyErrors_1 := dc_n1 aX3_howManyErrors_0
theorem aX3_howManyErrors_2 : dc_at cX3_howManyErrors 2 sX3_howManyErrors_2 := dc_n1 aX3_howManyErrors_1
theorem aX3_howManyErrors_3 : dc_at cX3_howManyErrors 3 sX3_howManyErrors_3 := dc_n1 aX3_howManyErrors_2
theorem aX3_howManyErrors_4 : dc_at cX3_howManyErrors 4 sX3_howManyErrors_4 := dc_n1 aX3_howManyErrors_3
theorem aX3_howManyErrors_5 : dc_at cX3_howManyErrors 5 sX3_howManyErrors_5 := dc_n1 aX3_howManyErrors_4
theorem aX3_howManyErrors_7 : dc_at cX3_howManyErrors 7 sX3_howManyErrors_7 := dc_n2 aX3_howManyErrors_5
theorem aX3_howManyErrors_10 : dc_at cX3_howManyErrors 10 sX3_howManyErrors_10 := dc_n3 aX3_howManyErrors_7
theorem aX3_howManyErrors_11 : dc_at cX3_howManyErrors 11 sX3_howManyErrors_11 := dc_n1 aX3_howManyErrors_10
theorem aX3_howManyErrors_14 : dc_at cX3_howManyErrors 14 sX3_howManyErrors_14 := dc_n3 aX3_howManyErrors_11
theorem aX3_howManyErrors_15 : dc_at cX3_howManyErrors 15 sX3_howManyErrors_15 := dc_n1 aX3_howManyErrors_14
theorem aX3_howManyErrors_16 : dc_at cX3_howManyErrors 16 sX3_howManyErrors_16 := dc_n1 aX3_howManyErrors_15
theorem aX3_howManyErrors_17 : dc_at cX3_howManyErrors 17 sX3_howManyErrors_17 := dc_n1 aX3_howManyErrors_16
theorem aX3_howManyErrors_20 : dc_at cX3_howManyErrors 20 sX3_howManyErrors_20 := dc_n3 aX3_howManyErrors_17
theorem aX3_howManyErrors_23 : dc_at cX3_howManyErrors 23 sX3_howManyErrors_23 := dc_n3 aX3_howManyErrors_20
theorem aX3_howManyErrors_26 : dc_at cX3_howManyErrors 26 sX3_howManyErrors_26 := dc_n3 aX3_howManyErrors_23
theorem aX3_howManyErrors_29 : dc_at cX3_howManyErrors 29 sX3_howManyErrors_29 := dc_n3 aX3_howManyErrors_26
theorem aX3_howManyErrors_30 : dc_at cX3_howManyErrors 30 sX3_howManyErrors_30 := dc_n1 aX3_howManyErrors_29
theorem dX3_howManyErrors_0 : decode cX3_howManyErrors 0 = .ok (.iconst 0, 1) := dc_3 aX3_howManyErrors_0
theorem dX3_howManyErrors_1 : decode cX3_howManyErrors 1 = .ok (.istore_n 1, 1) := dc_60 aX3_howManyErrors_1
theorem dX3_howManyErrors_2 : decode cX3_howManyErrors 2 = .ok (.iconst 0, 1) := dc_3 aX3_howManyErrors_2
theorem dX3_howManyErrors_3 : decode cX3_howManyErrors 3 = .ok (.istore_n 2, 1) := dc_61 aX3_howManyErrors_3
theorem dX3_howManyErrors_4 : decode cX3_howManyErrors 4 = .ok (.iload_n 2, 1) := dc_28 aX3_howManyErrors_4
theorem dX3_howManyErrors_5 : decode cX3_howManyErrors 5 = .ok (.bipush 7, 2) := dc_16 (a0 := 7) aX3_howManyErrors_5 (by decide)
theorem dX3_howManyErrors_7 : decode cX3_howManyErrors 7 = .ok (.if_icmp .ge 22, 3) := dc_162 (a0 := 0) (b0 := 22) aX3_howManyErrors_7 (by decide)
theorem dX3_howManyErrors_10 : decode cX3_howManyErrors 10 = .ok (.aload_n 0, 1) := dc_42 aX3_howManyErrors_10
theorem dX3_howManyErrors_11 : decode cX3_howManyErrors 11 = .ok (.getfield 9, 3) := dc_180 (a0 := 0) (b0 := 9) aX3_howManyErrors_11
theorem dX3_howManyErrors_14 : decode cX3_howManyErrors 14 = .ok (.iload_n 2, 1) := dc_28 aX3_howManyErrors_14
theorem dX3_howManyErrors_15 : decode cX3_howManyErrors 15 = .ok (.iaload, 1) := dc_46 aX3_howManyErrors_15
theorem dX3_howManyErrors_16 : decode cX3_howManyErrors 16 = .ok (.iconst (-1), 1) := dc_2 aX3_howManyErrors_16
theorem dX3_howManyErrors_17 : decode cX3_howManyErrors 17 = .ok (.if_icmp .eq 6, 3) := dc_159 (a0 := 0) (b0 := 6) aX3_howManyErrors_17 (by decide)
theorem dX3_howManyErrors_20 : decode cX3_howManyErrors 20 = .ok (.iinc 1 1, 3) := dc_132 (a0 := 1) (a1 := 1) aX3_howManyErrors_20 (by decide)
theorem dX3_howManyErrors_23 : decode cX3_howManyErrors 23 = .ok (.iinc 2 1, 3) := dc_132 (a0 := 2) (a1 := 1) aX3_howManyErrors_23 (by decide)
theorem dX3_howManyErrors_26 : decode cX3_howManyErrors 26 = .ok (.goto (-22), 3) := dc_167 (a0 := 255) (b0 := 234) aX3_howManyErrors_26 (by decide)
theorem dX3_howManyErrors_29 : decode cX3_howManyErrors 29 = .ok (.iload_n 1, 1) := dc_27 aX3_howManyErrors_29
theorem dX3_howManyErrors_30 : decode cX3_howManyErrors 30 = .ok (.ireturn, 1) := dc_172 aX3_howManyErrors_30
set_option maxRecDepth 20000 in
theorem ggX3_howManyShared_X3_isShared : GoodIn wsX3_howManyShared wsX3_isShared := goodIn_k _ [[5, 0, 0]] (by rfl) (by decide +kernel)
set_option maxRecDepth 20000 in
theorem gX3_howManyShared_X3_isShared : GoodIn wsX3_howManyShared (wsV RX3 40 RX3 yX3_isShared wsX3_isShared) := goodIn_app (goodIn_of _ (by decide +kernel)) ggX3_howManyShared_X3_isShared
noncomputable def sX3_howManyShared_29 : List Nat := 172 :: []
noncomputable def sX3_howManyShared_28 : List Nat := 28 :: sX3_howManyShared_29
noncomputable def sX3_howManyShared_25 : List Nat := 167 :: 255 :: 235 :: sX3_howManyShared_28
noncomputable def sX3_howManyShared_22 : List Nat := 132 :: 3 :: 1 :: sX3_howManyShared_25
noncomputable def sX3_howManyShared_19 : List Nat := 132 :: 2 :: 1 :: sX3_howManyShared_22
noncomputable def sX3_howManyShared_16 : List Nat := 153 :: 0 :: 6 :: sX3_howManyShared_19
noncomputable def sX3_howManyShared_13 : List Nat := 182 :: 0 :: 40 :: sX3_howManyShared_16
noncomputable def sX3_howManyShared_12 : List Nat := 27 :: sX3_howManyShared_13
noncomputable def sX3_howManyShared_11 : List Nat := 29 :: sX3_howManyShared_12
noncomputable def sX3_howManyShared_10 : List Nat := 42 :: sX3_howManyShared_11
noncomputable def sX3_howManyShared_7 : List Nat := 162 :: 0 :: 21 :: sX3_howManyShared_10
noncomputable def sX3_howManyShared_5 : List Nat := 16 :: 7 :: sX3_howManyShared_7
noncomputable def sX3_howManyShared_4 : List Nat := 29 :: sX3_howManyShared_5
noncomputable def sX3_howManyShared_3 : List Nat := 62 :: sX3_howManyShared_4
noncomputable def sX3_howManyShared_2 : List Nat := 3 :: sX3_howManyShared_3
noncomputable def sX3_howManyShared_1 : List Nat := 61 :: sX3_howManyShared_2
noncomputable def sX3_howManyShared_0 : List Nat := 3 :: sX3_howManyShared_1
theorem aX3_howManyShared_0 : dc_at cX3_howManyShared 0 sX3_howManyShared_0 := dc_base (by decide +kernel)
theorem aX3_howManyShared_1 : dc_at cX3_howManyShared 1 sX3_howManyShared_1 := dc_n1 aX3_howManyShared_0
theorem aX3_howManyShared_2 : dc_at cX3_howManyShared 2 sX3_howManyShared_2 := dc_n1 aX3_howManyShared_1
theorem aX3_howManyShared_3 : dc_at cX3_howManyShared 3 sX3_howManyShared_3 := dc_n1 aX3_howManyShared_2
theorem aX3_howManyShared_4 : dc_at cX3_howManyShared 4 sX3_howManyShared_4 := dc_n1 aX3_howManyShared_3
theorem aX3_howManyShared_5 : dc_at cX3_howManyShared 5 sX3_howManyShared_5 := dc_n1 aX3_howManyShared_4
theorem aX3_howManyShared_7 : dc_at cX3_howManyShared 7 sX3_howManyShared_7 := dc_n2 aX3_howManyShared_5
theorem aX3_howManyShared_10 : dc_at cX3_howManyShared 10 sX3_howManyShared_10 := dc_n3 aX3_howManyShared_7
theorem aX3_howManyShared_11 : dc_at cX3_howManyShared 11 sX3_howManyShared_11 := dc_n1 aX3_howManyShared_10
theorem aX3_howManyShared_12 : dc_at cX3_howManyShared 12 sX3_howManyShared_12 := dc_n1 aX3_howManyShared_11
theorem aX3_howManyShared_13 : dc_at cX3_howManyShared 13 sX3_howManyShared_13 := dc_n1 aX3_howManyShared_12
theorem aX3_howManyShared_16 : dc_at cX3_howManyShared 16 sX3_howManyShared_16 := dc_n3 aX3_howManyShared_13
theorem aX3_howManyShared_19 : dc_at cX3_howManyShared 19 sX3_howManyShared_19 := dc_n3 aX3_howManyShared_16
theorem aX3_howManyShared_22 : dc_at cX3_howManyShared 22 sX3_howManyShared_22 := dc_n3 aX3_howManyShared_19
theorem aX3_howManyShared_25 : dc_at cX3_howManyShared 25 sX3_howManyShared_25 := dc_n3 aX3_howManyShared_22
theorem aX3_howManyShared_28 : dc_at cX3_howManyShared 28 sX3_howManyShared_28 := dc_n3 aX3_howManyShared_25
theorem aX3_howManyShared_29 : dc_at cX3_howManyShared 29 sX3_howManyShared_29 := dc_n1 aX3_howManyShared_28
theorem dX3_howManyShared_0 : decode cX3_howManyShared 0 = .ok (.iconst 0, 1) := dc_3 aX3_howManyShared_0
theorem dX3_howManyShared_1 : decode cX3_howManyShared 1 = .ok (.istore_n 2, 1) := dc_61 aX3_howManyShared_1
theorem dX3_howManyShared_2 : decode cX3_howManyShared 2 = .ok (.iconst 0, 1) := dc_3 aX3_howManyShared_2
theorem dX3_howManyShared_3 : decode cX3_howManyShared 3 = .ok (.istore_n 3, 1) := dc_62 aX3_howManyShared_3
theorem dX3_howManyShared_4 : decode cX3_howManyShared 4 = .ok (.iload_n 3, 1) := dc_29 aX3_howManyShared_4
theorem dX3_howManyShared_5 : decode cX3_howManyShared 5 = .ok (.bipush 7, 2) := dc_16 (a0 := 7) aX3_howManyShared_5 (by decide)
theorem dX3_howManyShared_7 : decode cX3_howManyShared 7 = .ok (.if_icmp .ge 21, 3) := dc_162 (a0 := 0) (b0 := 21) aX3_howManyShared_7 (by decide)
theorem dX3_howManyShared_10 : decode cX3_howManyShared 10 = .ok (.aload_n 0, 1) := dc_42 aX3_howManyShared_10
theorem dX3_howManyShared_11 : decode cX3_howManyShared 11 = .ok (.iload_n 3, 1) := dc_29 aX3_howManyShared_11
theorem dX3_howManyShared_12 : decode cX3_howManyShared 12 = .ok (.iload_n 1, 1) := dc_27 aX3_howManyShared_12
theorem dX3_howManyShared_13 : decode cX3_howManyShared 13 = .ok (.invokevirtual 40, 3) := dc_182 (a0 := 0) (b0 := 40) aX3_howManyShared_13
theorem dX3_howManyShared_16 : decode cX3_howManyShared 16 = .ok (.ifCond .eq 6, 3) := dc_153 (a0 := 0) (b0 := 6) aX3_howManyShared_16 (by decide)
theorem dX3_howManyShared_19 : decode cX3_howManyShared 19 = .ok (.iinc 2 1, 3) := dc_132 (a0 := 2) (a1 := 1) aX3_howManyShared_19 (by decide)
theorem dX3_howManyShared_22 : decode cX3_howManyShared 22 = .ok (.iinc 3 1, 3) := dc_132 (a0 := 3) (a1 := 1) aX3_howManyShared_22 (by decide)
theorem dX3_howManyShared_25 : decode cX3_howManyShared 25 = .ok (.goto (-21), 3) := dc_167 (a0 := 255) (b0 := 235) aX3_howManyShared_25 (by decide)
theorem dX3_howManyShared_28 : decode cX3_howManyShared 28 = .ok (.iload_n 2, 1) := dc_28 aX3_howManyShared_28
theorem dX3_howManyShared_29 : decode cX3_howManyShared 29 = .ok (.ireturn, 1) := dc_172 aX3_howManyShared_29
noncomputable def sX3_howManyAlone_32 : List Nat := 172 :: []
noncomputable def sX3_howManyAlone_31 : List Nat := 28 :: sX3_howManyAlone_32
noncomputable def sX3_howManyAlone_28 : List Nat := 167 :: 255 :: 232 :: sX3_howManyAlone_31
noncomputable def sX3_howManyAlone_25 : List Nat := 132 :: 3 :: 1 :: sX3_howManyAlone_28
noncomputable def sX3_howManyAlone_22 : List Nat := 132 :: 2 :: 1 :: sX3_howManyAlone_25
noncomputable def sX3_howManyAlone_19 : List Nat := 160 :: 0 :: 6 :: sX3_howManyAlone_22
noncomputable def sX3_howManyAlone_18 : List Nat := 120 :: sX3_howManyAlone_19
noncomputable def sX3_howManyAlone_17 : List Nat := 27 :: sX3_howManyAlone_18
noncomputable def sX3_howManyAlone_16 : List Nat := 4 :: sX3_howManyAlone_17
noncomputable def sX3_howManyAlone_15 : List Nat := 46 :: sX3_howManyAlone_16
noncomputable def sX3_howManyAlone_14 : List Nat := 29 :: sX3_howManyAlone_15
noncomputable def sX3_howManyAlone_11 : List Nat := 180 :: 0 :: 9 :: sX3_howManyAlone_14
noncomputable def sX3_howManyAlone_10 : List Nat := 42 :: sX3_howManyAlone_11
noncomputable def sX3_howManyAlone_7 : List Nat := 162 :: 0 :: 24 :: sX3_howManyAlone_10
noncomputable def sX3_howManyAlone_5 : List Nat := 16 :: 7 :: sX3_howManyAlone_7
noncomputable def sX3_howManyAlone_4 : List Nat := 29 :: sX3_howManyAlone_5
noncomputable def sX3_howManyAlone_3 : List Nat := 62 :: sX3_howManyAlone_4
noncomputable def sX3_howManyAlone_2 : List Nat := 3 :: sX3_howManyAlone_3
noncomputable def sX3_howManyAlone_1 : List Nat := 61 :: sX3_howManyAlone_2
noncomputable def sX3_howManyAlone_0 : List Nat := 3 :: sX3_howManyAlone_1
theorem aX3_howManyAlone_0 : dc_at cX3_howManyAlone 0 sX3_howManyAlone_0 := dc_base (by decide +kernel)
theorem aX3_howManyAlone_1 : dc_at cX3_howManyAlone 1 sX3_howManyAlone_1 := dc_n1 aX3_howManyAlone_0
theorem aX3_howManyAlone_2 : dc_at cX3_howManyAlone 2 sX3_howManyAlone_2 := dc_n1 aX3_howManyAlone_1
theorem aX3_howManyAlone_3 : dc_at cX3_howManyAlone 3 sX3_howManyAlone_3 := dc_n1 aX3_howManyAlone_2
theorem aX3_howManyAlone_4 : dc_at cX3_howManyAlone 4 sX3_howManyAlone_4 := dc_n1 aX3_howManyAlone_3
theorem aX3_howManyAlone_5 : dc_at cX3_howManyAlone 5 sX3_howManyAlone_5 := dc_n1 aX3_howManyAlone_4
theorem aX3_howManyAlone_7 : dc_at cX3_howManyAlone 7 sX3_howManyAlone_7 := dc_n2 aX3_howManyAlone_5
theorem aX3_howManyAlone_10 : dc_at cX3_howManyAlone 10 sX3_howManyAlone_10 := dc_n3 aX3_howManyAlone_7
theorem aX3_howManyAlone_11 : dc_at cX3_howManyAlone 11 sX3_howManyAlone_11 := dc_n1 aX3_howManyAlone_10
theorem aX3_howManyAlone_14 : dc_at cX3_howManyAlone 14 sX3_howManyAlone_14 := dc_n3 aX3_howManyAlone_11
theorem aX3_howManyAlone_15 : dc_at cX3_howManyAlone 15 sX3_howManyAlone_15 := dc_n1 aX3_howManyAlone_14
theorem aX3_howManyAlone_16 : dc_at cX3_howManyAlone 16 sX3_howManyAlone_16 := dc_n1 aX3_howManyAlone_15
theorem aX3_howManyAlone_17 : dc_at cX3_howManyAlone 17 sX3_howManyAlone_17 := dc_n1 aX3_howManyAlone_16
theorem aX3_howManyAlone_18 : dc_at cX3_howManyAlone 18 sX3_howManyAlone_18 := dc_n1 aX3_howManyAlone_17
theorem aX3_howManyAlone_19 : dc_at cX3_howManyAlone 19 sX3_howManyAlone_19 := dc_n1 aX3_howManyAlone_18
theorem aX3_howManyAlone_22 : dc_at cX3_howManyAlone 22 sX3_howManyAlone_22 := dc_n3 aX3_howManyAlone_19
theorem aX3_howManyAlone_25 : dc_at cX3_howManyAlone 25 sX3_howManyAlone_25 := dc_n3 aX3_howManyAlone_22
theorem aX3_howManyAlone_28 : dc_at cX3_howManyAlone 28 sX3_howManyAlone_28 := dc_n3 aX3_howManyAlone_25
theorem aX3_howManyAlone_31 : dc_at cX3_howManyAlone 31 sX3_howManyAlone_31 := dc_n3 aX3_howManyAlone_28
theorem aX3_howManyAlone_32 : dc_at cX3_howManyAlone 32 sX3_howManyAlone_32 := dc_n1 aX3_howManyAlone_31
theorem dX3_howManyAlone_0 : decode cX3_howManyAlone 0 = .ok (.iconst 0, 1) := dc_3 aX3_howManyAlone_0
theorem dX3_howManyAlone_1 : decode cX3_howManyAlone 1 = .ok (.istore_n 2, 1) := dc_61 aX3_howManyAlone_1
theorem dX3_howManyAlone_2 : decode cX3_howManyAlone 2 = .ok (.iconst 0, 1) := dc_3 aX3_howManyAlone_2
theorem dX3_howManyAlone_3 : decode cX3_howManyAlone 3 = .ok (.istore_n 3, 1) := dc_62 aX3_howManyAlone_3
theorem dX3_howManyAlone_4 : decode cX3_howManyAlone 4 = .ok (.iload_n 3, 1) := dc_29 aX3_howManyAlone_4
theorem dX3_howManyAlone_5 : decode cX3_howManyAlone 5 = .ok (.bipush 7, 2) := dc_16 (a0 := 7) aX3_howManyAlone_5 (by decide)
theorem dX3_howManyAlone_7 : decode cX3_howManyAlone 7 = .ok (.if_icmp .ge 24, 3) := dc_162 (a0 := 0) (b0 := 24) aX3_howManyAlone_7 (by decide)
theorem dX3_howManyAlone_10 : decode cX3_howManyAlone 10 = .ok (.aload_n 0, 1) := dc_42 aX3_howManyAlone_10
theorem dX3_howManyAlone_11 : decode cX3_howManyAlone 11 = .ok (.getfield 9, 3) := dc_180 (a0 := 0) (b0 := 9) aX3_howManyAlone_11
theorem dX3_howManyAlone_14 : decode cX3_howManyAlone 14 = .ok (.iload_n 3, 1) := dc_29 aX3_howManyAlone_14
theorem dX3_howManyAlone_15 : decode cX3_howManyAlone 15 = .ok (.iaload, 1) := dc_46 aX3_howManyAlone_15
theorem dX3_howManyAlone_16 : decode cX3_howManyAlone 16 = .ok (.iconst 1, 1) := dc_4 aX3_howManyAlone_16
theorem dX3_howManyAlone_17 : decode cX3_howManyAlone 17 = .ok (.iload_n 1, 1) := dc_27 aX3_howManyAlone_17
theorem dX3_howManyAlone_18 : decode cX3_howManyAlone 18 = .ok (.ishl, 1) := dc_120 aX3_howManyAlone_18
theorem dX3_howManyAlone_19 : decode cX3_howManyAlone 19 = .ok (.if_icmp .ne 6, 3) := dc_160 (a0 := 0) (b0 := 6) aX3_howManyAlone_19 (by decide)
theorem dX3_howManyAlone_22 : decode cX3_howManyAlone 22 = .ok (.iinc 2 1, 3) := dc_132 (a0 := 2) (a1 := 1) aX3_howManyAlone_22 (by decide)
theorem dX3_howManyAlone_25 : decode cX3_howManyAlone 25 = .ok (.iinc 3 1, 3) := dc_132 (a0 := 3) (a1 := 1) aX3_howManyAlone_25 (by decide)
theorem dX3_howManyAlone_28 : decode cX3_howManyAlone 28 = .ok (.goto (-24), 3) := dc_167 (a0 := 255) (b0 := 232) aX3_howManyAlone_28 (by decide)
theorem dX3_howManyAlone_31 : decode cX3_howManyAlone 31 = .ok (.iload_n 2, 1) := dc_28 aX3_howManyAlone_31
theorem dX3_howManyAlone_32 : decode cX3_howManyAlone 32 = .ok (.ireturn, 1) := dc_172 aX3_howManyAlone_32
set_option maxRecDepth 20000 in
theorem ggX3_weightOf_J6_bitCount_0f7a4 : GoodIn wsX3_weightOf wsJ6_bitCount_0f7a4 := goodIn_k _ [[5, 0, 0, 0]] (by rfl) (by decide +kernel)
set_option maxRecDepth 20000 in
theorem gX3_weightOf_J6_bitCount_0f7a4 : GoodIn wsX3_weightOf (va_wsS RX3 44 yJ6_bitCount_0f7a4 wsJ6_bitCount_0f7a4) := goodIn_app (goodIn_of _ (by decide +kernel)) ggX3_weightOf_J6_bitCount_0f7a4
set_option maxRecDepth 20000 in
theorem ggX3_weightOf_X3_isShared : GoodIn wsX3_weightOf wsX3_isShared := goodIn_k _ [[13], [1, 12]] (by rfl) (by decide +kernel)
set_option maxRecDepth 20000 in
theorem gX3_weightOf_X3_isShared : GoodIn wsX3_weightOf (wsV RX3 40 RX3 yX3_isShared wsX3_isShared) := goodIn_app (goodIn_of _ (by decide +kernel)) ggX3_weightOf_X3_isShared
noncomputable def sX3_weightOf_50 : List Nat := 172 :: []
noncomputable def sX3_weightOf_49 : List Nat := 28 :: sX3_weightOf_50
noncomputable def sX3_weightOf_46 : List Nat := 167 :: 255 :: 214 :: sX3_weightOf_49
noncomputable def sX3_weightOf_43 : List Nat := 132 :: 3 :: 1 :: sX3_weightOf_46
noncomputable def sX3_weightOf_42 : List Nat := 61 :: sX3_weightOf_43
noncomputable def sX3_weightOf_41 : List Nat := 96 :: sX3_weightOf_42
noncomputable def sX3_weightOf_40 : List Nat := 108 :: sX3_weightOf_41
noncomputable def sX3_weightOf_38 : List Nat := 21 :: 4 :: sX3_weightOf_40
noncomputable def sX3_weightOf_36 : List Nat := 16 :: 6 :: sX3_weightOf_38
noncomputable def sX3_weightOf_35 : List Nat := 28 :: sX3_weightOf_36
noncomputable def sX3_weightOf_32 : List Nat := 158 :: 0 :: 11 :: sX3_weightOf_35
noncomputable def sX3_weightOf_30 : List Nat := 21 :: 4 :: sX3_weightOf_32
noncomputable def sX3_weightOf_27 : List Nat := 153 :: 0 :: 16 :: sX3_weightOf_30
noncomputable def sX3_weightOf_24 : List Nat := 182 :: 0 :: 40 :: sX3_weightOf_27
noncomputable def sX3_weightOf_23 : List Nat := 27 :: sX3_weightOf_24
noncomputable def sX3_weightOf_22 : List Nat := 29 :: sX3_weightOf_23
noncomputable def sX3_weightOf_21 : List Nat := 42 :: sX3_weightOf_22
noncomputable def sX3_weightOf_19 : List Nat := 54 :: 4 :: sX3_weightOf_21
noncomputable def sX3_weightOf_16 : List Nat := 184 :: 0 :: 44 :: sX3_weightOf_19
noncomputable def sX3_weightOf_15 : List Nat := 46 :: sX3_weightOf_16
noncomputable def sX3_weightOf_14 : List Nat := 29 :: sX3_weightOf_15
noncomputable def sX3_weightOf_11 : List Nat := 180 :: 0 :: 9 :: sX3_weightOf_14
noncomputable def sX3_weightOf_10 : List Nat := 42 :: sX3_weightOf_11
noncomputable def sX3_weightOf_7 : List Nat := 162 :: 0 :: 42 :: sX3_weightOf_10
noncomputable def sX3_weightOf_5 : List Nat := 16 :: 7 :: sX3_weightOf_7
noncomputable def sX3_weightOf_4 : List Nat := 29 :: sX3_weightOf_5
noncomputable def sX3_weightOf_3 : List Nat := 62 :: sX3_weightOf_4
noncomputable def sX3_weightOf_2 : List Nat := 3 :: sX3_weightOf_3
noncomputable def sX3_weightOf_1 : List Nat := 61 :: sX3_weightOf_2
noncomputable def sX3_weightOf_0 : List Nat := 3 :: sX3_weightOf_1
theorem aX3_weightOf_0 : dc_at cX3_weightOf 0 sX3_weightOf_0 := dc_base (by decide +kernel)
theorem aX3_weightOf_1 : dc_at cX3_weightOf 1 sX3_weightOf_1 := dc_n1 aX3_weightOf_0
theorem aX3_weightOf_2 : dc_at cX3_weightOf 2 sX3_weightOf_2 := dc_n1 aX3_weightOf_1
theorem aX3_weightOf_3 : dc_at cX3_weightOf 3 sX3_weightOf_3 := dc_n1 aX3_weightOf_2
theorem aX3_weightOf_4 : dc_at cX3_weightOf 4 sX3_weightOf_4 := dc_n1 aX3_weightOf_3
theorem aX3_weightOf_5 : dc_at cX3_weightOf 5 sX3_weightOf_5 := dc_n1 aX3_weightOf_4
theorem aX3_weightOf_7 : dc_at cX3_weightOf 7 sX3_weightOf_7 := dc_n2 aX3_weightOf_5
theorem aX3_weightOf_10 : dc_at cX3_weightOf 10 sX3_weightOf_10 := dc_n3 aX3_weightOf_7
theorem aX3_weightOf_11 : dc_at cX3_weightOf 11 sX3_weightOf_11 := dc_n1 aX3_weightOf_10
theorem aX3_weightOf_14 : dc_at cX3_weightOf 14 sX3_weightOf_14 := dc_n3 aX3_weightOf_11
theorem aX3_weightOf_15 : dc_at cX3_weightOf 15 sX3_weightOf_15 := dc_n1 aX3_weightOf_14
theorem aX3_weightOf_16 : dc_at cX3_weightOf 16 sX3_weightOf_16 := dc_n1 aX3_weightOf_15
theorem aX3_weightOf_19 : dc_at cX3_weightOf 19 sX3_weightOf_19 := dc_n3 aX3_weightOf_16
theorem aX3_weightOf_21 : dc_at cX3_weightOf 21 sX3_weightOf_21 := dc_n2 aX3_weightOf_19
theorem aX3_weightOf_22 : dc_at cX3_weightOf 22 sX3_weightOf_22 := dc_n1 aX3_weightOf_21
theorem aX3_weightOf_23 : dc_at cX3_weightOf 23 sX3_weightOf_23 := dc_n1 aX3_weightOf_22
theorem aX3_weightOf_24 : dc_at cX3_weightOf 24 sX3_weightOf_24 := dc_n1 aX3_weightOf_23
theorem aX3_weightOf_27 : dc_at cX3_weightOf 27 sX3_weightOf_27 := dc_n3 aX3_weightOf_24
theorem aX3_weightOf_30 : dc_at cX3_weightOf 30 sX3_weightOf_30 := dc_n3 aX3_weightOf_27
theorem aX3_weightOf_32 : dc_at cX3_weightOf 32 sX3_weightOf_32 := dc_n2 aX3_weightOf_30
theorem aX3_weightOf_35 : dc_at cX3_weightOf 35 sX3_weightOf_35 := dc_n3 aX3_weightOf_32
theorem aX3_weightOf_36 : dc_at cX3_weightOf 36 sX3_weightOf_36 := dc_n1 aX3_weightOf_35
theorem aX3_weightOf_38 : dc_at cX3_weightOf 38 sX3_weightOf_38 := dc_n2 aX3_weightOf_36
theorem aX3_weightOf_40 : dc_at cX3_weightOf 40 sX3_weightOf_40 := dc_n2 aX3_weightOf_38
theorem aX3_weightOf_41 : dc_at cX3_weightOf 41 sX3_weightOf_41 := dc_n1 aX3_weightOf_40
theorem aX3_weightOf_42 : dc_at cX3_weightOf 42 sX3_weightOf_42 := dc_n1 aX3_weightOf_41
theorem aX3_weightOf_43 : dc_at cX3_weightOf 43 sX3_weightOf_43 := dc_n1 aX3_weightOf_42
theorem aX3_weightOf_46 : dc_at cX3_weightOf 46 sX3_weightOf_46 := dc_n3 aX3_weightOf_43
theorem aX3_weightOf_49 : dc_at cX3_weightOf 49 sX3_weightOf_49 := dc_n3 aX3_weightOf_46
theorem aX3_weightOf_50 : dc_at cX3_weightOf 50 sX3_weightOf_50 := dc_n1 aX3_weightOf_49
theorem dX3_weightOf_0 : decode cX3_weightOf 0 = .ok (.iconst 0, 1) := dc_3 aX3_weightOf_0
theorem dX3_weightOf_1 : decode cX3_weightOf 1 = .ok (.istore_n 2, 1) := dc_61 aX3_weightOf_1
theorem dX3_weightOf_2 : decode cX3_weightOf 2 = .ok (.iconst 0, 1) := dc_3 aX3_weightOf_2
theorem dX3_weightOf_3 : decode cX3_weightOf 3 = .ok (.istore_n 3, 1) := dc_62 aX3_weightOf_3
theorem dX3_weightOf_4 : decode cX3_weightOf 4 = .ok (.iload_n 3, 1) := dc_29 aX3_weightOf_4
theorem dX3_weightOf_5 : decode cX3_weightOf 5 = .ok (.bipush 7, 2) := dc_16 (a0 := 7) aX3_weightOf_5 (by decide)
theorem dX3_weightOf_7 : decode cX3_weightOf 7 = .ok (.if_icmp .ge 42, 3) := dc_162 (a0 := 0) (b0 := 42) aX3_weightOf_7 (by decide)
theorem dX3_weightOf_10 : decode cX3_weightOf 10 = .ok (.aload_n 0, 1) := dc_42 aX3_weightOf_10
theorem dX3_weightOf_11 : decode cX3_weightOf 11 = .ok (.getfield 9, 3) := dc_180 (a0 := 0) (b0 := 9) aX3_weightOf_11
theorem dX3_weightOf_14 : decode cX3_weightOf 14 = .ok (.iload_n 3, 1) := dc_29 aX3_weightOf_14
theorem dX3_weightOf_15 : decode cX3_weightOf 15 = .ok (.iaload, 1) := dc_46 aX3_weightOf_15
theorem dX3_weightOf_16 : decode cX3_weightOf 16 = .ok (.invokestatic 44, 3) := dc_184 (a0 := 0) (b0 := 44) aX3_weightOf_16
theorem dX3_weightOf_19 : decode cX3_weightOf 19 = .ok (.istore 4, 2) := dc_54 (a0 := 4) aX3_weightOf_19
theorem dX3_weightOf_21 : decode cX3_weightOf 21 = .ok (.aload_n 0, 1) := dc_42 aX3_weightOf_21
theorem dX3_weightOf_22 : decode cX3_weightOf 22 = .ok (.iload_n 3, 1) := dc_29 aX3_weightOf_22
theorem dX3_weightOf_23 : decode cX3_weightOf 23 = .ok (.iload_n 1, 1) := dc_27 aX3_weightOf_23
theorem dX3_weightOf_24 : decode cX3_weightOf 24 = .ok (.invokevirtual 40, 3) := dc_182 (a0 := 0) (b0 := 40) aX3_weightOf_24
theorem dX3_weightOf_27 : decode cX3_weightOf 27 = .ok (.ifCond .eq 16, 3) := dc_153 (a0 := 0) (b0 := 16) aX3_weightOf_27 (by decide)
theorem dX3_weightOf_30 : decode cX3_weightOf 30 = .ok (.iload 4, 2) := dc_21 (a0 := 4) aX3_weightOf_30
theorem dX3_weightOf_32 : decode cX3_weightOf 32 = .ok (.ifCond .le 11, 3) := dc_158 (a0 := 0) (b0 := 11) aX3_weightOf_32 (by decide)
theorem dX3_weightOf_35 : decode cX3_weightOf 35 = .ok (.iload_n 2, 1) := dc_28 aX3_weightOf_35
theorem dX3_weightOf_36 : decode cX3_weightOf 36 = .ok (.bipush 6, 2) := dc_16 (a0 := 6) aX3_weightOf_36 (by decide)
theorem dX3_weightOf_38 : decode cX3_weightOf 38 = .ok (.iload 4, 2) := dc_21 (a0 := 4) aX3_weightOf_38
theorem dX3_weightOf_40 : decode cX3_weightOf 40 = .ok (.idiv, 1) := dc_108 aX3_weightOf_40
theorem dX3_weightOf_41 : decode cX3_weightOf 41 = .ok (.iadd, 1) := dc_96 aX3_weightOf_41
theorem dX3_weightOf_42 : decode cX3_weightOf 42 = .ok (.istore_n 2, 1) := dc_61 aX3_weightOf_42
theorem dX3_weightOf_43 : decode cX3_weightOf 43 = .ok (.iinc 3 1, 3) := dc_132 (a0 := 3) (a1 := 1) aX3_weightOf_43 (by decide)
theorem dX3_weightOf_46 : decode cX3_weightOf 46 = .ok (.goto (-42), 3) := dc_167 (a0 := 255) (b0 := 214) aX3_weightOf_46 (by decide)
theorem dX3_weightOf_49 : decode cX3_weightOf 49 = .ok (.iload_n 2, 1) := dc_28 aX3_weightOf_49
theorem dX3_weightOf_50 : decode cX3_weightOf 50 = .ok (.ireturn, 1) := dc_172 aX3_weightOf_50
set_option maxRecDepth 20000 in
theorem ggX3_setFollowed_X3_weightOf : GoodIn wsX3_setFollowed wsX3_weightOf := goodIn_k _ [[5, 0, 0, 0, 0, 0, 0, 0, 0, 0, 0, 0], [4, 12, 0]] (by rfl) (by decide +kernel)
set_option maxRecDepth 20000 in
theorem gX3_setFollowed_X3_weightOf : GoodIn wsX3_setFollowed (wsV RX3 50 RX3 yX3_weightOf wsX3_weightOf) := goodIn_app (goodIn_of _ (by decide +kernel)) ggX3_setFollowed_X3_weightOf
noncomputable def sX3_setFollowed_36 : List Nat := 172 :: []
noncomputable def sX3_setFollowed_35 : List Nat := 28 :: sX3_setFollowed_36
noncomputable def sX3_setFollowed_32 : List Nat := 167 :: 255 :: 230 :: sX3_setFollowed_35
noncomputable def sX3_setFollowed_29 : List Nat := 132 :: 3 :: 1 :: sX3_setFollowed_32
noncomputable def sX3_setFollowed_28 : List Nat := 61 :: sX3_setFollowed_29
noncomputable def sX3_setFollowed_27 : List Nat := 29 :: sX3_setFollowed_28
noncomputable def sX3_setFollowed_26 : List Nat := 60 :: sX3_setFollowed_27
noncomputable def sX3_setFollowed_24 : List Nat := 21 :: 4 :: sX3_setFollowed_26
noncomputable def sX3_setFollowed_21 : List Nat := 164 :: 0 :: 8 :: sX3_setFollowed_24
noncomputable def sX3_setFollowed_20 : List Nat := 27 :: sX3_setFollowed_21
noncomputable def sX3_setFollowed_18 : List Nat := 21 :: 4 :: sX3_setFollowed_20
noncomputable def sX3_setFollowed_16 : List Nat := 54 :: 4 :: sX3_setFollowed_18
noncomputable def sX3_setFollowed_13 : List Nat := 182 :: 0 :: 50 :: sX3_setFollowed_16
noncomputable def sX3_setFollowed_12 : List Nat := 29 :: sX3_setFollowed_13
noncomputable def sX3_setFollowed_11 : List Nat := 42 :: sX3_setFollowed_12
noncomputable def sX3_setFollowed_8 : List Nat := 162 :: 0 :: 27 :: sX3_setFollowed_11
noncomputable def sX3_setFollowed_7 : List Nat := 7 :: sX3_setFollowed_8
noncomputable def sX3_setFollowed_6 : List Nat := 29 :: sX3_setFollowed_7
noncomputable def sX3_setFollowed_5 : List Nat := 62 :: sX3_setFollowed_6
noncomputable def sX3_setFollowed_4 : List Nat := 4 :: sX3_setFollowed_5
noncomputable def sX3_setFollowed_3 : List Nat := 61 :: sX3_setFollowed_4
noncomputable def sX3_setFollowed_2 : List Nat := 2 :: sX3_setFollowed_3
noncomputable def sX3_setFollowed_1 : List Nat := 60 :: sX3_setFollowed_2
noncomputable def sX3_setFollowed_0 : List Nat := 3 :: sX3_setFollowed_1
theorem aX3_setFollowed_0 : dc_at cX3_setFollowed 0 sX3_setFollowed_0 := dc_base (by decide +kernel)
theorem aX3_setFollowed_1 : dc_at cX3_setFollowed 1 sX3_setFollowed_1 := dc_n1 aX3_setFollowed_0
theorem aX3_setFollowed_2 : dc_at cX3_setFollowed 2 sX3_setFollowed_2 := dc_n1 aX3_setFollowed_1
theorem aX3_setFollowed_3 : dc_at cX3_setFollowed 3 sX3_setFollowed_3 := dc_n1 aX3_setFollowed_2
theorem aX3_setFollowed_4 : dc_at cX3_setFollowed 4 sX3_setFollowed_4 := dc_n1 aX3_setFollowed_3
theorem aX3_setFollowed_5 : dc_at cX3_setFollowed 5 sX3_setFollowed_5 := dc_n1 aX3_setFollowed_4
theorem aX3_setFollowed_6 : dc_at cX3_setFollowed 6 sX3_setFollowed_6 := dc_n1 aX3_setFollowed_5
theorem aX3_setFollowed_7 : dc_at cX3_setFollowed 7 sX3_setFollowed_7 := dc_n1 aX3_setFollowed_6
theorem aX3_setFollowed_8 : dc_at cX3_setFollowed 8 sX3_setFollowed_8 := dc_n1 aX3_setFollowed_7
theorem aX3_setFollowed_11 : dc_at cX3_setFollowed 11 sX3_setFollowed_11 := dc_n3 aX3_setFollowed_8
theorem aX3_setFollowed_12 : dc_at cX3_setFollowed 12 sX3_setFollowed_12 := dc_n1 aX3_setFollowed_11
theorem aX3_setFollowed_13 : dc_at cX3_setFollowed 13 sX3_setFollowed_13 := dc_n1 aX3_setFollowed_12
theorem aX3_setFollowed_16 : dc_at cX3_setFollowed 16 sX3_setFollowed_16 := dc_n3 aX3_setFollowed_13
theorem aX3_setFollowed_18 : dc_at cX3_setFollowed 18 sX3_setFollowed_18 := dc_n2 aX3_setFollowed_16
theorem aX3_setFollowed_20 : dc_at cX3_setFollowed 20 sX3_setFollowed_20 := dc_n2 aX3_setFollowed_18
theorem aX3_setFollowed_21 : dc_at cX3_setFollowed 21 sX3_setFollowed_21 := dc_n1 aX3_setFollowed_20
theorem aX3_setFollowed_24 : dc_at cX3_setFollowed 24 sX3_setFollowed_24 := dc_n3 aX3_setFollowed_21
theorem aX3_setFollowed_26 : dc_at cX3_setFollowed 26 sX3_setFollowed_26 := dc_n2 aX3_setFollowed_24
theorem aX3_setFollowed_27 : dc_at cX3_setFollowed 27 sX3_setFollowed_27 := dc_n1 aX3_setFollowed_26
theorem aX3_setFollowed_28 : dc_at cX3_setFollowed 28 sX3_setFollowed_28 := dc_n1 aX3_setFollowed_27
theorem aX3_setFollowed_29 : dc_at cX3_setFollowed 29 sX3_setFollowed_29 := dc_n1 aX3_setFollowed_28
theorem aX3_setFollowed_32 : dc_at cX3_setFollowed 32 sX3_setFollowed_32 := dc_n3 aX3_setFollowed_29
theorem aX3_setFollowed_35 : dc_at cX3_setFollowed 35 sX3_setFollowed_35 := dc_n3 aX3_setFollowed_32
theorem aX3_setFollowed_36 : dc_at cX3_setFollowed 36 sX3_setFollowed_36 := dc_n1 aX3_setFollowed_35
theorem dX3_setFollowed_0 : decode cX3_setFollowed 0 = .ok (.iconst 0, 1) := dc_3 aX3_setFollowed_0
theorem dX3_setFollowed_1 : decode cX3_setFollowed 1 = .ok (.istore_n 1, 1) := dc_60 aX3_setFollowed_1
theorem dX3_setFollowed_2 : decode cX3_setFollowed 2 = .ok (.iconst (-1), 1) := dc_2 aX3_setFollowed_2
theorem dX3_setFollowed_3 : decode cX3_setFollowed 3 = .ok (.istore_n 2, 1) := dc_61 aX3_setFollowed_3
theorem dX3_setFollowed_4 : decode cX3_setFollowed 4 = .ok (.iconst 1, 1) := dc_4 aX3_setFollowed_4
theorem dX3_setFollowed_5 : decode cX3_setFollowed 5 = .ok (.istore_n 3, 1) := dc_62 aX3_setFollowed_5
theorem dX3_setFollowed_6 : decode cX3_setFollowed 6 = .ok (.iload_n 3, 1) := dc_29 aX3_setFollowed_6
theorem dX3_setFollowed_7 : decode cX3_setFollowed 7 = .ok (.iconst 4, 1) := dc_7 aX3_setFollowed_7
theorem dX3_setFollowed_8 : decode cX3_setFollowed 8 = .ok (.if_icmp .ge 27, 3) := dc_162 (a0 := 0) (b0 := 27) aX3_setFollowed_8 (by decide)
theorem dX3_setFollowed_11 : decode cX3_setFollowed 11 = .ok (.aload_n 0, 1) := dc_42 aX3_setFollowed_11
theorem dX3_setFollowed_12 : decode cX3_setFollowed 12 = .ok (.iload_n 3, 1) := dc_29 aX3_setFollowed_12
theorem dX3_setFollowed_13 : decode cX3_setFollowed 13 = .ok (.invokevirtual 50, 3) := dc_182 (a0 := 0) (b0 := 50) aX3_setFollowed_13
theorem dX3_setFollowed_16 : decode cX3_setFollowed 16 = .ok (.istore 4, 2) := dc_54 (a0 := 4) aX3_setFollowed_16
theorem dX3_setFollowed_18 : decode cX3_setFollowed 18 = .ok (.iload 4, 2) := dc_21 (a0 := 4) aX3_setFollowed_18
theorem dX3_setFollowed_20 : decode cX3_setFollowed 20 = .ok (.iload_n 1, 1) := dc_27 aX3_setFollowed_20
theorem dX3_setFollowed_21 : decode cX3_setFollowed 21 = .ok (.if_icmp .le 8, 3) := dc_164 (a0 := 0) (b0 := 8) aX3_setFollowed_21 (by decide)
theorem dX3_setFollowed_24 : decode cX3_setFollowed 24 = .ok (.iload 4, 2) := dc_21 (a0 := 4) aX3_setFollowed_24
theorem dX3_setFollowed_26 : decode cX3_setFollowed 26 = .ok (.istore_n 1, 1) := dc_60 aX3_setFollowed_26
theorem dX3_setFollowed_27 : decode cX3_setFollowed 27 = .ok (.iload_n 3, 1) := dc_29 aX3_setFollowed_27
theorem dX3_setFollowed_28 : decode cX3_setFollowed 28 = .ok (.istore_n 2, 1) := dc_61 aX3_setFollowed_28
theorem dX3_setFollowed_29 : decode cX3_setFollowed 29 = .ok (.iinc 3 1, 3) := dc_132 (a0 := 3) (a1 := 1) aX3_setFollowed_29 (by decide)
theorem dX3_setFollowed_32 : decode cX3_setFollowed 32 = .ok (.goto (-26), 3) := dc_167 (a0 := 255) (b0 := 230) aX3_setFollowed_32 (by decide)
theorem dX3_setFollowed_35 : decode cX3_setFollowed 35 = .ok (.iload_n 2, 1) := dc_28 aX3_setFollowed_35
theorem dX3_setFollowed_36 : decode cX3_setFollowed 36 = .ok (.ireturn, 1) := dc_172 aX3_setFollowed_36
noncomputable def sX4_init_12 : List Nat := 177 :: []
noncomputable def sX4_init_9 : List Nat := 181 :: 0 :: 9 :: sX4_init_12
noncomputable def sX4_init_7 : List Nat := 188 :: 10 :: sX4_init_9
noncomputable def sX4_init_5 : List Nat := 16 :: 30 :: sX4_init_7
noncomputable def sX4_init_4 : List Nat := 42 :: sX4_init_5
noncomputable def sX4_init_1 : List Nat := 183 :: 0 :: 3 :: sX4_init_4
noncomputable def sX4_init_0 : List Nat := 42 :: sX4_init_1
theorem aX4_init_0 : dc_at cX4_init 0 sX4_init_0 := dc_base (by decide +kernel)
theorem aX4_init_1 : dc_at cX4_init 1 sX4_init_1 := dc_n1 aX4_init_0
theorem aX4_init_4 : dc_at cX4_init 4 sX4_init_4 := dc_n3 aX4_init_1
theorem aX4_init_5 : dc_at cX4_init 5 sX4_init_5 := dc_n1 aX4_init_4
theorem aX4_init_7 : dc_at cX4_init 7 sX4_init_7 := dc_n2 aX4_init_5
theorem aX4_init_9 : dc_at cX4_init 9 sX4_init_9 := dc_n2 aX4_init_7
theorem aX4_init_12 : dc_at cX4_init 12 sX4_init_12 := dc_n3 aX4_init_9
theorem dX4_init_0 : decode cX4_init 0 = .ok (.aload_n 0, 1) := dc_42 aX4_init_0
theorem dX4_init_1 : decode cX4_init 1 = .ok (.invokespecial 3, 3) := dc_183 (a0 := 0) (b0 := 3) aX4_init_1
theorem dX4_init_4 : decode cX4_init 4 = .ok (.aload_n 0, 1) := dc_42 aX4_init_4
theorem dX4_init_5 : decode cX4_init 5 = .ok (.bipush 30, 2) := dc_16 (a0 := 30) aX4_init_5 (by decide)
theorem dX4_init_7 : decode cX4_init 7 = .ok (.newarray .int, 2) := dc_188_10 aX4_init_7
theorem dX4_init_9 : decode cX4_init 9 = .ok (.putfield 9, 3) := dc_181 (a0 := 0) (b0 := 9) aX4_init_9
theorem dX4_init_12 : decode cX4_init 12 = .ok (.return_, 1) := dc_177 aX4_init_12
noncomputable def sX4_copyFrom_23 : List Nat := 177 :: []
noncomputable def sX4_copyFrom_20 : List Nat := 181 :: 0 :: 21 :: sX4_copyFrom_23
noncomputable def sX4_copyFrom_17 : List Nat := 180 :: 0 :: 21 :: sX4_copyFrom_20
noncomputable def sX4_copyFrom_16 : List Nat := 43 :: sX4_copyFrom_17
noncomputable def sX4_copyFrom_15 : List Nat := 42 :: sX4_copyFrom_16
noncomputable def sX4_copyFrom_12 : List Nat := 184 :: 0 :: 15 :: sX4_copyFrom_15
noncomputable def sX4_copyFrom_10 : List Nat := 16 :: 30 :: sX4_copyFrom_12
noncomputable def sX4_copyFrom_9 : List Nat := 3 :: sX4_copyFrom_10
noncomputable def sX4_copyFrom_6 : List Nat := 180 :: 0 :: 9 :: sX4_copyFrom_9
noncomputable def sX4_copyFrom_5 : List Nat := 42 :: sX4_copyFrom_6
noncomputable def sX4_copyFrom_4 : List Nat := 3 :: sX4_copyFrom_5
noncomputable def sX4_copyFrom_1 : List Nat := 180 :: 0 :: 9 :: sX4_copyFrom_4
noncomputable def sX4_copyFrom_0 : List Nat := 43 :: sX4_copyFrom_1
theorem aX4_copyFrom_0 : dc_at cX4_copyFrom 0 sX4_copyFrom_0 := dc_base (by decide +kernel)
theorem aX4_copyFrom_1 : dc_at cX4_copyFrom 1 sX4_copyFrom_1 := dc_n1 aX4_copyFrom_0
theorem aX4_copyFrom_4 : dc_at cX4_copyFrom 4 sX4_copyFrom_4 := dc_n3 aX4_copyFrom_1
theorem aX4_copyFrom_5 : dc_at cX4_copyFrom 5 sX4_copyFrom_5 := dc_n1 aX4_copyFrom_4
theorem aX4_copyFrom_6 : dc_at cX4_copyFrom 6 sX4_copyFrom_6 := dc_n1 aX4_copyFrom_5
theorem aX4_copyFrom_9 : dc_at cX4_copyFrom 9 sX4_copyFrom_9 := dc_n3 aX4_copyFrom_6
theorem aX4_copyFrom_10 : dc_at cX4_copyFrom 10 sX4_copyFrom_10 := dc_n1 aX4_copyFrom_9
theorem aX4_copyFrom_12 : dc_at cX4_copyFrom 12 sX4_copyFrom_12 := dc_n2 aX4_copyFrom_10
theorem aX4_copyFrom_15 : dc_at cX4_copyFrom 15 sX4_copyFrom_15 := dc_n3 aX4_copyFrom_12
theorem aX4_copyFrom_16 : dc_at cX4_copyFrom 16 sX4_copyFrom_16 := dc_n1 aX4_copyFrom_15
theorem aX4_copyFrom_17 : dc_at cX4_copyFrom 17 sX4_copyFrom_17 := dc_n1 aX4_copyFrom_16
theorem aX4_copyFrom_20 : dc_at cX4_copyFrom 20 sX4_copyFrom_20 := dc_n3 aX4_copyFrom_17
theorem aX4_copyFrom_23 : dc_at cX4_copyFrom 23 sX4_copyFrom_23 := dc_n3 aX4_copyFrom_20
theorem dX4_copyFrom_0 : decode cX4_copyFrom 0 = .ok (.aload_n 1, 1) := dc_43 aX4_copyFrom_0
theorem dX4_copyFrom_1 : decode cX4_copyFrom 1 = .ok (.getfield 9, 3) := dc_180 (a0 := 0) (b0 := 9) aX4_copyFrom_1
theorem dX4_copyFrom_4 : decode cX4_copyFrom 4 = .ok (.iconst 0, 1) := dc_3 aX4_copyFrom_4
theorem dX4_copyFrom_5 : decode cX4_copyFrom 5 = .ok (.aload_n 0, 1) := dc_42 aX4_copyFrom_5
theorem dX4_copyFrom_6 : decode cX4_copyFrom 6 = .ok (.getfield 9, 3) := dc_180 (a0 := 0) (b0 := 9) aX4_copyFrom_6
theorem dX4_copyFrom_9 : decode cX4_copyFrom 9 = .ok (.iconst 0, 1) := dc_3 aX4_copyFrom_9
theorem dX4_copyFrom_10 : decode cX4_copyFrom 10 = .ok (.bipush 30, 2) := dc_16 (a0 := 30) aX4_copyFrom_10 (by decide)
theorem dX4_copyFrom_12 : decode cX4_copyFrom 12 = .ok (.invokestatic 15, 3) := dc_184 (a0 := 0) (b0 := 15) aX4_copyFrom_12
theorem dX4_copyFrom_15 : decode cX4_copyFrom 15 = .ok (.aload_n 0, 1) := dc_42 aX4_copyFrom_15
theorem dX4_copyFrom_16 : decode cX4_copyFrom 16 = .ok (.aload_n 1, 1) := dc_43 aX4_copyFrom_16
theorem dX4_copyFrom_17 : decode cX4_copyFrom 17 = .ok (.getfield 21, 3) := dc_180 (a0 := 0) (b0 := 21) aX4_copyFrom_17
theorem dX4_copyFrom_20 : decode cX4_copyFrom 20 = .ok (.putfield 21, 3) := dc_181 (a0 := 0) (b0 := 21) aX4_copyFrom_20
theorem dX4_copyFrom_23 : decode cX4_copyFrom 23 = .ok (.return_, 1) := dc_177 aX4_copyFrom_23
set_option maxRecDepth 20000 in
theorem ggX4_readHand_X9_refuse : GoodIn wsX4_readHand wsX9_refuse := goodIn_k _ [[8, 0, 0, 0, 92, 0, 0, 0, 0, 0, 0, 0, 0, 0]] (by rfl) (by decide +kernel)
set_option maxRecDepth 20000 in
theorem gX4_readHand_X9_refuse : GoodIn wsX4_readHand (wsV RX4 27 RX9 yX9_refuse wsX9_refuse) := goodIn_app (goodIn_of _ (by decide +kernel)) ggX4_readHand_X9_refuse
set_option maxRecDepth 20000 in
theorem ggX4_readHand_X9_step : GoodIn wsX4_readHand wsX9_step := goodIn_k _ [[15, 0, 0, 0], [10, 8, 0, 0, 0], [7, 15, 0, 0, 0, 0, 0, 0, 74, 0, 0, 0, 0, 0, 0, 0, 0, 0]] (by rfl) (by decide +kernel)
set_option maxRecDepth 20000 in
theorem gX4_readHand_X9_step : GoodIn wsX4_readHand (wsV RX4 31 RX9 yX9_step wsX9_step) := goodIn_app (goodIn_of _ (by decide +kernel)) ggX4_readHand_X9_step
set_option maxRecDepth 20000 in
theorem ggX4_readHand_X9_takeNumber : GoodIn wsX4_readHand wsX9_takeNumber := goodIn_k _ [[33, 0, 0, 0], [7, 29], [19], [16], [10, 9, 17, 0], [5, 0, 1, 0, 1, 28], [13, 0, 0, 1, 0, 2, 0, 0, 0, 0, 0, 0, 0, 0, 74, 0, 0, 0, 0, 0, 0, 0, 0, 0]] (by rfl) (by decide +kernel)
set_option maxRecDepth 20000 in
theorem gX4_readHand_X9_takeNumber : GoodIn wsX4_readHand (wsV RX4 34 RX9 yX9_takeNumber wsX9_takeNumber) := goodIn_app (goodIn_of _ (by decide +kernel)) ggX4_readHand_X9_takeNumber
set_option maxRecDepth 20000 in
theorem ggX4_readHand_X9_takeWord : GoodIn wsX4_readHand wsX9_takeWord := goodIn_k _ [[44, 0, 0, 0], [7, 40], [19], [16], [10, 7, 30, 0, 0, 0, 0, 0, 0, 0, 0, 0, 0, 0, 0, 0, 0, 0, 0, 0, 0, 0, 0, 0, 0, 0, 0, 0, 0, 0, 0, 0, 0, 0, 0, 0, 0, 0, 0, 0, 0, 0, 0, 0, 0, 0, 0, 0, 0, 0, 0], [39], [5, 0, 1, 0, 1, 28], [13, 0, 0, 1, 2, 0, 0, 0, 0, 0, 0, 0, 0, 0, 74, 0, 0, 0, 0, 0, 0, 0, 0, 0]] (by rfl) (by decide +kernel)
set_option maxRecDepth 20000 in
theorem gX4_readHand_X9_takeWord : GoodIn wsX4_readHand (wsV RX4 43 RX9 yX9_takeWord wsX9_takeWord) := goodIn_app (goodIn_of _ (by decide +kernel)) ggX4_readHand_X9_takeWord
set_option maxRecDepth 20000 in
theorem ggX4_readHand_X9_takeStop : GoodIn wsX4_readHand wsX9_takeStop := goodIn_k _ [[101], [19, 19], [5, 0, 0, 0, 0, 0, 0, 28], [13, 0, 0, 0, 0, 0, 1, 0, 0, 0, 0, 0, 0, 0, 0, 0, 74, 0, 0, 0, 0, 0, 0, 0, 0, 0]] (by rfl) (by decide +kernel)
set_option maxRecDepth 20000 in
theorem gX4_readHand_X9_takeStop : GoodIn wsX4_readHand (wsV RX4 47 RX9 yX9_takeStop wsX9_takeStop) := goodIn_app (goodIn_of _ (by decide +kernel)) ggX4_readHand_X9_takeStop
noncomputable def sX4_readHand_86 : List Nat := 172 :: []
noncomputable def sX4_readHand_83 : List Nat := 182 :: 0 :: 47 :: sX4_readHand_86
noncomputable def sX4_readHand_82 : List Nat := 43 :: sX4_readHand_83
noncomputable def sX4_readHand_79 : List Nat := 181 :: 0 :: 21 :: sX4_readHand_82
noncomputable def sX4_readHand_78 : List Nat := 96 :: sX4_readHand_79
noncomputable def sX4_readHand_77 : List Nat := 4 :: sX4_readHand_78
noncomputable def sX4_readHand_74 : List Nat := 180 :: 0 :: 21 :: sX4_readHand_77
noncomputable def sX4_readHand_73 : List Nat := 89 :: sX4_readHand_74
noncomputable def sX4_readHand_72 : List Nat := 42 :: sX4_readHand_73
noncomputable def sX4_readHand_71 : List Nat := 79 :: sX4_readHand_72
noncomputable def sX4_readHand_70 : List Nat := 128 :: sX4_readHand_71
noncomputable def sX4_readHand_69 : List Nat := 120 :: sX4_readHand_70
noncomputable def sX4_readHand_66 : List Nat := 180 :: 0 :: 38 :: sX4_readHand_69
noncomputable def sX4_readHand_65 : List Nat := 43 :: sX4_readHand_66
noncomputable def sX4_readHand_64 : List Nat := 4 :: sX4_readHand_65
noncomputable def sX4_readHand_63 : List Nat := 46 :: sX4_readHand_64
noncomputable def sX4_readHand_62 : List Nat := 92 :: sX4_readHand_63
noncomputable def sX4_readHand_61 : List Nat := 28 :: sX4_readHand_62
noncomputable def sX4_readHand_58 : List Nat := 180 :: 0 :: 9 :: sX4_readHand_61
noncomputable def sX4_readHand_57 : List Nat := 42 :: sX4_readHand_58
noncomputable def sX4_readHand_56 : List Nat := 172 :: sX4_readHand_57
noncomputable def sX4_readHand_55 : List Nat := 3 :: sX4_readHand_56
noncomputable def sX4_readHand_52 : List Nat := 154 :: 0 :: 5 :: sX4_readHand_55
noncomputable def sX4_readHand_49 : List Nat := 182 :: 0 :: 34 :: sX4_readHand_52
noncomputable def sX4_readHand_47 : List Nat := 16 :: 29 :: sX4_readHand_49
noncomputable def sX4_readHand_46 : List Nat := 3 :: sX4_readHand_47
noncomputable def sX4_readHand_45 : List Nat := 43 :: sX4_readHand_46
noncomputable def sX4_readHand_42 : List Nat := 153 :: 0 :: 13 :: sX4_readHand_45
noncomputable def sX4_readHand_39 : List Nat := 182 :: 0 :: 43 :: sX4_readHand_42
noncomputable def sX4_readHand_37 : List Nat := 18 :: 41 :: sX4_readHand_39
noncomputable def sX4_readHand_36 : List Nat := 43 :: sX4_readHand_37
noncomputable def sX4_readHand_35 : List Nat := 61 :: sX4_readHand_36
noncomputable def sX4_readHand_32 : List Nat := 180 :: 0 :: 38 :: sX4_readHand_35
noncomputable def sX4_readHand_31 : List Nat := 43 :: sX4_readHand_32
noncomputable def sX4_readHand_30 : List Nat := 172 :: sX4_readHand_31
noncomputable def sX4_readHand_29 : List Nat := 3 :: sX4_readHand_30
noncomputable def sX4_readHand_26 : List Nat := 154 :: 0 :: 5 :: sX4_readHand_29
noncomputable def sX4_readHand_23 : List Nat := 182 :: 0 :: 34 :: sX4_readHand_26
noncomputable def sX4_readHand_21 : List Nat := 16 :: 29 :: sX4_readHand_23
noncomputable def sX4_readHand_20 : List Nat := 3 :: sX4_readHand_21
noncomputable def sX4_readHand_19 : List Nat := 43 :: sX4_readHand_20
noncomputable def sX4_readHand_16 : List Nat := 182 :: 0 :: 31 :: sX4_readHand_19
noncomputable def sX4_readHand_15 : List Nat := 43 :: sX4_readHand_16
noncomputable def sX4_readHand_14 : List Nat := 172 :: sX4_readHand_15
noncomputable def sX4_readHand_11 : List Nat := 182 :: 0 :: 27 :: sX4_readHand_14
noncomputable def sX4_readHand_10 : List Nat := 5 :: sX4_readHand_11
noncomputable def sX4_readHand_9 : List Nat := 43 :: sX4_readHand_10
noncomputable def sX4_readHand_6 : List Nat := 161 :: 0 :: 9 :: sX4_readHand_9
noncomputable def sX4_readHand_4 : List Nat := 16 :: 30 :: sX4_readHand_6
noncomputable def sX4_readHand_1 : List Nat := 180 :: 0 :: 21 :: sX4_readHand_4
noncomputable def sX4_readHand_0 : List Nat := 42 :: sX4_readHand_1
theorem aX4_readHand_0 : dc_at cX4_readHand 0 sX4_readHand_0 := dc_base (by decide +kernel)
theorem aX4_readHand_1 : dc_at cX4_readHand 1 sX4_readHand_1 := dc_n1 aX4_readHand_0
theorem aX4_readHand_4 : dc_at cX4_readHand 4 sX4_readHand_4 := dc_n3 aX4_readHand_1
theorem aX4_readHand_6 : dc_at cX4_readHand 6 sX4_readHand_6 := dc_n2 aX4_readHand_4
theorem aX4_readHand_9 : dc_at cX4_readHand 9 sX4_readHand_9 := dc_n3 aX4_readHand_6
theorem aX4_readHand_10 : dc_at cX4_readHand 10 sX4_readHand_10 := dc_n1 aX4_readHand_9
theorem aX4_readHand_11 : dc_at cX4_readHand 11 sX4_readHand_11 := dc_n1 aX4_readHand_10
theorem aX4_readHand_14 : dc_at cX4_readHand 14 sX4_readHand_14 := dc_n3 aX4_readHand_11
theorem aX4_readHand_15 : dc_at cX4_readHand 15 sX4_readHand_15 := dc_n1 aX4_readHand_14
theorem aX4_readHand_16 : dc_at cX4_readHand 16 sX4_readHand_16 := dc_n1 aX4_readHand_15
theorem aX4_readHand_19 : dc_at cX4_readHand 19 sX4_readHand_19 := dc_n3 aX4_readHand_16
theorem aX4_readHand_20 : dc_at cX4_readHand 20 sX4_readHand_20 := dc_n1 aX4_readHand_19
theorem aX4_readHand_21 : dc_at cX4_readHand 21 sX4_readHand_21 := dc_n1 aX4_readHand_20
theorem aX4_readHand_23 : dc_at cX4_readHand 23 sX4_readHand_23 := dc_n2 aX4_readHand_21
theorem aX4_readHand_26 : dc_at cX4_readHand 26 sX4_readHand_26 := dc_n3 aX4_readHand_23
theorem aX4_readHand_29 : dc_at cX4_readHand 29 sX4_readHand_29 := dc_n3 aX4_readHand_26
theorem aX4_readHand_30 : dc_at cX4_readHand 30 sX4_readHand_30 := dc_n1 aX4_readHand_29
theorem aX4_readHand_31 : dc_at cX4_readHand 31 sX4_readHand_31 := dc_n1 aX4_readHand_30
theorem aX4_readHand_32 : dc_at cX4_readHand 32 sX4_readHand_32 := dc_n1 aX4_readHand_31
theorem aX4_readHand_35 : dc_at cX4_readHand 35 sX4_readHand_35 := dc_n3 aX4_readHand_32
theorem aX4_readHand_36 : dc_at cX4_readHand 36 sX4_readHand_36 := dc_n1 aX4_readHand_35
theorem aX4_readHand_37 : dc_at cX4_readHand 37 sX4_readHand_37 := dc_n1 aX4_readHand_36
theorem aX4_readHand_39 : dc_at cX4_readHand 39 sX4_readHand_39 := dc_n2 aX4_readHand_37
theorem aX4_readHand_42 : dc_at cX4_readHand 42 sX4_readHand_42 := dc_n3 aX4_readHand_39
theorem aX4_readHand_45 : dc_at cX4_readHand 45 sX4_readHand_45 := dc_n3 aX4_readHand_42
theorem aX4_readHand_46 : dc_at cX4_readHand 46 sX4_readHand_46 := dc_n1 aX4_readHand_45
theorem aX4_readHand_47 : dc_at cX4_readHand 47 sX4_readHand_47 := dc_n1 aX4_readHand_46
theorem aX4_readHand_49 : dc_at cX4_readHand 49 sX4_readHand_49 := dc_n2 aX4_readHand_47
theorem aX4_readHand_52 : dc_at cX4_readHand 52 sX4_readHand_52 := dc_n3 aX4_readHand_49
theorem aX4_readHand_55 : dc_at cX4_readHand 55 sX4_readHand_55 := dc_n3 aX4_readHand_52
theorem aX4_readHand_56 : dc_at cX4_readHand 56 sX4_readHand_56 := dc_n1 aX4_readHand_55
theorem aX4_readHand_57 : dc_at cX4_readHand 57 sX4_readHand_57 := dc_n1 aX4_readHand_56
theorem aX4_readHand_58 : dc_at cX4_readHand 58 sX4_readHand_58 := dc_n1 aX4_readHand_57
theorem aX4_readHand_61 : dc_at cX4_readHand 61 sX4_readHand_61 := dc_n3 aX4_readHand_58
theorem aX4_readHand_62 : dc_at cX4_readHand 62 sX4_readHand_62 := dc_n1 aX4_readHand_61
theorem aX4_readHand_63 : dc_at cX4_readHand 63 sX4_readHand_63 := dc_n1 aX4_readHand_62
theorem aX4_readHand_64 : dc_at cX4_readHand 64 sX4_readHand_64 := dc_n1 aX4_readHand_63
theorem aX4_readHand_65 : dc_at cX4_readHand 65 sX4_readHand_65 := dc_n1 aX4_readHand_64
theorem aX4_readHand_66 : dc_at cX4_readHand 66 sX4_readHand_66 := dc_n1 aX4_readHand_65
theorem aX4_readHand_69 : dc_at cX4_readHand 69 sX4_readHand_69 := dc_n3 aX4_readHand_66
theorem aX4_readHand_70 : dc_at cX4_readHand 70 sX4_readHand_70 := dc_n1 aX4_readHand_69
theorem aX4_readHand_71 : dc_at cX4_readHand 71 sX4_readHand_71 := dc_n1 aX4_readHand_70
theorem aX4_readHand_72 : dc_at cX4_readHand 72 sX4_readHand_72 := dc_n1 aX4_readHand_71
theorem aX4_readHand_73 : dc_at cX4_readHand 73 sX4_readHand_73 := dc_n1 aX4_readHand_72
theorem aX4_readHand_74 : dc_at cX4_readHand 74 sX4_readHand_74 := dc_n1 aX4_readHand_73
theorem aX4_readHand_77 : dc_at cX4_readHand 77 sX4_readHand_77 := dc_n3 aX4_readHand_74
theorem aX4_readHand_78 : dc_at cX4_readHand 78 sX4_readHand_78 := dc_n1 aX4_readHand_77
theorem aX4_readHand_79 : dc_at cX4_readHand 79 sX4_readHand_79 := dc_n1 aX4_readHand_78
theorem aX4_readHand_82 : dc_at cX4_readHand 82 sX4_readHand_82 := dc_n3 aX4_readHand_79
theorem aX4_readHand_83 : dc_at cX4_readHand 83 sX4_readHand_83 := dc_n1 aX4_readHand_82
theorem aX4_readHand_86 : dc_at cX4_readHand 86 sX4_readHand_86 := dc_n3 aX4_readHand_83
theorem dX4_readHand_0 : decode cX4_readHand 0 = .ok (.aload_n 0, 1) := dc_42 aX4_readHand_0
theorem dX4_readHand_1 : decode cX4_readHand 1 = .ok (.getfield 21, 3) := dc_180 (a0 := 0) (b0 := 21) aX4_readHand_1
theorem dX4_readHand_4 : decode cX4_readHand 4 = .ok (.bipush 30, 2) := dc_16 (a0 := 30) aX4_readHand_4 (by decide)
theorem dX4_readHand_6 : decode cX4_readHand 6 = .ok (.if_icmp .lt 9, 3) := dc_161 (a0 := 0) (b0 := 9) aX4_readHand_6 (by decide)
theorem dX4_readHand_9 : decode cX4_readHand 9 = .ok (.aload_n 1, 1) := dc_43 aX4_readHand_9
theorem dX4_readHand_10 : decode cX4_readHand 10 = .ok (.iconst 2, 1) := dc_5 aX4_readHand_10
theorem dX4_readHand_11 : decode cX4_readHand 11 = .ok (.invokevirtual 27, 3) := dc_182 (a0 := 0) (b0 := 27) aX4_readHand_11
theorem dX4_readHand_14 : decode cX4_readHand 14 = .ok (.ireturn, 1) := dc_172 aX4_readHand_14
theorem dX4_readHand_15 : decode cX4_readHand 15 = .ok (.aload_n 1, 1) := dc_43 aX4_readHand_15
theorem dX4_readHand_16 : decode cX4_readHand 16 = .ok (.invokevirtual 31, 3) := dc_182 (a0 := 0) (b0 := 31) aX4_readHand_16
theorem dX4_readHand_19 : decode cX4_readHand 19 = .ok (.aload_n 1, 1) := dc_43 aX4_readHand_19
theorem dX4_readHand_20 : decode cX4_readHand 20 = .ok (.iconst 0, 1) := dc_3 aX4_readHand_20
theorem dX4_readHand_21 : decode cX4_readHand 21 = .ok (.bipush 29, 2) := dc_16 (a0 := 29) aX4_readHand_21 (by decide)
theorem dX4_readHand_23 : decode cX4_readHand 23 = .ok (.invokevirtual 34, 3) := dc_182 (a0 := 0) (b0 := 34) aX4_readHand_23
theorem dX4_readHand_26 : decode cX4_readHand 26 = .ok (.ifCond .ne 5, 3) := dc_154 (a0 := 0) (b0 := 5) aX4_readHand_26 (by decide)
theorem dX4_readHand_29 : decode cX4_readHand 29 = .ok (.iconst 0, 1) := dc_3 aX4_readHand_29
theorem dX4_readHand_30 : decode cX4_readHand 30 = .ok (.ireturn, 1) := dc_172 aX4_readHand_30
theorem dX4_readHand_31 : decode cX4_readHand 31 = .ok (.aload_n 1, 1) := dc_43 aX4_readHand_31
theorem dX4_readHand_32 : decode cX4_readHand 32 = .ok (.getfield 38, 3) := dc_180 (a0 := 0) (b0 := 38) aX4_readHand_32
theorem dX4_readHand_35 : decode cX4_readHand 35 = .ok (.istore_n 2, 1) := dc_61 aX4_readHand_35
theorem dX4_readHand_36 : decode cX4_readHand 36 = .ok (.aload_n 1, 1) := dc_43 aX4_readHand_36
theorem dX4_readHand_37 : decode cX4_readHand 37 = .ok (.ldc 41, 2) := dc_18 (a0 := 41) aX4_readHand_37
theorem dX4_readHand_39 : decode cX4_readHand 39 = .ok (.invokevirtual 43, 3) := dc_182 (a0 := 0) (b0 := 43) aX4_readHand_39
theorem dX4_readHand_42 : decode cX4_readHand 42 = .ok (.ifCond .eq 13, 3) := dc_153 (a0 := 0) (b0 := 13) aX4_readHand_42 (by decide)
theorem dX4_readHand_45 : decode cX4_readHand 45 = .ok (.aload_n 1, 1) := dc_43 aX4_readHand_45
theorem dX4_readHand_46 : decode cX4_readHand 46 = .ok (.iconst 0, 1) := dc_3 aX4_readHand_46
theorem dX4_readHand_47 : decode cX4_readHand 47 = .ok (.bipush 29, 2) := dc_16 (a0 := 29) aX4_readHand_47 (by decide)
theorem dX4_readHand_49 : decode cX4_readHand 49 = .ok (.invokevirtual 34, 3) := dc_182 (a0 := 0) (b0 := 34) aX4_readHand_49
theorem dX4_readHand_52 : decode cX4_readHand 52 = .ok (.ifCond .ne 5, 3) := dc_154 (a0 := 0) (b0 := 5) aX4_readHand_52 (by decide)
theorem dX4_readHand_55 : decode cX4_readHand 55 = .ok (.iconst 0, 1) := dc_3 aX4_readHand_55
theorem dX4_readHand_56 : decode cX4_readHand 56 = .ok (.ireturn, 1) := dc_172 aX4_readHand_56
theorem dX4_readHand_57 : decode cX4_readHand 57 = .ok (.aload_n 0, 1) := dc_42 aX4_readHand_57
theorem dX4_readHand_58 : decode cX4_readHand 58 = .ok (.getfield 9, 3) := dc_180 (a0 := 0) (b0 := 9) aX4_readHand_58
theorem dX4_readHand_61 : decode cX4_readHand 61 = .ok (.iload_n 2, 1) := dc_28 aX4_readHand_61
theorem dX4_readHand_62 : decode cX4_readHand 62 = .ok (.dup2, 1) := dc_92 aX4_readHand_62
theorem dX4_readHand_63 : decode cX4_readHand 63 = .ok (.iaload, 1) := dc_46 aX4_readHand_63
theorem dX4_readHand_64 : decode cX4_readHand 64 = .ok (.iconst 1, 1) := dc_4 aX4_readHand_64
theorem dX4_readHand_65 : decode cX4_readHand 65 = .ok (.aload_n 1, 1) := dc_43 aX4_readHand_65
theorem dX4_readHand_66 : decode cX4_readHand 66 = .ok (.getfield 38, 3) := dc_180 (a0 := 0) (b0 := 38) aX4_readHand_66
theorem dX4_readHand_69 : decode cX4_readHand 69 = .ok (.ishl, 1) := dc_120 aX4_readHand_69
theorem dX4_readHand_70 : decode cX4_readHand 70 = .ok (.ior, 1) := dc_128 aX4_readHand_70
theorem dX4_readHand_71 : decode cX4_readHand 71 = .ok (.iastore, 1) := dc_79 aX4_readHand_71
theorem dX4_readHand_72 : decode cX4_readHand 72 = .ok (.aload_n 0, 1) := dc_42 aX4_readHand_72
theorem dX4_readHand_73 : decode cX4_readHand 73 = .ok (.dup, 1) := dc_89 aX4_readHand_73
theorem dX4_readHand_74 : decode cX4_readHand 74 = .ok (.getfield 21, 3) := dc_180 (a0 := 0) (b0 := 21) aX4_readHand_74
theorem dX4_readHand_77 : decode cX4_readHand 77 = .ok (.iconst 1, 1) := dc_4 aX4_readHand_77
theorem dX4_readHand_78 : decode cX4_readHand 78 = .ok (.iadd, 1) := dc_96 aX4_readHand_78
theorem dX4_readHand_79 : decode cX4_readHand 79 = .ok (.putfield 21, 3) := dc_181 (a0 := 0) (b0 := 21) aX4_readHand_79
theorem dX4_readHand_82 : decode cX4_readHand 82 = .ok (.aload_n 1, 1) := dc_43 aX4_readHand_82
theorem dX4_readHand_83 : decode cX4_readHand 83 = .ok (.invokevirtual 47, 3) := dc_182 (a0 := 0) (b0 := 47) aX4_readHand_83
theorem dX4_readHand_86 : decode cX4_readHand 86 = .ok (.ireturn, 1) := dc_172 aX4_readHand_86
noncomputable def sX4_isRead_19 : List Nat := 172 :: []
noncomputable def sX4_isRead_18 : List Nat := 3 :: sX4_isRead_19
noncomputable def sX4_isRead_15 : List Nat := 167 :: 0 :: 4 :: sX4_isRead_18
noncomputable def sX4_isRead_14 : List Nat := 4 :: sX4_isRead_15
noncomputable def sX4_isRead_11 : List Nat := 160 :: 0 :: 7 :: sX4_isRead_14
noncomputable def sX4_isRead_10 : List Nat := 4 :: sX4_isRead_11
noncomputable def sX4_isRead_9 : List Nat := 126 :: sX4_isRead_10
noncomputable def sX4_isRead_8 : List Nat := 4 :: sX4_isRead_9
noncomputable def sX4_isRead_7 : List Nat := 122 :: sX4_isRead_8
noncomputable def sX4_isRead_6 : List Nat := 28 :: sX4_isRead_7
noncomputable def sX4_isRead_5 : List Nat := 46 :: sX4_isRead_6
noncomputable def sX4_isRead_4 : List Nat := 27 :: sX4_isRead_5
noncomputable def sX4_isRead_1 : List Nat := 180 :: 0 :: 9 :: sX4_isRead_4
noncomputable def sX4_isRead_0 : List Nat := 42 :: sX4_isRead_1
theorem aX4_isRead_0 : dc_at cX4_isRead 0 sX4_isRead_0 := dc_base (by decide +kernel)
theorem aX4_isRead_1 : dc_at cX4_isRead 1 sX4_isRead_1 := dc_n1 aX4_isRead_0
theorem aX4_isRead_4 : dc_at cX4_isRead 4 sX4_isRead_4 := dc_n3 aX4_isRead_1
theorem aX4_isRead_5 : dc_at cX4_isRead 5 sX4_isRead_5 := dc_n1 aX4_isRead_4
theorem aX4_isRead_6 : dc_at cX4_isRead 6 sX4_isRead_6 := dc_n1 aX4_isRead_5
theorem aX4_isRead_7 : dc_at cX4_isRead 7 sX4_isRead_7 := dc_n1 aX4_isRead_6
theorem aX4_isRead_8 : dc_at cX4_isRead 8 sX4_isRead_8 := dc_n1 aX4_isRead_7
theorem aX4_isRead_9 : dc_at cX4_isRead 9 sX4_isRead_9 := dc_n1 aX4_isRead_8
theorem aX4_isRead_10 : dc_at cX4_isRead 10 sX4_isRead_10 := dc_n1 aX4_isRead_9
theorem aX4_isRead_11 : dc_at cX4_isRead 11 sX4_isRead_11 := dc_n1 aX4_isRead_10
theorem aX4_isRead_14 : dc_at cX4_isRead 14 sX4_isRead_14 := dc_n3 aX4_isRead_11
theorem aX4_isRead_15 : dc_at cX4_isRead 15 sX4_isRead_15 := dc_n1 aX4_isRead_14
theorem aX4_isRead_18 : dc_at cX4_isRead 18 sX4_isRead_18 := dc_n3 aX4_isRead_15
theorem aX4_isRead_19 : dc_at cX4_isRead 19 sX4_isRead_19 := dc_n1 aX4_isRead_18
theorem dX4_isRead_0 : decode cX4_isRead 0 = .ok (.aload_n 0, 1) := dc_42 aX4_isRead_0
theorem dX4_isRead_1 : decode cX4_isRead 1 = .ok (.getfield 9, 3) := dc_180 (a0 := 0) (b0 := 9) aX4_isRead_1
theorem dX4_isRead_4 : decode cX4_isRead 4 = .ok (.iload_n 1, 1) := dc_27 aX4_isRead_4
theorem dX4_isRead_5 : decode cX4_isRead 5 = .ok (.iaload, 1) := dc_46 aX4_isRead_5
theorem dX4_isRead_6 : decode cX4_isRead 6 = .ok (.iload_n 2, 1) := dc_28 aX4_isRead_6
theorem dX4_isRead_7 : decode cX4_isRead 7 = .ok (.ishr, 1) := dc_122 aX4_isRead_7
theorem dX4_isRead_8 : decode cX4_isRead 8 = .ok (.iconst 1, 1) := dc_4 aX4_isRead_8
theorem dX4_isRead_9 : decode cX4_isRead 9 = .ok (.iand, 1) := dc_126 aX4_isRead_9
theorem dX4_isRead_10 : decode cX4_isRead 10 = .ok (.iconst 1, 1) := dc_4 aX4_isRead_10
theorem dX4_isRead_11 : decode cX4_isRead 11 = .ok (.if_icmp .ne 7, 3) := dc_160 (a0 := 0) (b0 := 7) aX4_isRead_11 (by decide)
theorem dX4_isRead_14 : decode cX4_isRead 14 = .ok (.iconst 1, 1) := dc_4 aX4_isRead_14
theorem dX4_isRead_15 : decode cX4_isRead 15 = .ok (.goto 4, 3) := dc_167 (a0 := 0) (b0 := 4) aX4_isRead_15 (by decide)
theorem dX4_isRead_18 : decode cX4_isRead 18 = .ok (.iconst 0, 1) := dc_3 aX4_isRead_18
theorem dX4_isRead_19 : decode cX4_isRead 19 = .ok (.ireturn, 1) := dc_172 aX4_isRead_19
set_option maxRecDepth 20000 in
theorem ggX4_misreading_X4_isRead : GoodIn wsX4_misreading wsX4_isRead := goodIn_k _ [[5, 0, 0, 0]] (by rfl) (by decide +kernel)
set_option maxRecDepth 20000 in
theorem gX4_misreading_X4_isRead : GoodIn wsX4_misreading (wsV RX4 51 RX4 yX4_isRead wsX4_isRead) := goodIn_app (goodIn_of _ (by decide +kernel)) ggX4_misreading_X4_isRead
noncomputable def sX4_misreading_82 : List Nat := 172 :: []
noncomputable def sX4_misreading_80 : List Nat := 16 :: 9 :: sX4_misreading_82
noncomputable def sX4_misreading_77 : List Nat := 167 :: 0 :: 5 :: sX4_misreading_80
noncomputable def sX4_misreading_76 : List Nat := 5 :: sX4_misreading_77
noncomputable def sX4_misreading_73 : List Nat := 153 :: 0 :: 7 :: sX4_misreading_76
noncomputable def sX4_misreading_72 : List Nat := 29 :: sX4_misreading_73
noncomputable def sX4_misreading_71 : List Nat := 62 :: sX4_misreading_72
noncomputable def sX4_misreading_70 : List Nat := 3 :: sX4_misreading_71
noncomputable def sX4_misreading_67 : List Nat := 167 :: 0 :: 4 :: sX4_misreading_70
noncomputable def sX4_misreading_66 : List Nat := 4 :: sX4_misreading_67
noncomputable def sX4_misreading_63 : List Nat := 153 :: 0 :: 7 :: sX4_misreading_66
noncomputable def sX4_misreading_60 : List Nat := 182 :: 0 :: 51 :: sX4_misreading_63
noncomputable def sX4_misreading_59 : List Nat := 108 :: sX4_misreading_60
noncomputable def sX4_misreading_57 : List Nat := 16 :: 30 :: sX4_misreading_59
noncomputable def sX4_misreading_56 : List Nat := 28 :: sX4_misreading_57
noncomputable def sX4_misreading_55 : List Nat := 108 :: sX4_misreading_56
noncomputable def sX4_misreading_53 : List Nat := 16 :: 30 :: sX4_misreading_55
noncomputable def sX4_misreading_52 : List Nat := 27 :: sX4_misreading_53
noncomputable def sX4_misreading_51 : List Nat := 42 :: sX4_misreading_52
noncomputable def sX4_misreading_48 : List Nat := 160 :: 0 :: 22 :: sX4_misreading_51
noncomputable def sX4_misreading_47 : List Nat := 112 :: sX4_misreading_48
noncomputable def sX4_misreading_45 : List Nat := 16 :: 30 :: sX4_misreading_47
noncomputable def sX4_misreading_44 : List Nat := 28 :: sX4_misreading_45
noncomputable def sX4_misreading_43 : List Nat := 112 :: sX4_misreading_44
noncomputable def sX4_misreading_41 : List Nat := 16 :: 30 :: sX4_misreading_43
noncomputable def sX4_misreading_40 : List Nat := 27 :: sX4_misreading_41
noncomputable def sX4_misreading_39 : List Nat := 172 :: sX4_misreading_40
noncomputable def sX4_misreading_37 : List Nat := 16 :: 9 :: sX4_misreading_39
noncomputable def sX4_misreading_34 : List Nat := 167 :: 0 :: 5 :: sX4_misreading_37
noncomputable def sX4_misreading_33 : List Nat := 4 :: sX4_misreading_34
noncomputable def sX4_misreading_30 : List Nat := 153 :: 0 :: 7 :: sX4_misreading_33
noncomputable def sX4_misreading_27 : List Nat := 182 :: 0 :: 51 :: sX4_misreading_30
noncomputable def sX4_misreading_26 : List Nat := 112 :: sX4_misreading_27
noncomputable def sX4_misreading_24 : List Nat := 16 :: 30 :: sX4_misreading_26
noncomputable def sX4_misreading_23 : List Nat := 28 :: sX4_misreading_24
noncomputable def sX4_misreading_22 : List Nat := 112 :: sX4_misreading_23
noncomputable def sX4_misreading_20 : List Nat := 16 :: 30 :: sX4_misreading_22
noncomputable def sX4_misreading_19 : List Nat := 27 :: sX4_misreading_20
noncomputable def sX4_misreading_18 : List Nat := 42 :: sX4_misreading_19
noncomputable def sX4_misreading_15 : List Nat := 160 :: 0 :: 25 :: sX4_misreading_18
noncomputable def sX4_misreading_14 : List Nat := 108 :: sX4_misreading_15
noncomputable def sX4_misreading_12 : List Nat := 16 :: 30 :: sX4_misreading_14
noncomputable def sX4_misreading_11 : List Nat := 28 :: sX4_misreading_12
noncomputable def sX4_misreading_10 : List Nat := 108 :: sX4_misreading_11
noncomputable def sX4_misreading_8 : List Nat := 16 :: 30 :: sX4_misreading_10
noncomputable def sX4_misreading_7 : List Nat := 27 :: sX4_misreading_8
noncomputable def sX4_misreading_6 : List Nat := 172 :: sX4_misreading_7
noncomputable def sX4_misreading_5 : List Nat := 3 :: sX4_misreading_6
noncomputable def sX4_misreading_2 : List Nat := 160 :: 0 :: 5 :: sX4_misreading_5
noncomputable def sX4_misreading_1 : List Nat := 28 :: sX4_misreading_2
noncomputable def sX4_misreading_0 : List Nat := 27 :: sX4_misreading_1
theorem aX4_misreading_0 : dc_at cX4_misreading 0 sX4_misreading_0 := dc_base (by decide +kernel)
theorem aX4_misreading_1 : dc_at cX4_misreading 1 sX4_misreading_1 := dc_n1 aX4_misreading_0
theorem aX4_misreading_2 : dc_at cX4_misreading 2 sX4_misreading_2 := dc_n1 aX4_misreading_1
theorem aX4_misreading_5 : dc_at cX4_misreading 5 sX4_misreading_5 := dc_n3 aX4_misreading_2
theorem aX4_misreading_6 : dc_at cX4_misreading 6 sX4_misreading_6 := dc_n1 aX4_misreading_5
theorem aX4_misreading_7 : dc_at cX4_misreading 7 sX4_misreading_7 := dc_n1 aX4_misreading_6
theorem aX4_misreading_8 : dc_at cX4_misreading 8 sX4_misreading_8 := dc_n1 aX4_misreading_7
theorem aX4_misreading_10 : dc_at cX4_misreading 10 sX4_misreading_10 := dc_n2 aX4_misreading_8
theorem aX4_misreading_11 : dc_at cX4_misreading 11 sX4_misreading_11 := dc_n1 aX4_misreading_10
theorem aX4_misreading_12 : dc_at cX4_misreading 12 sX4_misreading_12 := dc_n1 aX4_misreading_11
theorem aX4_misreading_14 : dc_at cX4_misreading 14 sX4_misreading_14 := dc_n2 aX4_misreading_12
theorem aX4_misreading_15 : dc_at cX4_misreading 15 sX4_misreading_15 := dc_n1 aX4_misreading_14
theorem aX4_misreading_18 : dc_at cX4_misreading 18 sX4_misreading_18 := dc_n3 aX4_misreading_15
theorem aX4_misreading_19 : dc_at cX4_misreading 19 sX4_misreading_19 := dc_n1 aX4_misreading_18
theorem aX4_misreading_20 : dc_at cX4_misreading 20 sX4_misreading_20 := dc_n1 aX4_misreading_19
theorem aX4_misreading_22 : dc_at cX4_misreading 22 sX4_misreading_22 := dc_n2 aX4_misreading_20
theorem aX4_misreading_23 : dc_at cX4_misreading 23 sX4_misreading_23 := dc_n1 aX4_misreading_22
theorem aX4_misreading_24 : dc_at cX4_misreading 24 sX4_misreading_24 := dc_n1 aX4_misreading_23
theorem aX4_misreading_26 : dc_at cX4_misreading 26 sX4_misreading_26 := dc_n2 aX4_misreading_24
theorem aX4_misreading_27 : dc_at cX4_misreading 27 sX4_misreading_27 := dc_n1 aX4_misreading_26
theorem aX4_misreading_30 : dc_at cX4_misreading 30 sX4_misreading_30 := dc_n3 aX4_misreading_27
theorem aX4_misreading_33 : dc_at cX4_misreading 33 sX4_misreading_33 := dc_n3 aX4_misreading_30
theorem aX4_misreading_34 : dc_at cX4_misreading 34 sX4_misreading_34 := dc_n1 aX4_misreading_33
theorem aX4_misreading_37 : dc_at cX4_misreading 37 sX4_misreading_37 := dc_n3 aX4_misreading_34
theorem aX4_misreading_39 : dc_at cX4_misreading 39 sX4_misreading_39 := dc_n2 aX4_misreading_37
theorem aX4_misreading_40 : dc_at cX4_misreading 40 sX4_misreading_40 := dc_n1 aX4_misreading_39
theorem aX4_misreading_41 : dc_at cX4_misreading 41 sX4_misreading_41 := dc_n1 aX4_misreading_40
theorem aX4_misreading_43 : dc_at cX4_misreading 43 sX4_misreading_43 := dc_n2 aX4_misreading_41
theorem aX4_misreading_44 : dc_at cX4_misreading 44 sX4_misreading_44 := dc_n1 aX4_misreading_43
theorem aX4_misreading_45 : dc_at cX4_misreading 45 sX4_misreading_45 := dc_n1 aX4_misreading_44
theorem aX4_misreading_47 : dc_at cX4_misreading 47 sX4_misreading_47 := dc_n2 aX4_misreading_45
theorem aX4_misreading_48 : dc_at cX4_misreading 48 sX4_misreading_48 := dc_n1 aX4_misreading_47
theorem aX4_misreading_51 : dc_at cX4_misreading 51 sX4_misreading_51 := dc_n3 aX4_misreading_48
theorem aX4_misreading_52 : dc_at cX4_misreading 52 sX4_misreading_52 := dc_n1 aX4_misreading_51
theorem aX4_misreading_53 : dc_at cX4_misreading 53 sX4_misreading_53 := dc_n1 aX4_misreading_52
theorem aX4_misreading_55 : dc_at cX4_misreading 55 sX4_misreading_55 := dc_n2 aX4_misreading_53
theorem aX4_misreading_56 : dc_at cX4_misreading 56 sX4_misreading_56 := dc_n1 aX4_misreading_55
theorem aX4_misreading_57 : dc_at cX4_misreading 57 sX4_misreading_57 := dc_n1 aX4_misreading_56
theorem aX4_misreading_59 : dc_at cX4_misreading 59 sX4_misreading_59 := dc_n2 aX4_misreading_57
theorem aX4_misreading_60 : dc_at cX4_misreading 60 sX4_misreading_60 := dc_n1 aX4_misreading_59
theorem aX4_misreading_63 : dc_at cX4_misreading 63 sX4_misreading_63 := dc_n3 aX4_misreading_60
theorem aX4_misreading_66 : dc_at cX4_misreading 66 sX4_misreading_66 := dc_n3 aX4_misreading_63
theorem aX4_misreading_67 : dc_at cX4_misreading 67 sX4_misreading_67 := dc_n1 aX4_misreading_66
theorem aX4_misreading_70 : dc_at cX4_misreading 70 sX4_misreading_70 := dc_n3 aX4_misreading_67
theorem aX4_misreading_71 : dc_at cX4_misreading 71 sX4_misreading_71 := dc_n1 aX4_misreading_70
theorem aX4_misreading_72 : dc_at cX4_misreading 72 sX4_misreading_72 := dc_n1 aX4_misreading_71
theorem aX4_misreading_73 : dc_at cX4_misreading 73 sX4_misreading_73 := dc_n1 aX4_misreading_72
theorem aX4_misreading_76 : dc_at cX4_misreading 76 sX4_misreading_76 := dc_n3 aX4_misreading_73
theorem aX4_misreading_77 : dc_at cX4_misreading 77 sX4_misreading_77 := dc_n1 aX4_misreading_76
theorem aX4_misreading_80 : dc_at cX4_misreading 80 sX4_misreading_80 := dc_n3 aX4_misreading_77
theorem aX4_misreading_82 : dc_at cX4_misreading 82 sX4_misreading_82 := dc_n2 aX4_misreading_80
theorem dX4_misreading_0 : decode cX4_misreading 0 = .ok (.iload_n 1, 1) := dc_27 aX4_misreading_0
theorem dX4_misreading_1 : decode cX4_misreading 1 = .ok (.iload_n 2, 1) := dc_28 aX4_misreading_1
theorem dX4_misreading_2 : decode cX4_misreading 2 = .ok (.if_icmp .ne 5, 3) := dc_160 (a0 := 0) (b0 := 5) aX4_misreading_2 (by decide)
theorem dX4_misreading_5 : decode cX4_misreading 5 = .ok (.iconst 0, 1) := dc_3 aX4_misreading_5
theorem dX4_misreading_6 : decode cX4_misreading 6 = .ok (.ireturn, 1) := dc_172 aX4_misreading_6
theorem dX4_misreading_7 : decode cX4_misreading 7 = .ok (.iload_n 1, 1) := dc_27 aX4_misreading_7
theorem dX4_misreading_8 : decode cX4_misreading 8 = .ok (.bipush 30, 2) := dc_16 (a0 := 30) aX4_misreading_8 (by decide)
theorem dX4_misreading_10 : decode cX4_misreading 10 = .ok (.idiv, 1) := dc_108 aX4_misreading_10
theorem dX4_misreading_11 : decode cX4_misreading 11 = .ok (.iload_n 2, 1) := dc_28 aX4_misreading_11
theorem dX4_misreading_12 : decode cX4_misreading 12 = .ok (.bipush 30, 2) := dc_16 (a0 := 30) aX4_misreading_12 (by decide)
theorem dX4_misreading_14 : decode cX4_misreading 14 = .ok (.idiv, 1) := dc_108 aX4_misreading_14
theorem dX4_misreading_15 : decode cX4_misreading 15 = .ok (.if_icmp .ne 25, 3) := dc_160 (a0 := 0) (b0 := 25) aX4_misreading_15 (by decide)
theorem dX4_misreading_18 : decode cX4_misreading 18 = .ok (.aload_n 0, 1) := dc_42 aX4_misreading_18
theorem dX4_misreading_19 : decode cX4_misreading 19 = .ok (.iload_n 1, 1) := dc_27 aX4_misreading_19
theorem dX4_misreading_20 : decode cX4_misreading 20 = .ok (.bipush 30, 2) := dc_16 (a0 := 30) aX4_misreading_20 (by decide)
theorem dX4_misreading_22 : decode cX4_misreading 22 = .ok (.irem, 1) := dc_112 aX4_misreading_22
theorem dX4_misreading_23 : decode cX4_misreading 23 = .ok (.iload_n 2, 1) := dc_28 aX4_misreading_23
theorem dX4_misreading_24 : decode cX4_misreading 24 = .ok (.bipush 30, 2) := dc_16 (a0 := 30) aX4_misreading_24 (by decide)
theorem dX4_misreading_26 : decode cX4_misreading 26 = .ok (.irem, 1) := dc_112 aX4_misreading_26
theorem dX4_misreading_27 : decode cX4_misreading 27 = .ok (.invokevirtual 51, 3) := dc_182 (a0 := 0) (b0 := 51) aX4_misreading_27
theorem dX4_misreading_30 : decode cX4_misreading 30 = .ok (.ifCond .eq 7, 3) := dc_153 (a0 := 0) (b0 := 7) aX4_misreading_30 (by decide)
theorem dX4_misreading_33 : decode cX4_misreading 33 = .ok (.iconst 1, 1) := dc_4 aX4_misreading_33
theorem dX4_misreading_34 : decode cX4_misreading 34 = .ok (.goto 5, 3) := dc_167 (a0 := 0) (b0 := 5) aX4_misreading_34 (by decide)
theorem dX4_misreading_37 : decode cX4_misreading 37 = .ok (.bipush 9, 2) := dc_16 (a0 := 9) aX4_misreading_37 (by decide)
theorem dX4_misreading_39 : decode cX4_misreading 39 = .ok (.ireturn, 1) := dc_172 aX4_misreading_39
theorem dX4_misreading_40 : decode cX4_misreading 40 = .ok (.iload_n 1, 1) := dc_27 aX4_misreading_40
theorem dX4_misreading_41 : decode cX4_misreading 41 = .ok (.bipush 30, 2) := dc_16 (a0 := 30) aX4_misreading_41 (by decide)
theorem dX4_misreading_43 : decode cX4_misreading 43 = .ok (.irem, 1) := dc_112 aX4_misreading_43
theorem dX4_misreading_44 : decode cX4_misreading 44 = .ok (.iload_n 2, 1) := dc_28 aX4_misreading_44
theorem dX4_misreading_45 : decode cX4_misreading 45 = .ok (.bipush 30, 2) := dc_16 (a0 := 30) aX4_misreading_45 (by decide)
theorem dX4_misreading_47 : decode cX4_misreading 47 = .ok (.irem, 1) := dc_112 aX4_misreading_47
theorem dX4_misreading_48 : decode cX4_misreading 48 = .ok (.if_icmp .ne 22, 3) := dc_160 (a0 := 0) (b0 := 22) aX4_misreading_48 (by decide)
theorem dX4_misreading_51 : decode cX4_misreading 51 = .ok (.aload_n 0, 1) := dc_42 aX4_misreading_51
theorem dX4_misreading_52 : decode cX4_misreading 52 = .ok (.iload_n 1, 1) := dc_27 aX4_misreading_52
theorem dX4_misreading_53 : decode cX4_misreading 53 = .ok (.bipush 30, 2) := dc_16 (a0 := 30) aX4_misreading_53 (by decide)
theorem dX4_misreading_55 : decode cX4_misreading 55 = .ok (.idiv, 1) := dc_108 aX4_misreading_55
theorem dX4_misreading_56 : decode cX4_misreading 56 = .ok (.iload_n 2, 1) := dc_28 aX4_misreading_56
theorem dX4_misreading_57 : decode cX4_misreading 57 = .ok (.bipush 30, 2) := dc_16 (a0 := 30) aX4_misreading_57 (by decide)
theorem dX4_misreading_59 : decode cX4_misreading 59 = .ok (.idiv, 1) := dc_108 aX4_misreading_59
theorem dX4_misreading_60 : decode cX4_misreading 60 = .ok (.invokevirtual 51, 3) := dc_182 (a0 := 0) (b0 := 51) aX4_misreading_60
theorem dX4_misreading_63 : decode cX4_misreading 63 = .ok (.ifCond .eq 7, 3) := dc_153 (a0 := 0) (b0 := 7) aX4_misreading_63 (by decide)
theorem dX4_misreading_66 : decode cX4_misreading 66 = .ok (.iconst 1, 1) := dc_4 aX4_misreading_66
theorem dX4_misreading_67 : decode cX4_misreading 67 = .ok (.goto 4, 3) := dc_167 (a0 := 0) (b0 := 4) aX4_misreading_67 (by decide)
theorem dX4_misreading_70 : decode cX4_misreading 70 = .ok (.iconst 0, 1) := dc_3 aX4_misreading_70
theorem dX4_misreading_71 : decode cX4_misreading 71 = .ok (.istore_n 3, 1) := dc_62 aX4_misreading_71
theorem dX4_misreading_72 : decode cX4_misreading 72 = .ok (.iload_n 3, 1) := dc_29 aX4_misreading_72
theorem dX4_misreading_73 : decode cX4_misreading 73 = .ok (.ifCond .eq 7, 3) := dc_153 (a0 := 0) (b0 := 7) aX4_misreading_73 (by decide)
theorem dX4_misreading_76 : decode cX4_misreading 76 = .ok (.iconst 2, 1) := dc_5 aX4_misreading_76
theorem dX4_misreading_77 : decode cX4_misreading 77 = .ok (.goto 5, 3) := dc_167 (a0 := 0) (b0 := 5) aX4_misreading_77 (by decide)
theorem dX4_misreading_80 : decode cX4_misreading 80 = .ok (.bipush 9, 2) := dc_16 (a0 := 9) aX4_misreading_80 (by decide)
theorem dX4_misreading_82 : decode cX4_misreading 82 = .ok (.ireturn, 1) := dc_172 aX4_misreading_82
set_option maxRecDepth 20000 in
theorem ggX4_costBeside_X4_misreading : GoodIn wsX4_costBeside wsX4_misreading := goodIn_k _ [[5, 0, 0, 0], [4, 4, 0, 0, 0]] (by rfl) (by decide +kernel)
set_option maxRecDepth 20000 in
theorem gX4_costBeside_X4_misreading : GoodIn wsX4_costBeside (wsV RX4 54 RX4 yX4_misreading wsX4_misreading) := goodIn_app (goodIn_of _ (by decide +kernel)) ggX4_costBeside_X4_misreading
noncomputable def sX4_costBeside_17 : List Nat := 172 :: []
noncomputable def sX4_costBeside_16 : List Nat := 29 :: sX4_costBeside_17
noncomputable def sX4_costBeside_13 : List Nat := 167 :: 0 :: 4 :: sX4_costBeside_16
noncomputable def sX4_costBeside_12 : List Nat := 4 :: sX4_costBeside_13
noncomputable def sX4_costBeside_9 : List Nat := 160 :: 0 :: 7 :: sX4_costBeside_12
noncomputable def sX4_costBeside_8 : List Nat := 5 :: sX4_costBeside_9
noncomputable def sX4_costBeside_7 : List Nat := 29 :: sX4_costBeside_8
noncomputable def sX4_costBeside_6 : List Nat := 62 :: sX4_costBeside_7
noncomputable def sX4_costBeside_3 : List Nat := 182 :: 0 :: 54 :: sX4_costBeside_6
noncomputable def sX4_costBeside_2 : List Nat := 28 :: sX4_costBeside_3
noncomputable def sX4_costBeside_1 : List Nat := 27 :: sX4_costBeside_2
noncomputable def sX4_costBeside_0 : List Nat := 42 :: sX4_costBeside_1
theorem aX4_costBeside_0 : dc_at cX4_costBeside 0 sX4_costBeside_0 := dc_base (by decide +kernel)
theorem aX4_costBeside_1 : dc_at cX4_costBeside 1 sX4_costBeside_1 := dc_n1 aX4_costBeside_0
theorem aX4_costBeside_2 : dc_at cX4_costBeside 2 sX4_costBeside_2 := dc_n1 aX4_costBeside_1
theorem aX4_costBeside_3 : dc_at cX4_costBeside 3 sX4_costBeside_3 := dc_n1 aX4_costBeside_2
theorem aX4_costBeside_6 : dc_at cX4_costBeside 6 sX4_costBeside_6 := dc_n3 aX4_costBeside_3
theorem aX4_costBeside_7 : dc_at cX4_costBeside 7 sX4_costBeside_7 := dc_n1 aX4_costBeside_6
theorem aX4_costBeside_8 : dc_at cX4_costBeside 8 sX4_costBeside_8 := dc_n1 aX4_costBeside_7
theorem aX4_costBeside_9 : dc_at cX4_costBeside 9 sX4_costBeside_9 := dc_n1 aX4_costBeside_8
theorem aX4_costBeside_12 : dc_at cX4_costBeside 12 sX4_costBeside_12 := dc_n3 aX4_costBeside_9
theorem aX4_costBeside_13 : dc_at cX4_costBeside 13 sX4_costBeside_13 := dc_n1 aX4_costBeside_12
theorem aX4_costBeside_16 : dc_at cX4_costBeside 16 sX4_costBeside_16 := dc_n3 aX4_costBeside_13
theorem aX4_costBeside_17 : dc_at cX4_costBeside 17 sX4_costBeside_17 := dc_n1 aX4_costBeside_16
theorem dX4_costBeside_0 : decode cX4_costBeside 0 = .ok (.aload_n 0, 1) := dc_42 aX4_costBeside_0
theorem dX4_costBeside_1 : decode cX4_costBeside 1 = .ok (.iload_n 1, 1) := dc_27 aX4_costBeside_1
theorem dX4_costBeside_2 : decode cX4_costBeside 2 = .ok (.iload_n 2, 1) := dc_28 aX4_costBeside_2
theorem dX4_costBeside_3 : decode cX4_costBeside 3 = .ok (.invokevirtual 54, 3) := dc_182 (a0 := 0) (b0 := 54) aX4_costBeside_3
theorem dX4_costBeside_6 : decode cX4_costBeside 6 = .ok (.istore_n 3, 1) := dc_62 aX4_costBeside_6
theorem dX4_costBeside_7 : decode cX4_costBeside 7 = .ok (.iload_n 3, 1) := dc_29 aX4_costBeside_7
theorem dX4_costBeside_8 : decode cX4_costBeside 8 = .ok (.iconst 2, 1) := dc_5 aX4_costBeside_8
theorem dX4_costBeside_9 : decode cX4_costBeside 9 = .ok (.if_icmp .ne 7, 3) := dc_160 (a0 := 0) (b0 := 7) aX4_costBeside_9 (by decide)
theorem dX4_costBeside_12 : decode cX4_costBeside 12 = .ok (.iconst 1, 1) := dc_4 aX4_costBeside_12
theorem dX4_costBeside_13 : decode cX4_costBeside 13 = .ok (.goto 4, 3) := dc_167 (a0 := 0) (b0 := 4) aX4_costBeside_13 (by decide)
theorem dX4_costBeside_16 : decode cX4_costBeside 16 = .ok (.iload_n 3, 1) := dc_29 aX4_costBeside_16
theorem dX4_costBeside_17 : decode cX4_costBeside 17 = .ok (.ireturn, 1) := dc_172 aX4_costBeside_17
set_option maxRecDepth 20000 in
theorem ggX5_init_X2_init : GoodIn wsX5_init wsX2_init := goodIn_k _ [[18, 0], [2, 0, 0, 15, 14, 0]] (by rfl) (by decide +kernel)
set_option maxRecDepth 20000 in
theorem gX5_init_X2_init_n26 : GoodIn wsX5_init (wsX2_init) := ggX5_init_X2_init
set_option maxRecDepth 20000 in
theorem ggX5_init_X4_init : GoodIn wsX5_init wsX4_init := goodIn_k _ [[22, 0], [2, 0, 0, 19, 12, 0]] (by rfl) (by decide +kernel)
set_option maxRecDepth 20000 in
theorem gX5_init_X4_init_n33 : GoodIn wsX5_init (wsX4_init) := ggX5_init_X4_init
set_option maxRecDepth 20000 in
theorem ggX5_init_J7_fill_53178 : GoodIn wsX5_init wsJ7_fill_53178 := goodIn_k _ [[28]] (by rfl) (by decide +kernel)
set_option maxRecDepth 20000 in
theorem gX5_init_J7_fill_53178 : GoodIn wsX5_init (va_wsS RX5 38 yJ7_fill_53178 wsJ7_fill_53178) := goodIn_app (goodIn_of _ (by decide +kernel)) ggX5_init_J7_fill_53178
noncomputable def sX5_init_66 : List Nat := 177 :: []
noncomputable def sX5_init_63 : List Nat := 184 :: 0 :: 38 :: sX5_init_66
noncomputable def sX5_init_62 : List Nat := 4 :: sX5_init_63
noncomputable def sX5_init_59 : List Nat := 180 :: 0 :: 21 :: sX5_init_62
noncomputable def sX5_init_58 : List Nat := 42 :: sX5_init_59
noncomputable def sX5_init_55 : List Nat := 181 :: 0 :: 34 :: sX5_init_58
noncomputable def sX5_init_52 : List Nat := 183 :: 0 :: 33 :: sX5_init_55
noncomputable def sX5_init_51 : List Nat := 89 :: sX5_init_52
noncomputable def sX5_init_48 : List Nat := 187 :: 0 :: 31 :: sX5_init_51
noncomputable def sX5_init_47 : List Nat := 42 :: sX5_init_48
noncomputable def sX5_init_44 : List Nat := 181 :: 0 :: 27 :: sX5_init_47
noncomputable def sX5_init_41 : List Nat := 183 :: 0 :: 26 :: sX5_init_44
noncomputable def sX5_init_40 : List Nat := 89 :: sX5_init_41
noncomputable def sX5_init_37 : List Nat := 187 :: 0 :: 24 :: sX5_init_40
noncomputable def sX5_init_36 : List Nat := 42 :: sX5_init_37
noncomputable def sX5_init_33 : List Nat := 181 :: 0 :: 21 :: sX5_init_36
noncomputable def sX5_init_31 : List Nat := 188 :: 10 :: sX5_init_33
noncomputable def sX5_init_29 : List Nat := 16 :: 28 :: sX5_init_31
noncomputable def sX5_init_28 : List Nat := 42 :: sX5_init_29
noncomputable def sX5_init_25 : List Nat := 181 :: 0 :: 18 :: sX5_init_28
noncomputable def sX5_init_23 : List Nat := 188 :: 10 :: sX5_init_25
noncomputable def sX5_init_21 : List Nat := 16 :: 28 :: sX5_init_23
noncomputable def sX5_init_20 : List Nat := 42 :: sX5_init_21
noncomputable def sX5_init_17 : List Nat := 181 :: 0 :: 15 :: sX5_init_20
noncomputable def sX5_init_15 : List Nat := 188 :: 10 :: sX5_init_17
noncomputable def sX5_init_13 : List Nat := 16 :: 28 :: sX5_init_15
noncomputable def sX5_init_12 : List Nat := 42 :: sX5_init_13
noncomputable def sX5_init_9 : List Nat := 181 :: 0 :: 11 :: sX5_init_12
noncomputable def sX5_init_7 : List Nat := 188 :: 10 :: sX5_init_9
noncomputable def sX5_init_5 : List Nat := 16 :: 28 :: sX5_init_7
noncomputable def sX5_init_4 : List Nat := 42 :: sX5_init_5
noncomputable def sX5_init_1 : List Nat := 183 :: 0 :: 3 :: sX5_init_4
noncomputable def sX5_init_0 : List Nat := 42 :: sX5_init_1
theorem aX5_init_0 : dc_at cX5_init 0 sX5_init_0 := dc_base (by decide +kernel)
theorem aX5_init_1 : dc_at cX5_init 1 sX5_init_1 := dc_n1 aX5_init_0
theorem aX5_init_4 : dc_at cX5_init 4 sX5_init_4 := dc_n3 aX5_init_1
theorem aX5_init_5 : dc_at cX5_init 5 sX5_init_5 := dc_n1 aX5_init_4
theorem aX5_init_7 : dc_at cX5_init 7 sX5_init_7 := dc_n2 aX5_init_5
theorem aX5_init_9 : dc_at cX5_init 9 sX5_init_9 := dc_n2 aX5_init_7
theorem aX5_init_12 : dc_at cX5_init 12 sX5_init_12 := dc_n3 aX5_init_9
theorem aX5_init_13 : dc_at cX5_init 13 sX5_init_13 := dc_n1 aX5_init_12
theorem aX5_init_15 : dc_at cX5_init 15 sX5_init_15 := dc_n2 aX5_init_13
theorem aX5_init_17 : dc_at cX5_init 17 sX5_init_17 := dc_n2 aX5_init_15
theorem aX5_init_20 : dc_at cX5_init 20 sX5_init_20 := dc_n3 aX5_init_17
theorem aX5_init_21 : dc_at cX5_init 21 sX5_init_21 := dc_n1 aX5_init_20
theorem aX5_init_23 : dc_at cX5_init 23 sX5_init_23 := dc_n2 aX5_init_21
theorem aX5_init_25 : dc_at cX5_init 25 sX5_init_25 := dc_n2 aX5_init_23
theorem aX5_init_28 : dc_at cX5_init 28 sX5_init_28 := dc_n3 aX5_init_25
theorem aX5_init_29 : dc_at cX5_init 29 sX5_init_29 := dc_n1 aX5_init_28
theorem aX5_init_31 : dc_at cX5_init 31 sX5_init_31 := dc_n2 aX5_init_29
theorem aX5_init_33 : dc_at cX5_init 33 sX5_init_33 := dc_n2 aX5_init_31
theorem aX5_init_36 : dc_at cX5_init 36 sX5_init_36 := dc_n3 aX5_init_33
theorem aX5_init_37 : dc_at cX5_init 37 sX5_init_37 := dc_n1 aX5_init_36
theorem aX5_init_40 : dc_at cX5_init 40 sX5_init_40 := dc_n3 aX5_init_37
theorem aX5_init_41 : dc_at cX5_init 41 sX5_init_41 := dc_n1 aX5_init_40
theorem aX5_init_44 : dc_at cX5_init 44 sX5_init_44 := dc_n3 aX5_init_41
theorem aX5_init_47 : dc_at cX5_init 47 sX5_init_47 := dc_n3 aX5_init_44
theorem aX5_init_48 : dc_at cX5_init 48 sX5_init_48 := dc_n1 aX5_init_47
theorem aX5_init_51 : dc_at cX5_init 51 sX5_init_51 := dc_n3 aX5_init_48
theorem aX5_init_52 : dc_at cX5_init 52 sX5_init_52 := dc_n1 aX5_init_51
theorem aX5_init_55 : dc_at cX5_init 55 sX5_init_55 := dc_n3 aX5_init_52
theorem aX5_init_58 : dc_at cX5_init 58 sX5_init_58 := dc_n3 aX5_init_55
theorem aX5_init_59 : dc_at cX5_init 59 sX5_init_59 := dc_n1 aX5_init_58
theorem aX5_init_62 : dc_at cX5_init 62 sX5_init_62 := dc_n3 aX5_init_59
theorem aX5_init_63 : dc_at cX5_init 63 sX5_init_63 := dc_n1 aX5_init_62
theorem aX5_init_66 : dc_at cX5_init 66 sX5_init_66 := dc_n3 aX5_init_63
theorem dX5_init_0 : decode cX5_init 0 = .ok (.aload_n 0, 1) := dc_42 aX5_init_0
theorem dX5_init_1 : decode cX5_init 1 = .ok (.invokespecial 3, 3) := dc_183 (a0 := 0) (b0 := 3) aX5_init_1
theorem dX5_init_4 : decode cX5_init 4 = .ok (.aload_n 0, 1) := dc_42 aX5_init_4
theorem dX5_init_5 : decode cX5_init 5 = .ok (.bipush 28, 2) := dc_16 (a0 := 28) aX5_init_5 (by decide)
theorem dX5_init_7 : decode cX5_init 7 = .ok (.newarray .int, 2) := dc_188_10 aX5_init_7
theorem dX5_init_9 : decode cX5_init 9 = .ok (.putfield 11, 3) := dc_181 (a0 := 0) (b0 := 11) aX5_init_9
theorem dX5_init_12 : decode cX5_init 12 = .ok (.aload_n 0, 1) := dc_42 aX5_init_12
theorem dX5_init_13 : decode cX5_init 13 = .ok (.bipush 28, 2) := dc_16 (a0 := 28) aX5_init_13 (by decide)
theorem dX5_init_15 : decode cX5_init 15 = .ok (.newarray .int, 2) := dc_188_10 aX5_init_15
theorem dX5_init_17 : decode cX5_init 17 = .ok (.putfield 15, 3) := dc_181 (a0 := 0) (b0 := 15) aX5_init_17
theorem dX5_init_20 : decode cX5_init 20 = .ok (.aload_n 0, 1) := dc_42 aX5_init_20
theorem dX5_init_21 : decode cX5_init 21 = .ok (.bipush 28, 2) := dc_16 (a0 := 28) aX5_init_21 (by decide)
theorem dX5_init_23 : decode cX5_init 23 = .ok (.newarray .int, 2) := dc_188_10 aX5_init_23
theorem dX5_init_25 : decode cX5_init 25 = .ok (.putfield 18, 3) := dc_181 (a0 := 0) (b0 := 18) aX5_init_25
theorem dX5_init_28 : decode cX5_init 28 = .ok (.aload_n 0, 1) := dc_42 aX5_init_28
theorem dX5_init_29 : decode cX5_init 29 = .ok (.bipush 28, 2) := dc_16 (a0 := 28) aX5_init_29 (by decide)
theorem dX5_init_31 : decode cX5_init 31 = .ok (.newarray .int, 2) := dc_188_10 aX5_init_31
theorem dX5_init_33 : decode cX5_init 33 = .ok (.putfield 21, 3) := dc_181 (a0 := 0) (b0 := 21) aX5_init_33
theorem dX5_init_36 : decode cX5_init 36 = .ok (.aload_n 0, 1) := dc_42 aX5_init_36
theorem dX5_init_37 : decode cX5_init 37 = .ok (.new 24, 3) := dc_187 (a0 := 0) (b0 := 24) aX5_init_37
theorem dX5_init_40 : decode cX5_init 40 = .ok (.dup, 1) := dc_89 aX5_init_40
theorem dX5_init_41 : decode cX5_init 41 = .ok (.invokespecial 26, 3) := dc_183 (a0 := 0) (b0 := 26) aX5_init_41
theorem dX5_init_44 : decode cX5_init 44 = .ok (.putfield 27, 3) := dc_181 (a0 := 0) (b0 := 27) aX5_init_44
theorem dX5_init_47 : decode cX5_init 47 = .ok (.aload_n 0, 1) := dc_42 aX5_init_47
theorem dX5_init_48 : decode cX5_init 48 = .ok (.new 31, 3) := dc_187 (a0 := 0) (b0 := 31) aX5_init_48
theorem dX5_init_51 : decode cX5_init 51 = .ok (.dup, 1) := dc_89 aX5_init_51
theorem dX5_init_52 : decode cX5_init 52 = .ok (.invokespecial 33, 3) := dc_183 (a0 := 0) (b0 := 33) aX5_init_52
theorem dX5_init_55 : decode cX5_init 55 = .ok (.putfield 34, 3) := dc_181 (a0 := 0) (b0 := 34) aX5_init_55
theorem dX5_init_58 : decode cX5_init 58 = .ok (.aload_n 0, 1) := dc_42 aX5_init_58
theorem dX5_init_59 : decode cX5_init 59 = .ok (.getfield 21, 3) := dc_180 (a0 := 0) (b0 := 21) aX5_init_59
theorem dX5_init_62 : decode cX5_init 62 = .ok (.iconst 1, 1) := dc_4 aX5_init_62
theorem dX5_init_63 : decode cX5_init 63 = .ok (.invokestatic 38, 3) := dc_184 (a0 := 0) (b0 := 38) aX5_init_63
theorem dX5_init_66 : decode cX5_init 66 = .ok (.return_, 1) := dc_177 aX5_init_66
set_option maxRecDepth 20000 in
theorem ggX5_copyFrom_X2_copyFrom : GoodIn wsX5_copyFrom wsX2_copyFrom := goodIn_k _ [[15, 0, 0], [3, 0, 0, 12, 14, 0]] (by rfl) (by decide +kernel)
set_option maxRecDepth 20000 in
theorem gX5_copyFrom_X2_copyFrom : GoodIn wsX5_copyFrom (wsV RX5 50 RX2 yX2_copyFrom wsX2_copyFrom) := goodIn_app (goodIn_of _ (by decide +kernel)) ggX5_copyFrom_X2_copyFrom
set_option maxRecDepth 20000 in
theorem ggX5_copyFrom_X4_copyFrom : GoodIn wsX5_copyFrom wsX4_copyFrom := goodIn_k _ [[23, 0, 0], [3, 0, 0, 20, 8, 0]] (by rfl) (by decide +kernel)
set_option maxRecDepth 20000 in
theorem gX5_copyFrom_X4_copyFrom : GoodIn wsX5_copyFrom (wsV RX5 54 RX4 yX4_copyFrom wsX4_copyFrom) := goodIn_app (goodIn_of _ (by decide +kernel)) ggX5_copyFrom_X4_copyFrom
noncomputable def sX5_copyFrom_82 : List Nat := 177 :: []
noncomputable def sX5_copyFrom_79 : List Nat := 182 :: 0 :: 54 :: sX5_copyFrom_82
noncomputable def sX5_copyFrom_76 : List Nat := 180 :: 0 :: 34 :: sX5_copyFrom_79
noncomputable def sX5_copyFrom_75 : List Nat := 43 :: sX5_copyFrom_76
noncomputable def sX5_copyFrom_72 : List Nat := 180 :: 0 :: 34 :: sX5_copyFrom_75
noncomputable def sX5_copyFrom_71 : List Nat := 42 :: sX5_copyFrom_72
noncomputable def sX5_copyFrom_68 : List Nat := 182 :: 0 :: 50 :: sX5_copyFrom_71
noncomputable def sX5_copyFrom_65 : List Nat := 180 :: 0 :: 27 :: sX5_copyFrom_68
noncomputable def sX5_copyFrom_64 : List Nat := 43 :: sX5_copyFrom_65
noncomputable def sX5_copyFrom_61 : List Nat := 180 :: 0 :: 27 :: sX5_copyFrom_64
noncomputable def sX5_copyFrom_60 : List Nat := 42 :: sX5_copyFrom_61
noncomputable def sX5_copyFrom_57 : List Nat := 184 :: 0 :: 44 :: sX5_copyFrom_60
noncomputable def sX5_copyFrom_55 : List Nat := 16 :: 28 :: sX5_copyFrom_57
noncomputable def sX5_copyFrom_54 : List Nat := 3 :: sX5_copyFrom_55
noncomputable def sX5_copyFrom_51 : List Nat := 180 :: 0 :: 21 :: sX5_copyFrom_54
noncomputable def sX5_copyFrom_50 : List Nat := 42 :: sX5_copyFrom_51
noncomputable def sX5_copyFrom_49 : List Nat := 3 :: sX5_copyFrom_50
noncomputable def sX5_copyFrom_46 : List Nat := 180 :: 0 :: 21 :: sX5_copyFrom_49
noncomputable def sX5_copyFrom_45 : List Nat := 43 :: sX5_copyFrom_46
noncomputable def sX5_copyFrom_42 : List Nat := 184 :: 0 :: 44 :: sX5_copyFrom_45
noncomputable def sX5_copyFrom_40 : List Nat := 16 :: 28 :: sX5_copyFrom_42
noncomputable def sX5_copyFrom_39 : List Nat := 3 :: sX5_copyFrom_40
noncomputable def sX5_copyFrom_36 : List Nat := 180 :: 0 :: 18 :: sX5_copyFrom_39
noncomputable def sX5_copyFrom_35 : List Nat := 42 :: sX5_copyFrom_36
noncomputable def sX5_copyFrom_34 : List Nat := 3 :: sX5_copyFrom_35
noncomputable def sX5_copyFrom_31 : List Nat := 180 :: 0 :: 18 :: sX5_copyFrom_34
noncomputable def sX5_copyFrom_30 : List Nat := 43 :: sX5_copyFrom_31
noncomputable def sX5_copyFrom_27 : List Nat := 184 :: 0 :: 44 :: sX5_copyFrom_30
noncomputable def sX5_copyFrom_25 : List Nat := 16 :: 28 :: sX5_copyFrom_27
noncomputable def sX5_copyFrom_24 : List Nat := 3 :: sX5_copyFrom_25
noncomputable def sX5_copyFrom_21 : List Nat := 180 :: 0 :: 15 :: sX5_copyFrom_24
noncomputable def sX5_copyFrom_20 : List Nat := 42 :: sX5_copyFrom_21
noncomputable def sX5_copyFrom_19 : List Nat := 3 :: sX5_copyFrom_20
noncomputable def sX5_copyFrom_16 : List Nat := 180 :: 0 :: 15 :: sX5_copyFrom_19
noncomputable def sX5_copyFrom_15 : List Nat := 43 :: sX5_copyFrom_16
noncomputable def sX5_copyFrom_12 : List Nat := 184 :: 0 :: 44 :: sX5_copyFrom_15
noncomputable def sX5_copyFrom_10 : List Nat := 16 :: 28 :: sX5_copyFrom_12
noncomputable def sX5_copyFrom_9 : List Nat := 3 :: sX5_copyFrom_10
noncomputable def sX5_copyFrom_6 : List Nat := 180 :: 0 :: 11 :: sX5_copyFrom_9
noncomputable def sX5_copyFrom_5 : List Nat := 42 :: sX5_copyFrom_6
noncomputable def sX5_copyFrom_4 : List Nat := 3 :: sX5_copyFrom_5
noncomputable def sX5_copyFrom_1 : List Nat := 180 :: 0 :: 11 :: sX5_copyFrom_4
noncomputable def sX5_copyFrom_0 : List Nat := 43 :: sX5_copyFrom_1
theorem aX5_copyFrom_0 : dc_at cX5_copyFrom 0 sX5_copyFrom_0 := dc_base (by decide +kernel)
theorem aX5_copyFrom_1 : dc_at cX5_copyFrom 1 sX5_copyFrom_1 := dc_n1 aX5_copyFrom_0
theorem aX5_copyFrom_4 : dc_at cX5_copyFrom 4 sX5_copyFrom_4 := dc_n3 aX5_copyFrom_1
theorem aX5_copyFrom_5 : dc_at cX5_copyFrom 5 sX5_copyFrom_5 := dc_n1 aX5_copyFrom_4
theorem aX5_copyFrom_6 : dc_at cX5_copyFrom 6 sX5_copyFrom_6 := dc_n1 aX5_copyFrom_5
theorem aX5_copyFrom_9 : dc_at cX5_copyFrom 9 sX5_copyFrom_9 := dc_n3 aX5_copyFrom_6
theorem aX5_copyFrom_10 : dc_at cX5_copyFrom 10 sX5_copyFrom_10 := dc_n1 aX5_copyFrom_9
theorem aX5_copyFrom_12 : dc_at cX5_copyFrom 12 sX5_copyFrom_12 := dc_n2 aX5_copyFrom_10
theorem aX5_copyFrom_15 : dc_at cX5_copyFrom 15 sX5_copyFrom_15 := dc_n3 aX5_copyFrom_12
theorem aX5_copyFrom_16 : dc_at cX5_copyFrom 16 sX5_copyFrom_16 := dc_n1 aX5_copyFrom_15
theorem aX5_copyFrom_19 : dc_at cX5_copyFrom 19 sX5_copyFrom_19 := dc_n3 aX5_copyFrom_16
theorem aX5_copyFrom_20 : dc_at cX5_copyFrom 20 sX5_copyFrom_20 := dc_n1 aX5_copyFrom_19
theorem aX5_copyFrom_21 : dc_at cX5_copyFrom 21 sX5_copyFrom_21 := dc_n1 aX5_copyFrom_20
theorem aX5_copyFrom_24 : dc_at cX5_copyFrom 24 sX5_copyFrom_24 := dc_n3 aX5_copyFrom_21
theorem aX5_copyFrom_25 : dc_at cX5_copyFrom 25 sX5_copyFrom_25 := dc_n1 aX5_copyFrom_24
theorem aX5_copyFrom_27 : dc_at cX5_copyFrom 27 sX5_copyFrom_27 := dc_n2 aX5_copyFrom_25
theorem aX5_copyFrom_30 : dc_at cX5_copyFrom 30 sX5_copyFrom_30 := dc_n3 aX5_copyFrom_27
theorem aX5_copyFrom_31 : dc_at cX5_copyFrom 31 sX5_copyFrom_31 := dc_n1 aX5_copyFrom_30
theorem aX5_copyFrom_34 : dc_at cX5_copyFrom 34 sX5_copyFrom_34 := dc_n3 aX5_copyFrom_31
theorem aX5_copyFrom_35 : dc_at cX5_copyFrom 35 sX5_copyFrom_35 := dc_n1 aX5_copyFrom_34
theorem aX5_copyFrom_36 : dc_at cX5_copyFrom 36 sX5_copyFrom_36 := dc_n1 aX5_copyFrom_35
theorem aX5_copyFrom_39 : dc_at cX5_copyFrom 39 sX5_copyFrom_39 := dc_n3 aX5_copyFrom_36
theorem aX5_copyFrom_40 : dc_at cX5_copyFrom 40 sX5_copyFrom_40 := dc_n1 aX5_copyFrom_39
theorem aX5_copyFrom_42 : dc_at cX5_copyFrom 42 sX5_copyFrom_42 := dc_n2 aX5_copyFrom_40
theorem aX5_copyFrom_45 : dc_at cX5_copyFrom 45 sX5_copyFrom_45 := dc_n3 aX5_copyFrom_42
theorem aX5_copyFrom_46 : dc_at cX5_copyFrom 46 sX5_copyFrom_46 := dc_n1 aX5_copyFrom_45
theorem aX5_copyFrom_49 : dc_at cX5_copyFrom 49 sX5_copyFrom_49 := dc_n3 aX5_copyFrom_46
theorem aX5_copyFrom_50 : dc_at cX5_copyFrom 50 sX5_copyFrom_50 := dc_n1 aX5_copyFrom_49
theorem aX5_copyFrom_51 : dc_at cX5_copyFrom 51 sX5_copyFrom_51 := dc_n1 aX5_copyFrom_50
theorem aX5_copyFrom_54 : dc_at cX5_copyFrom 54 sX5_copyFrom_54 := dc_n3 aX5_copyFrom_51
theorem aX5_copyFrom_55 : dc_at cX5_copyFrom 55 sX5_copyFrom_55 := dc_n1 aX5_copyFrom_54
theorem aX5_copyFrom_57 : dc_at cX5_copyFrom 57 sX5_copyFrom_57 := dc_n2 aX5_copyFrom_55
theorem aX5_copyFrom_60 : dc_at cX5_copyFrom 60 sX5_copyFrom_60 := dc_n3 aX5_copyFrom_57
theorem aX5_copyFrom_61 : dc_at cX5_copyFrom 61 sX5_copyFrom_61 := dc_n1 aX5_copyFrom_60
theorem aX5_copyFrom_64 : dc_at cX5_copyFrom 64 sX5_copyFrom_64 := dc_n3 aX5_copyFrom_61
theorem aX5_copyFrom_65 : dc_at cX5_copyFrom 65 sX5_copyFrom_65 := dc_n1 aX5_copyFrom_64
theorem aX5_copyFrom_68 : dc_at cX5_copyFrom 68 sX5_copyFrom_68 := dc_n3 aX5_copyFrom_65
theorem aX5_copyFrom_71 : dc_at cX5_copyFrom 71 sX5_copyFrom_71 := dc_n3 aX5_copyFrom_68
theorem aX5_copyFrom_72 : dc_at cX5_copyFrom 72 sX5_copyFrom_72 := dc_n1 aX5_copyFrom_71
theorem aX5_copyFrom_75 : dc_at cX5_copyFrom 75 sX5_copyFrom_75 := dc_n3 aX5_copyFrom_72
theorem aX5_copyFrom_76 : dc_at cX5_copyFrom 76 sX5_copyFrom_76 := dc_n1 aX5_copyFrom_75
theorem aX5_copyFrom_79 : dc_at cX5_copyFrom 79 sX5_copyFrom_79 := dc_n3 aX5_copyFrom_76
theorem aX5_copyFrom_82 : dc_at cX5_copyFrom 82 sX5_copyFrom_82 := dc_n3 aX5_copyFrom_79
theorem dX5_copyFrom_0 : decode cX5_copyFrom 0 = .ok (.aload_n 1, 1) := dc_43 aX5_copyFrom_0
theorem dX5_copyFrom_1 : decode cX5_copyFrom 1 = .ok (.getfield 11, 3) := dc_180 (a0 := 0) (b0 := 11) aX5_copyFrom_1
theorem dX5_copyFrom_4 : decode cX5_copyFrom 4 = .ok (.iconst 0, 1) := dc_3 aX5_copyFrom_4
theorem dX5_copyFrom_5 : decode cX5_copyFrom 5 = .ok (.aload_n 0, 1) := dc_42 aX5_copyFrom_5
theorem dX5_copyFrom_6 : decode cX5_copyFrom 6 = .ok (.getfield 11, 3) := dc_180 (a0 := 0) (b0 := 11) aX5_copyFrom_6
theorem dX5_copyFrom_9 : decode cX5_copyFrom 9 = .ok (.iconst 0, 1) := dc_3 aX5_copyFrom_9
theorem dX5_copyFrom_10 : decode cX5_copyFrom 10 = .ok (.bipush 28, 2) := dc_16 (a0 := 28) aX5_copyFrom_10 (by decide)
theorem dX5_copyFrom_12 : decode cX5_copyFrom 12 = .ok (.invokestatic 44, 3) := dc_184 (a0 := 0) (b0 := 44) aX5_copyFrom_12
theorem dX5_copyFrom_15 : decode cX5_copyFrom 15 = .ok (.aload_n 1, 1) := dc_43 aX5_copyFrom_15
theorem dX5_copyFrom_16 : decode cX5_copyFrom 16 = .ok (.getfield 15, 3) := dc_180 (a0 := 0) (b0 := 15) aX5_copyFrom_16
theorem dX5_copyFrom_19 : decode cX5_copyFrom 19 = .ok (.iconst 0, 1) := dc_3 aX5_copyFrom_19
theorem dX5_copyFrom_20 : decode cX5_copyFrom 20 = .ok (.aload_n 0, 1) := dc_42 aX5_copyFrom_20
theorem dX5_copyFrom_21 : decode cX5_copyFrom 21 = .ok (.getfield 15, 3) := dc_180 (a0 := 0) (b0 := 15) aX5_copyFrom_21
theorem dX5_copyFrom_24 : decode cX5_copyFrom 24 = .ok (.iconst 0, 1) := dc_3 aX5_copyFrom_24
theorem dX5_copyFrom_25 : decode cX5_copyFrom 25 = .ok (.bipush 28, 2) := dc_16 (a0 := 28) aX5_copyFrom_25 (by decide)
theorem dX5_copyFrom_27 : decode cX5_copyFrom 27 = .ok (.invokestatic 44, 3) := dc_184 (a0 := 0) (b0 := 44) aX5_copyFrom_27
theorem dX5_copyFrom_30 : decode cX5_copyFrom 30 = .ok (.aload_n 1, 1) := dc_43 aX5_copyFrom_30
theorem dX5_copyFrom_31 : decode cX5_copyFrom 31 = .ok (.getfield 18, 3) := dc_180 (a0 := 0) (b0 := 18) aX5_copyFrom_31
theorem dX5_copyFrom_34 : decode cX5_copyFrom 34 = .ok (.iconst 0, 1) := dc_3 aX5_copyFrom_34
theorem dX5_copyFrom_35 : decode cX5_copyFrom 35 = .ok (.aload_n 0, 1) := dc_42 aX5_copyFrom_35
theorem dX5_copyFrom_36 : decode cX5_copyFrom 36 = .ok (.getfield 18, 3) := dc_180 (a0 := 0) (b0 := 18) aX5_copyFrom_36
theorem dX5_copyFrom_39 : decode cX5_copyFrom 39 = .ok (.iconst 0, 1) := dc_3 aX5_copyFrom_39
theorem dX5_copyFrom_40 : decode cX5_copyFrom 40 = .ok (.bipush 28, 2) := dc_16 (a0 := 28) aX5_copyFrom_40 (by decide)
theorem dX5_copyFrom_42 : decode cX5_copyFrom 42 = .ok (.invokestatic 44, 3) := dc_184 (a0 := 0) (b0 := 44) aX5_copyFrom_42
theorem dX5_copyFrom_45 : decode cX5_copyFrom 45 = .ok (.aload_n 1, 1) := dc_43 aX5_copyFrom_45
theorem dX5_copyFrom_46 : decode cX5_copyFrom 46 = .ok (.getfield 21, 3) := dc_180 (a0 := 0) (b0 := 21) aX5_copyFrom_46
theorem dX5_copyFrom_49 : decode cX5_copyFrom 49 = .ok (.iconst 0, 1) := dc_3 aX5_copyFrom_49
theorem dX5_copyFrom_50 : decode cX5_copyFrom 50 = .ok (.aload_n 0, 1) := dc_42 aX5_copyFrom_50
theorem dX5_copyFrom_51 : decode cX5_copyFrom 51 = .ok (.getfield 21, 3) := dc_180 (a0 := 0) (b0 := 21) aX5_copyFrom_51
theorem dX5_copyFrom_54 : decode cX5_copyFrom 54 = .ok (.iconst 0, 1) := dc_3 aX5_copyFrom_54
theorem dX5_copyFrom_55 : decode cX5_copyFrom 55 = .ok (.bipush 28, 2) := dc_16 (a0 := 28) aX5_copyFrom_55 (by decide)
theorem dX5_copyFrom_57 : decode cX5_copyFrom 57 = .ok (.invokestatic 44, 3) := dc_184 (a0 := 0) (b0 := 44) aX5_copyFrom_57
theorem dX5_copyFrom_60 : decode cX5_copyFrom 60 = .ok (.aload_n 0, 1) := dc_42 aX5_copyFrom_60
theorem dX5_copyFrom_61 : decode cX5_copyFrom 61 = .ok (.getfield 27, 3) := dc_180 (a0 := 0) (b0 := 27) aX5_copyFrom_61
theorem dX5_copyFrom_64 : decode cX5_copyFrom 64 = .ok (.aload_n 1, 1) := dc_43 aX5_copyFrom_64
theorem dX5_copyFrom_65 : decode cX5_copyFrom 65 = .ok (.getfield 27, 3) := dc_180 (a0 := 0) (b0 := 27) aX5_copyFrom_65
theorem dX5_copyFrom_68 : decode cX5_copyFrom 68 = .ok (.invokevirtual 50, 3) := dc_182 (a0 := 0) (b0 := 50) aX5_copyFrom_68
theorem dX5_copyFrom_71 : decode cX5_copyFrom 71 = .ok (.aload_n 0, 1) := dc_42 aX5_copyFrom_71
theorem dX5_copyFrom_72 : decode cX5_copyFrom 72 = .ok (.getfield 34, 3) := dc_180 (a0 := 0) (b0 := 34) aX5_copyFrom_72
theorem dX5_copyFrom_75 : decode cX5_copyFrom 75 = .ok (.aload_n 1, 1) := dc_43 aX5_copyFrom_75
theorem dX5_copyFrom_76 : decode cX5_copyFrom 76 = .ok (.getfield 34, 3) := dc_180 (a0 := 0) (b0 := 34) aX5_copyFrom_76
theorem dX5_copyFrom_79 : decode cX5_copyFrom 79 = .ok (.invokevirtual 54, 3) := dc_182 (a0 := 0) (b0 := 54) aX5_copyFrom_79
theorem dX5_copyFrom_82 : decode cX5_copyFrom 82 = .ok (.return_, 1) := dc_177 aX5_copyFrom_82
set_option maxRecDepth 20000 in
theorem ggX5_readLines_X9_isAtEnd : GoodIn wsX5_readLines wsX9_isAtEnd := goodIn_k _ [[7, 0, 160, 0, 0, 0, 0, 0, 0, 0, 0, 0]] (by rfl) (by decide +kernel)
set_option maxRecDepth 20000 in
theorem gX5_readLines_X9_isAtEnd : GoodIn wsX5_readLines (wsV RX5 59 RX9 yX9_isAtEnd wsX9_isAtEnd) := goodIn_app (goodIn_of _ (by decide +kernel)) ggX5_readLines_X9_isAtEnd
set_option maxRecDepth 20000 in
theorem ggX5_readLines_X9_isWord : GoodIn wsX5_readLines wsX9_isWord := goodIn_k _ [[12], [8, 4, 0, 0, 0, 0, 0, 0, 0, 0, 0, 0, 0, 0, 0, 0, 0, 0, 0, 0, 0, 0, 0, 0, 0, 0, 0, 0, 0, 0, 0, 0, 0, 0, 0, 0, 0, 0, 0, 0, 0, 0, 0, 0, 0, 0, 0, 0, 0, 0, 0, 0, 0, 104, 0, 0, 0, 0, 0, 0, 0, 0, 0]] (by rfl) (by decide +kernel)
set_option maxRecDepth 20000 in
theorem gX5_readLines_X9_isWord : GoodIn wsX5_readLines (wsV RX5 65 RX9 yX9_isWord wsX9_isWord) := goodIn_app (goodIn_of _ (by decide +kernel)) ggX5_readLines_X9_isWord
set_option maxRecDepth 20000 in
theorem ggX5_readLines_X5_readSet : GoodIn wsX5_readLines wsX5_readSet := goodIn_k _ [[69, 0, 0, 0, 0], [6, 67], [13, 61], [15], [14], [8, 67, 0, 0, 0, 0, 0, 0, 0, 0, 0, 0, 0, 0, 0, 0, 0, 0, 0, 0, 0, 0, 0, 0, 0, 0, 0, 0, 0, 0, 0, 0, 0, 0, 0], [10, 0, 0, 3, 0, 0, 0, 0, 0, 0, 0, 0, 0, 0, 0, 0, 0, 0, 0, 0, 0, 0, 0, 0, 0, 0, 0, 0, 0, 0, 0, 0, 0, 0, 0, 0, 0, 0, 0, 0, 0, 0, 0, 0, 0, 0, 0, 0, 0, 0, 0, 0, 45, 0, 0, 0], [68, 45, 0, 0, 0, 0, 0, 0, 0, 0, 0, 0], [9, 115, 0, 0, 0, 40, 0, 0, 0, 0, 0, 0, 0, 0, 0], [163, 0, 0, 0, 0, 0]] (by rfl) (by decide +kernel)
set_option maxRecDepth 20000 in
theorem gX5_readLines_X5_readSet : GoodIn wsX5_readLines (wsV RX5 69 RX5 yX5_readSet wsX5_readSet) := goodIn_app (goodIn_of _ (by decide +kernel)) ggX5_readLines_X5_readSet
set_option maxRecDepth 20000 in
theorem ggX5_readLines_X2_readClimate : GoodIn wsX5_readLines wsX2_readClimate := goodIn_k _ [[133, 0, 0], [96, 0], [6, 91, 0], [14, 85, 35], [72, 0, 0], [13, 61], [15], [8, 67, 0, 0, 0, 0, 0, 0, 0, 0, 0, 51], [87, 0, 0, 0, 0, 0, 0, 0, 0, 5, 36, 0, 0], [132, 8, 0, 0, 0, 0, 0, 0, 0, 0], [126, 0, 0, 50, 0], [169, 0, 0, 0, 0, 0, 0, 0, 0, 0]] (by rfl) (by decide +kernel)
set_option maxRecDepth 20000 in
theorem gX5_readLines_X2_readClimate : GoodIn wsX5_readLines (wsV RX5 75 RX2 yX2_readClimate wsX2_readClimate) := goodIn_app (goodIn_of _ (by decide +kernel)) ggX5_readLines_X2_readClimate
set_option maxRecDepth 20000 in
theorem ggX5_readLines_X4_readHand : GoodIn wsX5_readLines wsX4_readHand := goodIn_k _ [[154, 0, 0, 0, 0], [96, 0], [6, 91, 0], [14, 85, 58], [72, 0, 0], [13, 61], [15], [8, 67, 0, 0, 0, 0, 0, 0, 0, 0, 0, 74], [87, 0, 0, 0, 0, 0, 0, 0, 0, 5, 59], [122, 0, 0], [109], [10, 0, 0, 3, 0, 0, 0, 0, 0, 0, 0, 0, 0, 0, 0, 0, 0, 0, 0, 0, 0, 0, 0, 0, 0, 0, 0, 0, 0, 0, 0, 0, 0, 0, 0, 0, 0, 0, 0, 0, 0, 0, 0, 0, 0, 0, 0, 0, 0, 0, 0, 0, 97], [126, 0, 0, 52, 0], [169, 0, 0, 0, 0, 0, 0, 0, 0, 0]] (by rfl) (by decide +kernel)
set_option maxRecDepth 20000 in
theorem gX5_readLines_X4_readHand : GoodIn wsX5_readLines (wsV RX5 80 RX4 yX4_readHand wsX4_readHand) := goodIn_app (goodIn_of _ (by decide +kernel)) ggX5_readLines_X4_readHand
set_option maxRecDepth 20000 in
theorem ggX5_readLines_X9_refuse : GoodIn wsX5_readLines wsX9_refuse := goodIn_k _ [[98, 0], [14, 85, 68, 0, 0, 0, 0, 0, 0, 0, 0, 0]] (by rfl) (by decide +kernel)
set_option maxRecDepth 20000 in
theorem gX5_readLines_X9_refuse : GoodIn wsX5_readLines (wsV RX5 83 RX9 yX9_refuse wsX9_refuse) := goodIn_app (goodIn_of _ (by decide +kernel)) ggX5_readLines_X9_refuse
noncomputable def sX5_readLines_95 : List Nat := 172 :: []
noncomputable def sX5_readLines_94 : List Nat := 28 :: sX5_readLines_95
noncomputable def sX5_readLines_91 : List Nat := 167 :: 255 :: 169 :: sX5_readLines_94
noncomputable def sX5_readLines_88 : List Nat := 132 :: 3 :: 1 :: sX5_readLines_91
noncomputable def sX5_readLines_87 : List Nat := 61 :: sX5_readLines_88
noncomputable def sX5_readLines_84 : List Nat := 182 :: 0 :: 83 :: sX5_readLines_87
noncomputable def sX5_readLines_83 : List Nat := 4 :: sX5_readLines_84
noncomputable def sX5_readLines_82 : List Nat := 43 :: sX5_readLines_83
noncomputable def sX5_readLines_79 : List Nat := 167 :: 0 :: 9 :: sX5_readLines_82
noncomputable def sX5_readLines_78 : List Nat := 61 :: sX5_readLines_79
noncomputable def sX5_readLines_75 : List Nat := 182 :: 0 :: 80 :: sX5_readLines_78
noncomputable def sX5_readLines_74 : List Nat := 43 :: sX5_readLines_75
noncomputable def sX5_readLines_71 : List Nat := 180 :: 0 :: 34 :: sX5_readLines_74
noncomputable def sX5_readLines_70 : List Nat := 42 :: sX5_readLines_71
noncomputable def sX5_readLines_67 : List Nat := 153 :: 0 :: 15 :: sX5_readLines_70
noncomputable def sX5_readLines_64 : List Nat := 182 :: 0 :: 65 :: sX5_readLines_67
noncomputable def sX5_readLines_62 : List Nat := 18 :: 78 :: sX5_readLines_64
noncomputable def sX5_readLines_61 : List Nat := 43 :: sX5_readLines_62
noncomputable def sX5_readLines_58 : List Nat := 167 :: 0 :: 30 :: sX5_readLines_61
noncomputable def sX5_readLines_57 : List Nat := 61 :: sX5_readLines_58
noncomputable def sX5_readLines_54 : List Nat := 182 :: 0 :: 75 :: sX5_readLines_57
noncomputable def sX5_readLines_53 : List Nat := 43 :: sX5_readLines_54
noncomputable def sX5_readLines_50 : List Nat := 180 :: 0 :: 27 :: sX5_readLines_53
noncomputable def sX5_readLines_49 : List Nat := 42 :: sX5_readLines_50
noncomputable def sX5_readLines_46 : List Nat := 153 :: 0 :: 15 :: sX5_readLines_49
noncomputable def sX5_readLines_43 : List Nat := 182 :: 0 :: 65 :: sX5_readLines_46
noncomputable def sX5_readLines_41 : List Nat := 18 :: 73 :: sX5_readLines_43
noncomputable def sX5_readLines_40 : List Nat := 43 :: sX5_readLines_41
noncomputable def sX5_readLines_37 : List Nat := 167 :: 0 :: 51 :: sX5_readLines_40
noncomputable def sX5_readLines_36 : List Nat := 61 :: sX5_readLines_37
noncomputable def sX5_readLines_33 : List Nat := 182 :: 0 :: 69 :: sX5_readLines_36
noncomputable def sX5_readLines_32 : List Nat := 43 :: sX5_readLines_33
noncomputable def sX5_readLines_31 : List Nat := 42 :: sX5_readLines_32
noncomputable def sX5_readLines_28 : List Nat := 153 :: 0 :: 12 :: sX5_readLines_31
noncomputable def sX5_readLines_25 : List Nat := 182 :: 0 :: 65 :: sX5_readLines_28
noncomputable def sX5_readLines_23 : List Nat := 18 :: 63 :: sX5_readLines_25
noncomputable def sX5_readLines_22 : List Nat := 43 :: sX5_readLines_23
noncomputable def sX5_readLines_19 : List Nat := 154 :: 0 :: 75 :: sX5_readLines_22
noncomputable def sX5_readLines_16 : List Nat := 182 :: 0 :: 59 :: sX5_readLines_19
noncomputable def sX5_readLines_15 : List Nat := 43 :: sX5_readLines_16
noncomputable def sX5_readLines_12 : List Nat := 153 :: 0 :: 82 :: sX5_readLines_15
noncomputable def sX5_readLines_11 : List Nat := 28 :: sX5_readLines_12
noncomputable def sX5_readLines_8 : List Nat := 162 :: 0 :: 86 :: sX5_readLines_11
noncomputable def sX5_readLines_5 : List Nat := 17 :: 2 :: 88 :: sX5_readLines_8
noncomputable def sX5_readLines_4 : List Nat := 29 :: sX5_readLines_5
noncomputable def sX5_readLines_3 : List Nat := 62 :: sX5_readLines_4
noncomputable def sX5_readLines_2 : List Nat := 3 :: sX5_readLines_3
noncomputable def sX5_readLines_1 : List Nat := 61 :: sX5_readLines_2
noncomputable def sX5_readLines_0 : List Nat := 4 :: sX5_readLines_1
theorem aX5_readLines_0 : dc_at cX5_readLines 0 sX5_readLines_0 := dc_base (by decide +kernel)
theorem aX5_readLines_1 : dc_at cX5_readLines 1 sX5_readLines_1 := dc_n1 aX5_readLines_0
theorem aX5_readLines_2 : dc_at cX5_readLines 2 sX5_readLines_2 := dc_n1 aX5_readLines_1
theorem aX5_readLines_3 : dc_at cX5_readLines 3 sX5_readLines_3 := dc_n1 aX5_readLines_2
theorem aX5_readLines_4 : dc_at cX5_readLines 4 sX5_readLines_4 := dc_n1 aX5_readLines_3
theorem aX5_readLines_5 : dc_at cX5_readLines 5 sX5_readLines_5 := dc_n1 aX5_readLines_4
theorem aX5_readLines_8 : dc_at cX5_readLines 8 sX5_readLines_8 := dc_n3 aX5_readLines_5
theorem aX5_readLines_11 : dc_at cX5_readLines 11 sX5_readLines_11 := dc_n3 aX5_readLines_8
theorem aX5_readLines_12 : dc_at cX5_readLines 12 sX5_readLines_12 := dc_n1 aX5_readLines_11
theorem aX5_readLines_15 : dc_at cX5_readLines 15 sX5_readLines_15 := dc_n3 aX5_readLines_12
theorem aX5_readLines_16 : dc_at cX5_readLines 16 sX5_readLines_16 := dc_n1 aX5_readLines_15
theorem aX5_readLines_19 : dc_at cX5_readLines 19 sX5_readLines_19 := dc_n3 aX5_readLines_16
theorem aX5_readLines_22 : dc_at cX5_readLines 22 sX5_readLines_22 := dc_n3 aX5_readLines_19
theorem aX5_readLines_23 : dc_at cX5_readLines 23 sX5_readLines_23 := dc_n1 aX5_readLines_22
theorem aX5_readLines_25 : dc_at cX5_readLines 25 sX5_readLines_25 := dc_n2 aX5_readLines_23
theorem aX5_readLines_28 : dc_at cX5_readLines 28 sX5_readLines_28 := dc_n3 aX5_readLines_25
theorem aX5_readLines_31 : dc_at cX5_readLines 31 sX5_readLines_31 := dc_n3 aX5_readLines_28
theorem aX5_readLines_32 : dc_at cX5_readLines 32 sX5_readLines_32 := dc_n1 aX5_readLines_31
theorem aX5_readLines_33 : dc_at cX5_readLines 33 sX5_readLines_33 := dc_n1 aX5_readLines_32
theorem aX5_readLines_36 : dc_at cX5_readLines 36 sX5_readLines_36 := dc_n3 aX5_readLines_33
theorem aX5_readLines_37 : dc_at cX5_readLines 37 sX5_readLines_37 := dc_n1 aX5_readLines_36
theorem aX5_readLines_40 : dc_at cX5_readLines 40 sX5_readLines_40 := dc_n3 aX5_readLines_37
theorem aX5_readLines_41 : dc_at cX5_readLines 41 sX5_readLines_41 := dc_n1 aX5_readLines_40
theorem aX5_readLines_43 : dc_at cX5_readLines 43 sX5_readLines_43 := dc_n2 aX5_readLines_41
theorem aX5_readLines_46 : dc_at cX5_readLines 46 sX5_readLines_46 := dc_n3 aX5_readLines_43
theorem aX5_readLines_49 : dc_at cX5_readLines 49 sX5_readLines_49 := dc_n3 aX5_readLines_46
theorem aX5_readLines_50 : dc_at cX5_readLines 50 sX5_readLines_50 := dc_n1 aX5_readLines_49
theorem aX5_readLines_53 : dc_at cX5_readLines 53 sX5_readLines_53 := dc_n3 aX5_readLines_50
theorem aX5_readLines_54 : dc_at cX5_readLines 54 sX5_readLines_54 := dc_n1 aX5_readLines_53
theorem aX5_readLines_57 : dc_at cX5_readLines 57 sX5_readLines_57 := dc_n3 aX5_readLines_54
theorem aX5_readLines_58 : dc_at cX5_readLines 58 sX5_readLines_58 := dc_n1 aX5_readLines_57
theorem aX5_readLines_61 : dc_at cX5_readLines 61 sX5_readLines_61 := dc_n3 aX5_readLines_58
theorem aX5_readLines_62 : dc_at cX5_readLines 62 sX5_readLines_62 := dc_n1 aX5_readLines_61
theorem aX5_readLines_64 : dc_at cX5_readLines 64 sX5_readLines_64 := dc_n2 aX5_readLines_62
theorem aX5_readLines_67 : dc_at cX5_readLines 67 sX5_readLines_67 := dc_n3 aX5_readLines_64
theorem aX5_readLines_70 : dc_at cX5_readLines 70 sX5_readLines_70 := dc_n3 aX5_readLines_67
theorem aX5_readLines_71 : dc_at cX5_readLines 71 sX5_readLines_71 := dc_n1 aX5_readLines_70
theorem aX5_readLines_74 : dc_at cX5_readLines 74 sX5_readLines_74 := dc_n3 aX5_readLines_71
theorem aX5_readLines_75 : dc_at cX5_readLines 75 sX5_readLines_75 := dc_n1 aX5_readLines_74
theorem aX5_readLines_78 : dc_at cX5_readLines 78 sX5_readLines_78 := dc_n3 aX5_readLines_75
theorem aX5_readLines_79 : dc_at cX5_readLines 79 sX5_readLines_79 := dc_n1 aX5_readLines_78
theorem aX5_readLines_82 : dc_at cX5_readLines 82 sX5_readLines_82 := dc_n3 aX5_readLines_79
theorem aX5_readLines_83 : dc_at cX5_readLines 83 sX5_readLines_83 := dc_n1 aX5_readLines_82
theorem aX5_readLines_84 : dc_at cX5_readLines 84 sX5_readLines_84 := dc_n1 aX5_readLines_83
theorem aX5_readLines_87 : dc_at cX5_readLines 87 sX5_readLines_87 := dc_n3 aX5_readLines_84
theorem aX5_readLines_88 : dc_at cX5_readLines 88 sX5_readLines_88 := dc_n1 aX5_readLines_87
theorem aX5_readLines_91 : dc_at cX5_readLines 91 sX5_readLines_91 := dc_n3 aX5_readLines_88
theorem aX5_readLines_94 : dc_at cX5_readLines 94 sX5_readLines_94 := dc_n3 aX5_readLines_91
theorem aX5_readLines_95 : dc_at cX5_readLines 95 sX5_readLines_95 := dc_n1 aX5_readLines_94
theorem dX5_readLines_0 : decode cX5_readLines 0 = .ok (.iconst 1, 1) := dc_4 aX5_readLines_0
theorem dX5_readLines_1 : decode cX5_readLines 1 = .ok (.istore_n 2, 1) := dc_61 aX5_readLines_1
theorem dX5_readLines_2 : decode cX5_readLines 2 = .ok (.iconst 0, 1) := dc_3 aX5_readLines_2
theorem dX5_readLines_3 : decode cX5_readLines 3 = .ok (.istore_n 3, 1) := dc_62 aX5_readLines_3
theorem dX5_readLines_4 : decode cX5_readLines 4 = .ok (.iload_n 3, 1) := dc_29 aX5_readLines_4
theorem dX5_readLines_5 : decode cX5_readLines 5 = .ok (.sipush 600, 3) := dc_17 (a0 := 2) (b0 := 88) aX5_readLines_5 (by decide)
theorem dX5_readLines_8 : decode cX5_readLines 8 = .ok (.if_icmp .ge 86, 3) := dc_162 (a0 := 0) (b0 := 86) aX5_readLines_8 (by decide)
theorem dX5_readLines_11 : decode cX5_readLines 11 = .ok (.iload_n 2, 1) := dc_28 aX5_readLines_11
theorem dX5_readLines_12 : decode cX5_readLines 12 = .ok (.ifCond .eq 82, 3) := dc_153 (a0 := 0) (b0 := 82) aX5_readLines_12 (by decide)
theorem dX5_readLines_15 : decode cX5_readLines 15 = .ok (.aload_n 1, 1) := dc_43 aX5_readLines_15
theorem dX5_readLines_16 : decode cX5_readLines 16 = .ok (.invokevirtual 59, 3) := dc_182 (a0 := 0) (b0 := 59) aX5_readLines_16
theorem dX5_readLines_19 : decode cX5_readLines 19 = .ok (.ifCond .ne 75, 3) := dc_154 (a0 := 0) (b0 := 75) aX5_readLines_19 (by decide)
theorem dX5_readLines_22 : decode cX5_readLines 22 = .ok (.aload_n 1, 1) := dc_43 aX5_readLines_22
theorem dX5_readLines_23 : decode cX5_readLines 23 = .ok (.ldc 63, 2) := dc_18 (a0 := 63) aX5_readLines_23
theorem dX5_readLines_25 : decode cX5_readLines 25 = .ok (.invokevirtual 65, 3) := dc_182 (a0 := 0) (b0 := 65) aX5_readLines_25
theorem dX5_readLines_28 : decode cX5_readLines 28 = .ok (.ifCond .eq 12, 3) := dc_153 (a0 := 0) (b0 := 12) aX5_readLines_28 (by decide)
theorem dX5_readLines_31 : decode cX5_readLines 31 = .ok (.aload_n 0, 1) := dc_42 aX5_readLines_31
theorem dX5_readLines_32 : decode cX5_readLines 32 = .ok (.aload_n 1, 1) := dc_43 aX5_readLines_32
theorem dX5_readLines_33 : decode cX5_readLines 33 = .ok (.invokevirtual 69, 3) := dc_182 (a0 := 0) (b0 := 69) aX5_readLines_33
theorem dX5_readLines_36 : decode cX5_readLines 36 = .ok (.istore_n 2, 1) := dc_61 aX5_readLines_36
theorem dX5_readLines_37 : decode cX5_readLines 37 = .ok (.goto 51, 3) := dc_167 (a0 := 0) (b0 := 51) aX5_readLines_37 (by decide)
theorem dX5_readLines_40 : decode cX5_readLines 40 = .ok (.aload_n 1, 1) := dc_43 aX5_readLines_40
theorem dX5_readLines_41 : decode cX5_readLines 41 = .ok (.ldc 73, 2) := dc_18 (a0 := 73) aX5_readLines_41
theorem dX5_readLines_43 : decode cX5_readLines 43 = .ok (.invokevirtual 65, 3) := dc_182 (a0 := 0) (b0 := 65) aX5_readLines_43
theorem dX5_readLines_46 : decode cX5_readLines 46 = .ok (.ifCond .eq 15, 3) := dc_153 (a0 := 0) (b0 := 15) aX5_readLines_46 (by decide)
theorem dX5_readLines_49 : decode cX5_readLines 49 = .ok (.aload_n 0, 1) := dc_42 aX5_readLines_49
theorem dX5_readLines_50 : decode cX5_readLines 50 = .ok (.getfield 27, 3) := dc_180 (a0 := 0) (b0 := 27) aX5_readLines_50
theorem dX5_readLines_53 : decode cX5_readLines 53 = .ok (.aload_n 1, 1) := dc_43 aX5_readLines_53
theorem dX5_readLines_54 : decode cX5_readLines 54 = .ok (.invokevirtual 75, 3) := dc_182 (a0 := 0) (b0 := 75) aX5_readLines_54
theorem dX5_readLines_57 : decode cX5_readLines 57 = .ok (.istore_n 2, 1) := dc_61 aX5_readLines_57
theorem dX5_readLines_58 : decode cX5_readLines 58 = .ok (.goto 30, 3) := dc_167 (a0 := 0) (b0 := 30) aX5_readLines_58 (by decide)
theorem dX5_readLines_61 : decode cX5_readLines 61 = .ok (.aload_n 1, 1) := dc_43 aX5_readLines_61
theorem dX5_readLines_62 : decode cX5_readLines 62 = .ok (.ldc 78, 2) := dc_18 (a0 := 78) aX5_readLines_62
theorem dX5_readLines_64 : decode cX5_readLines 64 = .ok (.invokevirtual 65, 3) := dc_182 (a0 := 0) (b0 := 65) aX5_readLines_64
theorem dX5_readLines_67 : decode cX5_readLines 67 = .ok (.ifCond .eq 15, 3) := dc_153 (a0 := 0) (b0 := 15) aX5_readLines_67 (by decide)
theorem dX5_readLines_70 : decode cX5_readLines 70 = .ok (.aload_n 0, 1) := dc_42 aX5_readLines_70
theorem dX5_readLines_71 : decode cX5_readLines 71 = .ok (.getfield 34, 3) := dc_180 (a0 := 0) (b0 := 34) aX5_readLines_71
theorem dX5_readLines_74 : decode cX5_readLines 74 = .ok (.aload_n 1, 1) := dc_43 aX5_readLines_74
theorem dX5_readLines_75 : decode cX5_readLines 75 = .ok (.invokevirtual 80, 3) := dc_182 (a0 := 0) (b0 := 80) aX5_readLines_75
theorem dX5_readLines_78 : decode cX5_readLines 78 = .ok (.istore_n 2, 1) := dc_61 aX5_readLines_78
theorem dX5_readLines_79 : decode cX5_readLines 79 = .ok (.goto 9, 3) := dc_167 (a0 := 0) (b0 := 9) aX5_readLines_79 (by decide)
theorem dX5_readLines_82 : decode cX5_readLines 82 = .ok (.aload_n 1, 1) := dc_43 aX5_readLines_82
theorem dX5_readLines_83 : decode cX5_readLines 83 = .ok (.iconst 1, 1) := dc_4 aX5_readLines_83
theorem dX5_readLines_84 : decode cX5_readLines 84 = .ok (.invokevirtual 83, 3) := dc_182 (a0 := 0) (b0 := 83) aX5_readLines_84
theorem dX5_readLines_87 : decode cX5_readLines 87 = .ok (.istore_n 2, 1) := dc_61 aX5_readLines_87
theorem dX5_readLines_88 : decode cX5_readLines 88 = .ok (.iinc 3 1, 3) := dc_132 (a0 := 3) (a1 := 1) aX5_readLines_88 (by decide)
theorem dX5_readLines_91 : decode cX5_readLines 91 = .ok (.goto (-87), 3) := dc_167 (a0 := 255) (b0 := 169) aX5_readLines_91 (by decide)
theorem dX5_readLines_94 : decode cX5_readLines 94 = .ok (.iload_n 2, 1) := dc_28 aX5_readLines_94
theorem dX5_readLines_95 : decode cX5_readLines 95 = .ok (.ireturn, 1) := dc_172 aX5_readLines_95
set_option maxRecDepth 20000 in
theorem ggX5_readSet_X9_step : GoodIn wsX5_readSet wsX9_step := goodIn_k _ [[6, 0, 0, 0, 0, 0, 0, 0, 0], [5, 9, 0, 0, 0, 0, 0, 0, 97, 0, 0, 0, 0, 0, 0, 0, 0, 0]] (by rfl) (by decide +kernel)
set_option maxRecDepth 20000 in
theorem gX5_readSet_X9_step : GoodIn wsX5_readSet (wsV RX5 87 RX9 yX9_step wsX9_step) := goodIn_app (goodIn_of _ (by decide +kernel)) ggX5_readSet_X9_step
set_option maxRecDepth 20000 in
theorem ggX5_readSet_X9_takeNumber : GoodIn wsX5_readSet wsX9_takeNumber := goodIn_k _ [[25, 0, 0, 0], [5, 23], [11], [7, 2, 1, 17, 0, 0, 0, 0, 0, 0, 0], [3, 0, 1, 1, 0, 3, 0, 0, 0, 0, 0, 0, 0, 0, 97, 0, 0, 0, 0, 0, 0, 0, 0, 0]] (by rfl) (by decide +kernel)
set_option maxRecDepth 20000 in
theorem gX5_readSet_X9_takeNumber : GoodIn wsX5_readSet (wsV RX5 90 RX9 yX9_takeNumber wsX9_takeNumber) := goodIn_app (goodIn_of _ (by decide +kernel)) ggX5_readSet_X9_takeNumber
set_option maxRecDepth 20000 in
theorem ggX5_readSet_X9_namedOf : GoodIn wsX5_readSet wsX9_namedOf := goodIn_k _ [[41, 0, 0], [5, 38, 0, 0, 0, 0], [11], [7, 2], [9, 39, 0, 0, 0, 0, 0, 0, 0, 0, 0, 0, 0, 0, 0, 0, 0, 0, 0, 0, 0, 0, 0, 0, 0, 0, 0, 0, 0, 0, 0, 0, 0, 0, 0, 0, 0, 0, 0, 0, 0, 0, 0, 0, 0, 0, 0, 0, 0, 0, 21, 0, 0, 0, 0, 0, 0, 0, 0, 0]] (by rfl) (by decide +kernel)
set_option maxRecDepth 20000 in
theorem gX5_readSet_X9_namedOf : GoodIn wsX5_readSet (wsV RX5 98 RX9 yX9_namedOf wsX9_namedOf) := goodIn_app (goodIn_of _ (by decide +kernel)) ggX5_readSet_X9_namedOf
set_option maxRecDepth 20000 in
theorem ggX5_readSet_X9_refuse : GoodIn wsX5_readSet wsX9_refuse := goodIn_k _ [[34, 0], [10, 25, 82, 0, 0, 0, 0, 0, 0, 0, 0, 0]] (by rfl) (by decide +kernel)
set_option maxRecDepth 20000 in
theorem gX5_readSet_X9_refuse : GoodIn wsX5_readSet (wsV RX5 83 RX9 yX9_refuse wsX9_refuse) := goodIn_app (goodIn_of _ (by decide +kernel)) ggX5_readSet_X9_refuse
set_option maxRecDepth 20000 in
theorem ggX5_readSet_X5_readTable : GoodIn wsX5_readSet wsX5_readTable := goodIn_k _ [[103, 0], [1, 103, 0, 0, 0, 0, 0, 0, 0], [5, 107], [45, 0, 0, 0], [11], [7, 2], [9, 39, 0, 0, 0, 0, 0, 0, 0, 0, 0, 0, 0, 0, 0, 0, 0, 0, 0, 0, 0, 0, 0, 0, 0, 0, 0, 0, 0, 0, 0, 0, 0, 0, 0, 0, 0, 0, 0, 0, 0, 0, 0, 0, 0, 0, 0, 0, 0, 0], [31, 0, 0, 0, 0, 0, 0], [3, 0, 1, 1, 3, 0, 0, 0, 0, 0, 0, 0, 0, 0, 0, 0, 0, 0, 0, 0, 0, 0, 0, 83], [2, 126, 0, 0, 0, 0, 0], [119, 0, 0, 0, 0, 0, 0, 0, 0, 0]] (by rfl) (by decide +kernel)
set_option maxRecDepth 20000 in
theorem gX5_readSet_X5_readTable : GoodIn wsX5_readSet (wsV RX5 102 RX5 yX5_readTable wsX5_readTable) := goodIn_app (goodIn_of _ (by decide +kernel)) ggX5_readSet_X5_readTable
set_option maxRecDepth 20000 in
theorem ggX5_readSet_X9_takeStop : GoodIn wsX5_readSet wsX9_takeStop := goodIn_k _ [[118], [11, 19, 0, 0], [5, 28, 0], [10, 25, 0], [3, 0, 1, 0, 0, 0, 2, 0, 0, 0, 0, 0, 0, 0, 0, 0, 97, 0, 0, 0, 0, 0, 0, 0, 0, 0]] (by rfl) (by decide +kernel)
set_option maxRecDepth 20000 in
theorem gX5_readSet_X9_takeStop : GoodIn wsX5_readSet (wsV RX5 106 RX9 yX9_takeStop wsX9_takeStop) := goodIn_app (goodIn_of _ (by decide +kernel)) ggX5_readSet_X9_takeStop
noncomputable def sX5_readSet_68 : List Nat := 172 :: []
noncomputable def sX5_readSet_67 : List Nat := 3 :: sX5_readSet_68
noncomputable def sX5_readSet_64 : List Nat := 167 :: 0 :: 4 :: sX5_readSet_67
noncomputable def sX5_readSet_63 : List Nat := 4 :: sX5_readSet_64
noncomputable def sX5_readSet_60 : List Nat := 153 :: 0 :: 7 :: sX5_readSet_63
noncomputable def sX5_readSet_57 : List Nat := 182 :: 0 :: 106 :: sX5_readSet_60
noncomputable def sX5_readSet_56 : List Nat := 43 :: sX5_readSet_57
noncomputable def sX5_readSet_53 : List Nat := 153 :: 0 :: 14 :: sX5_readSet_56
noncomputable def sX5_readSet_50 : List Nat := 182 :: 0 :: 102 :: sX5_readSet_53
noncomputable def sX5_readSet_49 : List Nat := 96 :: sX5_readSet_50
noncomputable def sX5_readSet_48 : List Nat := 29 :: sX5_readSet_49
noncomputable def sX5_readSet_47 : List Nat := 104 :: sX5_readSet_48
noncomputable def sX5_readSet_46 : List Nat := 28 :: sX5_readSet_47
noncomputable def sX5_readSet_44 : List Nat := 16 :: 7 :: sX5_readSet_46
noncomputable def sX5_readSet_43 : List Nat := 43 :: sX5_readSet_44
noncomputable def sX5_readSet_42 : List Nat := 42 :: sX5_readSet_43
noncomputable def sX5_readSet_39 : List Nat := 182 :: 0 :: 87 :: sX5_readSet_42
noncomputable def sX5_readSet_38 : List Nat := 43 :: sX5_readSet_39
noncomputable def sX5_readSet_37 : List Nat := 172 :: sX5_readSet_38
noncomputable def sX5_readSet_34 : List Nat := 182 :: 0 :: 83 :: sX5_readSet_37
noncomputable def sX5_readSet_33 : List Nat := 4 :: sX5_readSet_34
noncomputable def sX5_readSet_32 : List Nat := 43 :: sX5_readSet_33
noncomputable def sX5_readSet_29 : List Nat := 160 :: 0 :: 9 :: sX5_readSet_32
noncomputable def sX5_readSet_28 : List Nat := 2 :: sX5_readSet_29
noncomputable def sX5_readSet_27 : List Nat := 29 :: sX5_readSet_28
noncomputable def sX5_readSet_26 : List Nat := 62 :: sX5_readSet_27
noncomputable def sX5_readSet_23 : List Nat := 182 :: 0 :: 98 :: sX5_readSet_26
noncomputable def sX5_readSet_21 : List Nat := 16 :: 7 :: sX5_readSet_23
noncomputable def sX5_readSet_20 : List Nat := 43 :: sX5_readSet_21
noncomputable def sX5_readSet_19 : List Nat := 61 :: sX5_readSet_20
noncomputable def sX5_readSet_16 : List Nat := 180 :: 0 :: 94 :: sX5_readSet_19
noncomputable def sX5_readSet_15 : List Nat := 43 :: sX5_readSet_16
noncomputable def sX5_readSet_14 : List Nat := 172 :: sX5_readSet_15
noncomputable def sX5_readSet_13 : List Nat := 3 :: sX5_readSet_14
noncomputable def sX5_readSet_10 : List Nat := 154 :: 0 :: 5 :: sX5_readSet_13
noncomputable def sX5_readSet_7 : List Nat := 182 :: 0 :: 90 :: sX5_readSet_10
noncomputable def sX5_readSet_6 : List Nat := 6 :: sX5_readSet_7
noncomputable def sX5_readSet_5 : List Nat := 3 :: sX5_readSet_6
noncomputable def sX5_readSet_4 : List Nat := 43 :: sX5_readSet_5
noncomputable def sX5_readSet_1 : List Nat := 182 :: 0 :: 87 :: sX5_readSet_4
noncomputable def sX5_readSet_0 : List Nat := 43 :: sX5_readSet_1
theorem aX5_readSet_0 : dc_at cX5_readSet 0 sX5_readSet_0 := dc_base (by decide +kernel)
theorem aX5_readSet_1 : dc_at cX5_readSet 1 sX5_readSet_1 := dc_n1 aX5_readSet_0
theorem aX5_readSet_4 : dc_at cX5_readSet 4 sX5_readSet_4 := dc_n3 aX5_readSet_1
theorem aX5_readSet_5 : dc_at cX5_readSet 5 sX5_readSet_5 := dc_n1 aX5_readSet_4
theorem aX5_readSet_6 : dc_at cX5_readSet 6 sX5_readSet_6 := dc_n1 aX5_readSet_5
theorem aX5_readSet_7 : dc_at cX5_readSet 7 sX5_readSet_7 := dc_n1 aX5_readSet_6
theorem aX5_readSet_10 : dc_at cX5_readSet 10 sX5_readSet_10 := dc_n3 aX5_readSet_7
theorem aX5_readSet_13 : dc_at cX5_readSet 13 sX5_readSet_13 := dc_n3 aX5_readSet_10
theorem aX5_readSet_14 : dc_at cX5_readSet 14 sX5_readSet_14 := dc_n1 aX5_readSet_13
theorem aX5_readSet_15 : dc_at cX5_readSet 15 sX5_readSet_15 := dc_n1 aX5_readSet_14
theorem aX5_readSet_16 : dc_at cX5_readSet 16 sX5_readSet_16 := dc_n1 aX5_readSet_15
theorem aX5_readSet_19 : dc_at cX5_readSet 19 sX5_readSet_19 := dc_n3 aX5_readSet_16
theorem aX5_readSet_20 : dc_at cX5_readSet 20 sX5_readSet_20 := dc_n1 aX5_readSet_19
theorem aX5_readSet_21 : dc_at cX5_readSet 21 sX5_readSet_21 := dc_n1 aX5_readSet_20
theorem aX5_readSet_23 : dc_at cX5_readSet 23 sX5_readSet_23 := dc_n2 aX5_readSet_21
theorem aX5_readSet_26 : dc_at cX5_readSet 26 sX5_readSet_26 := dc_n3 aX5_readSet_23
theorem aX5_readSet_27 : dc_at cX5_readSet 27 sX5_readSet_27 := dc_n1 aX5_readSet_26
theorem aX5_readSet_28 : dc_at cX5_readSet 28 sX5_readSet_28 := dc_n1 aX5_readSet_27
theorem aX5_readSet_29 : dc_at cX5_readSet 29 sX5_readSet_29 := dc_n1 aX5_readSet_28
theorem aX5_readSet_32 : dc_at cX5_readSet 32 sX5_readSet_32 := dc_n3 aX5_readSet_29
theorem aX5_readSet_33 : dc_at cX5_readSet 33 sX5_readSet_33 := dc_n1 aX5_readSet_32
theorem aX5_readSet_34 : dc_at cX5_readSet 34 sX5_readSet_34 := dc_n1 aX5_readSet_33
theorem aX5_readSet_37 : dc_at cX5_readSet 37 sX5_readSet_37 := dc_n3 aX5_readSet_34
theorem aX5_readSet_38 : dc_at cX5_readSet 38 sX5_readSet_38 := dc_n1 aX5_readSet_37
theorem aX5_readSet_39 : dc_at cX5_readSet 39 sX5_readSet_39 := dc_n1 aX5_readSet_38
theorem aX5_readSet_42 : dc_at cX5_readSet 42 sX5_readSet_42 := dc_n3 aX5_readSet_39
theorem aX5_readSet_43 : dc_at cX5_readSet 43 sX5_readSet_43 := dc_n1 aX5_readSet_42
theorem aX5_readSet_44 : dc_at cX5_readSet 44 sX5_readSet_44 := dc_n1 aX5_readSet_43
theorem aX5_readSet_46 : dc_at cX5_readSet 46 sX5_readSet_46 := dc_n2 aX5_readSet_44
theorem aX5_readSet_47 : dc_at cX5_readSet 47 sX5_readSet_47 := dc_n1 aX5_readSet_46
theorem aX5_readSet_48 : dc_at cX5_readSet 48 sX5_readSet_48 := dc_n1 aX5_readSet_47
theorem aX5_readSet_49 : dc_at cX5_readSet 49 sX5_readSet_49 := dc_n1 aX5_readSet_48
theorem aX5_readSet_50 : dc_at cX5_readSet 50 sX5_readSet_50 := dc_n1 aX5_readSet_49
theorem aX5_readSet_53 : dc_at cX5_readSet 53 sX5_readSet_53 := dc_n3 aX5_readSet_50
theorem aX5_readSet_56 : dc_at cX5_readSet 56 sX5_readSet_56 := dc_n3 aX5_readSet_53
theorem aX5_readSet_57 : dc_at cX5_readSet 57 sX5_readSet_57 := dc_n1 aX5_readSet_56
theorem aX5_readSet_60 : dc_at cX5_readSet 60 sX5_readSet_60 := dc_n3 aX5_readSet_57
theorem aX5_readSet_63 : dc_at cX5_readSet 63 sX5_readSet_63 := dc_n3 aX5_readSet_60
theorem aX5_readSet_64 : dc_at cX5_readSet 64 sX5_readSet_64 := dc_n1 aX5_readSet_63
theorem aX5_readSet_67 : dc_at cX5_readSet 67 sX5_readSet_67 := dc_n3 aX5_readSet_64
theorem aX5_readSet_68 : dc_at cX5_readSet 68 sX5_readSet_68 := dc_n1 aX5_readSet_67
theorem dX5_readSet_0 : decode cX5_readSet 0 = .ok (.aload_n 1, 1) := dc_43 aX5_readSet_0
theorem dX5_readSet_1 : decode cX5_readSet 1 = .ok (.invokevirtual 87, 3) := dc_182 (a0 := 0) (b0 := 87) aX5_readSet_1
theorem dX5_readSet_4 : decode cX5_readSet 4 = .ok (.aload_n 1, 1) := dc_43 aX5_readSet_4
theorem dX5_readSet_5 : decode cX5_readSet 5 = .ok (.iconst 0, 1) := dc_3 aX5_readSet_5
theorem dX5_readSet_6 : decode cX5_readSet 6 = .ok (.iconst 3, 1) := dc_6 aX5_readSet_6
theorem dX5_readSet_7 : decode cX5_readSet 7 = .ok (.invokevirtual 90, 3) := dc_182 (a0 := 0) (b0 := 90) aX5_readSet_7
theorem dX5_readSet_10 : decode cX5_readSet 10 = .ok (.ifCond .ne 5, 3) := dc_154 (a0 := 0) (b0 := 5) aX5_readSet_10 (by decide)
theorem dX5_readSet_13 : decode cX5_readSet 13 = .ok (.iconst 0, 1) := dc_3 aX5_readSet_13
theorem dX5_readSet_14 : decode cX5_readSet 14 = .ok (.ireturn, 1) := dc_172 aX5_readSet_14
theorem dX5_readSet_15 : decode cX5_readSet 15 = .ok (.aload_n 1, 1) := dc_43 aX5_readSet_15
theorem dX5_readSet_16 : decode cX5_readSet 16 = .ok (.getfield 94, 3) := dc_180 (a0 := 0) (b0 := 94) aX5_readSet_16
theorem dX5_readSet_19 : decode cX5_readSet 19 = .ok (.istore_n 2, 1) := dc_61 aX5_readSet_19
theorem dX5_readSet_20 : decode cX5_readSet 20 = .ok (.aload_n 1, 1) := dc_43 aX5_readSet_20
theorem dX5_readSet_21 : decode cX5_readSet 21 = .ok (.bipush 7, 2) := dc_16 (a0 := 7) aX5_readSet_21 (by decide)
theorem dX5_readSet_23 : decode cX5_readSet 23 = .ok (.invokevirtual 98, 3) := dc_182 (a0 := 0) (b0 := 98) aX5_readSet_23
theorem dX5_readSet_26 : decode cX5_readSet 26 = .ok (.istore_n 3, 1) := dc_62 aX5_readSet_26
theorem dX5_readSet_27 : decode cX5_readSet 27 = .ok (.iload_n 3, 1) := dc_29 aX5_readSet_27
theorem dX5_readSet_28 : decode cX5_readSet 28 = .ok (.iconst (-1), 1) := dc_2 aX5_readSet_28
theorem dX5_readSet_29 : decode cX5_readSet 29 = .ok (.if_icmp .ne 9, 3) := dc_160 (a0 := 0) (b0 := 9) aX5_readSet_29 (by decide)
theorem dX5_readSet_32 : decode cX5_readSet 32 = .ok (.aload_n 1, 1) := dc_43 aX5_readSet_32
theorem dX5_readSet_33 : decode cX5_readSet 33 = .ok (.iconst 1, 1) := dc_4 aX5_readSet_33
theorem dX5_readSet_34 : decode cX5_readSet 34 = .ok (.invokevirtual 83, 3) := dc_182 (a0 := 0) (b0 := 83) aX5_readSet_34
theorem dX5_readSet_37 : decode cX5_readSet 37 = .ok (.ireturn, 1) := dc_172 aX5_readSet_37
theorem dX5_readSet_38 : decode cX5_readSet 38 = .ok (.aload_n 1, 1) := dc_43 aX5_readSet_38
theorem dX5_readSet_39 : decode cX5_readSet 39 = .ok (.invokevirtual 87, 3) := dc_182 (a0 := 0) (b0 := 87) aX5_readSet_39
theorem dX5_readSet_42 : decode cX5_readSet 42 = .ok (.aload_n 0, 1) := dc_42 aX5_readSet_42
theorem dX5_readSet_43 : decode cX5_readSet 43 = .ok (.aload_n 1, 1) := dc_43 aX5_readSet_43
theorem dX5_readSet_44 : decode cX5_readSet 44 = .ok (.bipush 7, 2) := dc_16 (a0 := 7) aX5_readSet_44 (by decide)
theorem dX5_readSet_46 : decode cX5_readSet 46 = .ok (.iload_n 2, 1) := dc_28 aX5_readSet_46
theorem dX5_readSet_47 : decode cX5_readSet 47 = .ok (.imul, 1) := dc_104 aX5_readSet_47
theorem dX5_readSet_48 : decode cX5_readSet 48 = .ok (.iload_n 3, 1) := dc_29 aX5_readSet_48
theorem dX5_readSet_49 : decode cX5_readSet 49 = .ok (.iadd, 1) := dc_96 aX5_readSet_49
theorem dX5_readSet_50 : decode cX5_readSet 50 = .ok (.invokevirtual 102, 3) := dc_182 (a0 := 0) (b0 := 102) aX5_readSet_50
theorem dX5_readSet_53 : decode cX5_readSet 53 = .ok (.ifCond .eq 14, 3) := dc_153 (a0 := 0) (b0 := 14) aX5_readSet_53 (by decide)
theorem dX5_readSet_56 : decode cX5_readSet 56 = .ok (.aload_n 1, 1) := dc_43 aX5_readSet_56
theorem dX5_readSet_57 : decode cX5_readSet 57 = .ok (.invokevirtual 106, 3) := dc_182 (a0 := 0) (b0 := 106) aX5_readSet_57
theorem dX5_readSet_60 : decode cX5_readSet 60 = .ok (.ifCond .eq 7, 3) := dc_153 (a0 := 0) (b0 := 7) aX5_readSet_60 (by decide)
theorem dX5_readSet_63 : decode cX5_readSet 63 = .ok (.iconst 1, 1) := dc_4 aX5_readSet_63
theorem dX5_readSet_64 : decode cX5_readSet 64 = .ok (.goto 4, 3) := dc_167 (a0 := 0) (b0 := 4) aX5_readSet_64 (by decide)
theorem dX5_readSet_67 : decode cX5_readSet 67 = .ok (.iconst 0, 1) := dc_3 aX5_readSet_67
theorem dX5_readSet_68 : decode cX5_readSet 68 = .ok (.ireturn, 1) := dc_172 aX5_readSet_68
set_option maxRecDepth 20000 in
theorem ggX5_readTable_X9_takeWord : GoodIn wsX5_readTable wsX9_takeWord := goodIn_k _ [[12, 0, 0, 0], [11, 4, 0, 0, 0, 0, 0, 0, 0, 0, 0, 0, 0, 0, 0, 0, 0, 0, 0, 0, 0, 0, 0, 0, 0, 0, 0, 0, 0, 0, 0, 0, 0, 0, 0, 0, 0, 0, 0, 0, 0, 0, 0, 0, 0, 0, 0, 0, 0, 0, 0, 0, 0, 0, 0, 0, 0, 0, 0, 0, 0, 0, 0, 0, 0, 0, 0, 0, 0, 0, 0, 0, 0, 0, 0, 0, 17, 0, 0, 0, 0, 0, 0, 0, 0, 0]] (by rfl) (by decide +kernel)
set_option maxRecDepth 20000 in
theorem gX5_readTable_X9_takeWord : GoodIn wsX5_readTable (wsV RX5 110 RX9 yX9_takeWord wsX9_takeWord) := goodIn_app (goodIn_of _ (by decide +kernel)) ggX5_readTable_X9_takeWord
set_option maxRecDepth 20000 in
theorem ggX5_readTable_X9_takeNumber : GoodIn wsX5_readTable wsX9_takeNumber := goodIn_k _ [[94, 0, 0, 0], [11, 86], [17, 0, 0, 61, 17], [70, 0, 0, 0, 0, 0, 0, 0, 0, 0, 0], [20, 61, 0, 0, 0, 0, 0, 0, 0, 0, 17, 0, 0, 0, 0, 0, 0, 0, 0, 0]] (by rfl) (by decide +kernel)
set_option maxRecDepth 20000 in
theorem gX5_readTable_X9_takeNumber : GoodIn wsX5_readTable (wsV RX5 90 RX9 yX9_takeNumber wsX9_takeNumber) := goodIn_app (goodIn_of _ (by decide +kernel)) ggX5_readTable_X9_takeNumber
set_option maxRecDepth 20000 in
theorem ggX5_readTable_X9_isWord : GoodIn wsX5_readTable wsX9_isWord := goodIn_k _ [[16, 0, 0, 0, 0, 0, 0, 0, 0, 0, 0, 0, 0, 0, 0, 0, 0, 0, 0, 0, 0, 0, 0, 0, 0, 0, 0, 0, 0, 0, 0, 0, 0, 0, 0, 0, 0, 0, 0, 0, 0, 0, 0, 0, 0, 0, 0, 0, 0, 0, 0, 0, 0, 0, 38, 0, 0, 0, 0, 0, 0, 0, 0, 0]] (by rfl) (by decide +kernel)
set_option maxRecDepth 20000 in
theorem gX5_readTable_X9_isWord : GoodIn wsX5_readTable (wsV RX5 65 RX9 yX9_isWord wsX9_isWord) := goodIn_app (goodIn_of _ (by decide +kernel)) ggX5_readTable_X9_isWord
set_option maxRecDepth 20000 in
theorem ggX5_readTable_X9_step : GoodIn wsX5_readTable wsX9_step := goodIn_k _ [[79], [18, 61], [20], [19], [17, 63, 0, 0], [11, 72, 0, 0, 0, 0, 0, 0, 17, 0, 0, 0, 0, 0, 0, 0, 0, 0]] (by rfl) (by decide +kernel)
set_option maxRecDepth 20000 in
theorem gX5_readTable_X9_step : GoodIn wsX5_readTable (wsV RX5 87 RX9 yX9_step wsX9_step) := goodIn_app (goodIn_of _ (by decide +kernel)) ggX5_readTable_X9_step
noncomputable def sX5_readTable_147 : List Nat := 172 :: []
noncomputable def sX5_readTable_146 : List Nat := 4 :: sX5_readTable_147
noncomputable def sX5_readTable_145 : List Nat := 79 :: sX5_readTable_146
noncomputable def sX5_readTable_142 : List Nat := 180 :: 0 :: 94 :: sX5_readTable_145
noncomputable def sX5_readTable_141 : List Nat := 43 :: sX5_readTable_142
noncomputable def sX5_readTable_140 : List Nat := 28 :: sX5_readTable_141
noncomputable def sX5_readTable_137 : List Nat := 180 :: 0 :: 21 :: sX5_readTable_140
noncomputable def sX5_readTable_136 : List Nat := 42 :: sX5_readTable_137
noncomputable def sX5_readTable_135 : List Nat := 172 :: sX5_readTable_136
noncomputable def sX5_readTable_134 : List Nat := 3 :: sX5_readTable_135
noncomputable def sX5_readTable_131 : List Nat := 154 :: 0 :: 5 :: sX5_readTable_134
noncomputable def sX5_readTable_128 : List Nat := 182 :: 0 :: 90 :: sX5_readTable_131
noncomputable def sX5_readTable_126 : List Nat := 18 :: 118 :: sX5_readTable_128
noncomputable def sX5_readTable_125 : List Nat := 5 :: sX5_readTable_126
noncomputable def sX5_readTable_124 : List Nat := 43 :: sX5_readTable_125
noncomputable def sX5_readTable_121 : List Nat := 153 :: 0 :: 13 :: sX5_readTable_124
noncomputable def sX5_readTable_118 : List Nat := 182 :: 0 :: 110 :: sX5_readTable_121
noncomputable def sX5_readTable_116 : List Nat := 18 :: 116 :: sX5_readTable_118
noncomputable def sX5_readTable_115 : List Nat := 43 :: sX5_readTable_116
noncomputable def sX5_readTable_114 : List Nat := 79 :: sX5_readTable_115
noncomputable def sX5_readTable_111 : List Nat := 180 :: 0 :: 94 :: sX5_readTable_114
noncomputable def sX5_readTable_110 : List Nat := 43 :: sX5_readTable_111
noncomputable def sX5_readTable_109 : List Nat := 28 :: sX5_readTable_110
noncomputable def sX5_readTable_106 : List Nat := 180 :: 0 :: 18 :: sX5_readTable_109
noncomputable def sX5_readTable_105 : List Nat := 42 :: sX5_readTable_106
noncomputable def sX5_readTable_104 : List Nat := 172 :: sX5_readTable_105
noncomputable def sX5_readTable_103 : List Nat := 3 :: sX5_readTable_104
noncomputable def sX5_readTable_100 : List Nat := 154 :: 0 :: 5 :: sX5_readTable_103
noncomputable def sX5_readTable_97 : List Nat := 182 :: 0 :: 90 :: sX5_readTable_100
noncomputable def sX5_readTable_94 : List Nat := 17 :: 42 :: 48 :: sX5_readTable_97
noncomputable def sX5_readTable_93 : List Nat := 3 :: sX5_readTable_94
noncomputable def sX5_readTable_92 : List Nat := 43 :: sX5_readTable_93
noncomputable def sX5_readTable_89 : List Nat := 182 :: 0 :: 87 :: sX5_readTable_92
noncomputable def sX5_readTable_88 : List Nat := 43 :: sX5_readTable_89
noncomputable def sX5_readTable_87 : List Nat := 172 :: sX5_readTable_88
noncomputable def sX5_readTable_86 : List Nat := 4 :: sX5_readTable_87
noncomputable def sX5_readTable_83 : List Nat := 154 :: 0 :: 5 :: sX5_readTable_86
noncomputable def sX5_readTable_80 : List Nat := 182 :: 0 :: 65 :: sX5_readTable_83
noncomputable def sX5_readTable_78 : List Nat := 18 :: 115 :: sX5_readTable_80
noncomputable def sX5_readTable_77 : List Nat := 43 :: sX5_readTable_78
noncomputable def sX5_readTable_76 : List Nat := 79 :: sX5_readTable_77
noncomputable def sX5_readTable_75 : List Nat := 4 :: sX5_readTable_76
noncomputable def sX5_readTable_74 : List Nat := 28 :: sX5_readTable_75
noncomputable def sX5_readTable_71 : List Nat := 180 :: 0 :: 21 :: sX5_readTable_74
noncomputable def sX5_readTable_70 : List Nat := 42 :: sX5_readTable_71
noncomputable def sX5_readTable_69 : List Nat := 79 :: sX5_readTable_70
noncomputable def sX5_readTable_68 : List Nat := 3 :: sX5_readTable_69
noncomputable def sX5_readTable_67 : List Nat := 28 :: sX5_readTable_68
noncomputable def sX5_readTable_64 : List Nat := 180 :: 0 :: 18 :: sX5_readTable_67
noncomputable def sX5_readTable_63 : List Nat := 42 :: sX5_readTable_64
noncomputable def sX5_readTable_62 : List Nat := 79 :: sX5_readTable_63
noncomputable def sX5_readTable_59 : List Nat := 180 :: 0 :: 94 :: sX5_readTable_62
noncomputable def sX5_readTable_58 : List Nat := 43 :: sX5_readTable_59
noncomputable def sX5_readTable_57 : List Nat := 28 :: sX5_readTable_58
noncomputable def sX5_readTable_54 : List Nat := 180 :: 0 :: 15 :: sX5_readTable_57
noncomputable def sX5_readTable_53 : List Nat := 42 :: sX5_readTable_54
noncomputable def sX5_readTable_52 : List Nat := 172 :: sX5_readTable_53
noncomputable def sX5_readTable_51 : List Nat := 3 :: sX5_readTable_52
noncomputable def sX5_readTable_48 : List Nat := 154 :: 0 :: 5 :: sX5_readTable_51
noncomputable def sX5_readTable_45 : List Nat := 182 :: 0 :: 90 :: sX5_readTable_48
noncomputable def sX5_readTable_43 : List Nat := 18 :: 114 :: sX5_readTable_45
noncomputable def sX5_readTable_42 : List Nat := 3 :: sX5_readTable_43
noncomputable def sX5_readTable_41 : List Nat := 43 :: sX5_readTable_42
noncomputable def sX5_readTable_38 : List Nat := 153 :: 0 :: 13 :: sX5_readTable_41
noncomputable def sX5_readTable_35 : List Nat := 182 :: 0 :: 110 :: sX5_readTable_38
noncomputable def sX5_readTable_33 : List Nat := 18 :: 113 :: sX5_readTable_35
noncomputable def sX5_readTable_32 : List Nat := 43 :: sX5_readTable_33
noncomputable def sX5_readTable_31 : List Nat := 79 :: sX5_readTable_32
noncomputable def sX5_readTable_28 : List Nat := 180 :: 0 :: 94 :: sX5_readTable_31
noncomputable def sX5_readTable_27 : List Nat := 43 :: sX5_readTable_28
noncomputable def sX5_readTable_26 : List Nat := 28 :: sX5_readTable_27
noncomputable def sX5_readTable_23 : List Nat := 180 :: 0 :: 11 :: sX5_readTable_26
noncomputable def sX5_readTable_22 : List Nat := 42 :: sX5_readTable_23
noncomputable def sX5_readTable_21 : List Nat := 172 :: sX5_readTable_22
noncomputable def sX5_readTable_20 : List Nat := 3 :: sX5_readTable_21
noncomputable def sX5_readTable_17 : List Nat := 154 :: 0 :: 5 :: sX5_readTable_20
noncomputable def sX5_readTable_14 : List Nat := 182 :: 0 :: 90 :: sX5_readTable_17
noncomputable def sX5_readTable_11 : List Nat := 17 :: 84 :: 95 :: sX5_readTable_14
noncomputable def sX5_readTable_10 : List Nat := 3 :: sX5_readTable_11
noncomputable def sX5_readTable_9 : List Nat := 43 :: sX5_readTable_10
noncomputable def sX5_readTable_6 : List Nat := 153 :: 0 :: 14 :: sX5_readTable_9
noncomputable def sX5_readTable_3 : List Nat := 182 :: 0 :: 110 :: sX5_readTable_6
noncomputable def sX5_readTable_1 : List Nat := 18 :: 109 :: sX5_readTable_3
noncomputable def sX5_readTable_0 : List Nat := 43 :: sX5_readTable_1
theorem aX5_readTable_0 : dc_at cX5_readTable 0 sX5_readTable_0 := dc_base (by decide +kernel)
theorem aX5_readTable_1 : dc_at cX5_readTable 1 sX5_readTable_1 := dc_n1 aX5_readTable_0
theorem aX5_readTable_3 : dc_at cX5_readTable 3 sX5_readTable_3 := dc_n2 aX5_readTable_1
theorem aX5_readTable_6 : dc_at cX5_readTable 6 sX5_readTable_6 := dc_n3 aX5_readTable_3
theorem aX5_readTable_9 : dc_at cX5_readTable 9 sX5_readTable_9 := dc_n3 aX5_readTable_6
theorem aX5_readTable_10 : dc_at cX5_readTable 10 sX5_readTable_10 := dc_n1 aX5_readTable_9
theorem aX5_readTable_11 : dc_at cX5_readTable 11 sX5_readTable_11 := dc_n1 aX5_readTable_10
theorem aX5_readTable_14 : dc_at cX5_readTable 14 sX5_readTable_14 := dc_n3 aX5_readTable_11
theorem aX5_readTable_17 : dc_at cX5_readTable 17 sX5_readTable_17 := dc_n3 aX5_readTable_14
theorem aX5_readTable_20 : dc_at cX5_readTable 20 sX5_readTable_20 := dc_n3 aX5_readTable_17
theorem aX5_readTable_21 : dc_at cX5_readTable 21 sX5_readTable_21 := dc_n1 aX5_readTable_20
theorem aX5_readTable_22 : dc_at cX5_readTable 22 sX5_readTable_22 := dc_n1 aX5_readTable_21
theorem aX5_readTable_23 : dc_at cX5_readTable 23 sX5_readTable_23 := dc_n1 aX5_readTable_22
theorem aX5_readTable_26 : dc_at cX5_readTable 26 sX5_readTable_26 := dc_n3 aX5_readTable_23
theorem aX5_readTable_27 : dc_at cX5_readTable 27 sX5_readTable_27 := dc_n1 aX5_readTable_26
theorem aX5_readTable_28 : dc_at cX5_readTable 28 sX5_readTable_28 := dc_n1 aX5_readTable_27
theorem aX5_readTable_31 : dc_at cX5_readTable 31 sX5_readTable_31 := dc_n3 aX5_readTable_28
theorem aX5_readTable_32 : dc_at cX5_readTable 32 sX5_readTable_32 := dc_n1 aX5_readTable_31
theorem aX5_readTable_33 : dc_at cX5_readTable 33 sX5_readTable_33 := dc_n1 aX5_readTable_32
theorem aX5_readTable_35 : dc_at cX5_readTable 35 sX5_readTable_35 := dc_n2 aX5_readTable_33
theorem aX5_readTable_38 : dc_at cX5_readTable 38 sX5_readTable_38 := dc_n3 aX5_readTable_35
theorem aX5_readTable_41 : dc_at cX5_readTable 41 sX5_readTable_41 := dc_n3 aX5_readTable_38
theorem aX5_readTable_42 : dc_at cX5_readTable 42 sX5_readTable_42 := dc_n1 aX5_readTable_41
theorem aX5_readTable_43 : dc_at cX5_readTable 43 sX5_readTable_43 := dc_n1 aX5_readTable_42
theorem aX5_readTable_45 : dc_at cX5_readTable 45 sX5_readTable_45 := dc_n2 aX5_readTable_43
theorem aX5_readTable_48 : dc_at cX5_readTable 48 sX5_readTable_48 := dc_n3 aX5_readTable_45
theorem aX5_readTable_51 : dc_at cX5_readTable 51 sX5_readTable_51 := dc_n3 aX5_readTable_48
theorem aX5_readTable_52 : dc_at cX5_readTable 52 sX5_readTable_52 := dc_n1 aX5_readTable_51
theorem aX5_readTable_53 : dc_at cX5_readTable 53 sX5_readTable_53 := dc_n1 aX5_readTable_52
theorem aX5_readTable_54 : dc_at cX5_readTable 54 sX5_readTable_54 := dc_n1 aX5_readTable_53
theorem aX5_readTable_57 : dc_at cX5_readTable 57 sX5_readTable_57 := dc_n3 aX5_readTable_54
theorem aX5_readTable_58 : dc_at cX5_readTable 58 sX5_readTable_58 := dc_n1 aX5_readTable_57
theorem aX5_readTable_59 : dc_at cX5_readTable 59 sX5_readTable_59 := dc_n1 aX5_readTable_58
theorem aX5_readTable_62 : dc_at cX5_readTable 62 sX5_readTable_62 := dc_n3 aX5_readTable_59
theorem aX5_readTable_63 : dc_at cX5_readTable 63 sX5_readTable_63 := dc_n1 aX5_readTable_62
theorem aX5_readTable_64 : dc_at cX5_readTable 64 sX5_readTable_64 := dc_n1 aX5_readTable_63
theorem aX5_readTable_67 : dc_at cX5_readTable 67 sX5_readTable_67 := dc_n3 aX5_readTable_64
theorem aX5_readTable_68 : dc_at cX5_readTable 68 sX5_readTable_68 := dc_n1 aX5_readTable_67
theorem aX5_readTable_69 : dc_at cX5_readTable 69 sX5_readTable_69 := dc_n1 aX5_readTable_68
theorem aX5_readTable_70 : dc_at cX5_readTable 70 sX5_readTable_70 := dc_n1 aX5_readTable_69
theorem aX5_readTable_71 : dc_at cX5_readTable 71 sX5_readTable_71 := dc_n1 aX5_readTable_70
theorem aX5_readTable_74 : dc_at cX5_readTable 74 sX5_readTable_74 := dc_n3 aX5_readTable_71
theorem aX5_readTable_75 : dc_at cX5_readTable 75 sX5_readTable_75 := dc_n1 aX5_readTable_74
theorem aX5_readTable_76 : dc_at cX5_readTable 76 sX5_readTable_76 := dc_n1 aX5_readTable_75
theorem aX5_readTable_77 : dc_at cX5_readTable 77 sX5_readTable_77 := dc_n1 aX5_readTable_76
theorem aX5_readTable_78 : dc_at cX5_readTable 78 sX5_readTable_78 := dc_n1 aX5_readTable_77
theorem aX5_readTable_80 : dc_at cX5_readTable 80 sX5_readTable_80 := dc_n2 aX5_readTable_78
theorem aX5_readTable_83 : dc_at cX5_readTable 83 sX5_readTable_83 := dc_n3 aX5_readTable_80
theorem aX5_readTable_86 : dc_at cX5_readTable 86 sX5_readTable_86 := dc_n3 aX5_readTable_83
theorem aX5_readTable_87 : dc_at cX5_readTable 87 sX5_readTable_87 := dc_n1 aX5_readTable_86
theorem aX5_readTable_88 : dc_at cX5_readTable 88 sX5_readTable_88 := dc_n1 aX5_readTable_87
theorem aX5_readTable_89 : dc_at cX5_readTable 89 sX5_readTable_89 := dc_n1 aX5_readTable_88
theorem aX5_readTable_92 : dc_at cX5_readTable 92 sX5_readTable_92 := dc_n3 aX5_readTable_89
theorem aX5_readTable_93 : dc_at cX5_readTable 93 sX5_readTable_93 := dc_n1 aX5_readTable_92
theorem aX5_readTable_94 : dc_at cX5_readTable 94 sX5_readTable_94 := dc_n1 aX5_readTable_93
theorem aX5_readTable_97 : dc_at cX5_readTable 97 sX5_readTable_97 := dc_n3 aX5_readTable_94
theorem aX5_readTable_100 : dc_at cX5_readTable 100 sX5_readTable_100 := dc_n3 aX5_readTable_97
theorem aX5_readTable_103 : dc_at cX5_readTable 103 sX5_readTable_103 := dc_n3 aX5_readTable_100
theorem aX5_readTable_104 : dc_at cX5_readTable 104 sX5_readTable_104 := dc_n1 aX5_readTable_103
theorem aX5_readTable_105 : dc_at cX5_readTable 105 sX5_readTable_105 := dc_n1 aX5_readTable_104
theorem aX5_readTable_106 : dc_at cX5_readTable 106 sX5_readTable_106 := dc_n1 aX5_readTable_105
theorem aX5_readTable_109 : dc_at cX5_readTable 109 sX5_readTable_109 := dc_n3 aX5_readTable_106
theorem aX5_readTable_110 : dc_at cX5_readTable 110 sX5_readTable_110 := dc_n1 aX5_readTable_109
theorem aX5_readTable_111 : dc_at cX5_readTable 111 sX5_readTable_111 := dc_n1 aX5_readTable_110
theorem aX5_readTable_114 : dc_at cX5_readTable 114 sX5_readTable_114 := dc_n3 aX5_readTable_111
theorem aX5_readTable_115 : dc_at cX5_readTable 115 sX5_readTable_115 := dc_n1 aX5_readTable_114
theorem aX5_readTable_116 : dc_at cX5_readTable 116 sX5_readTable_116 := dc_n1 aX5_readTable_115
theorem aX5_readTable_118 : dc_at cX5_readTable 118 sX5_readTable_118 := dc_n2 aX5_readTable_116
theorem aX5_readTable_121 : dc_at cX5_readTable 121 sX5_readTable_121 := dc_n3 aX5_readTable_118
theorem aX5_readTable_124 : dc_at cX5_readTable 124 sX5_readTable_124 := dc_n3 aX5_readTable_121
theorem aX5_readTable_125 : dc_at cX5_readTable 125 sX5_readTable_125 := dc_n1 aX5_readTable_124
theorem aX5_readTable_126 : dc_at cX5_readTable 126 sX5_readTable_126 := dc_n1 aX5_readTable_125
theorem aX5_readTable_128 : dc_at cX5_readTable 128 sX5_readTable_128 := dc_n2 aX5_readTable_126
theorem aX5_readTable_131 : dc_at cX5_readTable 131 sX5_readTable_131 := dc_n3 aX5_readTable_128
theorem aX5_readTable_134 : dc_at cX5_readTable 134 sX5_readTable_134 := dc_n3 aX5_readTable_131
theorem aX5_readTable_135 : dc_at cX5_readTable 135 sX5_readTable_135 := dc_n1 aX5_readTable_134
theorem aX5_readTable_136 : dc_at cX5_readTable 136 sX5_readTable_136 := dc_n1 aX5_readTable_135
theorem aX5_readTable_137 : dc_at cX5_readTable 137 sX5_readTable_137 := dc_n1 aX5_readTable_136
theorem aX5_readTable_140 : dc_at cX5_readTable 140 sX5_readTable_140 := dc_n3 aX5_readTable_137
theorem aX5_readTable_141 : dc_at cX5_readTable 141 sX5_readTable_141 := dc_n1 aX5_readTable_140
theorem aX5_readTable_142 : dc_at cX5_readTable 142 sX5_readTable_142 := dc_n1 aX5_readTable_141
theorem aX5_readTable_145 : dc_at cX5_readTable 145 sX5_readTable_145 := dc_n3 aX5_readTable_142
theorem aX5_readTable_146 : dc_at cX5_readTable 146 sX5_readTable_146 := dc_n1 aX5_readTable_145
theorem aX5_readTable_147 : dc_at cX5_readTable 147 sX5_readTable_147 := dc_n1 aX5_readTable_146
theorem dX5_readTable_0 : decode cX5_readTable 0 = .ok (.aload_n 1, 1) := dc_43 aX5_readTable_0
theorem dX5_readTable_1 : decode cX5_readTable 1 = .ok (.ldc 109, 2) := dc_18 (a0 := 109) aX5_readTable_1
theorem dX5_readTable_3 : decode cX5_readTable 3 = .ok (.invokevirtual 110, 3) := dc_182 (a0 := 0) (b0 := 110) aX5_readTable_3
theorem dX5_readTable_6 : decode cX5_readTable 6 = .ok (.ifCond .eq 14, 3) := dc_153 (a0 := 0) (b0 := 14) aX5_readTable_6 (by decide)
theorem dX5_readTable_9 : decode cX5_readTable 9 = .ok (.aload_n 1, 1) := dc_43 aX5_readTable_9
theorem dX5_readTable_10 : decode cX5_readTable 10 = .ok (.iconst 0, 1) := dc_3 aX5_readTable_10
theorem dX5_readTable_11 : decode cX5_readTable 11 = .ok (.sipush 21599, 3) := dc_17 (a0 := 84) (b0 := 95) aX5_readTable_11 (by decide)
theorem dX5_readTable_14 : decode cX5_readTable 14 = .ok (.invokevirtual 90, 3) := dc_182 (a0 := 0) (b0 := 90) aX5_readTable_14
theorem dX5_readTable_17 : decode cX5_readTable 17 = .ok (.ifCond .ne 5, 3) := dc_154 (a0 := 0) (b0 := 5) aX5_readTable_17 (by decide)
theorem dX5_readTable_20 : decode cX5_readTable 20 = .ok (.iconst 0, 1) := dc_3 aX5_readTable_20
theorem dX5_readTable_21 : decode cX5_readTable 21 = .ok (.ireturn, 1) := dc_172 aX5_readTable_21
theorem dX5_readTable_22 : decode cX5_readTable 22 = .ok (.aload_n 0, 1) := dc_42 aX5_readTable_22
theorem dX5_readTable_23 : decode cX5_readTable 23 = .ok (.getfield 11, 3) := dc_180 (a0 := 0) (b0 := 11) aX5_readTable_23
theorem dX5_readTable_26 : decode cX5_readTable 26 = .ok (.iload_n 2, 1) := dc_28 aX5_readTable_26
theorem dX5_readTable_27 : decode cX5_readTable 27 = .ok (.aload_n 1, 1) := dc_43 aX5_readTable_27
theorem dX5_readTable_28 : decode cX5_readTable 28 = .ok (.getfield 94, 3) := dc_180 (a0 := 0) (b0 := 94) aX5_readTable_28
theorem dX5_readTable_31 : decode cX5_readTable 31 = .ok (.iastore, 1) := dc_79 aX5_readTable_31
theorem dX5_readTable_32 : decode cX5_readTable 32 = .ok (.aload_n 1, 1) := dc_43 aX5_readTable_32
theorem dX5_readTable_33 : decode cX5_readTable 33 = .ok (.ldc 113, 2) := dc_18 (a0 := 113) aX5_readTable_33
theorem dX5_readTable_35 : decode cX5_readTable 35 = .ok (.invokevirtual 110, 3) := dc_182 (a0 := 0) (b0 := 110) aX5_readTable_35
theorem dX5_readTable_38 : decode cX5_readTable 38 = .ok (.ifCond .eq 13, 3) := dc_153 (a0 := 0) (b0 := 13) aX5_readTable_38 (by decide)
theorem dX5_readTable_41 : decode cX5_readTable 41 = .ok (.aload_n 1, 1) := dc_43 aX5_readTable_41
theorem dX5_readTable_42 : decode cX5_readTable 42 = .ok (.iconst 0, 1) := dc_3 aX5_readTable_42
theorem dX5_readTable_43 : decode cX5_readTable 43 = .ok (.ldc 114, 2) := dc_18 (a0 := 114) aX5_readTable_43
theorem dX5_readTable_45 : decode cX5_readTable 45 = .ok (.invokevirtual 90, 3) := dc_182 (a0 := 0) (b0 := 90) aX5_readTable_45
theorem dX5_readTable_48 : decode cX5_readTable 48 = .ok (.ifCond .ne 5, 3) := dc_154 (a0 := 0) (b0 := 5) aX5_readTable_48 (by decide)
theorem dX5_readTable_51 : decode cX5_readTable 51 = .ok (.iconst 0, 1) := dc_3 aX5_readTable_51
theorem dX5_readTable_52 : decode cX5_readTable 52 = .ok (.ireturn, 1) := dc_172 aX5_readTable_52
theorem dX5_readTable_53 : decode cX5_readTable 53 = .ok (.aload_n 0, 1) := dc_42 aX5_readTable_53
theorem dX5_readTable_54 : decode cX5_readTable 54 = .ok (.getfield 15, 3) := dc_180 (a0 := 0) (b0 := 15) aX5_readTable_54
theorem dX5_readTable_57 : decode cX5_readTable 57 = .ok (.iload_n 2, 1) := dc_28 aX5_readTable_57
theorem dX5_readTable_58 : decode cX5_readTable 58 = .ok (.aload_n 1, 1) := dc_43 aX5_readTable_58
theorem dX5_readTable_59 : decode cX5_readTable 59 = .ok (.getfield 94, 3) := dc_180 (a0 := 0) (b0 := 94) aX5_readTable_59
theorem dX5_readTable_62 : decode cX5_readTable 62 = .ok (.iastore, 1) := dc_79 aX5_readTable_62
theorem dX5_readTable_63 : decode cX5_readTable 63 = .ok (.aload_n 0, 1) := dc_42 aX5_readTable_63
theorem dX5_readTable_64 : decode cX5_readTable 64 = .ok (.getfield 18, 3) := dc_180 (a0 := 0) (b0 := 18) aX5_readTable_64
theorem dX5_readTable_67 : decode cX5_readTable 67 = .ok (.iload_n 2, 1) := dc_28 aX5_readTable_67
theorem dX5_readTable_68 : decode cX5_readTable 68 = .ok (.iconst 0, 1) := dc_3 aX5_readTable_68
theorem dX5_readTable_69 : decode cX5_readTable 69 = .ok (.iastore, 1) := dc_79 aX5_readTable_69
theorem dX5_readTable_70 : decode cX5_readTable 70 = .ok (.aload_n 0, 1) := dc_42 aX5_readTable_70
theorem dX5_readTable_71 : decode cX5_readTable 71 = .ok (.getfield 21, 3) := dc_180 (a0 := 0) (b0 := 21) aX5_readTable_71
theorem dX5_readTable_74 : decode cX5_readTable 74 = .ok (.iload_n 2, 1) := dc_28 aX5_readTable_74
theorem dX5_readTable_75 : decode cX5_readTable 75 = .ok (.iconst 1, 1) := dc_4 aX5_readTable_75
theorem dX5_readTable_76 : decode cX5_readTable 76 = .ok (.iastore, 1) := dc_79 aX5_readTable_76
theorem dX5_readTable_77 : decode cX5_readTable 77 = .ok (.aload_n 1, 1) := dc_43 aX5_readTable_77
theorem dX5_readTable_78 : decode cX5_readTable 78 = .ok (.ldc 115, 2) := dc_18 (a0 := 115) aX5_readTable_78
theorem dX5_readTable_80 : decode cX5_readTable 80 = .ok (.invokevirtual 65, 3) := dc_182 (a0 := 0) (b0 := 65) aX5_readTable_80
theorem dX5_readTable_83 : decode cX5_readTable 83 = .ok (.ifCond .ne 5, 3) := dc_154 (a0 := 0) (b0 := 5) aX5_readTable_83 (by decide)
theorem dX5_readTable_86 : decode cX5_readTable 86 = .ok (.iconst 1, 1) := dc_4 aX5_readTable_86
theorem dX5_readTable_87 : decode cX5_readTable 87 = .ok (.ireturn, 1) := dc_172 aX5_readTable_87
theorem dX5_readTable_88 : decode cX5_readTable 88 = .ok (.aload_n 1, 1) := dc_43 aX5_readTable_88
theorem dX5_readTable_89 : decode cX5_readTable 89 = .ok (.invokevirtual 87, 3) := dc_182 (a0 := 0) (b0 := 87) aX5_readTable_89
theorem dX5_readTable_92 : decode cX5_readTable 92 = .ok (.aload_n 1, 1) := dc_43 aX5_readTable_92
theorem dX5_readTable_93 : decode cX5_readTable 93 = .ok (.iconst 0, 1) := dc_3 aX5_readTable_93
theorem dX5_readTable_94 : decode cX5_readTable 94 = .ok (.sipush 10800, 3) := dc_17 (a0 := 42) (b0 := 48) aX5_readTable_94 (by decide)
theorem dX5_readTable_97 : decode cX5_readTable 97 = .ok (.invokevirtual 90, 3) := dc_182 (a0 := 0) (b0 := 90) aX5_readTable_97
theorem dX5_readTable_100 : decode cX5_readTable 100 = .ok (.ifCond .ne 5, 3) := dc_154 (a0 := 0) (b0 := 5) aX5_readTable_100 (by decide)
theorem dX5_readTable_103 : decode cX5_readTable 103 = .ok (.iconst 0, 1) := dc_3 aX5_readTable_103
theorem dX5_readTable_104 : decode cX5_readTable 104 = .ok (.ireturn, 1) := dc_172 aX5_readTable_104
theorem dX5_readTable_105 : decode cX5_readTable 105 = .ok (.aload_n 0, 1) := dc_42 aX5_readTable_105
theorem dX5_readTable_106 : decode cX5_readTable 106 = .ok (.getfield 18, 3) := dc_180 (a0 := 0) (b0 := 18) aX5_readTable_106
theorem dX5_readTable_109 : decode cX5_readTable 109 = .ok (.iload_n 2, 1) := dc_28 aX5_readTable_109
theorem dX5_readTable_110 : decode cX5_readTable 110 = .ok (.aload_n 1, 1) := dc_43 aX5_readTable_110
theorem dX5_readTable_111 : decode cX5_readTable 111 = .ok (.getfield 94, 3) := dc_180 (a0 := 0) (b0 := 94) aX5_readTable_111
theorem dX5_readTable_114 : decode cX5_readTable 114 = .ok (.iastore, 1) := dc_79 aX5_readTable_114
theorem dX5_readTable_115 : decode cX5_readTable 115 = .ok (.aload_n 1, 1) := dc_43 aX5_readTable_115
theorem dX5_readTable_116 : decode cX5_readTable 116 = .ok (.ldc 116, 2) := dc_18 (a0 := 116) aX5_readTable_116
theorem dX5_readTable_118 : decode cX5_readTable 118 = .ok (.invokevirtual 110, 3) := dc_182 (a0 := 0) (b0 := 110) aX5_readTable_118
theorem dX5_readTable_121 : decode cX5_readTable 121 = .ok (.ifCond .eq 13, 3) := dc_153 (a0 := 0) (b0 := 13) aX5_readTable_121 (by decide)
theorem dX5_readTable_124 : decode cX5_readTable 124 = .ok (.aload_n 1, 1) := dc_43 aX5_readTable_124
theorem dX5_readTable_125 : decode cX5_readTable 125 = .ok (.iconst 2, 1) := dc_5 aX5_readTable_125
theorem dX5_readTable_126 : decode cX5_readTable 126 = .ok (.ldc 118, 2) := dc_18 (a0 := 118) aX5_readTable_126
theorem dX5_readTable_128 : decode cX5_readTable 128 = .ok (.invokevirtual 90, 3) := dc_182 (a0 := 0) (b0 := 90) aX5_readTable_128
theorem dX5_readTable_131 : decode cX5_readTable 131 = .ok (.ifCond .ne 5, 3) := dc_154 (a0 := 0) (b0 := 5) aX5_readTable_131 (by decide)
theorem dX5_readTable_134 : decode cX5_readTable 134 = .ok (.iconst 0, 1) := dc_3 aX5_readTable_134
theorem dX5_readTable_135 : decode cX5_readTable 135 = .ok (.ireturn, 1) := dc_172 aX5_readTable_135
theorem dX5_readTable_136 : decode cX5_readTable 136 = .ok (.aload_n 0, 1) := dc_42 aX5_readTable_136
theorem dX5_readTable_137 : decode cX5_readTable 137 = .ok (.getfield 21, 3) := dc_180 (a0 := 0) (b0 := 21) aX5_readTable_137
theorem dX5_readTable_140 : decode cX5_readTable 140 = .ok (.iload_n 2, 1) := dc_28 aX5_readTable_140
theorem dX5_readTable_141 : decode cX5_readTable 141 = .ok (.aload_n 1, 1) := dc_43 aX5_readTable_141
theorem dX5_readTable_142 : decode cX5_readTable 142 = .ok (.getfield 94, 3) := dc_180 (a0 := 0) (b0 := 94) aX5_readTable_142
theorem dX5_readTable_145 : decode cX5_readTable 145 = .ok (.iastore, 1) := dc_79 aX5_readTable_145
theorem dX5_readTable_146 : decode cX5_readTable 146 = .ok (.iconst 1, 1) := dc_4 aX5_readTable_146
theorem dX5_readTable_147 : decode cX5_readTable 147 = .ok (.ireturn, 1) := dc_172 aX5_readTable_147
set_option maxRecDepth 20000 in
theorem ggX5_placeOn_X5_swingOn : GoodIn wsX5_placeOn wsX5_swingOn := goodIn_k _ [[9, 0, 0, 0, 0, 0, 0, 0, 0, 0, 0, 0, 3, 0, 0, 0, 0, 0]] (by rfl) (by decide +kernel)
set_option maxRecDepth 20000 in
theorem gX5_placeOn_X5_swingOn : GoodIn wsX5_placeOn (wsV RX5 121 RX5 yX5_swingOn wsX5_swingOn) := goodIn_app (goodIn_of _ (by decide +kernel)) ggX5_placeOn_X5_swingOn
set_option maxRecDepth 20000 in
theorem ggX5_placeOn_J9_floorMod_f86c9 : GoodIn wsX5_placeOn wsJ9_floorMod_f86c9 := goodIn_k _ [[23]] (by rfl) (by decide +kernel)
set_option maxRecDepth 20000 in
theorem gX5_placeOn_J9_floorMod_f86c9 : GoodIn wsX5_placeOn (va_wsS RX5 127 yJ9_floorMod_f86c9 wsJ9_floorMod_f86c9) := goodIn_app (goodIn_of _ (by decide +kernel)) ggX5_placeOn_J9_floorMod_f86c9
noncomputable def sX5_placeOn_51 : List Nat := 172 :: []
noncomputable def sX5_placeOn_50 : List Nat := 136 :: sX5_placeOn_51
noncomputable def sX5_placeOn_47 : List Nat := 184 :: 0 :: 127 :: sX5_placeOn_50
noncomputable def sX5_placeOn_44 : List Nat := 20 :: 0 :: 125 :: sX5_placeOn_47
noncomputable def sX5_placeOn_43 : List Nat := 97 :: sX5_placeOn_44
noncomputable def sX5_placeOn_40 : List Nat := 182 :: 0 :: 121 :: sX5_placeOn_43
noncomputable def sX5_placeOn_39 : List Nat := 29 :: sX5_placeOn_40
noncomputable def sX5_placeOn_37 : List Nat := 21 :: 4 :: sX5_placeOn_39
noncomputable def sX5_placeOn_36 : List Nat := 42 :: sX5_placeOn_37
noncomputable def sX5_placeOn_35 : List Nat := 97 :: sX5_placeOn_36
noncomputable def sX5_placeOn_33 : List Nat := 22 :: 5 :: sX5_placeOn_35
noncomputable def sX5_placeOn_32 : List Nat := 133 :: sX5_placeOn_33
noncomputable def sX5_placeOn_31 : List Nat := 46 :: sX5_placeOn_32
noncomputable def sX5_placeOn_29 : List Nat := 21 :: 4 :: sX5_placeOn_31
noncomputable def sX5_placeOn_26 : List Nat := 180 :: 0 :: 11 :: sX5_placeOn_29
noncomputable def sX5_placeOn_25 : List Nat := 42 :: sX5_placeOn_26
noncomputable def sX5_placeOn_23 : List Nat := 55 :: 5 :: sX5_placeOn_25
noncomputable def sX5_placeOn_22 : List Nat := 109 :: sX5_placeOn_23
noncomputable def sX5_placeOn_19 : List Nat := 20 :: 0 :: 119 :: sX5_placeOn_22
noncomputable def sX5_placeOn_18 : List Nat := 105 :: sX5_placeOn_19
noncomputable def sX5_placeOn_17 : List Nat := 133 :: sX5_placeOn_18
noncomputable def sX5_placeOn_16 : List Nat := 29 :: sX5_placeOn_17
noncomputable def sX5_placeOn_15 : List Nat := 133 :: sX5_placeOn_16
noncomputable def sX5_placeOn_14 : List Nat := 46 :: sX5_placeOn_15
noncomputable def sX5_placeOn_12 : List Nat := 21 :: 4 :: sX5_placeOn_14
noncomputable def sX5_placeOn_9 : List Nat := 180 :: 0 :: 15 :: sX5_placeOn_12
noncomputable def sX5_placeOn_8 : List Nat := 42 :: sX5_placeOn_9
noncomputable def sX5_placeOn_6 : List Nat := 54 :: 4 :: sX5_placeOn_8
noncomputable def sX5_placeOn_5 : List Nat := 96 :: sX5_placeOn_6
noncomputable def sX5_placeOn_4 : List Nat := 28 :: sX5_placeOn_5
noncomputable def sX5_placeOn_3 : List Nat := 104 :: sX5_placeOn_4
noncomputable def sX5_placeOn_2 : List Nat := 27 :: sX5_placeOn_3
noncomputable def sX5_placeOn_0 : List Nat := 16 :: 7 :: sX5_placeOn_2
theorem aX5_placeOn_0 : dc_at cX5_placeOn 0 sX5_placeOn_0 := dc_base (by decide +kernel)
theorem aX5_placeOn_2 : dc_at cX5_placeOn 2 sX5_placeOn_2 := dc_n2 aX5_placeOn_0
theorem aX5_placeOn_3 : dc_at cX5_placeOn 3 sX5_placeOn_3 := dc_n1 aX5_placeOn_2
theorem aX5_placeOn_4 : dc_at cX5_placeOn 4 sX5_placeOn_4 := dc_n1 aX5_placeOn_3
theorem aX5_placeOn_5 : dc_at cX5_placeOn 5 sX5_placeOn_5 := dc_n1 aX5_placeOn_4
theorem aX5_placeOn_6 : dc_at cX5_placeOn 6 sX5_placeOn_6 := dc_n1 aX5_placeOn_5
theorem aX5_placeOn_8 : dc_at cX5_placeOn 8 sX5_placeOn_8 := dc_n2 aX5_placeOn_6
theorem aX5_placeOn_9 : dc_at cX5_placeOn 9 sX5_placeOn_9 := dc_n1 aX5_placeOn_8
theorem aX5_placeOn_12 : dc_at cX5_placeOn 12 sX5_placeOn_12 := dc_n3 aX5_placeOn_9
theorem aX5_placeOn_14 : dc_at cX5_placeOn 14 sX5_placeOn_14 := dc_n2 aX5_placeOn_12
theorem aX5_placeOn_15 : dc_at cX5_placeOn 15 sX5_placeOn_15 := dc_n1 aX5_placeOn_14
theorem aX5_placeOn_16 : dc_at cX5_placeOn 16 sX5_placeOn_16 := dc_n1 aX5_placeOn_15
theorem aX5_placeOn_17 : dc_at cX5_placeOn 17 sX5_placeOn_17 := dc_n1 aX5_placeOn_16
theorem aX5_placeOn_18 : dc_at cX5_placeOn 18 sX5_placeOn_18 := dc_n1 aX5_placeOn_17
theorem aX5_placeOn_19 : dc_at cX5_placeOn 19 sX5_placeOn_19 := dc_n1 aX5_placeOn_18
theorem aX5_placeOn_22 : dc_at cX5_placeOn 22 sX5_placeOn_22 := dc_n3 aX5_placeOn_19
theorem aX5_placeOn_23 : dc_at cX5_placeOn 23 sX5_placeOn_23 := dc_n1 aX5_placeOn_22
theorem aX5_placeOn_25 : dc_at cX5_placeOn 25 sX5_placeOn_25 := dc_n2 aX5_placeOn_23
theorem aX5_placeOn_26 : dc_at cX5_placeOn 26 sX5_placeOn_26 := dc_n1 aX5_placeOn_25
theorem aX5_placeOn_29 : dc_at cX5_placeOn 29 sX5_placeOn_29 := dc_n3 aX5_placeOn_26
theorem aX5_placeOn_31 : dc_at cX5_placeOn 31 sX5_placeOn_31 := dc_n2 aX5_placeOn_29
theorem aX5_placeOn_32 : dc_at cX5_placeOn 32 sX5_placeOn_32 := dc_n1 aX5_placeOn_31
theorem aX5_placeOn_33 : dc_at cX5_placeOn 33 sX5_placeOn_33 := dc_n1 aX5_placeOn_32
theorem aX5_placeOn_35 : dc_at cX5_placeOn 35 sX5_placeOn_35 := dc_n2 aX5_placeOn_33
theorem aX5_placeOn_36 : dc_at cX5_placeOn 36 sX5_placeOn_36 := dc_n1 aX5_placeOn_35
theorem aX5_placeOn_37 : dc_at cX5_placeOn 37 sX5_placeOn_37 := dc_n1 aX5_placeOn_36
theorem aX5_placeOn_39 : dc_at cX5_placeOn 39 sX5_placeOn_39 := dc_n2 aX5_placeOn_37
theorem aX5_placeOn_40 : dc_at cX5_placeOn 40 sX5_placeOn_40 := dc_n1 aX5_placeOn_39
theorem aX5_placeOn_43 : dc_at cX5_placeOn 43 sX5_placeOn_43 := dc_n3 aX5_placeOn_40
theorem aX5_placeOn_44 : dc_at cX5_placeOn 44 sX5_placeOn_44 := dc_n1 aX5_placeOn_43
theorem aX5_placeOn_47 : dc_at cX5_placeOn 47 sX5_placeOn_47 := dc_n3 aX5_placeOn_44
theorem aX5_placeOn_50 : dc_at cX5_placeOn 50 sX5_placeOn_50 := dc_n3 aX5_placeOn_47
theorem aX5_placeOn_51 : dc_at cX5_placeOn 51 sX5_placeOn_51 := dc_n1 aX5_placeOn_50
theorem dX5_placeOn_0 : decode cX5_placeOn 0 = .ok (.bipush 7, 2) := dc_16 (a0 := 7) aX5_placeOn_0 (by decide)
theorem dX5_placeOn_2 : decode cX5_placeOn 2 = .ok (.iload_n 1, 1) := dc_27 aX5_placeOn_2
theorem dX5_placeOn_3 : decode cX5_placeOn 3 = .ok (.imul, 1) := dc_104 aX5_placeOn_3
theorem dX5_placeOn_4 : decode cX5_placeOn 4 = .ok (.iload_n 2, 1) := dc_28 aX5_placeOn_4
theorem dX5_placeOn_5 : decode cX5_placeOn 5 = .ok (.iadd, 1) := dc_96 aX5_placeOn_5
theorem dX5_placeOn_6 : decode cX5_placeOn 6 = .ok (.istore 4, 2) := dc_54 (a0 := 4) aX5_placeOn_6
theorem dX5_placeOn_8 : decode cX5_placeOn 8 = .ok (.aload_n 0, 1) := dc_42 aX5_placeOn_8
theorem dX5_placeOn_9 : decode cX5_placeOn 9 = .ok (.getfield 15, 3) := dc_180 (a0 := 0) (b0 := 15) aX5_placeOn_9
theorem dX5_placeOn_12 : decode cX5_placeOn 12 = .ok (.iload 4, 2) := dc_21 (a0 := 4) aX5_placeOn_12
theorem dX5_placeOn_14 : decode cX5_placeOn 14 = .ok (.iaload, 1) := dc_46 aX5_placeOn_14
theorem dX5_placeOn_15 : decode cX5_placeOn 15 = .ok (.i2l, 1) := dc_133 aX5_placeOn_15
theorem dX5_placeOn_16 : decode cX5_placeOn 16 = .ok (.iload_n 3, 1) := dc_29 aX5_placeOn_16
theorem dX5_placeOn_17 : decode cX5_placeOn 17 = .ok (.i2l, 1) := dc_133 aX5_placeOn_17
theorem dX5_placeOn_18 : decode cX5_placeOn 18 = .ok (.lmul, 1) := dc_105 aX5_placeOn_18
theorem dX5_placeOn_19 : decode cX5_placeOn 19 = .ok (.ldc2_w 119, 3) := dc_20 (a0 := 0) (b0 := 119) aX5_placeOn_19
theorem dX5_placeOn_22 : decode cX5_placeOn 22 = .ok (.ldiv, 1) := dc_109 aX5_placeOn_22
theorem dX5_placeOn_23 : decode cX5_placeOn 23 = .ok (.lstore 5, 2) := dc_55 (a0 := 5) aX5_placeOn_23
theorem dX5_placeOn_25 : decode cX5_placeOn 25 = .ok (.aload_n 0, 1) := dc_42 aX5_placeOn_25
theorem dX5_placeOn_26 : decode cX5_placeOn 26 = .ok (.getfield 11, 3) := dc_180 (a0 := 0) (b0 := 11) aX5_placeOn_26
theorem dX5_placeOn_29 : decode cX5_placeOn 29 = .ok (.iload 4, 2) := dc_21 (a0 := 4) aX5_placeOn_29
theorem dX5_placeOn_31 : decode cX5_placeOn 31 = .ok (.iaload, 1) := dc_46 aX5_placeOn_31
theorem dX5_placeOn_32 : decode cX5_placeOn 32 = .ok (.i2l, 1) := dc_133 aX5_placeOn_32
theorem dX5_placeOn_33 : decode cX5_placeOn 33 = .ok (.lload 5, 2) := dc_22 (a0 := 5) aX5_placeOn_33
theorem dX5_placeOn_35 : decode cX5_placeOn 35 = .ok (.ladd, 1) := dc_97 aX5_placeOn_35
theorem dX5_placeOn_36 : decode cX5_placeOn 36 = .ok (.aload_n 0, 1) := dc_42 aX5_placeOn_36
theorem dX5_placeOn_37 : decode cX5_placeOn 37 = .ok (.iload 4, 2) := dc_21 (a0 := 4) aX5_placeOn_37
theorem dX5_placeOn_39 : decode cX5_placeOn 39 = .ok (.iload_n 3, 1) := dc_29 aX5_placeOn_39
theorem dX5_placeOn_40 : decode cX5_placeOn 40 = .ok (.invokevirtual 121, 3) := dc_182 (a0 := 0) (b0 := 121) aX5_placeOn_40
theorem dX5_placeOn_43 : decode cX5_placeOn 43 = .ok (.ladd, 1) := dc_97 aX5_placeOn_43
theorem dX5_placeOn_44 : decode cX5_placeOn 44 = .ok (.ldc2_w 125, 3) := dc_20 (a0 := 0) (b0 := 125) aX5_placeOn_44
theorem dX5_placeOn_47 : decode cX5_placeOn 47 = .ok (.invokestatic 127, 3) := dc_184 (a0 := 0) (b0 := 127) aX5_placeOn_47
theorem dX5_placeOn_50 : decode cX5_placeOn 50 = .ok (.l2i, 1) := dc_136 aX5_placeOn_50
theorem dX5_placeOn_51 : decode cX5_placeOn 51 = .ok (.ireturn, 1) := dc_172 aX5_placeOn_51
set_option maxRecDepth 20000 in
theorem ggX5_swingOn_J9_floorDiv_f86c9 : GoodIn wsX5_swingOn wsJ9_floorDiv_f86c9 := goodIn_k _ [[11]] (by rfl) (by decide +kernel)
set_option maxRecDepth 20000 in
theorem gX5_swingOn_J9_floorDiv_f86c9 : GoodIn wsX5_swingOn (va_wsS RX5 138 yJ9_floorDiv_f86c9 wsJ9_floorDiv_f86c9) := goodIn_app (goodIn_of _ (by decide +kernel)) ggX5_swingOn_J9_floorDiv_f86c9
noncomputable def sX5_swingOn_62 : List Nat := 173 :: []
noncomputable def sX5_swingOn_59 : List Nat := 184 :: 0 :: 138 :: sX5_swingOn_62
noncomputable def sX5_swingOn_58 : List Nat := 133 :: sX5_swingOn_59
noncomputable def sX5_swingOn_57 : List Nat := 29 :: sX5_swingOn_58
noncomputable def sX5_swingOn_56 : List Nat := 105 :: sX5_swingOn_57
noncomputable def sX5_swingOn_55 : List Nat := 133 :: sX5_swingOn_56
noncomputable def sX5_swingOn_54 : List Nat := 46 :: sX5_swingOn_55
noncomputable def sX5_swingOn_53 : List Nat := 27 :: sX5_swingOn_54
noncomputable def sX5_swingOn_50 : List Nat := 180 :: 0 :: 18 :: sX5_swingOn_53
noncomputable def sX5_swingOn_49 : List Nat := 42 :: sX5_swingOn_50
noncomputable def sX5_swingOn_47 : List Nat := 22 :: 5 :: sX5_swingOn_49
noncomputable def sX5_swingOn_45 : List Nat := 55 :: 5 :: sX5_swingOn_47
noncomputable def sX5_swingOn_44 : List Nat := 101 :: sX5_swingOn_45
noncomputable def sX5_swingOn_43 : List Nat := 133 :: sX5_swingOn_44
noncomputable def sX5_swingOn_42 : List Nat := 29 :: sX5_swingOn_43
noncomputable def sX5_swingOn_41 : List Nat := 105 :: sX5_swingOn_42
noncomputable def sX5_swingOn_40 : List Nat := 133 :: sX5_swingOn_41
noncomputable def sX5_swingOn_37 : List Nat := 184 :: 0 :: 135 :: sX5_swingOn_40
noncomputable def sX5_swingOn_36 : List Nat := 100 :: sX5_swingOn_37
noncomputable def sX5_swingOn_35 : List Nat := 29 :: sX5_swingOn_36
noncomputable def sX5_swingOn_34 : List Nat := 104 :: sX5_swingOn_35
noncomputable def sX5_swingOn_32 : List Nat := 21 :: 4 :: sX5_swingOn_34
noncomputable def sX5_swingOn_31 : List Nat := 5 :: sX5_swingOn_32
noncomputable def sX5_swingOn_28 : List Nat := 20 :: 0 :: 133 :: sX5_swingOn_31
noncomputable def sX5_swingOn_26 : List Nat := 54 :: 4 :: sX5_swingOn_28
noncomputable def sX5_swingOn_25 : List Nat := 112 :: sX5_swingOn_26
noncomputable def sX5_swingOn_24 : List Nat := 29 :: sX5_swingOn_25
noncomputable def sX5_swingOn_23 : List Nat := 28 :: sX5_swingOn_24
noncomputable def sX5_swingOn_22 : List Nat := 173 :: sX5_swingOn_23
noncomputable def sX5_swingOn_21 : List Nat := 9 :: sX5_swingOn_22
noncomputable def sX5_swingOn_18 : List Nat := 162 :: 0 :: 5 :: sX5_swingOn_21
noncomputable def sX5_swingOn_17 : List Nat := 4 :: sX5_swingOn_18
noncomputable def sX5_swingOn_16 : List Nat := 29 :: sX5_swingOn_17
noncomputable def sX5_swingOn_13 : List Nat := 153 :: 0 :: 8 :: sX5_swingOn_16
noncomputable def sX5_swingOn_12 : List Nat := 46 :: sX5_swingOn_13
noncomputable def sX5_swingOn_11 : List Nat := 27 :: sX5_swingOn_12
noncomputable def sX5_swingOn_8 : List Nat := 180 :: 0 :: 18 :: sX5_swingOn_11
noncomputable def sX5_swingOn_7 : List Nat := 42 :: sX5_swingOn_8
noncomputable def sX5_swingOn_6 : List Nat := 62 :: sX5_swingOn_7
noncomputable def sX5_swingOn_5 : List Nat := 46 :: sX5_swingOn_6
noncomputable def sX5_swingOn_4 : List Nat := 27 :: sX5_swingOn_5
noncomputable def sX5_swingOn_1 : List Nat := 180 :: 0 :: 21 :: sX5_swingOn_4
noncomputable def sX5_swingOn_0 : List Nat := 42 :: sX5_swingOn_1
theorem aX5_swingOn_0 : dc_at cX5_swingOn 0 sX5_swingOn_0 := dc_base (by decide +kernel)
theorem aX5_swingOn_1 : dc_at cX5_swingOn 1 sX5_swingOn_1 := dc_n1 aX5_swingOn_0
theorem aX5_swingOn_4 : dc_at cX5_swingOn 4 sX5_swingOn_4 := dc_n3 aX5_swingOn_1
theorem aX5_swingOn_5 : dc_at cX5_swingOn 5 sX5_swingOn_5 := dc_n1 aX5_swingOn_4
theorem aX5_swingOn_6 : dc_at cX5_swingOn 6 sX5_swingOn_6 := dc_n1 aX5_swingOn_5
theorem aX5_swingOn_7 : dc_at cX5_swingOn 7 sX5_swingOn_7 := dc_n1 aX5_swingOn_6
theorem aX5_swingOn_8 : dc_at cX5_swingOn 8 sX5_swingOn_8 := dc_n1 aX5_swingOn_7
theorem aX5_swingOn_11 : dc_at cX5_swingOn 11 sX5_swingOn_11 := dc_n3 aX5_swingOn_8
theorem aX5_swingOn_12 : dc_at cX5_swingOn 12 sX5_swingOn_12 := dc_n1 aX5_swingOn_11
theorem aX5_swingOn_13 : dc_at cX5_swingOn 13 sX5_swingOn_13 := dc_n1 aX5_swingOn_12
theorem aX5_swingOn_16 : dc_at cX5_swingOn 16 sX5_swingOn_16 := dc_n3 aX5_swingOn_13
theorem aX5_swingOn_17 : dc_at cX5_swingOn 17 sX5_swingOn_17 := dc_n1 aX5_swingOn_16
theorem aX5_swingOn_18 : dc_at cX5_swingOn 18 sX5_swingOn_18 := dc_n1 aX5_swingOn_17
theorem aX5_swingOn_21 : dc_at cX5_swingOn 21 sX5_swingOn_21 := dc_n3 aX5_swingOn_18
theorem aX5_swingOn_22 : dc_at cX5_swingOn 22 sX5_swingOn_22 := dc_n1 aX5_swingOn_21
theorem aX5_swingOn_23 : dc_at cX5_swingOn 23 sX5_swingOn_23 := dc_n1 aX5_swingOn_22
theorem aX5_swingOn_24 : dc_at cX5_swingOn 24 sX5_swingOn_24 := dc_n1 aX5_swingOn_23
theorem aX5_swingOn_25 : dc_at cX5_swingOn 25 sX5_swingOn_25 := dc_n1 aX5_swingOn_24
theorem aX5_swingOn_26 : dc_at cX5_swingOn 26 sX5_swingOn_26 := dc_n1 aX5_swingOn_25
theorem aX5_swingOn_28 : dc_at cX5_swingOn 28 sX5_swingOn_28 := dc_n2 aX5_swingOn_26
theorem aX5_swingOn_31 : dc_at cX5_swingOn 31 sX5_swingOn_31 := dc_n3 aX5_swingOn_28
theorem aX5_swingOn_32 : dc_at cX5_swingOn 32 sX5_swingOn_32 := dc_n1 aX5_swingOn_31
theorem aX5_swingOn_34 : dc_at cX5_swingOn 34 sX5_swingOn_34 := dc_n2 aX5_swingOn_32
theorem aX5_swingOn_35 : dc_at cX5_swingOn 35 sX5_swingOn_35 := dc_n1 aX5_swingOn_34
theorem aX5_swingOn_36 : dc_at cX5_swingOn 36 sX5_swingOn_36 := dc_n1 aX5_swingOn_35
theorem aX5_swingOn_37 : dc_at cX5_swingOn 37 sX5_swingOn_37 := dc_n1 aX5_swingOn_36
theorem aX5_swingOn_40 : dc_at cX5_swingOn 40 sX5_swingOn_40 := dc_n3 aX5_swingOn_37
theorem aX5_swingOn_41 : dc_at cX5_swingOn 41 sX5_swingOn_41 := dc_n1 aX5_swingOn_40
theorem aX5_swingOn_42 : dc_at cX5_swingOn 42 sX5_swingOn_42 := dc_n1 aX5_swingOn_41
theorem aX5_swingOn_43 : dc_at cX5_swingOn 43 sX5_swingOn_43 := dc_n1 aX5_swingOn_42
theorem aX5_swingOn_44 : dc_at cX5_swingOn 44 sX5_swingOn_44 := dc_n1 aX5_swingOn_43
theorem aX5_swingOn_45 : dc_at cX5_swingOn 45 sX5_swingOn_45 := dc_n1 aX5_swingOn_44
theorem aX5_swingOn_47 : dc_at cX5_swingOn 47 sX5_swingOn_47 := dc_n2 aX5_swingOn_45
theorem aX5_swingOn_49 : dc_at cX5_swingOn 49 sX5_swingOn_49 := dc_n2 aX5_swingOn_47
theorem aX5_swingOn_50 : dc_at cX5_swingOn 50 sX5_swingOn_50 := dc_n1 aX5_swingOn_49
theorem aX5_swingOn_53 : dc_at cX5_swingOn 53 sX5_swingOn_53 := dc_n3 aX5_swingOn_50
theorem aX5_swingOn_54 : dc_at cX5_swingOn 54 sX5_swingOn_54 := dc_n1 aX5_swingOn_53
theorem aX5_swingOn_55 : dc_at cX5_swingOn 55 sX5_swingOn_55 := dc_n1 aX5_swingOn_54
theorem aX5_swingOn_56 : dc_at cX5_swingOn 56 sX5_swingOn_56 := dc_n1 aX5_swingOn_55
theorem aX5_swingOn_57 : dc_at cX5_swingOn 57 sX5_swingOn_57 := dc_n1 aX5_swingOn_56
theorem aX5_swingOn_58 : dc_at cX5_swingOn 58 sX5_swingOn_58 := dc_n1 aX5_swingOn_57
theorem aX5_swingOn_59 : dc_at cX5_swingOn 59 sX5_swingOn_59 := dc_n1 aX5_swingOn_58
theorem aX5_swingOn_62 : dc_at cX5_swingOn 62 sX5_swingOn_62 := dc_n3 aX5_swingOn_59
theorem dX5_swingOn_0 : decode cX5_swingOn 0 = .ok (.aload_n 0, 1) := dc_42 aX5_swingOn_0
theorem dX5_swingOn_1 : decode cX5_swingOn 1 = .ok (.getfield 21, 3) := dc_180 (a0 := 0) (b0 := 21) aX5_swingOn_1
theorem dX5_swingOn_4 : decode cX5_swingOn 4 = .ok (.iload_n 1, 1) := dc_27 aX5_swingOn_4
theorem dX5_swingOn_5 : decode cX5_swingOn 5 = .ok (.iaload, 1) := dc_46 aX5_swingOn_5
theorem dX5_swingOn_6 : decode cX5_swingOn 6 = .ok (.istore_n 3, 1) := dc_62 aX5_swingOn_6
theorem dX5_swingOn_7 : decode cX5_swingOn 7 = .ok (.aload_n 0, 1) := dc_42 aX5_swingOn_7
theorem dX5_swingOn_8 : decode cX5_swingOn 8 = .ok (.getfield 18, 3) := dc_180 (a0 := 0) (b0 := 18) aX5_swingOn_8
theorem dX5_swingOn_11 : decode cX5_swingOn 11 = .ok (.iload_n 1, 1) := dc_27 aX5_swingOn_11
theorem dX5_swingOn_12 : decode cX5_swingOn 12 = .ok (.iaload, 1) := dc_46 aX5_swingOn_12
theorem dX5_swingOn_13 : decode cX5_swingOn 13 = .ok (.ifCond .eq 8, 3) := dc_153 (a0 := 0) (b0 := 8) aX5_swingOn_13 (by decide)
theorem dX5_swingOn_16 : decode cX5_swingOn 16 = .ok (.iload_n 3, 1) := dc_29 aX5_swingOn_16
theorem dX5_swingOn_17 : decode cX5_swingOn 17 = .ok (.iconst 1, 1) := dc_4 aX5_swingOn_17
theorem dX5_swingOn_18 : decode cX5_swingOn 18 = .ok (.if_icmp .ge 5, 3) := dc_162 (a0 := 0) (b0 := 5) aX5_swingOn_18 (by decide)
theorem dX5_swingOn_21 : decode cX5_swingOn 21 = .ok (.lconst 0, 1) := dc_9 aX5_swingOn_21
theorem dX5_swingOn_22 : decode cX5_swingOn 22 = .ok (.lreturn, 1) := dc_173 aX5_swingOn_22
theorem dX5_swingOn_23 : decode cX5_swingOn 23 = .ok (.iload_n 2, 1) := dc_28 aX5_swingOn_23
theorem dX5_swingOn_24 : decode cX5_swingOn 24 = .ok (.iload_n 3, 1) := dc_29 aX5_swingOn_24
theorem dX5_swingOn_25 : decode cX5_swingOn 25 = .ok (.irem, 1) := dc_112 aX5_swingOn_25
theorem dX5_swingOn_26 : decode cX5_swingOn 26 = .ok (.istore 4, 2) := dc_54 (a0 := 4) aX5_swingOn_26
theorem dX5_swingOn_28 : decode cX5_swingOn 28 = .ok (.ldc2_w 133, 3) := dc_20 (a0 := 0) (b0 := 133) aX5_swingOn_28
theorem dX5_swingOn_31 : decode cX5_swingOn 31 = .ok (.iconst 2, 1) := dc_5 aX5_swingOn_31
theorem dX5_swingOn_32 : decode cX5_swingOn 32 = .ok (.iload 4, 2) := dc_21 (a0 := 4) aX5_swingOn_32
theorem dX5_swingOn_34 : decode cX5_swingOn 34 = .ok (.imul, 1) := dc_104 aX5_swingOn_34
theorem dX5_swingOn_35 : decode cX5_swingOn 35 = .ok (.iload_n 3, 1) := dc_29 aX5_swingOn_35
theorem dX5_swingOn_36 : decode cX5_swingOn 36 = .ok (.isub, 1) := dc_100 aX5_swingOn_36
theorem dX5_swingOn_37 : decode cX5_swingOn 37 = .ok (.invokestatic 135, 3) := dc_184 (a0 := 0) (b0 := 135) aX5_swingOn_37
theorem dX5_swingOn_40 : decode cX5_swingOn 40 = .ok (.i2l, 1) := dc_133 aX5_swingOn_40
theorem dX5_swingOn_41 : decode cX5_swingOn 41 = .ok (.lmul, 1) := dc_105 aX5_swingOn_41
theorem dX5_swingOn_42 : decode cX5_swingOn 42 = .ok (.iload_n 3, 1) := dc_29 aX5_swingOn_42
theorem dX5_swingOn_43 : decode cX5_swingOn 43 = .ok (.i2l, 1) := dc_133 aX5_swingOn_43
theorem dX5_swingOn_44 : decode cX5_swingOn 44 = .ok (.lsub, 1) := dc_101 aX5_swingOn_44
theorem dX5_swingOn_45 : decode cX5_swingOn 45 = .ok (.lstore 5, 2) := dc_55 (a0 := 5) aX5_swingOn_45
theorem dX5_swingOn_47 : decode cX5_swingOn 47 = .ok (.lload 5, 2) := dc_22 (a0 := 5) aX5_swingOn_47
theorem dX5_swingOn_49 : decode cX5_swingOn 49 = .ok (.aload_n 0, 1) := dc_42 aX5_swingOn_49
theorem dX5_swingOn_50 : decode cX5_swingOn 50 = .ok (.getfield 18, 3) := dc_180 (a0 := 0) (b0 := 18) aX5_swingOn_50
theorem dX5_swingOn_53 : decode cX5_swingOn 53 = .ok (.iload_n 1, 1) := dc_27 aX5_swingOn_53
theorem dX5_swingOn_54 : decode cX5_swingOn 54 = .ok (.iaload, 1) := dc_46 aX5_swingOn_54
theorem dX5_swingOn_55 : decode cX5_swingOn 55 = .ok (.i2l, 1) := dc_133 aX5_swingOn_55
theorem dX5_swingOn_56 : decode cX5_swingOn 56 = .ok (.lmul, 1) := dc_105 aX5_swingOn_56
theorem dX5_swingOn_57 : decode cX5_swingOn 57 = .ok (.iload_n 3, 1) := dc_29 aX5_swingOn_57
theorem dX5_swingOn_58 : decode cX5_swingOn 58 = .ok (.i2l, 1) := dc_133 aX5_swingOn_58
theorem dX5_swingOn_59 : decode cX5_swingOn 59 = .ok (.invokestatic 138, 3) := dc_184 (a0 := 0) (b0 := 138) aX5_swingOn_59
theorem dX5_swingOn_62 : decode cX5_swingOn 62 = .ok (.lreturn, 1) := dc_173 aX5_swingOn_62
set_option maxRecDepth 20000 in
theorem ggX5_degreeOn_X5_placeOn : GoodIn wsX5_degreeOn wsX5_placeOn := goodIn_k _ [[5, 0, 0, 0, 0, 0, 0, 0], [4, 8, 0, 0, 0, 0, 0, 0, 0, 0, 0, 0, 0, 0, 0, 0, 0, 0, 0, 0, 0, 0]] (by rfl) (by decide +kernel)
set_option maxRecDepth 20000 in
theorem gX5_degreeOn_X5_placeOn : GoodIn wsX5_degreeOn (wsV RX5 141 RX5 yX5_placeOn wsX5_placeOn) := goodIn_app (goodIn_of _ (by decide +kernel)) ggX5_degreeOn_X5_placeOn
noncomputable def sX5_degreeOn_10 : List Nat := 172 :: []
noncomputable def sX5_degreeOn_9 : List Nat := 108 :: sX5_degreeOn_10
noncomputable def sX5_degreeOn_7 : List Nat := 16 :: 60 :: sX5_degreeOn_9
noncomputable def sX5_degreeOn_4 : List Nat := 182 :: 0 :: 141 :: sX5_degreeOn_7
noncomputable def sX5_degreeOn_3 : List Nat := 29 :: sX5_degreeOn_4
noncomputable def sX5_degreeOn_2 : List Nat := 28 :: sX5_degreeOn_3
noncomputable def sX5_degreeOn_1 : List Nat := 27 :: sX5_degreeOn_2
noncomputable def sX5_degreeOn_0 : List Nat := 42 :: sX5_degreeOn_1
theorem aX5_degreeOn_0 : dc_at cX5_degreeOn 0 sX5_degreeOn_0 := dc_base (by decide +kernel)
theorem aX5_degreeOn_1 : dc_at cX5_degreeOn 1 sX5_degreeOn_1 := dc_n1 aX5_degreeOn_0
theorem aX5_degreeOn_2 : dc_at cX5_degreeOn 2 sX5_degreeOn_2 := dc_n1 aX5_degreeOn_1
theorem aX5_degreeOn_3 : dc_at cX5_degreeOn 3 sX5_degreeOn_3 := dc_n1 aX5_degreeOn_2
theorem aX5_degreeOn_4 : dc_at cX5_degreeOn 4 sX5_degreeOn_4 := dc_n1 aX5_degreeOn_3
theorem aX5_degreeOn_7 : dc_at cX5_degreeOn 7 sX5_degreeOn_7 := dc_n3 aX5_degreeOn_4
theorem aX5_degreeOn_9 : dc_at cX5_degreeOn 9 sX5_degreeOn_9 := dc_n2 aX5_degreeOn_7
theorem aX5_degreeOn_10 : dc_at cX5_degreeOn 10 sX5_degreeOn_10 := dc_n1 aX5_degreeOn_9
theorem dX5_degreeOn_0 : decode cX5_degreeOn 0 = .ok (.aload_n 0, 1) := dc_42 aX5_degreeOn_0
theorem dX5_degreeOn_1 : decode cX5_degreeOn 1 = .ok (.iload_n 1, 1) := dc_27 aX5_degreeOn_1
theorem dX5_degreeOn_2 : decode cX5_degreeOn 2 = .ok (.iload_n 2, 1) := dc_28 aX5_degreeOn_2
theorem dX5_degreeOn_3 : decode cX5_degreeOn 3 = .ok (.iload_n 3, 1) := dc_29 aX5_degreeOn_3
theorem dX5_degreeOn_4 : decode cX5_degreeOn 4 = .ok (.invokevirtual 141, 3) := dc_182 (a0 := 0) (b0 := 141) aX5_degreeOn_4
theorem dX5_degreeOn_7 : decode cX5_degreeOn 7 = .ok (.bipush 60, 2) := dc_16 (a0 := 60) aX5_degreeOn_7 (by decide)
theorem dX5_degreeOn_9 : decode cX5_degreeOn 9 = .ok (.idiv, 1) := dc_108 aX5_degreeOn_9
theorem dX5_degreeOn_10 : decode cX5_degreeOn 10 = .ok (.ireturn, 1) := dc_172 aX5_degreeOn_10
noncomputable def sX6_init_36 : List Nat := 177 :: []
noncomputable def sX6_init_33 : List Nat := 181 :: 0 :: 21 :: sX6_init_36
noncomputable def sX6_init_31 : List Nat := 188 :: 10 :: sX6_init_33
noncomputable def sX6_init_29 : List Nat := 16 :: 20 :: sX6_init_31
noncomputable def sX6_init_28 : List Nat := 42 :: sX6_init_29
noncomputable def sX6_init_25 : List Nat := 181 :: 0 :: 18 :: sX6_init_28
noncomputable def sX6_init_23 : List Nat := 188 :: 10 :: sX6_init_25
noncomputable def sX6_init_21 : List Nat := 16 :: 20 :: sX6_init_23
noncomputable def sX6_init_20 : List Nat := 42 :: sX6_init_21
noncomputable def sX6_init_17 : List Nat := 181 :: 0 :: 15 :: sX6_init_20
noncomputable def sX6_init_15 : List Nat := 188 :: 10 :: sX6_init_17
noncomputable def sX6_init_13 : List Nat := 16 :: 6 :: sX6_init_15
noncomputable def sX6_init_12 : List Nat := 42 :: sX6_init_13
noncomputable def sX6_init_9 : List Nat := 181 :: 0 :: 9 :: sX6_init_12
noncomputable def sX6_init_7 : List Nat := 188 :: 10 :: sX6_init_9
noncomputable def sX6_init_5 : List Nat := 16 :: 120 :: sX6_init_7
noncomputable def sX6_init_4 : List Nat := 42 :: sX6_init_5
noncomputable def sX6_init_1 : List Nat := 183 :: 0 :: 3 :: sX6_init_4
noncomputable def sX6_init_0 : List Nat := 42 :: sX6_init_1
theorem aX6_init_0 : dc_at cX6_init 0 sX6_init_0 := dc_base (by decide +kernel)
theorem aX6_init_1 : dc_at cX6_init 1 sX6_init_1 := dc_n1 aX6_init_0
theorem aX6_init_4 : dc_at cX6_init 4 sX6_init_4 := dc_n3 aX6_init_1
theorem aX6_init_5 : dc_at cX6_init 5 sX6_init_5 := dc_n1 aX6_init_4
theorem aX6_init_7 : dc_at cX6_init 7 sX6_init_7 := dc_n2 aX6_init_5
theorem aX6_init_9 : dc_at cX6_init 9 sX6_init_9 := dc_n2 aX6_init_7
theorem aX6_init_12 : dc_at cX6_init 12 sX6_init_12 := dc_n3 aX6_init_9
theorem aX6_init_13 : dc_at cX6_init 13 sX6_init_13 := dc_n1 aX6_init_12
theorem aX6_init_15 : dc_at cX6_init 15 sX6_init_15 := dc_n2 aX6_init_13
theorem aX6_init_17 : dc_at cX6_init 17 sX6_init_17 := dc_n2 aX6_init_15
theorem aX6_init_20 : dc_at cX6_init 20 sX6_init_20 := dc_n3 aX6_init_17
theorem aX6_init_21 : dc_at cX6_init 21 sX6_init_21 := dc_n1 aX6_init_20
theorem aX6_init_23 : dc_at cX6_init 23 sX6_init_23 := dc_n2 aX6_init_21
theorem aX6_init_25 : dc_at cX6_init 25 sX6_init_25 := dc_n2 aX6_init_23
theorem aX6_init_28 : dc_at cX6_init 28 sX6_init_28 := dc_n3 aX6_init_25
theorem aX6_init_29 : dc_at cX6_init 29 sX6_init_29 := dc_n1 aX6_init_28
theorem aX6_init_31 : dc_at cX6_init 31 sX6_init_31 := dc_n2 aX6_init_29
theorem aX6_init_33 : dc_at cX6_init 33 sX6_init_33 := dc_n2 aX6_init_31
theorem aX6_init_36 : dc_at cX6_init 36 sX6_init_36 := dc_n3 aX6_init_33
theorem dX6_init_0 : decode cX6_init 0 = .ok (.aload_n 0, 1) := dc_42 aX6_init_0
theorem dX6_init_1 : decode cX6_init 1 = .ok (.invokespecial 3, 3) := dc_183 (a0 := 0) (b0 := 3) aX6_init_1
theorem dX6_init_4 : decode cX6_init 4 = .ok (.aload_n 0, 1) := dc_42 aX6_init_4
theorem dX6_init_5 : decode cX6_init 5 = .ok (.bipush 120, 2) := dc_16 (a0 := 120) aX6_init_5 (by decide)
theorem dX6_init_7 : decode cX6_init 7 = .ok (.newarray .int, 2) := dc_188_10 aX6_init_7
theorem dX6_init_9 : decode cX6_init 9 = .ok (.putfield 9, 3) := dc_181 (a0 := 0) (b0 := 9) aX6_init_9
theorem dX6_init_12 : decode cX6_init 12 = .ok (.aload_n 0, 1) := dc_42 aX6_init_12
theorem dX6_init_13 : decode cX6_init 13 = .ok (.bipush 6, 2) := dc_16 (a0 := 6) aX6_init_13 (by decide)
theorem dX6_init_15 : decode cX6_init 15 = .ok (.newarray .int, 2) := dc_188_10 aX6_init_15
theorem dX6_init_17 : decode cX6_init 17 = .ok (.putfield 15, 3) := dc_181 (a0 := 0) (b0 := 15) aX6_init_17
theorem dX6_init_20 : decode cX6_init 20 = .ok (.aload_n 0, 1) := dc_42 aX6_init_20
theorem dX6_init_21 : decode cX6_init 21 = .ok (.bipush 20, 2) := dc_16 (a0 := 20) aX6_init_21 (by decide)
theorem dX6_init_23 : decode cX6_init 23 = .ok (.newarray .int, 2) := dc_188_10 aX6_init_23
theorem dX6_init_25 : decode cX6_init 25 = .ok (.putfield 18, 3) := dc_181 (a0 := 0) (b0 := 18) aX6_init_25
theorem dX6_init_28 : decode cX6_init 28 = .ok (.aload_n 0, 1) := dc_42 aX6_init_28
theorem dX6_init_29 : decode cX6_init 29 = .ok (.bipush 20, 2) := dc_16 (a0 := 20) aX6_init_29 (by decide)
theorem dX6_init_31 : decode cX6_init 31 = .ok (.newarray .int, 2) := dc_188_10 aX6_init_31
theorem dX6_init_33 : decode cX6_init 33 = .ok (.putfield 21, 3) := dc_181 (a0 := 0) (b0 := 21) aX6_init_33
theorem dX6_init_36 : decode cX6_init 36 = .ok (.return_, 1) := dc_177 aX6_init_36
set_option maxRecDepth 20000 in
theorem ggX6_addTo_X6_placeOf : GoodIn wsX6_addTo wsX6_placeOf := goodIn_k _ [[7], [1, 0, 5, 0, 0, 0]] (by rfl) (by decide +kernel)
set_option maxRecDepth 20000 in
theorem gX6_addTo_X6_placeOf : GoodIn wsX6_addTo (wsV RX6 24 RX6 yX6_placeOf wsX6_placeOf) := goodIn_app (goodIn_of _ (by decide +kernel)) ggX6_addTo_X6_placeOf
noncomputable def sX6_addTo_56 : List Nat := 172 :: []
noncomputable def sX6_addTo_55 : List Nat := 46 :: sX6_addTo_56
noncomputable def sX6_addTo_54 : List Nat := 27 :: sX6_addTo_55
noncomputable def sX6_addTo_51 : List Nat := 180 :: 0 :: 15 :: sX6_addTo_54
noncomputable def sX6_addTo_50 : List Nat := 42 :: sX6_addTo_51
noncomputable def sX6_addTo_49 : List Nat := 79 :: sX6_addTo_50
noncomputable def sX6_addTo_48 : List Nat := 96 :: sX6_addTo_49
noncomputable def sX6_addTo_47 : List Nat := 4 :: sX6_addTo_48
noncomputable def sX6_addTo_46 : List Nat := 46 :: sX6_addTo_47
noncomputable def sX6_addTo_45 : List Nat := 92 :: sX6_addTo_46
noncomputable def sX6_addTo_44 : List Nat := 27 :: sX6_addTo_45
noncomputable def sX6_addTo_41 : List Nat := 180 :: 0 :: 15 :: sX6_addTo_44
noncomputable def sX6_addTo_40 : List Nat := 42 :: sX6_addTo_41
noncomputable def sX6_addTo_39 : List Nat := 79 :: sX6_addTo_40
noncomputable def sX6_addTo_38 : List Nat := 28 :: sX6_addTo_39
noncomputable def sX6_addTo_37 : List Nat := 96 :: sX6_addTo_38
noncomputable def sX6_addTo_36 : List Nat := 46 :: sX6_addTo_37
noncomputable def sX6_addTo_35 : List Nat := 27 :: sX6_addTo_36
noncomputable def sX6_addTo_32 : List Nat := 180 :: 0 :: 15 :: sX6_addTo_35
noncomputable def sX6_addTo_31 : List Nat := 42 :: sX6_addTo_32
noncomputable def sX6_addTo_30 : List Nat := 104 :: sX6_addTo_31
noncomputable def sX6_addTo_29 : List Nat := 27 :: sX6_addTo_30
noncomputable def sX6_addTo_27 : List Nat := 16 :: 20 :: sX6_addTo_29
noncomputable def sX6_addTo_24 : List Nat := 180 :: 0 :: 9 :: sX6_addTo_27
noncomputable def sX6_addTo_23 : List Nat := 42 :: sX6_addTo_24
noncomputable def sX6_addTo_22 : List Nat := 172 :: sX6_addTo_23
noncomputable def sX6_addTo_21 : List Nat := 2 :: sX6_addTo_22
noncomputable def sX6_addTo_18 : List Nat := 161 :: 0 :: 5 :: sX6_addTo_21
noncomputable def sX6_addTo_16 : List Nat := 16 :: 20 :: sX6_addTo_18
noncomputable def sX6_addTo_15 : List Nat := 46 :: sX6_addTo_16
noncomputable def sX6_addTo_14 : List Nat := 27 :: sX6_addTo_15
noncomputable def sX6_addTo_11 : List Nat := 180 :: 0 :: 15 :: sX6_addTo_14
noncomputable def sX6_addTo_10 : List Nat := 42 :: sX6_addTo_11
noncomputable def sX6_addTo_7 : List Nat := 160 :: 0 :: 14 :: sX6_addTo_10
noncomputable def sX6_addTo_6 : List Nat := 2 :: sX6_addTo_7
noncomputable def sX6_addTo_3 : List Nat := 182 :: 0 :: 24 :: sX6_addTo_6
noncomputable def sX6_addTo_2 : List Nat := 28 :: sX6_addTo_3
noncomputable def sX6_addTo_1 : List Nat := 27 :: sX6_addTo_2
noncomputable def sX6_addTo_0 : List Nat := 42 :: sX6_addTo_1
theorem aX6_addTo_0 : dc_at cX6_addTo 0 sX6_addTo_0 := dc_base (by decide +kernel)
theorem aX6_addTo_1 : dc_at cX6_addTo 1 sX6_addTo_1 := dc_n1 aX6_addTo_0
theorem aX6_addTo_2 : dc_at cX6_addTo 2 sX6_addTo_2 := dc_n1 aX6_addTo_1
theorem aX6_addTo_3 : dc_at cX6_addTo 3 sX6_addTo_3 := dc_n1 aX6_addTo_2
theorem aX6_addTo_6 : dc_at cX6_addTo 6 sX6_addTo_6 := dc_n3 aX6_addTo_3
theorem aX6_addTo_7 : dc_at cX6_addTo 7 sX6_addTo_7 := dc_n1 aX6_addTo_6
theorem aX6_addTo_10 : dc_at cX6_addTo 10 sX6_addTo_10 := dc_n3 aX6_addTo_7
theorem aX6_addTo_11 : dc_at cX6_addTo 11 sX6_addTo_11 := dc_n1 aX6_addTo_10
theorem aX6_addTo_14 : dc_at cX6_addTo 14 sX6_addTo_14 := dc_n3 aX6_addTo_11
theorem aX6_addTo_15 : dc_at cX6_addTo 15 sX6_addTo_15 := dc_n1 aX6_addTo_14
theorem aX6_addTo_16 : dc_at cX6_addTo 16 sX6_addTo_16 := dc_n1 aX6_addTo_15
theorem aX6_addTo_18 : dc_at cX6_addTo 18 sX6_addTo_18 := dc_n2 aX6_addTo_16
theorem aX6_addTo_21 : dc_at cX6_addTo 21 sX6_addTo_21 := dc_n3 aX6_addTo_18
theorem aX6_addTo_22 : dc_at cX6_addTo 22 sX6_addTo_22 := dc_n1 aX6_addTo_21
theorem aX6_addTo_23 : dc_at cX6_addTo 23 sX6_addTo_23 := dc_n1 aX6_addTo_22
theorem aX6_addTo_24 : dc_at cX6_addTo 24 sX6_addTo_24 := dc_n1 aX6_addTo_23
theorem aX6_addTo_27 : dc_at cX6_addTo 27 sX6_addTo_27 := dc_n3 aX6_addTo_24
theorem aX6_addTo_29 : dc_at cX6_addTo 29 sX6_addTo_29 := dc_n2 aX6_addTo_27
theorem aX6_addTo_30 : dc_at cX6_addTo 30 sX6_addTo_30 := dc_n1 aX6_addTo_29
theorem aX6_addTo_31 : dc_at cX6_addTo 31 sX6_addTo_31 := dc_n1 aX6_addTo_30
theorem aX6_addTo_32 : dc_at cX6_addTo 32 sX6_addTo_32 := dc_n1 aX6_addTo_31
theorem aX6_addTo_35 : dc_at cX6_addTo 35 sX6_addTo_35 := dc_n3 aX6_addTo_32
theorem aX6_addTo_36 : dc_at cX6_addTo 36 sX6_addTo_36 := dc_n1 aX6_addTo_35
theorem aX6_addTo_37 : dc_at cX6_addTo 37 sX6_addTo_37 := dc_n1 aX6_addTo_36
theorem aX6_addTo_38 : dc_at cX6_addTo 38 sX6_addTo_38 := dc_n1 aX6_addTo_37
theorem aX6_addTo_39 : dc_at cX6_addTo 39 sX6_addTo_39 := dc_n1 aX6_addTo_38
theorem aX6_addTo_40 : dc_at cX6_addTo 40 sX6_addTo_40 := dc_n1 aX6_addTo_39
theorem aX6_addTo_41 : dc_at cX6_addTo 41 sX6_addTo_41 := dc_n1 aX6_addTo_40
theorem aX6_addTo_44 : dc_at cX6_addTo 44 sX6_addTo_44 := dc_n3 aX6_addTo_41
theorem aX6_addTo_45 : dc_at cX6_addTo 45 sX6_addTo_45 := dc_n1 aX6_addTo_44
theorem aX6_addTo_46 : dc_at cX6_addTo 46 sX6_addTo_46 := dc_n1 aX6_addTo_45
theorem aX6_addTo_47 : dc_at cX6_addTo 47 sX6_addTo_47 := dc_n1 aX6_addTo_46
theorem aX6_addTo_48 : dc_at cX6_addTo 48 sX6_addTo_48 := dc_n1 aX6_addTo_47
theorem aX6_addTo_49 : dc_at cX6_addTo 49 sX6_addTo_49 := dc_n1 aX6_addTo_48
theorem aX6_addTo_50 : dc_at cX6_addTo 50 sX6_addTo_50 := dc_n1 aX6_addTo_49
theorem aX6_addTo_51 : dc_at cX6_addTo 51 sX6_addTo_51 := dc_n1 aX6_addTo_50
theorem aX6_addTo_54 : dc_at cX6_addTo 54 sX6_addTo_54 := dc_n3 aX6_addTo_51
theorem aX6_addTo_55 : dc_at cX6_addTo 55 sX6_addTo_55 := dc_n1 aX6_addTo_54
theorem aX6_addTo_56 : dc_at cX6_addTo 56 sX6_addTo_56 := dc_n1 aX6_addTo_55
theorem dX6_addTo_0 : decode cX6_addTo 0 = .ok (.aload_n 0, 1) := dc_42 aX6_addTo_0
theorem dX6_addTo_1 : decode cX6_addTo 1 = .ok (.iload_n 1, 1) := dc_27 aX6_addTo_1
theorem dX6_addTo_2 : decode cX6_addTo 2 = .ok (.iload_n 2, 1) := dc_28 aX6_addTo_2
theorem dX6_addTo_3 : decode cX6_addTo 3 = .ok (.invokevirtual 24, 3) := dc_182 (a0 := 0) (b0 := 24) aX6_addTo_3
theorem dX6_addTo_6 : decode cX6_addTo 6 = .ok (.iconst (-1), 1) := dc_2 aX6_addTo_6
theorem dX6_addTo_7 : decode cX6_addTo 7 = .ok (.if_icmp .ne 14, 3) := dc_160 (a0 := 0) (b0 := 14) aX6_addTo_7 (by decide)
theorem dX6_addTo_10 : decode cX6_addTo 10 = .ok (.aload_n 0, 1) := dc_42 aX6_addTo_10
theorem dX6_addTo_11 : decode cX6_addTo 11 = .ok (.getfield 15, 3) := dc_180 (a0 := 0) (b0 := 15) aX6_addTo_11
theorem dX6_addTo_14 : decode cX6_addTo 14 = .ok (.iload_n 1, 1) := dc_27 aX6_addTo_14
theorem dX6_addTo_15 : decode cX6_addTo 15 = .ok (.iaload, 1) := dc_46 aX6_addTo_15
theorem dX6_addTo_16 : decode cX6_addTo 16 = .ok (.bipush 20, 2) := dc_16 (a0 := 20) aX6_addTo_16 (by decide)
theorem dX6_addTo_18 : decode cX6_addTo 18 = .ok (.if_icmp .lt 5, 3) := dc_161 (a0 := 0) (b0 := 5) aX6_addTo_18 (by decide)
theorem dX6_addTo_21 : decode cX6_addTo 21 = .ok (.iconst (-1), 1) := dc_2 aX6_addTo_21
theorem dX6_addTo_22 : decode cX6_addTo 22 = .ok (.ireturn, 1) := dc_172 aX6_addTo_22
theorem dX6_addTo_23 : decode cX6_addTo 23 = .ok (.aload_n 0, 1) := dc_42 aX6_addTo_23
theorem dX6_addTo_24 : decode cX6_addTo 24 = .ok (.getfield 9, 3) := dc_180 (a0 := 0) (b0 := 9) aX6_addTo_24
theorem dX6_addTo_27 : decode cX6_addTo 27 = .ok (.bipush 20, 2) := dc_16 (a0 := 20) aX6_addTo_27 (by decide)
theorem dX6_addTo_29 : decode cX6_addTo 29 = .ok (.iload_n 1, 1) := dc_27 aX6_addTo_29
theorem dX6_addTo_30 : decode cX6_addTo 30 = .ok (.imul, 1) := dc_104 aX6_addTo_30
theorem dX6_addTo_31 : decode cX6_addTo 31 = .ok (.aload_n 0, 1) := dc_42 aX6_addTo_31
theorem dX6_addTo_32 : decode cX6_addTo 32 = .ok (.getfield 15, 3) := dc_180 (a0 := 0) (b0 := 15) aX6_addTo_32
theorem dX6_addTo_35 : decode cX6_addTo 35 = .ok (.iload_n 1, 1) := dc_27 aX6_addTo_35
theorem dX6_addTo_36 : decode cX6_addTo 36 = .ok (.iaload, 1) := dc_46 aX6_addTo_36
theorem dX6_addTo_37 : decode cX6_addTo 37 = .ok (.iadd, 1) := dc_96 aX6_addTo_37
theorem dX6_addTo_38 : decode cX6_addTo 38 = .ok (.iload_n 2, 1) := dc_28 aX6_addTo_38
theorem dX6_addTo_39 : decode cX6_addTo 39 = .ok (.iastore, 1) := dc_79 aX6_addTo_39
theorem dX6_addTo_40 : decode cX6_addTo 40 = .ok (.aload_n 0, 1) := dc_42 aX6_addTo_40
theorem dX6_addTo_41 : decode cX6_addTo 41 = .ok (.getfield 15, 3) := dc_180 (a0 := 0) (b0 := 15) aX6_addTo_41
theorem dX6_addTo_44 : decode cX6_addTo 44 = .ok (.iload_n 1, 1) := dc_27 aX6_addTo_44
theorem dX6_addTo_45 : decode cX6_addTo 45 = .ok (.dup2, 1) := dc_92 aX6_addTo_45
theorem dX6_addTo_46 : decode cX6_addTo 46 = .ok (.iaload, 1) := dc_46 aX6_addTo_46
theorem dX6_addTo_47 : decode cX6_addTo 47 = .ok (.iconst 1, 1) := dc_4 aX6_addTo_47
theorem dX6_addTo_48 : decode cX6_addTo 48 = .ok (.iadd, 1) := dc_96 aX6_addTo_48
theorem dX6_addTo_49 : decode cX6_addTo 49 = .ok (.iastore, 1) := dc_79 aX6_addTo_49
theorem dX6_addTo_50 : decode cX6_addTo 50 = .ok (.aload_n 0, 1) := dc_42 aX6_addTo_50
theorem dX6_addTo_51 : decode cX6_addTo 51 = .ok (.getfield 15, 3) := dc_180 (a0 := 0) (b0 := 15) aX6_addTo_51
theorem dX6_addTo_54 : decode cX6_addTo 54 = .ok (.iload_n 1, 1) := dc_27 aX6_addTo_54
theorem dX6_addTo_55 : decode cX6_addTo 55 = .ok (.iaload, 1) := dc_46 aX6_addTo_55
theorem dX6_addTo_56 : decode cX6_addTo 56 = .ok (.ireturn, 1) := dc_172 aX6_addTo_56
noncomputable def sX6_placeOf_36 : List Nat := 172 :: []
noncomputable def sX6_placeOf_35 : List Nat := 2 :: sX6_placeOf_36
noncomputable def sX6_placeOf_32 : List Nat := 167 :: 255 :: 226 :: sX6_placeOf_35
noncomputable def sX6_placeOf_29 : List Nat := 132 :: 3 :: 1 :: sX6_placeOf_32
noncomputable def sX6_placeOf_28 : List Nat := 172 :: sX6_placeOf_29
noncomputable def sX6_placeOf_27 : List Nat := 29 :: sX6_placeOf_28
noncomputable def sX6_placeOf_24 : List Nat := 160 :: 0 :: 5 :: sX6_placeOf_27
noncomputable def sX6_placeOf_23 : List Nat := 28 :: sX6_placeOf_24
noncomputable def sX6_placeOf_22 : List Nat := 46 :: sX6_placeOf_23
noncomputable def sX6_placeOf_21 : List Nat := 96 :: sX6_placeOf_22
noncomputable def sX6_placeOf_20 : List Nat := 29 :: sX6_placeOf_21
noncomputable def sX6_placeOf_19 : List Nat := 104 :: sX6_placeOf_20
noncomputable def sX6_placeOf_18 : List Nat := 27 :: sX6_placeOf_19
noncomputable def sX6_placeOf_16 : List Nat := 16 :: 20 :: sX6_placeOf_18
noncomputable def sX6_placeOf_13 : List Nat := 180 :: 0 :: 9 :: sX6_placeOf_16
noncomputable def sX6_placeOf_12 : List Nat := 42 :: sX6_placeOf_13
noncomputable def sX6_placeOf_9 : List Nat := 162 :: 0 :: 26 :: sX6_placeOf_12
noncomputable def sX6_placeOf_8 : List Nat := 46 :: sX6_placeOf_9
noncomputable def sX6_placeOf_7 : List Nat := 27 :: sX6_placeOf_8
noncomputable def sX6_placeOf_4 : List Nat := 180 :: 0 :: 15 :: sX6_placeOf_7
noncomputable def sX6_placeOf_3 : List Nat := 42 :: sX6_placeOf_4
noncomputable def sX6_placeOf_2 : List Nat := 29 :: sX6_placeOf_3
noncomputable def sX6_placeOf_1 : List Nat := 62 :: sX6_placeOf_2
noncomputable def sX6_placeOf_0 : List Nat := 3 :: sX6_placeOf_1
theorem aX6_placeOf_0 : dc_at cX6_placeOf 0 sX6_placeOf_0 := dc_base (by decide +kernel)
theorem aX6_placeOf_1 : dc_at cX6_placeOf 1 sX6_placeOf_1 := dc_n1 aX6_placeOf_0
theorem aX6_placeOf_2 : dc_at cX6_placeOf 2 sX6_placeOf_2 := dc_n1 aX6_placeOf_1
theorem aX6_placeOf_3 : dc_at cX6_placeOf 3 sX6_placeOf_3 := dc_n1 aX6_placeOf_2
theorem aX6_placeOf_4 : dc_at cX6_placeOf 4 sX6_placeOf_4 := dc_n1 aX6_placeOf_3
theorem aX6_placeOf_7 : dc_at cX6_placeOf 7 sX6_placeOf_7 := dc_n3 aX6_placeOf_4
theorem aX6_placeOf_8 : dc_at cX6_placeOf 8 sX6_placeOf_8 := dc_n1 aX6_placeOf_7
theorem aX6_placeOf_9 : dc_at cX6_placeOf 9 sX6_placeOf_9 := dc_n1 aX6_placeOf_8
theorem aX6_placeOf_12 : dc_at cX6_placeOf 12 sX6_placeOf_12 := dc_n3 aX6_placeOf_9
theorem aX6_placeOf_13 : dc_at cX6_placeOf 13 sX6_placeOf_13 := dc_n1 aX6_placeOf_12
theorem aX6_placeOf_16 : dc_at cX6_placeOf 16 sX6_placeOf_16 := dc_n3 aX6_placeOf_13
theorem aX6_placeOf_18 : dc_at cX6_placeOf 18 sX6_placeOf_18 := dc_n2 aX6_placeOf_16
theorem aX6_placeOf_19 : dc_at cX6_placeOf 19 sX6_placeOf_19 := dc_n1 aX6_placeOf_18
theorem aX6_placeOf_20 : dc_at cX6_placeOf 20 sX6_placeOf_20 := dc_n1 aX6_placeOf_19
theorem aX6_placeOf_21 : dc_at cX6_placeOf 21 sX6_placeOf_21 := dc_n1 aX6_placeOf_20
theorem aX6_placeOf_22 : dc_at cX6_placeOf 22 sX6_placeOf_22 := dc_n1 aX6_placeOf_21
theorem aX6_placeOf_23 : dc_at cX6_placeOf 23 sX6_placeOf_23 := dc_n1 aX6_placeOf_22
theorem aX6_placeOf_24 : dc_at cX6_placeOf 24 sX6_placeOf_24 := dc_n1 aX6_placeOf_23
theorem aX6_placeOf_27 : dc_at cX6_placeOf 27 sX6_placeOf_27 := dc_n3 aX6_placeOf_24
theorem aX6_placeOf_28 : dc_at cX6_placeOf 28 sX6_placeOf_28 := dc_n1 aX6_placeOf_27
theorem aX6_placeOf_29 : dc_at cX6_placeOf 29 sX6_placeOf_29 := dc_n1 aX6_placeOf_28
theorem aX6_placeOf_32 : dc_at cX6_placeOf 32 sX6_placeOf_32 := dc_n3 aX6_placeOf_29
theorem aX6_placeOf_35 : dc_at cX6_placeOf 35 sX6_placeOf_35 := dc_n3 aX6_placeOf_32
theorem aX6_placeOf_36 : dc_at cX6_placeOf 36 sX6_placeOf_36 := dc_n1 aX6_placeOf_35
theorem dX6_placeOf_0 : decode cX6_placeOf 0 = .ok (.iconst 0, 1) := dc_3 aX6_placeOf_0
theorem dX6_placeOf_1 : decode cX6_placeOf 1 = .ok (.istore_n 3, 1) := dc_62 aX6_placeOf_1
theorem dX6_placeOf_2 : decode cX6_placeOf 2 = .ok (.iload_n 3, 1) := dc_29 aX6_placeOf_2
theorem dX6_placeOf_3 : decode cX6_placeOf 3 = .ok (.aload_n 0, 1) := dc_42 aX6_placeOf_3
theorem dX6_placeOf_4 : decode cX6_placeOf 4 = .ok (.getfield 15, 3) := dc_180 (a0 := 0) (b0 := 15) aX6_placeOf_4
theorem dX6_placeOf_7 : decode cX6_placeOf 7 = .ok (.iload_n 1, 1) := dc_27 aX6_placeOf_7
theorem dX6_placeOf_8 : decode cX6_placeOf 8 = .ok (.iaload, 1) := dc_46 aX6_placeOf_8
theorem dX6_placeOf_9 : decode cX6_placeOf 9 = .ok (.if_icmp .ge 26, 3) := dc_162 (a0 := 0) (b0 := 26) aX6_placeOf_9 (by decide)
theorem dX6_placeOf_12 : decode cX6_placeOf 12 = .ok (.aload_n 0, 1) := dc_42 aX6_placeOf_12
theorem dX6_placeOf_13 : decode cX6_placeOf 13 = .ok (.getfield 9, 3) := dc_180 (a0 := 0) (b0 := 9) aX6_placeOf_13
theorem dX6_placeOf_16 : decode cX6_placeOf 16 = .ok (.bipush 20, 2) := dc_16 (a0 := 20) aX6_placeOf_16 (by decide)
theorem dX6_placeOf_18 : decode cX6_placeOf 18 = .ok (.iload_n 1, 1) := dc_27 aX6_placeOf_18
theorem dX6_placeOf_19 : decode cX6_placeOf 19 = .ok (.imul, 1) := dc_104 aX6_placeOf_19
theorem dX6_placeOf_20 : decode cX6_placeOf 20 = .ok (.iload_n 3, 1) := dc_29 aX6_placeOf_20
theorem dX6_placeOf_21 : decode cX6_placeOf 21 = .ok (.iadd, 1) := dc_96 aX6_placeOf_21
theorem dX6_placeOf_22 : decode cX6_placeOf 22 = .ok (.iaload, 1) := dc_46 aX6_placeOf_22
theorem dX6_placeOf_23 : decode cX6_placeOf 23 = .ok (.iload_n 2, 1) := dc_28 aX6_placeOf_23
theorem dX6_placeOf_24 : decode cX6_placeOf 24 = .ok (.if_icmp .ne 5, 3) := dc_160 (a0 := 0) (b0 := 5) aX6_placeOf_24 (by decide)
theorem dX6_placeOf_27 : decode cX6_placeOf 27 = .ok (.iload_n 3, 1) := dc_29 aX6_placeOf_27
theorem dX6_placeOf_28 : decode cX6_placeOf 28 = .ok (.ireturn, 1) := dc_172 aX6_placeOf_28
theorem dX6_placeOf_29 : decode cX6_placeOf 29 = .ok (.iinc 3 1, 3) := dc_132 (a0 := 3) (a1 := 1) aX6_placeOf_29 (by decide)
theorem dX6_placeOf_32 : decode cX6_placeOf 32 = .ok (.goto (-30), 3) := dc_167 (a0 := 255) (b0 := 226) aX6_placeOf_32 (by decide)
theorem dX6_placeOf_35 : decode cX6_placeOf 35 = .ok (.iconst (-1), 1) := dc_2 aX6_placeOf_35
theorem dX6_placeOf_36 : decode cX6_placeOf 36 = .ok (.ireturn, 1) := dc_172 aX6_placeOf_36
set_option maxRecDepth 20000 in
theorem ggX6_setPlaces_X6_placeOf : GoodIn wsX6_setPlaces wsX6_placeOf := goodIn_k _ [[8], [1, 0, 6, 0, 0, 0]] (by rfl) (by decide +kernel)
set_option maxRecDepth 20000 in
theorem gX6_setPlaces_X6_placeOf : GoodIn wsX6_setPlaces (wsV RX6 24 RX6 yX6_placeOf wsX6_placeOf) := goodIn_app (goodIn_of _ (by decide +kernel)) ggX6_setPlaces_X6_placeOf
noncomputable def sX6_setPlaces_59 : List Nat := 172 :: []
noncomputable def sX6_setPlaces_58 : List Nat := 29 :: sX6_setPlaces_59
noncomputable def sX6_setPlaces_55 : List Nat := 167 :: 255 :: 206 :: sX6_setPlaces_58
noncomputable def sX6_setPlaces_52 : List Nat := 132 :: 4 :: 1 :: sX6_setPlaces_55
noncomputable def sX6_setPlaces_49 : List Nat := 132 :: 3 :: 1 :: sX6_setPlaces_52
noncomputable def sX6_setPlaces_48 : List Nat := 79 :: sX6_setPlaces_49
noncomputable def sX6_setPlaces_46 : List Nat := 21 :: 5 :: sX6_setPlaces_48
noncomputable def sX6_setPlaces_45 : List Nat := 29 :: sX6_setPlaces_46
noncomputable def sX6_setPlaces_42 : List Nat := 180 :: 0 :: 18 :: sX6_setPlaces_45
noncomputable def sX6_setPlaces_41 : List Nat := 42 :: sX6_setPlaces_42
noncomputable def sX6_setPlaces_38 : List Nat := 159 :: 0 :: 14 :: sX6_setPlaces_41
noncomputable def sX6_setPlaces_37 : List Nat := 2 :: sX6_setPlaces_38
noncomputable def sX6_setPlaces_35 : List Nat := 21 :: 5 :: sX6_setPlaces_37
noncomputable def sX6_setPlaces_33 : List Nat := 54 :: 5 :: sX6_setPlaces_35
noncomputable def sX6_setPlaces_30 : List Nat := 182 :: 0 :: 24 :: sX6_setPlaces_33
noncomputable def sX6_setPlaces_29 : List Nat := 46 :: sX6_setPlaces_30
noncomputable def sX6_setPlaces_28 : List Nat := 96 :: sX6_setPlaces_29
noncomputable def sX6_setPlaces_26 : List Nat := 21 :: 4 :: sX6_setPlaces_28
noncomputable def sX6_setPlaces_25 : List Nat := 104 :: sX6_setPlaces_26
noncomputable def sX6_setPlaces_24 : List Nat := 27 :: sX6_setPlaces_25
noncomputable def sX6_setPlaces_22 : List Nat := 16 :: 20 :: sX6_setPlaces_24
noncomputable def sX6_setPlaces_19 : List Nat := 180 :: 0 :: 9 :: sX6_setPlaces_22
noncomputable def sX6_setPlaces_18 : List Nat := 42 :: sX6_setPlaces_19
noncomputable def sX6_setPlaces_17 : List Nat := 28 :: sX6_setPlaces_18
noncomputable def sX6_setPlaces_16 : List Nat := 42 :: sX6_setPlaces_17
noncomputable def sX6_setPlaces_13 : List Nat := 162 :: 0 :: 45 :: sX6_setPlaces_16
noncomputable def sX6_setPlaces_12 : List Nat := 46 :: sX6_setPlaces_13
noncomputable def sX6_setPlaces_11 : List Nat := 27 :: sX6_setPlaces_12
noncomputable def sX6_setPlaces_8 : List Nat := 180 :: 0 :: 15 :: sX6_setPlaces_11
noncomputable def sX6_setPlaces_7 : List Nat := 42 :: sX6_setPlaces_8
noncomputable def sX6_setPlaces_5 : List Nat := 21 :: 4 :: sX6_setPlaces_7
noncomputable def sX6_setPlaces_3 : List Nat := 54 :: 4 :: sX6_setPlaces_5
noncomputable def sX6_setPlaces_2 : List Nat := 3 :: sX6_setPlaces_3
noncomputable def sX6_setPlaces_1 : List Nat := 62 :: sX6_setPlaces_2
noncomputable def sX6_setPlaces_0 : List Nat := 3 :: sX6_setPlaces_1
theorem aX6_setPlaces_0 : dc_at cX6_setPlaces 0 sX6_setPlaces_0 := dc_base (by decide +kernel)
theorem aX6_setPlaces_1 : dc_at cX6_setPlaces 1 sX6_setPlaces_1 := dc_n1 aX6_setPlaces_0
theorem aX6_setPlaces_2 : dc_at cX6_setPlaces 2 sX6_setPlaces_2 := dc_n1 aX6_setPlaces_1
theorem aX6_setPlaces_3 : dc_at cX6_setPlaces 3 sX6_setPlaces_3 := dc_n1 aX6_setPlaces_2
theorem aX6_setPlaces_5 : dc_at cX6_setPlaces 5 sX6_setPlaces_5 := dc_n2 aX6_setPlaces_3
theorem aX6_setPlaces_7 : dc_at cX6_setPlaces 7 sX6_setPlaces_7 := dc_n2 aX6_setPlaces_5
theorem aX6_setPlaces_8 : dc_at cX6_setPlaces 8 sX6_setPlaces_8 := dc_n1 aX6_setPlaces_7
theorem aX6_setPlaces_11 : dc_at cX6_setPlaces 11 sX6_setPlaces_11 := dc_n3 aX6_setPlaces_8
theorem aX6_setPlaces_12 : dc_at cX6_setPlaces 12 sX6_setPlaces_12 := dc_n1 aX6_setPlaces_11
theorem aX6_setPlaces_13 : dc_at cX6_setPlaces 13 sX6_setPlaces_13 := dc_n1 aX6_setPlaces_12
theorem aX6_setPlaces_16 : dc_at cX6_setPlaces 16 sX6_setPlaces_16 := dc_n3 aX6_setPlaces_13
theorem aX6_setPlaces_17 : dc_at cX6_setPlaces 17 sX6_setPlaces_17 := dc_n1 aX6_setPlaces_16
theorem aX6_setPlaces_18 : dc_at cX6_setPlaces 18 sX6_setPlaces_18 := dc_n1 aX6_setPlaces_17
theorem aX6_setPlaces_19 : dc_at cX6_setPlaces 19 sX6_setPlaces_19 := dc_n1 aX6_setPlaces_18
theorem aX6_setPlaces_22 : dc_at cX6_setPlaces 22 sX6_setPlaces_22 := dc_n3 aX6_setPlaces_19
theorem aX6_setPlaces_24 : dc_at cX6_setPlaces 24 sX6_setPlaces_24 := dc_n2 aX6_setPlaces_22
theorem aX6_setPlaces_25 : dc_at cX6_setPlaces 25 sX6_setPlaces_25 := dc_n1 aX6_setPlaces_24
theorem aX6_setPlaces_26 : dc_at cX6_setPlaces 26 sX6_setPlaces_26 := dc_n1 aX6_setPlaces_25
theorem aX6_setPlaces_28 : dc_at cX6_setPlaces 28 sX6_setPlaces_28 := dc_n2 aX6_setPlaces_26
theorem aX6_setPlaces_29 : dc_at cX6_setPlaces 29 sX6_setPlaces_29 := dc_n1 aX6_setPlaces_28
theorem aX6_setPlaces_30 : dc_at cX6_setPlaces 30 sX6_setPlaces_30 := dc_n1 aX6_setPlaces_29
theorem aX6_setPlaces_33 : dc_at cX6_setPlaces 33 sX6_setPlaces_33 := dc_n3 aX6_setPlaces_30
theorem aX6_setPlaces_35 : dc_at cX6_setPlaces 35 sX6_setPlaces_35 := dc_n2 aX6_setPlaces_33
theorem aX6_setPlaces_37 : dc_at cX6_setPlaces 37 sX6_setPlaces_37 := dc_n2 aX6_setPlaces_35
theorem aX6_setPlaces_38 : dc_at cX6_setPlaces 38 sX6_setPlaces_38 := dc_n1 aX6_setPlaces_37
theorem aX6_setPlaces_41 : dc_at cX6_setPlaces 41 sX6_setPlaces_41 := dc_n3 aX6_setPlaces_38
theorem aX6_setPlaces_42 : dc_at cX6_setPlaces 42 sX6_setPlaces_42 := dc_n1 aX6_setPlaces_41
theorem aX6_setPlaces_45 : dc_at cX6_setPlaces 45 sX6_setPlaces_45 := dc_n3 aX6_setPlaces_42
theorem aX6_setPlaces_46 : dc_at cX6_setPlaces 46 sX6_setPlaces_46 := dc_n1 aX6_setPlaces_45
theorem aX6_setPlaces_48 : dc_at cX6_setPlaces 48 sX6_setPlaces_48 := dc_n2 aX6_setPlaces_46
theorem aX6_setPlaces_49 : dc_at cX6_setPlaces 49 sX6_setPlaces_49 := dc_n1 aX6_setPlaces_48
theorem aX6_setPlaces_52 : dc_at cX6_setPlaces 52 sX6_setPlaces_52 := dc_n3 aX6_setPlaces_49
theorem aX6_setPlaces_55 : dc_at cX6_setPlaces 55 sX6_setPlaces_55 := dc_n3 aX6_setPlaces_52
theorem aX6_setPlaces_58 : dc_at cX6_setPlaces 58 sX6_setPlaces_58 := dc_n3 aX6_setPlaces_55
theorem aX6_setPlaces_59 : dc_at cX6_setPlaces 59 sX6_setPlaces_59 := dc_n1 aX6_setPlaces_58
theorem dX6_setPlaces_0 : decode cX6_setPlaces 0 = .ok (.iconst 0, 1) := dc_3 aX6_setPlaces_0
theorem dX6_setPlaces_1 : decode cX6_setPlaces 1 = .ok (.istore_n 3, 1) := dc_62 aX6_setPlaces_1
theorem dX6_setPlaces_2 : decode cX6_setPlaces 2 = .ok (.iconst 0, 1) := dc_3 aX6_setPlaces_2
theorem dX6_setPlaces_3 : decode cX6_setPlaces 3 = .ok (.istore 4, 2) := dc_54 (a0 := 4) aX6_setPlaces_3
theorem dX6_setPlaces_5 : decode cX6_setPlaces 5 = .ok (.iload 4, 2) := dc_21 (a0 := 4) aX6_setPlaces_5
theorem dX6_setPlaces_7 : decode cX6_setPlaces 7 = .ok (.aload_n 0, 1) := dc_42 aX6_setPlaces_7
theorem dX6_setPlaces_8 : decode cX6_setPlaces 8 = .ok (.getfield 15, 3) := dc_180 (a0 := 0) (b0 := 15) aX6_setPlaces_8
theorem dX6_setPlaces_11 : decode cX6_setPlaces 11 = .ok (.iload_n 1, 1) := dc_27 aX6_setPlaces_11
theorem dX6_setPlaces_12 : decode cX6_setPlaces 12 = .ok (.iaload, 1) := dc_46 aX6_setPlaces_12
theorem dX6_setPlaces_13 : decode cX6_setPlaces 13 = .ok (.if_icmp .ge 45, 3) := dc_162 (a0 := 0) (b0 := 45) aX6_setPlaces_13 (by decide)
theorem dX6_setPlaces_16 : decode cX6_setPlaces 16 = .ok (.aload_n 0, 1) := dc_42 aX6_setPlaces_16
theorem dX6_setPlaces_17 : decode cX6_setPlaces 17 = .ok (.iload_n 2, 1) := dc_28 aX6_setPlaces_17
theorem dX6_setPlaces_18 : decode cX6_setPlaces 18 = .ok (.aload_n 0, 1) := dc_42 aX6_setPlaces_18
theorem dX6_setPlaces_19 : decode cX6_setPlaces 19 = .ok (.getfield 9, 3) := dc_180 (a0 := 0) (b0 := 9) aX6_setPlaces_19
theorem dX6_setPlaces_22 : decode cX6_setPlaces 22 = .ok (.bipush 20, 2) := dc_16 (a0 := 20) aX6_setPlaces_22 (by decide)
theorem dX6_setPlaces_24 : decode cX6_setPlaces 24 = .ok (.iload_n 1, 1) := dc_27 aX6_setPlaces_24
theorem dX6_setPlaces_25 : decode cX6_setPlaces 25 = .ok (.imul, 1) := dc_104 aX6_setPlaces_25
theorem dX6_setPlaces_26 : decode cX6_setPlaces 26 = .ok (.iload 4, 2) := dc_21 (a0 := 4) aX6_setPlaces_26
theorem dX6_setPlaces_28 : decode cX6_setPlaces 28 = .ok (.iadd, 1) := dc_96 aX6_setPlaces_28
theorem dX6_setPlaces_29 : decode cX6_setPlaces 29 = .ok (.iaload, 1) := dc_46 aX6_setPlaces_29
theorem dX6_setPlaces_30 : decode cX6_setPlaces 30 = .ok (.invokevirtual 24, 3) := dc_182 (a0 := 0) (b0 := 24) aX6_setPlaces_30
theorem dX6_setPlaces_33 : decode cX6_setPlaces 33 = .ok (.istore 5, 2) := dc_54 (a0 := 5) aX6_setPlaces_33
theorem dX6_setPlaces_35 : decode cX6_setPlaces 35 = .ok (.iload 5, 2) := dc_21 (a0 := 5) aX6_setPlaces_35
theorem dX6_setPlaces_37 : decode cX6_setPlaces 37 = .ok (.iconst (-1), 1) := dc_2 aX6_setPlaces_37
theorem dX6_setPlaces_38 : decode cX6_setPlaces 38 = .ok (.if_icmp .eq 14, 3) := dc_159 (a0 := 0) (b0 := 14) aX6_setPlaces_38 (by decide)
theorem dX6_setPlaces_41 : decode cX6_setPlaces 41 = .ok (.aload_n 0, 1) := dc_42 aX6_setPlaces_41
theorem dX6_setPlaces_42 : decode cX6_setPlaces 42 = .ok (.getfield 18, 3) := dc_180 (a0 := 0) (b0 := 18) aX6_setPlaces_42
theorem dX6_setPlaces_45 : decode cX6_setPlaces 45 = .ok (.iload_n 3, 1) := dc_29 aX6_setPlaces_45
theorem dX6_setPlaces_46 : decode cX6_setPlaces 46 = .ok (.iload 5, 2) := dc_21 (a0 := 5) aX6_setPlaces_46
theorem dX6_setPlaces_48 : decode cX6_setPlaces 48 = .ok (.iastore, 1) := dc_79 aX6_setPlaces_48
theorem dX6_setPlaces_49 : decode cX6_setPlaces 49 = .ok (.iinc 3 1, 3) := dc_132 (a0 := 3) (a1 := 1) aX6_setPlaces_49 (by decide)
theorem dX6_setPlaces_52 : decode cX6_setPlaces 52 = .ok (.iinc 4 1, 3) := dc_132 (a0 := 4) (a1 := 1) aX6_setPlaces_52 (by decide)
theorem dX6_setPlaces_55 : decode cX6_setPlaces 55 = .ok (.goto (-50), 3) := dc_167 (a0 := 255) (b0 := 206) aX6_setPlaces_55 (by decide)
theorem dX6_setPlaces_58 : decode cX6_setPlaces 58 = .ok (.iload_n 3, 1) := dc_29 aX6_setPlaces_58
theorem dX6_setPlaces_59 : decode cX6_setPlaces 59 = .ok (.ireturn, 1) := dc_172 aX6_setPlaces_59
set_option maxRecDepth 20000 in
theorem ggX6_howManyInOrder_X6_setPlaces : GoodIn wsX6_howManyInOrder wsX6_setPlaces := goodIn_k _ [[11, 0, 0], [2, 11, 0, 0], [10, 6, 0, 0, 0, 0]] (by rfl) (by decide +kernel)
set_option maxRecDepth 20000 in
theorem gX6_howManyInOrder_X6_setPlaces : GoodIn wsX6_howManyInOrder (wsV RX6 28 RX6 yX6_setPlaces wsX6_setPlaces) := goodIn_app (goodIn_of _ (by decide +kernel)) ggX6_howManyInOrder_X6_setPlaces
noncomputable def sX6_howManyInOrder_108 : List Nat := 172 :: []
noncomputable def sX6_howManyInOrder_106 : List Nat := 21 :: 4 :: sX6_howManyInOrder_108
noncomputable def sX6_howManyInOrder_103 : List Nat := 167 :: 255 :: 166 :: sX6_howManyInOrder_106
noncomputable def sX6_howManyInOrder_100 : List Nat := 132 :: 5 :: 1 :: sX6_howManyInOrder_103
noncomputable def sX6_howManyInOrder_98 : List Nat := 54 :: 4 :: sX6_howManyInOrder_100
noncomputable def sX6_howManyInOrder_95 : List Nat := 184 :: 0 :: 31 :: sX6_howManyInOrder_98
noncomputable def sX6_howManyInOrder_94 : List Nat := 46 :: sX6_howManyInOrder_95
noncomputable def sX6_howManyInOrder_92 : List Nat := 21 :: 5 :: sX6_howManyInOrder_94
noncomputable def sX6_howManyInOrder_89 : List Nat := 180 :: 0 :: 21 :: sX6_howManyInOrder_92
noncomputable def sX6_howManyInOrder_88 : List Nat := 42 :: sX6_howManyInOrder_89
noncomputable def sX6_howManyInOrder_86 : List Nat := 21 :: 4 :: sX6_howManyInOrder_88
noncomputable def sX6_howManyInOrder_83 : List Nat := 167 :: 255 :: 203 :: sX6_howManyInOrder_86
noncomputable def sX6_howManyInOrder_80 : List Nat := 132 :: 6 :: 1 :: sX6_howManyInOrder_83
noncomputable def sX6_howManyInOrder_79 : List Nat := 79 :: sX6_howManyInOrder_80
noncomputable def sX6_howManyInOrder_76 : List Nat := 184 :: 0 :: 31 :: sX6_howManyInOrder_79
noncomputable def sX6_howManyInOrder_75 : List Nat := 96 :: sX6_howManyInOrder_76
noncomputable def sX6_howManyInOrder_74 : List Nat := 4 :: sX6_howManyInOrder_75
noncomputable def sX6_howManyInOrder_73 : List Nat := 46 :: sX6_howManyInOrder_74
noncomputable def sX6_howManyInOrder_71 : List Nat := 21 :: 6 :: sX6_howManyInOrder_73
noncomputable def sX6_howManyInOrder_68 : List Nat := 180 :: 0 :: 21 :: sX6_howManyInOrder_71
noncomputable def sX6_howManyInOrder_67 : List Nat := 42 :: sX6_howManyInOrder_68
noncomputable def sX6_howManyInOrder_66 : List Nat := 46 :: sX6_howManyInOrder_67
noncomputable def sX6_howManyInOrder_64 : List Nat := 21 :: 5 :: sX6_howManyInOrder_66
noncomputable def sX6_howManyInOrder_61 : List Nat := 180 :: 0 :: 21 :: sX6_howManyInOrder_64
noncomputable def sX6_howManyInOrder_60 : List Nat := 42 :: sX6_howManyInOrder_61
noncomputable def sX6_howManyInOrder_58 : List Nat := 21 :: 5 :: sX6_howManyInOrder_60
noncomputable def sX6_howManyInOrder_55 : List Nat := 180 :: 0 :: 21 :: sX6_howManyInOrder_58
noncomputable def sX6_howManyInOrder_54 : List Nat := 42 :: sX6_howManyInOrder_55
noncomputable def sX6_howManyInOrder_51 : List Nat := 162 :: 0 :: 29 :: sX6_howManyInOrder_54
noncomputable def sX6_howManyInOrder_50 : List Nat := 46 :: sX6_howManyInOrder_51
noncomputable def sX6_howManyInOrder_48 : List Nat := 21 :: 5 :: sX6_howManyInOrder_50
noncomputable def sX6_howManyInOrder_45 : List Nat := 180 :: 0 :: 18 :: sX6_howManyInOrder_48
noncomputable def sX6_howManyInOrder_44 : List Nat := 42 :: sX6_howManyInOrder_45
noncomputable def sX6_howManyInOrder_43 : List Nat := 46 :: sX6_howManyInOrder_44
noncomputable def sX6_howManyInOrder_41 : List Nat := 21 :: 6 :: sX6_howManyInOrder_43
noncomputable def sX6_howManyInOrder_38 : List Nat := 180 :: 0 :: 18 :: sX6_howManyInOrder_41
noncomputable def sX6_howManyInOrder_37 : List Nat := 42 :: sX6_howManyInOrder_38
noncomputable def sX6_howManyInOrder_34 : List Nat := 162 :: 0 :: 52 :: sX6_howManyInOrder_37
noncomputable def sX6_howManyInOrder_32 : List Nat := 21 :: 5 :: sX6_howManyInOrder_34
noncomputable def sX6_howManyInOrder_30 : List Nat := 21 :: 6 :: sX6_howManyInOrder_32
noncomputable def sX6_howManyInOrder_28 : List Nat := 54 :: 6 :: sX6_howManyInOrder_30
noncomputable def sX6_howManyInOrder_27 : List Nat := 3 :: sX6_howManyInOrder_28
noncomputable def sX6_howManyInOrder_26 : List Nat := 79 :: sX6_howManyInOrder_27
noncomputable def sX6_howManyInOrder_25 : List Nat := 4 :: sX6_howManyInOrder_26
noncomputable def sX6_howManyInOrder_23 : List Nat := 21 :: 5 :: sX6_howManyInOrder_25
noncomputable def sX6_howManyInOrder_20 : List Nat := 180 :: 0 :: 21 :: sX6_howManyInOrder_23
noncomputable def sX6_howManyInOrder_19 : List Nat := 42 :: sX6_howManyInOrder_20
noncomputable def sX6_howManyInOrder_16 : List Nat := 162 :: 0 :: 90 :: sX6_howManyInOrder_19
noncomputable def sX6_howManyInOrder_15 : List Nat := 29 :: sX6_howManyInOrder_16
noncomputable def sX6_howManyInOrder_13 : List Nat := 21 :: 5 :: sX6_howManyInOrder_15
noncomputable def sX6_howManyInOrder_11 : List Nat := 54 :: 5 :: sX6_howManyInOrder_13
noncomputable def sX6_howManyInOrder_10 : List Nat := 3 :: sX6_howManyInOrder_11
noncomputable def sX6_howManyInOrder_8 : List Nat := 54 :: 4 :: sX6_howManyInOrder_10
noncomputable def sX6_howManyInOrder_7 : List Nat := 3 :: sX6_howManyInOrder_8
noncomputable def sX6_howManyInOrder_6 : List Nat := 62 :: sX6_howManyInOrder_7
noncomputable def sX6_howManyInOrder_3 : List Nat := 182 :: 0 :: 28 :: sX6_howManyInOrder_6
noncomputable def sX6_howManyInOrder_2 : List Nat := 28 :: sX6_howManyInOrder_3
noncomputable def sX6_howManyInOrder_1 : List Nat := 27 :: sX6_howManyInOrder_2
noncomputable def sX6_howManyInOrder_0 : List Nat := 42 :: sX6_howManyInOrder_1
theorem aX6_howManyInOrder_0 : dc_at cX6_howManyInOrder 0 sX6_howManyInOrder_0 := dc_base (by decide +kernel)
theorem aX6_howManyInOrder_1 : dc_at cX6_howManyInOrder 1 sX6_howManyInOrder_1 := dc_n1 aX6_howManyInOrder_0
theorem aX6_howManyInOrder_2 : dc_at cX6_howManyInOrder 2 sX6_howManyInOrder_2 := dc_n1 aX6_howManyInOrder_1
theorem aX6_howManyInOrder_3 : dc_at cX6_howManyInOrder 3 sX6_howManyInOrder_3 := dc_n1 aX6_howManyInOrder_2
theorem aX6_howManyInOrder_6 : dc_at cX6_howManyInOrder 6 sX6_howManyInOrder_6 := dc_n3 aX6_howManyInOrder_3
theorem aX6_howManyInOrder_7 : dc_at cX6_howManyInOrder 7 sX6_howManyInOrder_7 := dc_n1 aX6_howManyInOrder_6
theorem aX6_howManyInOrder_8 : dc_at cX6_howManyInOrder 8 sX6_howManyInOrder_8 := dc_n1 aX6_howManyInOrder_7
theorem aX6_howManyInOrder_10 : dc_at cX6_howManyInOrder 10 sX6_howManyInOrder_10 := dc_n2 aX6_howManyInOrder_8
theorem aX6_howManyInOrder_11 : dc_at cX6_howManyInOrder 11 sX6_howManyInOrder_11 := dc_n1 aX6_howManyInOrder_10
theorem aX6_howManyInOrder_13 : dc_at cX6_howManyInOrder 13 sX6_howManyInOrder_13 := dc_n2 aX6_howManyInOrder_11
theorem aX6_howManyInOrder_15 : dc_at cX6_howManyInOrder 15 sX6_howManyInOrder_15 := dc_n2 aX6_howManyInOrder_13
theorem aX6_howManyInOrder_16 : dc_at cX6_howManyInOrder 16 sX6_howManyInOrder_16 := dc_n1 aX6_howManyInOrder_15
theorem aX6_howManyInOrder_19 : dc_at cX6_howManyInOrder 19 sX6_howManyInOrder_19 := dc_n3 aX6_howManyInOrder_16
theorem aX6_howManyInOrder_20 : dc_at cX6_howManyInOrder 20 sX6_howManyInOrder_20 := dc_n1 aX6_howManyInOrder_19
theorem aX6_howManyInOrder_23 : dc_at cX6_howManyInOrder 23 sX6_howManyInOrder_23 := dc_n3 aX6_howManyInOrder_20
theorem aX6_howManyInOrder_25 : dc_at cX6_howManyInOrder 25 sX6_howManyInOrder_25 := dc_n2 aX6_howManyInOrder_23
theorem aX6_howManyInOrder_26 : dc_at cX6_howManyInOrder 26 sX6_howManyInOrder_26 := dc_n1 aX6_howManyInOrder_25
theorem aX6_howManyInOrder_27 : dc_at cX6_howManyInOrder 27 sX6_howManyInOrder_27 := dc_n1 aX6_howManyInOrder_26
theorem aX6_howManyInOrder_28 : dc_at cX6_howManyInOrder 28 sX6_howManyInOrder_28 := dc_n1 aX6_howManyInOrder_27
theorem aX6_howManyInOrder_30 : dc_at cX6_howManyInOrder 30 sX6_howManyInOrder_30 := dc_n2 aX6_howManyInOrder_28
theorem aX6_howManyInOrder_32 : dc_at cX6_howManyInOrder 32 sX6_howManyInOrder_32 := dc_n2 aX6_howManyInOrder_30
theorem aX6_howManyInOrder_34 : dc_at cX6_howManyInOrder 34 sX6_howManyInOrder_34 := dc_n2 aX6_howManyInOrder_32
theorem aX6_howManyInOrder_37 : dc_at cX6_howManyInOrder 37 sX6_howManyInOrder_37 := dc_n3 aX6_howManyInOrder_34
theorem aX6_howManyInOrder_38 : dc_at cX6_howManyInOrder 38 sX6_howManyInOrder_38 := dc_n1 aX6_howManyInOrder_37
theorem aX6_howManyInOrder_41 : dc_at cX6_howManyInOrder 41 sX6_howManyInOrder_41 := dc_n3 aX6_howManyInOrder_38
theorem aX6_howManyInOrder_43 : dc_at cX6_howManyInOrder 43 sX6_howManyInOrder_43 := dc_n2 aX6_howManyInOrder_41
theorem aX6_howManyInOrder_44 : dc_at cX6_howManyInOrder 44 sX6_howManyInOrder_44 := dc_n1 aX6_howManyInOrder_43
theorem aX6_howManyInOrder_45 : dc_at cX6_howManyInOrder 45 sX6_howManyInOrder_45 := dc_n1 aX6_howManyInOrder_44
theorem aX6_howManyInOrder_48 : dc_at cX6_howManyInOrder 48 sX6_howManyInOrder_48 := dc_n3 aX6_howManyInOrder_45
theorem aX6_howManyInOrder_50 : dc_at cX6_howManyInOrder 50 sX6_howManyInOrder_50 := dc_n2 aX6_howManyInOrder_48
theorem aX6_howManyInOrder_51 : dc_at cX6_howManyInOrder 51 sX6_howManyInOrder_51 := dc_n1 aX6_howManyInOrder_50
theorem aX6_howManyInOrder_54 : dc_at cX6_howManyInOrder 54 sX6_howManyInOrder_54 := dc_n3 aX6_howManyInOrder_51
theorem aX6_howManyInOrder_55 : dc_at cX6_howManyInOrder 55 sX6_howManyInOrder_55 := dc_n1 aX6_howManyInOrder_54
theorem aX6_howManyInOrder_58 : dc_at cX6_howManyInOrder 58 sX6_howManyInOrder_58 := dc_n3 aX6_howManyInOrder_55
theorem aX6_howManyInOrder_60 : dc_at cX6_howManyInOrder 60 sX6_howManyInOrder_60 := dc_n2 aX6_howManyInOrder_58
theorem aX6_howManyInOrder_61 : dc_at cX6_howManyInOrder 61 sX6_howManyInOrder_61 := dc_n1 aX6_howManyInOrder_60
theorem aX6_howManyInOrder_64 : dc_at cX6_howManyInOrder 64 sX6_howManyInOrder_64 := dc_n3 aX6_howManyInOrder_61
theorem aX6_howManyInOrder_66 : dc_at cX6_howManyInOrder 66 sX6_howManyInOrder_66 := dc_n2 aX6_howManyInOrder_64
theorem aX6_howManyInOrder_67 : dc_at cX6_howManyInOrder 67 sX6_howManyInOrder_67 := dc_n1 aX6_howManyInOrder_66
theorem aX6_howManyInOrder_68 : dc_at cX6_howManyInOrder 68 sX6_howManyInOrder_68 := dc_n1 aX6_howManyInOrder_67
theorem aX6_howManyInOrder_71 : dc_at cX6_howManyInOrder 71 sX6_howManyInOrder_71 := dc_n3 aX6_howManyInOrder_68
theorem aX6_howManyInOrder_73 : dc_at cX6_howManyInOrder 73 sX6_howManyInOrder_73 := dc_n2 aX6_howManyInOrder_71
theorem aX6_howManyInOrder_74 : dc_at cX6_howManyInOrder 74 sX6_howManyInOrder_74 := dc_n1 aX6_howManyInOrder_73
theorem aX6_howManyInOrder_75 : dc_at cX6_howManyInOrder 75 sX6_howManyInOrder_75 := dc_n1 aX6_howManyInOrder_74
theorem aX6_howManyInOrder_76 : dc_at cX6_howManyInOrder 76 sX6_howManyInOrder_76 := dc_n1 aX6_howManyInOrder_75
theorem aX6_howManyInOrder_79 : dc_at cX6_howManyInOrder 79 sX6_howManyInOrder_79 := dc_n3 aX6_howManyInOrder_76
theorem aX6_howManyInOrder_80 : dc_at cX6_howManyInOrder 80 sX6_howManyInOrder_80 := dc_n1 aX6_howManyInOrder_79
theorem aX6_howManyInOrder_83 : dc_at cX6_howManyInOrder 83 sX6_howManyInOrder_83 := dc_n3 aX6_howManyInOrder_80
theorem aX6_howManyInOrder_86 : dc_at cX6_howManyInOrder 86 sX6_howManyInOrder_86 := dc_n3 aX6_howManyInOrder_83
theorem aX6_howManyInOrder_88 : dc_at cX6_howManyInOrder 88 sX6_howManyInOrder_88 := dc_n2 aX6_howManyInOrder_86
theorem aX6_howManyInOrder_89 : dc_at cX6_howManyInOrder 89 sX6_howManyInOrder_89 := dc_n1 aX6_howManyInOrder_88
theorem aX6_howManyInOrder_92 : dc_at cX6_howManyInOrder 92 sX6_howManyInOrder_92 := dc_n3 aX6_howManyInOrder_89
theorem aX6_howManyInOrder_94 : dc_at cX6_howManyInOrder 94 sX6_howManyInOrder_94 := dc_n2 aX6_howManyInOrder_92
theorem aX6_howManyInOrder_95 : dc_at cX6_howManyInOrder 95 sX6_howManyInOrder_95 := dc_n1 aX6_howManyInOrder_94
theorem aX6_howManyInOrder_98 : dc_at cX6_howManyInOrder 98 sX6_howManyInOrder_98 := dc_n3 aX6_howManyInOrder_95
theorem aX6_howManyInOrder_100 : dc_at cX6_howManyInOrder 100 sX6_howManyInOrder_100 := dc_n2 aX6_howManyInOrder_98
theorem aX6_howManyInOrder_103 : dc_at cX6_howManyInOrder 103 sX6_howManyInOrder_103 := dc_n3 aX6_howManyInOrder_100
theorem aX6_howManyInOrder_106 : dc_at cX6_howManyInOrder 106 sX6_howManyInOrder_106 := dc_n3 aX6_howManyInOrder_103
theorem aX6_howManyInOrder_108 : dc_at cX6_howManyInOrder 108 sX6_howManyInOrder_108 := dc_n2 aX6_howManyInOrder_106
theorem dX6_howManyInOrder_0 : decode cX6_howManyInOrder 0 = .ok (.aload_n 0, 1) := dc_42 aX6_howManyInOrder_0
theorem dX6_howManyInOrder_1 : decode cX6_howManyInOrder 1 = .ok (.iload_n 1, 1) := dc_27 aX6_howManyInOrder_1
theorem dX6_howManyInOrder_2 : decode cX6_howManyInOrder 2 = .ok (.iload_n 2, 1) := dc_28 aX6_howManyInOrder_2
theorem dX6_howManyInOrder_3 : decode cX6_howManyInOrder 3 = .ok (.invokevirtual 28, 3) := dc_182 (a0 := 0) (b0 := 28) aX6_howManyInOrder_3
theorem dX6_howManyInOrder_6 : decode cX6_howManyInOrder 6 = .ok (.istore_n 3, 1) := dc_62 aX6_howManyInOrder_6
theorem dX6_howManyInOrder_7 : decode cX6_howManyInOrder 7 = .ok (.iconst 0, 1) := dc_3 aX6_howManyInOrder_7
theorem dX6_howManyInOrder_8 : decode cX6_howManyInOrder 8 = .ok (.istore 4, 2) := dc_54 (a0 := 4) aX6_howManyInOrder_8
theorem dX6_howManyInOrder_10 : decode cX6_howManyInOrder 10 = .ok (.iconst 0, 1) := dc_3 aX6_howManyInOrder_10
theorem dX6_howManyInOrder_11 : decode cX6_howManyInOrder 11 = .ok (.istore 5, 2) := dc_54 (a0 := 5) aX6_howManyInOrder_11
theorem dX6_howManyInOrder_13 : decode cX6_howManyInOrder 13 = .ok (.iload 5, 2) := dc_21 (a0 := 5) aX6_howManyInOrder_13
theorem dX6_howManyInOrder_15 : decode cX6_howManyInOrder 15 = .ok (.iload_n 3, 1) := dc_29 aX6_howManyInOrder_15
theorem dX6_howManyInOrder_16 : decode cX6_howManyInOrder 16 = .ok (.if_icmp .ge 90, 3) := dc_162 (a0 := 0) (b0 := 90) aX6_howManyInOrder_16 (by decide)
theorem dX6_howManyInOrder_19 : decode cX6_howManyInOrder 19 = .ok (.aload_n 0, 1) := dc_42 aX6_howManyInOrder_19
theorem dX6_howManyInOrder_20 : decode cX6_howManyInOrder 20 = .ok (.getfield 21, 3) := dc_180 (a0 := 0) (b0 := 21) aX6_howManyInOrder_20
theorem dX6_howManyInOrder_23 : decode cX6_howManyInOrder 23 = .ok (.iload 5, 2) := dc_21 (a0 := 5) aX6_howManyInOrder_23
theorem dX6_howManyInOrder_25 : decode cX6_howManyInOrder 25 = .ok (.iconst 1, 1) := dc_4 aX6_howManyInOrder_25
theorem dX6_howManyInOrder_26 : decode cX6_howManyInOrder 26 = .ok (.iastore, 1) := dc_79 aX6_howManyInOrder_26
theorem dX6_howManyInOrder_27 : decode cX6_howManyInOrder 27 = .ok (.iconst 0, 1) := dc_3 aX6_howManyInOrder_27
theorem dX6_howManyInOrder_28 : decode cX6_howManyInOrder 28 = .ok (.istore 6, 2) := dc_54 (a0 := 6) aX6_howManyInOrder_28
theorem dX6_howManyInOrder_30 : decode cX6_howManyInOrder 30 = .ok (.iload 6, 2) := dc_21 (a0 := 6) aX6_howManyInOrder_30
theorem dX6_howManyInOrder_32 : decode cX6_howManyInOrder 32 = .ok (.iload 5, 2) := dc_21 (a0 := 5) aX6_howManyInOrder_32
theorem dX6_howManyInOrder_34 : decode cX6_howManyInOrder 34 = .ok (.if_icmp .ge 52, 3) := dc_162 (a0 := 0) (b0 := 52) aX6_howManyInOrder_34 (by decide)
theorem dX6_howManyInOrder_37 : decode cX6_howManyInOrder 37 = .ok (.aload_n 0, 1) := dc_42 aX6_howManyInOrder_37
theorem dX6_howManyInOrder_38 : decode cX6_howManyInOrder 38 = .ok (.getfield 18, 3) := dc_180 (a0 := 0) (b0 := 18) aX6_howManyInOrder_38
theorem dX6_howManyInOrder_41 : decode cX6_howManyInOrder 41 = .ok (.iload 6, 2) := dc_21 (a0 := 6) aX6_howManyInOrder_41
theorem dX6_howManyInOrder_43 : decode cX6_howManyInOrder 43 = .ok (.iaload, 1) := dc_46 aX6_howManyInOrder_43
theorem dX6_howManyInOrder_44 : decode cX6_howManyInOrder 44 = .ok (.aload_n 0, 1) := dc_42 aX6_howManyInOrder_44
theorem dX6_howManyInOrder_45 : decode cX6_howManyInOrder 45 = .ok (.getfield 18, 3) := dc_180 (a0 := 0) (b0 := 18) aX6_howManyInOrder_45
theorem dX6_howManyInOrder_48 : decode cX6_howManyInOrder 48 = .ok (.iload 5, 2) := dc_21 (a0 := 5) aX6_howManyInOrder_48
theorem dX6_howManyInOrder_50 : decode cX6_howManyInOrder 50 = .ok (.iaload, 1) := dc_46 aX6_howManyInOrder_50
theorem dX6_howManyInOrder_51 : decode cX6_howManyInOrder 51 = .ok (.if_icmp .ge 29, 3) := dc_162 (a0 := 0) (b0 := 29) aX6_howManyInOrder_51 (by decide)
theorem dX6_howManyInOrder_54 : decode cX6_howManyInOrder 54 = .ok (.aload_n 0, 1) := dc_42 aX6_howManyInOrder_54
theorem dX6_howManyInOrder_55 : decode cX6_howManyInOrder 55 = .ok (.getfield 21, 3) := dc_180 (a0 := 0) (b0 := 21) aX6_howManyInOrder_55
theorem dX6_howManyInOrder_58 : decode cX6_howManyInOrder 58 = .ok (.iload 5, 2) := dc_21 (a0 := 5) aX6_howManyInOrder_58
theorem dX6_howManyInOrder_60 : decode cX6_howManyInOrder 60 = .ok (.aload_n 0, 1) := dc_42 aX6_howManyInOrder_60
theorem dX6_howManyInOrder_61 : decode cX6_howManyInOrder 61 = .ok (.getfield 21, 3) := dc_180 (a0 := 0) (b0 := 21) aX6_howManyInOrder_61
theorem dX6_howManyInOrder_64 : decode cX6_howManyInOrder 64 = .ok (.iload 5, 2) := dc_21 (a0 := 5) aX6_howManyInOrder_64
theorem dX6_howManyInOrder_66 : decode cX6_howManyInOrder 66 = .ok (.iaload, 1) := dc_46 aX6_howManyInOrder_66
theorem dX6_howManyInOrder_67 : decode cX6_howManyInOrder 67 = .ok (.aload_n 0, 1) := dc_42 aX6_howManyInOrder_67
theorem dX6_howManyInOrder_68 : decode cX6_howManyInOrder 68 = .ok (.getfield 21, 3) := dc_180 (a0 := 0) (b0 := 21) aX6_howManyInOrder_68
theorem dX6_howManyInOrder_71 : decode cX6_howManyInOrder 71 = .ok (.iload 6, 2) := dc_21 (a0 := 6) aX6_howManyInOrder_71
theorem dX6_howManyInOrder_73 : decode cX6_howManyInOrder 73 = .ok (.iaload, 1) := dc_46 aX6_howManyInOrder_73
theorem dX6_howManyInOrder_74 : decode cX6_howManyInOrder 74 = .ok (.iconst 1, 1) := dc_4 aX6_howManyInOrder_74
theorem dX6_howManyInOrder_75 : decode cX6_howManyInOrder 75 = .ok (.iadd, 1) := dc_96 aX6_howManyInOrder_75
theorem dX6_howManyInOrder_76 : decode cX6_howManyInOrder 76 = .ok (.invokestatic 31, 3) := dc_184 (a0 := 0) (b0 := 31) aX6_howManyInOrder_76
theorem dX6_howManyInOrder_79 : decode cX6_howManyInOrder 79 = .ok (.iastore, 1) := dc_79 aX6_howManyInOrder_79
theorem dX6_howManyInOrder_80 : decode cX6_howManyInOrder 80 = .ok (.iinc 6 1, 3) := dc_132 (a0 := 6) (a1 := 1) aX6_howManyInOrder_80 (by decide)
theorem dX6_howManyInOrder_83 : decode cX6_howManyInOrder 83 = .ok (.goto (-53), 3) := dc_167 (a0 := 255) (b0 := 203) aX6_howManyInOrder_83 (by decide)
theorem dX6_howManyInOrder_86 : decode cX6_howManyInOrder 86 = .ok (.iload 4, 2) := dc_21 (a0 := 4) aX6_howManyInOrder_86
theorem dX6_howManyInOrder_88 : decode cX6_howManyInOrder 88 = .ok (.aload_n 0, 1) := dc_42 aX6_howManyInOrder_88
theorem dX6_howManyInOrder_89 : decode cX6_howManyInOrder 89 = .ok (.getfield 21, 3) := dc_180 (a0 := 0) (b0 := 21) aX6_howManyInOrder_89
theorem dX6_howManyInOrder_92 : decode cX6_howManyInOrder 92 = .ok (.iload 5, 2) := dc_21 (a0 := 5) aX6_howManyInOrder_92
theorem dX6_howManyInOrder_94 : decode cX6_howManyInOrder 94 = .ok (.iaload, 1) := dc_46 aX6_howManyInOrder_94
theorem dX6_howManyInOrder_95 : decode cX6_howManyInOrder 95 = .ok (.invokestatic 31, 3) := dc_184 (a0 := 0) (b0 := 31) aX6_howManyInOrder_95
theorem dX6_howManyInOrder_98 : decode cX6_howManyInOrder 98 = .ok (.istore 4, 2) := dc_54 (a0 := 4) aX6_howManyInOrder_98
theorem dX6_howManyInOrder_100 : decode cX6_howManyInOrder 100 = .ok (.iinc 5 1, 3) := dc_132 (a0 := 5) (a1 := 1) aX6_howManyInOrder_100 (by decide)
theorem dX6_howManyInOrder_103 : decode cX6_howManyInOrder 103 = .ok (.goto (-90), 3) := dc_167 (a0 := 255) (b0 := 166) aX6_howManyInOrder_103 (by decide)
theorem dX6_howManyInOrder_106 : decode cX6_howManyInOrder 106 = .ok (.iload 4, 2) := dc_21 (a0 := 4) aX6_howManyInOrder_106
theorem dX6_howManyInOrder_108 : decode cX6_howManyInOrder 108 = .ok (.ireturn, 1) := dc_172 aX6_howManyInOrder_108
set_option maxRecDepth 20000 in
theorem ggX6_howManyTurned_X6_setPlaces : GoodIn wsX6_howManyTurned wsX6_setPlaces := goodIn_k _ [[6, 0, 0], [1, 7, 0, 0], [5, 6, 0, 0, 0, 0]] (by rfl) (by decide +kernel)
set_option maxRecDepth 20000 in
theorem gX6_howManyTurned_X6_setPlaces : GoodIn wsX6_howManyTurned (wsV RX6 28 RX6 yX6_setPlaces wsX6_setPlaces) := goodIn_app (goodIn_of _ (by decide +kernel)) ggX6_howManyTurned_X6_setPlaces
noncomputable def sX6_howManyTurned_63 : List Nat := 172 :: []
noncomputable def sX6_howManyTurned_61 : List Nat := 21 :: 4 :: sX6_howManyTurned_63
noncomputable def sX6_howManyTurned_58 : List Nat := 167 :: 255 :: 211 :: sX6_howManyTurned_61
noncomputable def sX6_howManyTurned_55 : List Nat := 132 :: 5 :: 1 :: sX6_howManyTurned_58
noncomputable def sX6_howManyTurned_52 : List Nat := 167 :: 255 :: 226 :: sX6_howManyTurned_55
noncomputable def sX6_howManyTurned_49 : List Nat := 132 :: 6 :: 1 :: sX6_howManyTurned_52
noncomputable def sX6_howManyTurned_46 : List Nat := 132 :: 4 :: 1 :: sX6_howManyTurned_49
noncomputable def sX6_howManyTurned_43 : List Nat := 164 :: 0 :: 6 :: sX6_howManyTurned_46
noncomputable def sX6_howManyTurned_42 : List Nat := 46 :: sX6_howManyTurned_43
noncomputable def sX6_howManyTurned_40 : List Nat := 21 :: 5 :: sX6_howManyTurned_42
noncomputable def sX6_howManyTurned_37 : List Nat := 180 :: 0 :: 18 :: sX6_howManyTurned_40
noncomputable def sX6_howManyTurned_36 : List Nat := 42 :: sX6_howManyTurned_37
noncomputable def sX6_howManyTurned_35 : List Nat := 46 :: sX6_howManyTurned_36
noncomputable def sX6_howManyTurned_33 : List Nat := 21 :: 6 :: sX6_howManyTurned_35
noncomputable def sX6_howManyTurned_30 : List Nat := 180 :: 0 :: 18 :: sX6_howManyTurned_33
noncomputable def sX6_howManyTurned_29 : List Nat := 42 :: sX6_howManyTurned_30
noncomputable def sX6_howManyTurned_26 : List Nat := 162 :: 0 :: 29 :: sX6_howManyTurned_29
noncomputable def sX6_howManyTurned_24 : List Nat := 21 :: 5 :: sX6_howManyTurned_26
noncomputable def sX6_howManyTurned_22 : List Nat := 21 :: 6 :: sX6_howManyTurned_24
noncomputable def sX6_howManyTurned_20 : List Nat := 54 :: 6 :: sX6_howManyTurned_22
noncomputable def sX6_howManyTurned_19 : List Nat := 3 :: sX6_howManyTurned_20
noncomputable def sX6_howManyTurned_16 : List Nat := 162 :: 0 :: 45 :: sX6_howManyTurned_19
noncomputable def sX6_howManyTurned_15 : List Nat := 29 :: sX6_howManyTurned_16
noncomputable def sX6_howManyTurned_13 : List Nat := 21 :: 5 :: sX6_howManyTurned_15
noncomputable def sX6_howManyTurned_11 : List Nat := 54 :: 5 :: sX6_howManyTurned_13
noncomputable def sX6_howManyTurned_10 : List Nat := 3 :: sX6_howManyTurned_11
noncomputable def sX6_howManyTurned_8 : List Nat := 54 :: 4 :: sX6_howManyTurned_10
noncomputable def sX6_howManyTurned_7 : List Nat := 3 :: sX6_howManyTurned_8
noncomputable def sX6_howManyTurned_6 : List Nat := 62 :: sX6_howManyTurned_7
noncomputable def sX6_howManyTurned_3 : List Nat := 182 :: 0 :: 28 :: sX6_howManyTurned_6
noncomputable def sX6_howManyTurned_2 : List Nat := 28 :: sX6_howManyTurned_3
noncomputable def sX6_howManyTurned_1 : List Nat := 27 :: sX6_howManyTurned_2
noncomputable def sX6_howManyTurned_0 : List Nat := 42 :: sX6_howManyTurned_1
theorem aX6_howManyTurned_0 : dc_at cX6_howManyTurned 0 sX6_howManyTurned_0 := dc_base (by decide +kernel)
theorem aX6_howManyTurned_1 : dc_at cX6_howManyTurned 1 sX6_howManyTurned_1 := dc_n1 aX6_howManyTurned_0
theorem aX6_howManyTurned_2 : dc_at cX6_howManyTurned 2 sX6_howManyTurned_2 := dc_n1 aX6_howManyTurned_1
theorem aX6_howManyTurned_3 : dc_at cX6_howManyTurned 3 sX6_howManyTurned_3 := dc_n1 aX6_howManyTurned_2
theorem aX6_howManyTurned_6 : dc_at cX6_howManyTurned 6 sX6_howManyTurned_6 := dc_n3 aX6_howManyTurned_3
theorem aX6_howManyTurned_7 : dc_at cX6_howManyTurned 7 sX6_howManyTurned_7 := dc_n1 aX6_howManyTurned_6
theorem aX6_howManyTurned_8 : dc_at cX6_howManyTurned 8 sX6_howManyTurned_8 := dc_n1 aX6_howManyTurned_7
theorem aX6_howManyTurned_10 : dc_at cX6_howManyTurned 10 sX6_howManyTurned_10 := dc_n2 aX6_howManyTurned_8
theorem aX6_howManyTurned_11 : dc_at cX6_howManyTurned 11 sX6_howManyTurned_11 := dc_n1 aX6_howManyTurned_10
theorem aX6_howManyTurned_13 : dc_at cX6_howManyTurned 13 sX6_howManyTurned_13 := dc_n2 aX6_howManyTurned_11
theorem aX6_howManyTurned_15 : dc_at cX6_howManyTurned 15 sX6_howManyTurned_15 := dc_n2 aX6_howManyTurned_13
theorem aX6_howManyTurned_16 : dc_at cX6_howManyTurned 16 sX6_howManyTurned_16 := dc_n1 aX6_howManyTurned_15
theorem aX6_howManyTurned_19 : dc_at cX6_howManyTurned 19 sX6_howManyTurned_19 := dc_n3 aX6_howManyTurned_16
theorem aX6_howManyTurned_20 : dc_at cX6_howManyTurned 20 sX6_howManyTurned_20 := dc_n1 aX6_howManyTurned_19
theorem aX6_howManyTurned_22 : dc_at cX6_howManyTurned 22 sX6_howManyTurned_22 := dc_n2 aX6_howManyTurned_20
theorem aX6_howManyTurned_24 : dc_at cX6_howManyTurned 24 sX6_howManyTurned_24 := dc_n2 aX6_howManyTurned_22
theorem aX6_howManyTurned_26 : dc_at cX6_howManyTurned 26 sX6_howManyTurned_26 := dc_n2 aX6_howManyTurned_24
theorem aX6_howManyTurned_29 : dc_at cX6_howManyTurned 29 sX6_howManyTurned_29 := dc_n3 aX6_howManyTurned_26
theorem aX6_howManyTurned_30 : dc_at cX6_howManyTurned 30 sX6_howManyTurned_30 := dc_n1 aX6_howManyTurned_29
theorem aX6_howManyTurned_33 : dc_at cX6_howManyTurned 33 sX6_howManyTurned_33 := dc_n3 aX6_howManyTurned_30
theorem aX6_howManyTurned_35 : dc_at cX6_howManyTurned 35 sX6_howManyTurned_35 := dc_n2 aX6_howManyTurned_33
theorem aX6_howManyTurned_36 : dc_at cX6_howManyTurned 36 sX6_howManyTurned_36 := dc_n1 aX6_howManyTurned_35
theorem aX6_howManyTurned_37 : dc_at cX6_howManyTurned 37 sX6_howManyTurned_37 := dc_n1 aX6_howManyTurned_36
theorem aX6_howManyTurned_40 : dc_at cX6_howManyTurned 40 sX6_howManyTurned_40 := dc_n3 aX6_howManyTurned_37
theorem aX6_howManyTurned_42 : dc_at cX6_howManyTurned 42 sX6_howManyTurned_42 := dc_n2 aX6_howManyTurned_40
theorem aX6_howManyTurned_43 : dc_at cX6_howManyTurned 43 sX6_howManyTurned_43 := dc_n1 aX6_howManyTurned_42
theorem aX6_howManyTurned_46 : dc_at cX6_howManyTurned 46 sX6_howManyTurned_46 := dc_n3 aX6_howManyTurned_43
theorem aX6_howManyTurned_49 : dc_at cX6_howManyTurned 49 sX6_howManyTurned_49 := dc_n3 aX6_howManyTurned_46
theorem aX6_howManyTurned_52 : dc_at cX6_howManyTurned 52 sX6_howManyTurned_52 := dc_n3 aX6_howManyTurned_49
theorem aX6_howManyTurned_55 : dc_at cX6_howManyTurned 55 sX6_howManyTurned_55 := dc_n3 aX6_howManyTurned_52
theorem aX6_howManyTurned_58 : dc_at cX6_howManyTurned 58 sX6_howManyTurned_58 := dc_n3 aX6_howManyTurned_55
theorem aX6_howManyTurned_61 : dc_at cX6_howManyTurned 61 sX6_howManyTurned_61 := dc_n3 aX6_howManyTurned_58
theorem aX6_howManyTurned_63 : dc_at cX6_howManyTurned 63 sX6_howManyTurned_63 := dc_n2 aX6_howManyTurned_61
theorem dX6_howManyTurned_0 : decode cX6_howManyTurned 0 = .ok (.aload_n 0, 1) := dc_42 aX6_howManyTurned_0
theorem dX6_howManyTurned_1 : decode cX6_howManyTurned 1 = .ok (.iload_n 1, 1) := dc_27 aX6_howManyTurned_1
theorem dX6_howManyTurned_2 : decode cX6_howManyTurned 2 = .ok (.iload_n 2, 1) := dc_28 aX6_howManyTurned_2
theorem dX6_howManyTurned_3 : decode cX6_howManyTurned 3 = .ok (.invokevirtual 28, 3) := dc_182 (a0 := 0) (b0 := 28) aX6_howManyTurned_3
theorem dX6_howManyTurned_6 : decode cX6_howManyTurned 6 = .ok (.istore_n 3, 1) := dc_62 aX6_howManyTurned_6
theorem dX6_howManyTurned_7 : decode cX6_howManyTurned 7 = .ok (.iconst 0, 1) := dc_3 aX6_howManyTurned_7
theorem dX6_howManyTurned_8 : decode cX6_howManyTurned 8 = .ok (.istore 4, 2) := dc_54 (a0 := 4) aX6_howManyTurned_8
theorem dX6_howManyTurned_10 : decode cX6_howManyTurned 10 = .ok (.iconst 0, 1) := dc_3 aX6_howManyTurned_10
theorem dX6_howManyTurned_11 : decode cX6_howManyTurned 11 = .ok (.istore 5, 2) := dc_54 (a0 := 5) aX6_howManyTurned_11
theorem dX6_howManyTurned_13 : decode cX6_howManyTurned 13 = .ok (.iload 5, 2) := dc_21 (a0 := 5) aX6_howManyTurned_13
theorem dX6_howManyTurned_15 : decode cX6_howManyTurned 15 = .ok (.iload_n 3, 1) := dc_29 aX6_howManyTurned_15
theorem dX6_howManyTurned_16 : decode cX6_howManyTurned 16 = .ok (.if_icmp .ge 45, 3) := dc_162 (a0 := 0) (b0 := 45) aX6_howManyTurned_16 (by decide)
theorem dX6_howManyTurned_19 : decode cX6_howManyTurned 19 = .ok (.iconst 0, 1) := dc_3 aX6_howManyTurned_19
theorem dX6_howManyTurned_20 : decode cX6_howManyTurned 20 = .ok (.istore 6, 2) := dc_54 (a0 := 6) aX6_howManyTurned_20
theorem dX6_howManyTurned_22 : decode cX6_howManyTurned 22 = .ok (.iload 6, 2) := dc_21 (a0 := 6) aX6_howManyTurned_22
theorem dX6_howManyTurned_24 : decode cX6_howManyTurned 24 = .ok (.iload 5, 2) := dc_21 (a0 := 5) aX6_howManyTurned_24
theorem dX6_howManyTurned_26 : decode cX6_howManyTurned 26 = .ok (.if_icmp .ge 29, 3) := dc_162 (a0 := 0) (b0 := 29) aX6_howManyTurned_26 (by decide)
theorem dX6_howManyTurned_29 : decode cX6_howManyTurned 29 = .ok (.aload_n 0, 1) := dc_42 aX6_howManyTurned_29
theorem dX6_howManyTurned_30 : decode cX6_howManyTurned 30 = .ok (.getfield 18, 3) := dc_180 (a0 := 0) (b0 := 18) aX6_howManyTurned_30
theorem dX6_howManyTurned_33 : decode cX6_howManyTurned 33 = .ok (.iload 6, 2) := dc_21 (a0 := 6) aX6_howManyTurned_33
theorem dX6_howManyTurned_35 : decode cX6_howManyTurned 35 = .ok (.iaload, 1) := dc_46 aX6_howManyTurned_35
theorem dX6_howManyTurned_36 : decode cX6_howManyTurned 36 = .ok (.aload_n 0, 1) := dc_42 aX6_howManyTurned_36
theorem dX6_howManyTurned_37 : decode cX6_howManyTurned 37 = .ok (.getfield 18, 3) := dc_180 (a0 := 0) (b0 := 18) aX6_howManyTurned_37
theorem dX6_howManyTurned_40 : decode cX6_howManyTurned 40 = .ok (.iload 5, 2) := dc_21 (a0 := 5) aX6_howManyTurned_40
theorem dX6_howManyTurned_42 : decode cX6_howManyTurned 42 = .ok (.iaload, 1) := dc_46 aX6_howManyTurned_42
theorem dX6_howManyTurned_43 : decode cX6_howManyTurned 43 = .ok (.if_icmp .le 6, 3) := dc_164 (a0 := 0) (b0 := 6) aX6_howManyTurned_43 (by decide)
theorem dX6_howManyTurned_46 : decode cX6_howManyTurned 46 = .ok (.iinc 4 1, 3) := dc_132 (a0 := 4) (a1 := 1) aX6_howManyTurned_46 (by decide)
theorem dX6_howManyTurned_49 : decode cX6_howManyTurned 49 = .ok (.iinc 6 1, 3) := dc_132 (a0 := 6) (a1 := 1) aX6_howManyTurned_49 (by decide)
theorem dX6_howManyTurned_52 : decode cX6_howManyTurned 52 = .ok (.goto (-30), 3) := dc_167 (a0 := 255) (b0 := 226) aX6_howManyTurned_52 (by decide)
theorem dX6_howManyTurned_55 : decode cX6_howManyTurned 55 = .ok (.iinc 5 1, 3) := dc_132 (a0 := 5) (a1 := 1) aX6_howManyTurned_55 (by decide)
theorem dX6_howManyTurned_58 : decode cX6_howManyTurned 58 = .ok (.goto (-45), 3) := dc_167 (a0 := 255) (b0 := 211) aX6_howManyTurned_58 (by decide)
theorem dX6_howManyTurned_61 : decode cX6_howManyTurned 61 = .ok (.iload 4, 2) := dc_21 (a0 := 4) aX6_howManyTurned_61
theorem dX6_howManyTurned_63 : decode cX6_howManyTurned 63 = .ok (.ireturn, 1) := dc_172 aX6_howManyTurned_63
set_option maxRecDepth 20000 in
theorem ggX7_init_J7_fill_53178 : GoodIn wsX7_init wsJ7_fill_53178 := goodIn_k _ [[15]] (by rfl) (by decide +kernel)
set_option maxRecDepth 20000 in
theorem gX7_init_J7_fill_53178 : GoodIn wsX7_init (va_wsS RX7 31 yJ7_fill_53178 wsJ7_fill_53178) := goodIn_app (goodIn_of _ (by decide +kernel)) ggX7_init_J7_fill_53178
noncomputable def sX7_init_77 : List Nat := 177 :: []
noncomputable def sX7_init_74 : List Nat := 184 :: 0 :: 31 :: sX7_init_77
noncomputable def sX7_init_73 : List Nat := 2 :: sX7_init_74
noncomputable def sX7_init_70 : List Nat := 180 :: 0 :: 18 :: sX7_init_73
noncomputable def sX7_init_69 : List Nat := 42 :: sX7_init_70
noncomputable def sX7_init_66 : List Nat := 184 :: 0 :: 31 :: sX7_init_69
noncomputable def sX7_init_65 : List Nat := 2 :: sX7_init_66
noncomputable def sX7_init_62 : List Nat := 180 :: 0 :: 15 :: sX7_init_65
noncomputable def sX7_init_61 : List Nat := 42 :: sX7_init_62
noncomputable def sX7_init_58 : List Nat := 184 :: 0 :: 31 :: sX7_init_61
noncomputable def sX7_init_57 : List Nat := 2 :: sX7_init_58
noncomputable def sX7_init_54 : List Nat := 180 :: 0 :: 9 :: sX7_init_57
noncomputable def sX7_init_53 : List Nat := 42 :: sX7_init_54
noncomputable def sX7_init_50 : List Nat := 181 :: 0 :: 28 :: sX7_init_53
noncomputable def sX7_init_48 : List Nat := 188 :: 10 :: sX7_init_50
noncomputable def sX7_init_45 : List Nat := 17 :: 9 :: 0 :: sX7_init_48
noncomputable def sX7_init_44 : List Nat := 42 :: sX7_init_45
noncomputable def sX7_init_41 : List Nat := 181 :: 0 :: 24 :: sX7_init_44
noncomputable def sX7_init_39 : List Nat := 188 :: 4 :: sX7_init_41
noncomputable def sX7_init_37 : List Nat := 16 :: 64 :: sX7_init_39
noncomputable def sX7_init_36 : List Nat := 42 :: sX7_init_37
noncomputable def sX7_init_33 : List Nat := 181 :: 0 :: 21 :: sX7_init_36
noncomputable def sX7_init_31 : List Nat := 188 :: 10 :: sX7_init_33
noncomputable def sX7_init_29 : List Nat := 16 :: 20 :: sX7_init_31
noncomputable def sX7_init_28 : List Nat := 42 :: sX7_init_29
noncomputable def sX7_init_25 : List Nat := 181 :: 0 :: 18 :: sX7_init_28
noncomputable def sX7_init_23 : List Nat := 188 :: 10 :: sX7_init_25
noncomputable def sX7_init_21 : List Nat := 16 :: 20 :: sX7_init_23
noncomputable def sX7_init_20 : List Nat := 42 :: sX7_init_21
noncomputable def sX7_init_17 : List Nat := 181 :: 0 :: 15 :: sX7_init_20
noncomputable def sX7_init_15 : List Nat := 188 :: 10 :: sX7_init_17
noncomputable def sX7_init_13 : List Nat := 16 :: 20 :: sX7_init_15
noncomputable def sX7_init_12 : List Nat := 42 :: sX7_init_13
noncomputable def sX7_init_9 : List Nat := 181 :: 0 :: 9 :: sX7_init_12
noncomputable def sX7_init_7 : List Nat := 188 :: 10 :: sX7_init_9
noncomputable def sX7_init_5 : List Nat := 16 :: 20 :: sX7_init_7
noncomputable def sX7_init_4 : List Nat := 42 :: sX7_init_5
noncomputable def sX7_init_1 : List Nat := 183 :: 0 :: 3 :: sX7_init_4
noncomputable def sX7_init_0 : List Nat := 42 :: sX7_init_1
theorem aX7_init_0 : dc_at cX7_init 0 sX7_init_0 := dc_base (by decide +kernel)
theorem aX7_init_1 : dc_at cX7_init 1 sX7_init_1 := dc_n1 aX7_init_0
theorem aX7_init_4 : dc_at cX7_init 4 sX7_init_4 := dc_n3 aX7_init_1
theorem aX7_init_5 : dc_at cX7_init 5 sX7_init_5 := dc_n1 aX7_init_4
theorem aX7_init_7 : dc_at cX7_init 7 sX7_init_7 := dc_n2 aX7_init_5
theorem aX7_init_9 : dc_at cX7_init 9 sX7_init_9 := dc_n2 aX7_init_7
theorem aX7_init_12 : dc_at cX7_init 12 sX7_init_12 := dc_n3 aX7_init_9
theorem aX7_init_13 : dc_at cX7_init 13 sX7_init_13 := dc_n1 aX7_init_12
theorem aX7_init_15 : dc_at cX7_init 15 sX7_init_15 := dc_n2 aX7_init_13
theorem aX7_init_17 : dc_at cX7_init 17 sX7_init_17 := dc_n2 aX7_init_15
theorem aX7_init_20 : dc_at cX7_init 20 sX7_init_20 := dc_n3 aX7_init_17
theorem aX7_init_21 : dc_at cX7_init 21 sX7_init_21 := dc_n1 aX7_init_20
theorem aX7_init_23 : dc_at cX7_init 23 sX7_init_23 := dc_n2 aX7_init_21
theorem aX7_init_25 : dc_at cX7_init 25 sX7_init_25 := dc_n2 aX7_init_23
theorem aX7_init_28 : dc_at cX7_init 28 sX7_init_28 := dc_n3 aX7_init_25
theorem aX7_init_29 : dc_at cX7_init 29 sX7_init_29 := dc_n1 aX7_init_28
theorem aX7_init_31 : dc_at cX7_init 31 sX7_init_31 := dc_n2 aX7_init_29
theorem aX7_init_33 : dc_at cX7_init 33 sX7_init_33 := dc_n2 aX7_init_31
theorem aX7_init_36 : dc_at cX7_init 36 sX7_init_36 := dc_n3 aX7_init_33
theorem aX7_init_37 : dc_at cX7_init 37 sX7_init_37 := dc_n1 aX7_init_36
theorem aX7_init_39 : dc_at cX7_init 39 sX7_init_39 := dc_n2 aX7_init_37
theorem aX7_init_41 : dc_at cX7_init 41 sX7_init_41 := dc_n2 aX7_init_39
theorem aX7_init_44 : dc_at cX7_init 44 sX7_init_44 := dc_n3 aX7_init_41
theorem aX7_init_45 : dc_at cX7_init 45 sX7_init_45 := dc_n1 aX7_init_44
theorem aX7_init_48 : dc_at cX7_init 48 sX7_init_48 := dc_n3 aX7_init_45
theorem aX7_init_50 : dc_at cX7_init 50 sX7_init_50 := dc_n2 aX7_init_48
theorem aX7_init_53 : dc_at cX7_init 53 sX7_init_53 := dc_n3 aX7_init_50
theorem aX7_init_54 : dc_at cX7_init 54 sX7_init_54 := dc_n1 aX7_init_53
theorem aX7_init_57 : dc_at cX7_init 57 sX7_init_57 := dc_n3 aX7_init_54
theorem aX7_init_58 : dc_at cX7_init 58 sX7_init_58 := dc_n1 aX7_init_57
theorem aX7_init_61 : dc_at cX7_init 61 sX7_init_61 := dc_n3 aX7_init_58
theorem aX7_init_62 : dc_at cX7_init 62 sX7_init_62 := dc_n1 aX7_init_61
theorem aX7_init_65 : dc_at cX7_init 65 sX7_init_65 := dc_n3 aX7_init_62
theorem aX7_init_66 : dc_at cX7_init 66 sX7_init_66 := dc_n1 aX7_init_65
theorem aX7_init_69 : dc_at cX7_init 69 sX7_init_69 := dc_n3 aX7_init_66
theorem aX7_init_70 : dc_at cX7_init 70 sX7_init_70 := dc_n1 aX7_init_69
theorem aX7_init_73 : dc_at cX7_init 73 sX7_init_73 := dc_n3 aX7_init_70
theorem aX7_init_74 : dc_at cX7_init 74 sX7_init_74 := dc_n1 aX7_init_73
theorem aX7_init_77 : dc_at cX7_init 77 sX7_init_77 := dc_n3 aX7_init_74
theorem dX7_init_0 : decode cX7_init 0 = .ok (.aload_n 0, 1) := dc_42 aX7_init_0
theorem dX7_init_1 : decode cX7_init 1 = .ok (.invokespecial 3, 3) := dc_183 (a0 := 0) (b0 := 3) aX7_init_1
theorem dX7_init_4 : decode cX7_init 4 = .ok (.aload_n 0, 1) := dc_42 aX7_init_4
theorem dX7_init_5 : decode cX7_init 5 = .ok (.bipush 20, 2) := dc_16 (a0 := 20) aX7_init_5 (by decide)
theorem dX7_init_7 : decode cX7_init 7 = .ok (.newarray .int, 2) := dc_188_10 aX7_init_7
theorem dX7_init_9 : decode cX7_init 9 = .ok (.putfield 9, 3) := dc_181 (a0 := 0) (b0 := 9) aX7_init_9
theorem dX7_init_12 : decode cX7_init 12 = .ok (.aload_n 0, 1) := dc_42 aX7_init_12
theorem dX7_init_13 : decode cX7_init 13 = .ok (.bipush 20, 2) := dc_16 (a0 := 20) aX7_init_13 (by decide)
theorem dX7_init_15 : decode cX7_init 15 = .ok (.newarray .int, 2) := dc_188_10 aX7_init_15
theorem dX7_init_17 : decode cX7_init 17 = .ok (.putfield 15, 3) := dc_181 (a0 := 0) (b0 := 15) aX7_init_17
theorem dX7_init_20 : decode cX7_init 20 = .ok (.aload_n 0, 1) := dc_42 aX7_init_20
theorem dX7_init_21 : decode cX7_init 21 = .ok (.bipush 20, 2) := dc_16 (a0 := 20) aX7_init_21 (by decide)
theorem dX7_init_23 : decode cX7_init 23 = .ok (.newarray .int, 2) := dc_188_10 aX7_init_23
theorem dX7_init_25 : decode cX7_init 25 = .ok (.putfield 18, 3) := dc_181 (a0 := 0) (b0 := 18) aX7_init_25
theorem dX7_init_28 : decode cX7_init 28 = .ok (.aload_n 0, 1) := dc_42 aX7_init_28
theorem dX7_init_29 : decode cX7_init 29 = .ok (.bipush 20, 2) := dc_16 (a0 := 20) aX7_init_29 (by decide)
theorem dX7_init_31 : decode cX7_init 31 = .ok (.newarray .int, 2) := dc_188_10 aX7_init_31
theorem dX7_init_33 : decode cX7_init 33 = .ok (.putfield 21, 3) := dc_181 (a0 := 0) (b0 := 21) aX7_init_33
theorem dX7_init_36 : decode cX7_init 36 = .ok (.aload_n 0, 1) := dc_42 aX7_init_36
theorem dX7_init_37 : decode cX7_init 37 = .ok (.bipush 64, 2) := dc_16 (a0 := 64) aX7_init_37 (by decide)
theorem dX7_init_39 : decode cX7_init 39 = .ok (.newarray .boolean, 2) := dc_188_4 aX7_init_39
theorem dX7_init_41 : decode cX7_init 41 = .ok (.putfield 24, 3) := dc_181 (a0 := 0) (b0 := 24) aX7_init_41
theorem dX7_init_44 : decode cX7_init 44 = .ok (.aload_n 0, 1) := dc_42 aX7_init_44
theorem dX7_init_45 : decode cX7_init 45 = .ok (.sipush 2304, 3) := dc_17 (a0 := 9) (b0 := 0) aX7_init_45 (by decide)
theorem dX7_init_48 : decode cX7_init 48 = .ok (.newarray .int, 2) := dc_188_10 aX7_init_48
theorem dX7_init_50 : decode cX7_init 50 = .ok (.putfield 28, 3) := dc_181 (a0 := 0) (b0 := 28) aX7_init_50
theorem dX7_init_53 : decode cX7_init 53 = .ok (.aload_n 0, 1) := dc_42 aX7_init_53
theorem dX7_init_54 : decode cX7_init 54 = .ok (.getfield 9, 3) := dc_180 (a0 := 0) (b0 := 9) aX7_init_54
theorem dX7_init_57 : decode cX7_init 57 = .ok (.iconst (-1), 1) := dc_2 aX7_init_57
theorem dX7_init_58 : decode cX7_init 58 = .ok (.invokestatic 31, 3) := dc_184 (a0 := 0) (b0 := 31) aX7_init_58
theorem dX7_init_61 : decode cX7_init 61 = .ok (.aload_n 0, 1) := dc_42 aX7_init_61
theorem dX7_init_62 : decode cX7_init 62 = .ok (.getfield 15, 3) := dc_180 (a0 := 0) (b0 := 15) aX7_init_62
theorem dX7_init_65 : decode cX7_init 65 = .ok (.iconst (-1), 1) := dc_2 aX7_init_65
theorem dX7_init_66 : decode cX7_init 66 = .ok (.invokestatic 31, 3) := dc_184 (a0 := 0) (b0 := 31) aX7_init_66
theorem dX7_init_69 : decode cX7_init 69 = .ok (.aload_n 0, 1) := dc_42 aX7_init_69
theorem dX7_init_70 : decode cX7_init 70 = .ok (.getfield 18, 3) := dc_180 (a0 := 0) (b0 := 18) aX7_init_70
theorem dX7_init_73 : decode cX7_init 73 = .ok (.iconst (-1), 1) := dc_2 aX7_init_73
theorem dX7_init_74 : decode cX7_init 74 = .ok (.invokestatic 31, 3) := dc_184 (a0 := 0) (b0 := 31) aX7_init_74
theorem dX7_init_77 : decode cX7_init 77 = .ok (.return_, 1) := dc_177 aX7_init_77
noncomputable def sX7_tellLife_14 : List Nat := 177 :: []
noncomputable def sX7_tellLife_13 : List Nat := 79 :: sX7_tellLife_14
noncomputable def sX7_tellLife_12 : List Nat := 29 :: sX7_tellLife_13
noncomputable def sX7_tellLife_11 : List Nat := 27 :: sX7_tellLife_12
noncomputable def sX7_tellLife_8 : List Nat := 180 :: 0 :: 15 :: sX7_tellLife_11
noncomputable def sX7_tellLife_7 : List Nat := 42 :: sX7_tellLife_8
noncomputable def sX7_tellLife_6 : List Nat := 79 :: sX7_tellLife_7
noncomputable def sX7_tellLife_5 : List Nat := 28 :: sX7_tellLife_6
noncomputable def sX7_tellLife_4 : List Nat := 27 :: sX7_tellLife_5
noncomputable def sX7_tellLife_1 : List Nat := 180 :: 0 :: 9 :: sX7_tellLife_4
noncomputable def sX7_tellLife_0 : List Nat := 42 :: sX7_tellLife_1
theorem aX7_tellLife_0 : dc_at cX7_tellLife 0 sX7_tellLife_0 := dc_base (by decide +kernel)
theorem aX7_tellLife_1 : dc_at cX7_tellLife 1 sX7_tellLife_1 := dc_n1 aX7_tellLife_0
theorem aX7_tellLife_4 : dc_at cX7_tellLife 4 sX7_tellLife_4 := dc_n3 aX7_tellLife_1
theorem aX7_tellLife_5 : dc_at cX7_tellLife 5 sX7_tellLife_5 := dc_n1 aX7_tellLife_4
theorem aX7_tellLife_6 : dc_at cX7_tellLife 6 sX7_tellLife_6 := dc_n1 aX7_tellLife_5
theorem aX7_tellLife_7 : dc_at cX7_tellLife 7 sX7_tellLife_7 := dc_n1 aX7_tellLife_6
theorem aX7_tellLife_8 : dc_at cX7_tellLife 8 sX7_tellLife_8 := dc_n1 aX7_tellLife_7
theorem aX7_tellLife_11 : dc_at cX7_tellLife 11 sX7_tellLife_11 := dc_n3 aX7_tellLife_8
theorem aX7_tellLife_12 : dc_at cX7_tellLife 12 sX7_tellLife_12 := dc_n1 aX7_tellLife_11
theorem aX7_tellLife_13 : dc_at cX7_tellLife 13 sX7_tellLife_13 := dc_n1 aX7_tellLife_12
theorem aX7_tellLife_14 : dc_at cX7_tellLife 14 sX7_tellLife_14 := dc_n1 aX7_tellLife_13
theorem dX7_tellLife_0 : decode cX7_tellLife 0 = .ok (.aload_n 0, 1) := dc_42 aX7_tellLife_0
theorem dX7_tellLife_1 : decode cX7_tellLife 1 = .ok (.getfield 9, 3) := dc_180 (a0 := 0) (b0 := 9) aX7_tellLife_1
theorem dX7_tellLife_4 : decode cX7_tellLife 4 = .ok (.iload_n 1, 1) := dc_27 aX7_tellLife_4
theorem dX7_tellLife_5 : decode cX7_tellLife 5 = .ok (.iload_n 2, 1) := dc_28 aX7_tellLife_5
theorem dX7_tellLife_6 : decode cX7_tellLife 6 = .ok (.iastore, 1) := dc_79 aX7_tellLife_6
theorem dX7_tellLife_7 : decode cX7_tellLife 7 = .ok (.aload_n 0, 1) := dc_42 aX7_tellLife_7
theorem dX7_tellLife_8 : decode cX7_tellLife 8 = .ok (.getfield 15, 3) := dc_180 (a0 := 0) (b0 := 15) aX7_tellLife_8
theorem dX7_tellLife_11 : decode cX7_tellLife 11 = .ok (.iload_n 1, 1) := dc_27 aX7_tellLife_11
theorem dX7_tellLife_12 : decode cX7_tellLife 12 = .ok (.iload_n 3, 1) := dc_29 aX7_tellLife_12
theorem dX7_tellLife_13 : decode cX7_tellLife 13 = .ok (.iastore, 1) := dc_79 aX7_tellLife_13
theorem dX7_tellLife_14 : decode cX7_tellLife 14 = .ok (.return_, 1) := dc_177 aX7_tellLife_14
noncomputable def sX7_tellFate_7 : List Nat := 177 :: []
noncomputable def sX7_tellFate_6 : List Nat := 79 :: sX7_tellFate_7
noncomputable def sX7_tellFate_5 : List Nat := 28 :: sX7_tellFate_6
noncomputable def sX7_tellFate_4 : List Nat := 27 :: sX7_tellFate_5
noncomputable def sX7_tellFate_1 : List Nat := 180 :: 0 :: 18 :: sX7_tellFate_4
noncomputable def sX7_tellFate_0 : List Nat := 42 :: sX7_tellFate_1
theorem aX7_tellFate_0 : dc_at cX7_tellFate 0 sX7_tellFate_0 := dc_base (by decide +kernel)
theorem aX7_tellFate_1 : dc_at cX7_tellFate 1 sX7_tellFate_1 := dc_n1 aX7_tellFate_0
theorem aX7_tellFate_4 : dc_at cX7_tellFate 4 sX7_tellFate_4 := dc_n3 aX7_tellFate_1
theorem aX7_tellFate_5 : dc_at cX7_tellFate 5 sX7_tellFate_5 := dc_n1 aX7_tellFate_4
theorem aX7_tellFate_6 : dc_at cX7_tellFate 6 sX7_tellFate_6 := dc_n1 aX7_tellFate_5
theorem aX7_tellFate_7 : dc_at cX7_tellFate 7 sX7_tellFate_7 := dc_n1 aX7_tellFate_6
theorem dX7_tellFate_0 : decode cX7_tellFate 0 = .ok (.aload_n 0, 1) := dc_42 aX7_tellFate_0
theorem dX7_tellFate_1 : decode cX7_tellFate 1 = .ok (.getfield 18, 3) := dc_180 (a0 := 0) (b0 := 18) aX7_tellFate_1
theorem dX7_tellFate_4 : decode cX7_tellFate 4 = .ok (.iload_n 1, 1) := dc_27 aX7_tellFate_4
theorem dX7_tellFate_5 : decode cX7_tellFate 5 = .ok (.iload_n 2, 1) := dc_28 aX7_tellFate_5
theorem dX7_tellFate_6 : decode cX7_tellFate 6 = .ok (.iastore, 1) := dc_79 aX7_tellFate_6
theorem dX7_tellFate_7 : decode cX7_tellFate 7 = .ok (.return_, 1) := dc_177 aX7_tellFate_7
noncomputable def sX7_setRows_34 : List Nat := 172 :: []
noncomputable def sX7_setRows_33 : List Nat := 28 :: sX7_setRows_34
noncomputable def sX7_setRows_30 : List Nat := 167 :: 255 :: 230 :: sX7_setRows_33
noncomputable def sX7_setRows_27 : List Nat := 132 :: 3 :: 1 :: sX7_setRows_30
noncomputable def sX7_setRows_24 : List Nat := 132 :: 2 :: 1 :: sX7_setRows_27
noncomputable def sX7_setRows_23 : List Nat := 79 :: sX7_setRows_24
noncomputable def sX7_setRows_22 : List Nat := 29 :: sX7_setRows_23
noncomputable def sX7_setRows_21 : List Nat := 28 :: sX7_setRows_22
noncomputable def sX7_setRows_18 : List Nat := 180 :: 0 :: 21 :: sX7_setRows_21
noncomputable def sX7_setRows_17 : List Nat := 42 :: sX7_setRows_18
noncomputable def sX7_setRows_14 : List Nat := 159 :: 0 :: 13 :: sX7_setRows_17
noncomputable def sX7_setRows_13 : List Nat := 2 :: sX7_setRows_14
noncomputable def sX7_setRows_12 : List Nat := 46 :: sX7_setRows_13
noncomputable def sX7_setRows_11 : List Nat := 29 :: sX7_setRows_12
noncomputable def sX7_setRows_10 : List Nat := 43 :: sX7_setRows_11
noncomputable def sX7_setRows_7 : List Nat := 162 :: 0 :: 26 :: sX7_setRows_10
noncomputable def sX7_setRows_5 : List Nat := 16 :: 20 :: sX7_setRows_7
noncomputable def sX7_setRows_4 : List Nat := 29 :: sX7_setRows_5
noncomputable def sX7_setRows_3 : List Nat := 62 :: sX7_setRows_4
noncomputable def sX7_setRows_2 : List Nat := 3 :: sX7_setRows_3
noncomputable def sX7_setRows_1 : List Nat := 61 :: sX7_setRows_2
noncomputable def sX7_setRows_0 : List Nat := 3 :: sX7_setRows_1
theorem aX7_setRows_0 : dc_at cX7_setRows 0 sX7_setRows_0 := dc_base (by decide +kernel)
theorem aX7_setRows_1 : dc_at cX7_setRows 1 sX7_setRows_1 := dc_n1 aX7_setRows_0
theorem aX7_setRows_2 : dc_at cX7_setRows 2 sX7_setRows_2 := dc_n1 aX7_setRows_1
theorem aX7_setRows_3 : dc_at cX7_setRows 3 sX7_setRows_3 := dc_n1 aX7_setRows_2
theorem aX7_setRows_4 : dc_at cX7_setRows 4 sX7_setRows_4 := dc_n1 aX7_setRows_3
theorem aX7_setRows_5 : dc_at cX7_setRows 5 sX7_setRows_5 := dc_n1 aX7_setRows_4
theorem aX7_setRows_7 : dc_at cX7_setRows 7 sX7_setRows_7 := dc_n2 aX7_setRows_5
theorem aX7_setRows_10 : dc_at cX7_setRows 10 sX7_setRows_10 := dc_n3 aX7_setRows_7
theorem aX7_setRows_11 : dc_at cX7_setRows 11 sX7_setRows_11 := dc_n1 aX7_setRows_10
theorem aX7_setRows_12 : dc_at cX7_setRows 12 sX7_setRows_12 := dc_n1 aX7_setRows_11
theorem aX7_setRows_13 : dc_at cX7_setRows 13 sX7_setRows_13 := dc_n1 aX7_setRows_12
theorem aX7_setRows_14 : dc_at cX7_setRows 14 sX7_setRows_14 := dc_n1 aX7_setRows_13
theorem aX7_setRows_17 : dc_at cX7_setRows 17 sX7_setRows_17 := dc_n3 aX7_setRows_14
theorem aX7_setRows_18 : dc_at cX7_setRows 18 sX7_setRows_18 := dc_n1 aX7_setRows_17
theorem aX7_setRows_21 : dc_at cX7_setRows 21 sX7_setRows_21 := dc_n3 aX7_setRows_18
theorem aX7_setRows_22 : dc_at cX7_setRows 22 sX7_setRows_22 := dc_n1 aX7_setRows_21
theorem aX7_setRows_23 : dc_at cX7_setRows 23 sX7_setRows_23 := dc_n1 aX7_setRows_22
theorem aX7_setRows_24 : dc_at cX7_setRows 24 sX7_setRows_24 := dc_n1 aX7_setRows_23
theorem aX7_setRows_27 : dc_at cX7_setRows 27 sX7_setRows_27 := dc_n3 aX7_setRows_24
theorem aX7_setRows_30 : dc_at cX7_setRows 30 sX7_setRows_30 := dc_n3 aX7_setRows_27
theorem aX7_setRows_33 : dc_at cX7_setRows 33 sX7_setRows_33 := dc_n3 aX7_setRows_30
theorem aX7_setRows_34 : dc_at cX7_setRows 34 sX7_setRows_34 := dc_n1 aX7_setRows_33
theorem dX7_setRows_0 : decode cX7_setRows 0 = .ok (.iconst 0, 1) := dc_3 aX7_setRows_0
theorem dX7_setRows_1 : decode cX7_setRows 1 = .ok (.istore_n 2, 1) := dc_61 aX7_setRows_1
theorem dX7_setRows_2 : decode cX7_setRows 2 = .ok (.iconst 0, 1) := dc_3 aX7_setRows_2
theorem dX7_setRows_3 : decode cX7_setRows 3 = .ok (.istore_n 3, 1) := dc_62 aX7_setRows_3
theorem dX7_setRows_4 : decode cX7_setRows 4 = .ok (.iload_n 3, 1) := dc_29 aX7_setRows_4
theorem dX7_setRows_5 : decode cX7_setRows 5 = .ok (.bipush 20, 2) := dc_16 (a0 := 20) aX7_setRows_5 (by decide)
theorem dX7_setRows_7 : decode cX7_setRows 7 = .ok (.if_icmp .ge 26, 3) := dc_162 (a0 := 0) (b0 := 26) aX7_setRows_7 (by decide)
theorem dX7_setRows_10 : decode cX7_setRows 10 = .ok (.aload_n 1, 1) := dc_43 aX7_setRows_10
theorem dX7_setRows_11 : decode cX7_setRows 11 = .ok (.iload_n 3, 1) := dc_29 aX7_setRows_11
theorem dX7_setRows_12 : decode cX7_setRows 12 = .ok (.iaload, 1) := dc_46 aX7_setRows_12
theorem dX7_setRows_13 : decode cX7_setRows 13 = .ok (.iconst (-1), 1) := dc_2 aX7_setRows_13
theorem dX7_setRows_14 : decode cX7_setRows 14 = .ok (.if_icmp .eq 13, 3) := dc_159 (a0 := 0) (b0 := 13) aX7_setRows_14 (by decide)
theorem dX7_setRows_17 : decode cX7_setRows 17 = .ok (.aload_n 0, 1) := dc_42 aX7_setRows_17
theorem dX7_setRows_18 : decode cX7_setRows 18 = .ok (.getfield 21, 3) := dc_180 (a0 := 0) (b0 := 21) aX7_setRows_18
theorem dX7_setRows_21 : decode cX7_setRows 21 = .ok (.iload_n 2, 1) := dc_28 aX7_setRows_21
theorem dX7_setRows_22 : decode cX7_setRows 22 = .ok (.iload_n 3, 1) := dc_29 aX7_setRows_22
theorem dX7_setRows_23 : decode cX7_setRows 23 = .ok (.iastore, 1) := dc_79 aX7_setRows_23
theorem dX7_setRows_24 : decode cX7_setRows 24 = .ok (.iinc 2 1, 3) := dc_132 (a0 := 2) (a1 := 1) aX7_setRows_24 (by decide)
theorem dX7_setRows_27 : decode cX7_setRows 27 = .ok (.iinc 3 1, 3) := dc_132 (a0 := 3) (a1 := 1) aX7_setRows_27 (by decide)
theorem dX7_setRows_30 : decode cX7_setRows 30 = .ok (.goto (-26), 3) := dc_167 (a0 := 255) (b0 := 230) aX7_setRows_30 (by decide)
theorem dX7_setRows_33 : decode cX7_setRows 33 = .ok (.iload_n 2, 1) := dc_28 aX7_setRows_33
theorem dX7_setRows_34 : decode cX7_setRows 34 = .ok (.ireturn, 1) := dc_172 aX7_setRows_34
set_option maxRecDepth 20000 in
theorem ggX7_howManyLives_X7_setRows : GoodIn wsX7_howManyLives wsX7_setRows := goodIn_k _ [[6, 0, 0, 0, 0, 0, 0, 0]] (by rfl) (by decide +kernel)
set_option maxRecDepth 20000 in
theorem gX7_howManyLives_X7_setRows : GoodIn wsX7_howManyLives (wsV RX7 37 RX7 yX7_setRows wsX7_setRows) := goodIn_app (goodIn_of _ (by decide +kernel)) ggX7_howManyLives_X7_setRows
noncomputable def sX7_howManyLives_8 : List Nat := 172 :: []
noncomputable def sX7_howManyLives_5 : List Nat := 182 :: 0 :: 37 :: sX7_howManyLives_8
noncomputable def sX7_howManyLives_2 : List Nat := 180 :: 0 :: 9 :: sX7_howManyLives_5
noncomputable def sX7_howManyLives_1 : List Nat := 42 :: sX7_howManyLives_2
noncomputable def sX7_howManyLives_0 : List Nat := 42 :: sX7_howManyLives_1
theorem aX7_howManyLives_0 : dc_at cX7_howManyLives 0 sX7_howManyLives_0 := dc_base (by decide +kernel)
theorem aX7_howManyLives_1 : dc_at cX7_howManyLives 1 sX7_howManyLives_1 := dc_n1 aX7_howManyLives_0
theorem aX7_howManyLives_2 : dc_at cX7_howManyLives 2 sX7_howManyLives_2 := dc_n1 aX7_howManyLives_1
theorem aX7_howManyLives_5 : dc_at cX7_howManyLives 5 sX7_howManyLives_5 := dc_n3 aX7_howManyLives_2
theorem aX7_howManyLives_8 : dc_at cX7_howManyLives 8 sX7_howManyLives_8 := dc_n3 aX7_howManyLives_5
theorem dX7_howManyLives_0 : decode cX7_howManyLives 0 = .ok (.aload_n 0, 1) := dc_42 aX7_howManyLives_0
theorem dX7_howManyLives_1 : decode cX7_howManyLives 1 = .ok (.aload_n 0, 1) := dc_42 aX7_howManyLives_1
theorem dX7_howManyLives_2 : decode cX7_howManyLives 2 = .ok (.getfield 9, 3) := dc_180 (a0 := 0) (b0 := 9) aX7_howManyLives_2
theorem dX7_howManyLives_5 : decode cX7_howManyLives 5 = .ok (.invokevirtual 37, 3) := dc_182 (a0 := 0) (b0 := 37) aX7_howManyLives_5
theorem dX7_howManyLives_8 : decode cX7_howManyLives 8 = .ok (.ireturn, 1) := dc_172 aX7_howManyLives_8
set_option maxRecDepth 20000 in
theorem ggX7_howManyFates_X7_setRows : GoodIn wsX7_howManyFates wsX7_setRows := goodIn_k _ [[6, 0, 0, 0, 0, 0, 0, 0]] (by rfl) (by decide +kernel)
set_option maxRecDepth 20000 in
theorem gX7_howManyFates_X7_setRows : GoodIn wsX7_howManyFates (wsV RX7 37 RX7 yX7_setRows wsX7_setRows) := goodIn_app (goodIn_of _ (by decide +kernel)) ggX7_howManyFates_X7_setRows
noncomputable def sX7_howManyFates_8 : List Nat := 172 :: []
noncomputable def sX7_howManyFates_5 : List Nat := 182 :: 0 :: 37 :: sX7_howManyFates_8
noncomputable def sX7_howManyFates_2 : List Nat := 180 :: 0 :: 18 :: sX7_howManyFates_5
noncomputable def sX7_howManyFates_1 : List Nat := 42 :: sX7_howManyFates_2
noncomputable def sX7_howManyFates_0 : List Nat := 42 :: sX7_howManyFates_1
theorem aX7_howManyFates_0 : dc_at cX7_howManyFates 0 sX7_howManyFates_0 := dc_base (by decide +kernel)
theorem aX7_howManyFates_1 : dc_at cX7_howManyFates 1 sX7_howManyFates_1 := dc_n1 aX7_howManyFates_0
theorem aX7_howManyFates_2 : dc_at cX7_howManyFates 2 sX7_howManyFates_2 := dc_n1 aX7_howManyFates_1
theorem aX7_howManyFates_5 : dc_at cX7_howManyFates 5 sX7_howManyFates_5 := dc_n3 aX7_howManyFates_2
theorem aX7_howManyFates_8 : dc_at cX7_howManyFates 8 sX7_howManyFates_8 := dc_n3 aX7_howManyFates_5
theorem dX7_howManyFates_0 : decode cX7_howManyFates 0 = .ok (.aload_n 0, 1) := dc_42 aX7_howManyFates_0
theorem dX7_howManyFates_1 : decode cX7_howManyFates 1 = .ok (.aload_n 0, 1) := dc_42 aX7_howManyFates_1
theorem dX7_howManyFates_2 : decode cX7_howManyFates 2 = .ok (.getfield 18, 3) := dc_180 (a0 := 0) (b0 := 18) aX7_howManyFates_2
theorem dX7_howManyFates_5 : decode cX7_howManyFates 5 = .ok (.invokevirtual 37, 3) := dc_182 (a0 := 0) (b0 := 37) aX7_howManyFates_5
theorem dX7_howManyFates_8 : decode cX7_howManyFates 8 = .ok (.ireturn, 1) := dc_172 aX7_howManyFates_8
noncomputable def sX7_isHit_20 : List Nat := 172 :: []
noncomputable def sX7_isHit_19 : List Nat := 3 :: sX7_isHit_20
noncomputable def sX7_isHit_16 : List Nat := 167 :: 0 :: 4 :: sX7_isHit_19
noncomputable def sX7_isHit_15 : List Nat := 4 :: sX7_isHit_16
noncomputable def sX7_isHit_12 : List Nat := 163 :: 0 :: 7 :: sX7_isHit_15
noncomputable def sX7_isHit_11 : List Nat := 29 :: sX7_isHit_12
noncomputable def sX7_isHit_8 : List Nat := 184 :: 0 :: 41 :: sX7_isHit_11
noncomputable def sX7_isHit_7 : List Nat := 100 :: sX7_isHit_8
noncomputable def sX7_isHit_6 : List Nat := 28 :: sX7_isHit_7
noncomputable def sX7_isHit_5 : List Nat := 46 :: sX7_isHit_6
noncomputable def sX7_isHit_4 : List Nat := 27 :: sX7_isHit_5
noncomputable def sX7_isHit_1 : List Nat := 180 :: 0 :: 9 :: sX7_isHit_4
noncomputable def sX7_isHit_0 : List Nat := 42 :: sX7_isHit_1
theorem aX7_isHit_0 : dc_at cX7_isHit 0 sX7_isHit_0 := dc_base (by decide +kernel)
theorem aX7_isHit_1 : dc_at cX7_isHit 1 sX7_isHit_1 := dc_n1 aX7_isHit_0
theorem aX7_isHit_4 : dc_at cX7_isHit 4 sX7_isHit_4 := dc_n3 aX7_isHit_1
theorem aX7_isHit_5 : dc_at cX7_isHit 5 sX7_isHit_5 := dc_n1 aX7_isHit_4
theorem aX7_isHit_6 : dc_at cX7_isHit 6 sX7_isHit_6 := dc_n1 aX7_isHit_5
theorem aX7_isHit_7 : dc_at cX7_isHit 7 sX7_isHit_7 := dc_n1 aX7_isHit_6
theorem aX7_isHit_8 : dc_at cX7_isHit 8 sX7_isHit_8 := dc_n1 aX7_isHit_7
theorem aX7_isHit_11 : dc_at cX7_isHit 11 sX7_isHit_11 := dc_n3 aX7_isHit_8
theorem aX7_isHit_12 : dc_at cX7_isHit 12 sX7_isHit_12 := dc_n1 aX7_isHit_11
theorem aX7_isHit_15 : dc_at cX7_isHit 15 sX7_isHit_15 := dc_n3 aX7_isHit_12
theorem aX7_isHit_16 : dc_at cX7_isHit 16 sX7_isHit_16 := dc_n1 aX7_isHit_15
theorem aX7_isHit_19 : dc_at cX7_isHit 19 sX7_isHit_19 := dc_n3 aX7_isHit_16
theorem aX7_isHit_20 : dc_at cX7_isHit 20 sX7_isHit_20 := dc_n1 aX7_isHit_19
theorem dX7_isHit_0 : decode cX7_isHit 0 = .ok (.aload_n 0, 1) := dc_42 aX7_isHit_0
theorem dX7_isHit_1 : decode cX7_isHit 1 = .ok (.getfield 9, 3) := dc_180 (a0 := 0) (b0 := 9) aX7_isHit_1
theorem dX7_isHit_4 : decode cX7_isHit 4 = .ok (.iload_n 1, 1) := dc_27 aX7_isHit_4
theorem dX7_isHit_5 : decode cX7_isHit 5 = .ok (.iaload, 1) := dc_46 aX7_isHit_5
theorem dX7_isHit_6 : decode cX7_isHit 6 = .ok (.iload_n 2, 1) := dc_28 aX7_isHit_6
theorem dX7_isHit_7 : decode cX7_isHit 7 = .ok (.isub, 1) := dc_100 aX7_isHit_7
theorem dX7_isHit_8 : decode cX7_isHit 8 = .ok (.invokestatic 41, 3) := dc_184 (a0 := 0) (b0 := 41) aX7_isHit_8
theorem dX7_isHit_11 : decode cX7_isHit 11 = .ok (.iload_n 3, 1) := dc_29 aX7_isHit_11
theorem dX7_isHit_12 : decode cX7_isHit 12 = .ok (.if_icmp .gt 7, 3) := dc_163 (a0 := 0) (b0 := 7) aX7_isHit_12 (by decide)
theorem dX7_isHit_15 : decode cX7_isHit 15 = .ok (.iconst 1, 1) := dc_4 aX7_isHit_15
theorem dX7_isHit_16 : decode cX7_isHit 16 = .ok (.goto 4, 3) := dc_167 (a0 := 0) (b0 := 4) aX7_isHit_16 (by decide)
theorem dX7_isHit_19 : decode cX7_isHit 19 = .ok (.iconst 0, 1) := dc_3 aX7_isHit_19
theorem dX7_isHit_20 : decode cX7_isHit 20 = .ok (.ireturn, 1) := dc_172 aX7_isHit_20
set_option maxRecDepth 20000 in
theorem ggX7_howManyHits_X7_setRows : GoodIn wsX7_howManyHits wsX7_setRows := goodIn_k _ [[8], [2, 14, 0, 0, 0, 0, 0]] (by rfl) (by decide +kernel)
set_option maxRecDepth 20000 in
theorem gX7_howManyHits_X7_setRows : GoodIn wsX7_howManyHits (wsV RX7 37 RX7 yX7_setRows wsX7_setRows) := goodIn_app (goodIn_of _ (by decide +kernel)) ggX7_howManyHits_X7_setRows
set_option maxRecDepth 20000 in
theorem ggX7_howManyHits_X7_isHit : GoodIn wsX7_howManyHits wsX7_isHit := goodIn_k _ [[12], [1, 11, 0, 0, 0, 0, 0, 0, 0, 0, 0]] (by rfl) (by decide +kernel)
set_option maxRecDepth 20000 in
theorem gX7_howManyHits_X7_isHit : GoodIn wsX7_howManyHits (wsV RX7 47 RX7 yX7_isHit wsX7_isHit) := goodIn_app (goodIn_of _ (by decide +kernel)) ggX7_howManyHits_X7_isHit
noncomputable def sX7_howManyHits_57 : List Nat := 172 :: []
noncomputable def sX7_howManyHits_56 : List Nat := 29 :: sX7_howManyHits_57
noncomputable def sX7_howManyHits_53 : List Nat := 167 :: 255 :: 217 :: sX7_howManyHits_56
noncomputable def sX7_howManyHits_50 : List Nat := 132 :: 4 :: 1 :: sX7_howManyHits_53
noncomputable def sX7_howManyHits_47 : List Nat := 132 :: 3 :: 1 :: sX7_howManyHits_50
noncomputable def sX7_howManyHits_44 : List Nat := 153 :: 0 :: 6 :: sX7_howManyHits_47
noncomputable def sX7_howManyHits_41 : List Nat := 182 :: 0 :: 47 :: sX7_howManyHits_44
noncomputable def sX7_howManyHits_40 : List Nat := 27 :: sX7_howManyHits_41
noncomputable def sX7_howManyHits_39 : List Nat := 46 :: sX7_howManyHits_40
noncomputable def sX7_howManyHits_38 : List Nat := 46 :: sX7_howManyHits_39
noncomputable def sX7_howManyHits_36 : List Nat := 21 :: 4 :: sX7_howManyHits_38
noncomputable def sX7_howManyHits_33 : List Nat := 180 :: 0 :: 21 :: sX7_howManyHits_36
noncomputable def sX7_howManyHits_32 : List Nat := 42 :: sX7_howManyHits_33
noncomputable def sX7_howManyHits_29 : List Nat := 180 :: 0 :: 15 :: sX7_howManyHits_32
noncomputable def sX7_howManyHits_28 : List Nat := 42 :: sX7_howManyHits_29
noncomputable def sX7_howManyHits_27 : List Nat := 46 :: sX7_howManyHits_28
noncomputable def sX7_howManyHits_25 : List Nat := 21 :: 4 :: sX7_howManyHits_27
noncomputable def sX7_howManyHits_22 : List Nat := 180 :: 0 :: 21 :: sX7_howManyHits_25
noncomputable def sX7_howManyHits_21 : List Nat := 42 :: sX7_howManyHits_22
noncomputable def sX7_howManyHits_20 : List Nat := 42 :: sX7_howManyHits_21
noncomputable def sX7_howManyHits_17 : List Nat := 162 :: 0 :: 39 :: sX7_howManyHits_20
noncomputable def sX7_howManyHits_16 : List Nat := 28 :: sX7_howManyHits_17
noncomputable def sX7_howManyHits_14 : List Nat := 21 :: 4 :: sX7_howManyHits_16
noncomputable def sX7_howManyHits_12 : List Nat := 54 :: 4 :: sX7_howManyHits_14
noncomputable def sX7_howManyHits_11 : List Nat := 3 :: sX7_howManyHits_12
noncomputable def sX7_howManyHits_10 : List Nat := 62 :: sX7_howManyHits_11
noncomputable def sX7_howManyHits_9 : List Nat := 3 :: sX7_howManyHits_10
noncomputable def sX7_howManyHits_8 : List Nat := 61 :: sX7_howManyHits_9
noncomputable def sX7_howManyHits_5 : List Nat := 182 :: 0 :: 37 :: sX7_howManyHits_8
noncomputable def sX7_howManyHits_2 : List Nat := 180 :: 0 :: 9 :: sX7_howManyHits_5
noncomputable def sX7_howManyHits_1 : List Nat := 42 :: sX7_howManyHits_2
noncomputable def sX7_howManyHits_0 : List Nat := 42 :: sX7_howManyHits_1
theorem aX7_howManyHits_0 : dc_at cX7_howManyHits 0 sX7_howManyHits_0 := dc_base (by decide +kernel)
theorem aX7_howManyHits_1 : dc_at cX7_howManyHits 1 sX7_howManyHits_1 := dc_n1 aX7_howManyHits_0
theorem aX7_howManyHits_2 : dc_at cX7_howManyHits 2 sX7_howManyHits_2 := dc_n1 aX7_howManyHits_1
theorem aX7_howManyHits_5 : dc_at cX7_howManyHits 5 sX7_howManyHits_5 := dc_n3 aX7_howManyHits_2
theorem aX7_howManyHits_8 : dc_at cX7_howManyHits 8 sX7_howManyHits_8 := dc_n3 aX7_howManyHits_5
theorem aX7_howManyHits_9 : dc_at cX7_howManyHits 9 sX7_howManyHits_9 := dc_n1 aX7_howManyHits_8
theorem aX7_howManyHits_10 : dc_at cX7_howManyHits 10 sX7_howManyHits_10 := dc_n1 aX7_howManyHits_9
theorem aX7_howManyHits_11 : dc_at cX7_howManyHits 11 sX7_howManyHits_11 := dc_n1 aX7_howManyHits_10
theorem aX7_howManyHits_12 : dc_at cX7_howManyHits 12 sX7_howManyHits_12 := dc_n1 aX7_howManyHits_11
theorem aX7_howManyHits_14 : dc_at cX7_howManyHits 14 sX7_howManyHits_14 := dc_n2 aX7_howManyHits_12
theorem aX7_howManyHits_16 : dc_at cX7_howManyHits 16 sX7_howManyHits_16 := dc_n2 aX7_howManyHits_14
theorem aX7_howManyHits_17 : dc_at cX7_howManyHits 17 sX7_howManyHits_17 := dc_n1 aX7_howManyHits_16
theorem aX7_howManyHits_20 : dc_at cX7_howManyHits 20 sX7_howManyHits_20 := dc_n3 aX7_howManyHits_17
theorem aX7_howManyHits_21 : dc_at cX7_howManyHits 21 sX7_howManyHits_21 := dc_n1 aX7_howManyHits_20
theorem aX7_howManyHits_22 : dc_at cX7_howManyHits 22 sX7_howManyHits_22 := dc_n1 aX7_howManyHits_21
theorem aX7_howManyHits_25 : dc_at cX7_howManyHits 25 sX7_howManyHits_25 := dc_n3 aX7_howManyHits_22
theorem aX7_howManyHits_27 : dc_at cX7_howManyHits 27 sX7_howManyHits_27 := dc_n2 aX7_howManyHits_25
theorem aX7_howManyHits_28 : dc_at cX7_howManyHits 28 sX7_howManyHits_28 := dc_n1 aX7_howManyHits_27
theorem aX7_howManyHits_29 : dc_at cX7_howManyHits 29 sX7_howManyHits_29 := dc_n1 aX7_howManyHits_28
theorem aX7_howManyHits_32 : dc_at cX7_howManyHits 32 sX7_howManyHits_32 := dc_n3 aX7_howManyHits_29
theorem aX7_howManyHits_33 : dc_at cX7_howManyHits 33 sX7_howManyHits_33 := dc_n1 aX7_howManyHits_32
theorem aX7_howManyHits_36 : dc_at cX7_howManyHits 36 sX7_howManyHits_36 := dc_n3 aX7_howManyHits_33
theorem aX7_howManyHits_38 : dc_at cX7_howManyHits 38 sX7_howManyHits_38 := dc_n2 aX7_howManyHits_36
theorem aX7_howManyHits_39 : dc_at cX7_howManyHits 39 sX7_howManyHits_39 := dc_n1 aX7_howManyHits_38
theorem aX7_howManyHits_40 : dc_at cX7_howManyHits 40 sX7_howManyHits_40 := dc_n1 aX7_howManyHits_39
theorem aX7_howManyHits_41 : dc_at cX7_howManyHits 41 sX7_howManyHits_41 := dc_n1 aX7_howManyHits_40
theorem aX7_howManyHits_44 : dc_at cX7_howManyHits 44 sX7_howManyHits_44 := dc_n3 aX7_howManyHits_41
theorem aX7_howManyHits_47 : dc_at cX7_howManyHits 47 sX7_howManyHits_47 := dc_n3 aX7_howManyHits_44
theorem aX7_howManyHits_50 : dc_at cX7_howManyHits 50 sX7_howManyHits_50 := dc_n3 aX7_howManyHits_47
theorem aX7_howManyHits_53 : dc_at cX7_howManyHits 53 sX7_howManyHits_53 := dc_n3 aX7_howManyHits_50
theorem aX7_howManyHits_56 : dc_at cX7_howManyHits 56 sX7_howManyHits_56 := dc_n3 aX7_howManyHits_53
theorem aX7_howManyHits_57 : dc_at cX7_howManyHits 57 sX7_howManyHits_57 := dc_n1 aX7_howManyHits_56
theorem dX7_howManyHits_0 : decode cX7_howManyHits 0 = .ok (.aload_n 0, 1) := dc_42 aX7_howManyHits_0
theorem dX7_howManyHits_1 : decode cX7_howManyHits 1 = .ok (.aload_n 0, 1) := dc_42 aX7_howManyHits_1
theorem dX7_howManyHits_2 : decode cX7_howManyHits 2 = .ok (.getfield 9, 3) := dc_180 (a0 := 0) (b0 := 9) aX7_howManyHits_2
theorem dX7_howManyHits_5 : decode cX7_howManyHits 5 = .ok (.invokevirtual 37, 3) := dc_182 (a0 := 0) (b0 := 37) aX7_howManyHits_5
theorem dX7_howManyHits_8 : decode cX7_howManyHits 8 = .ok (.istore_n 2, 1) := dc_61 aX7_howManyHits_8
theorem dX7_howManyHits_9 : decode cX7_howManyHits 9 = .ok (.iconst 0, 1) := dc_3 aX7_howManyHits_9
theorem dX7_howManyHits_10 : decode cX7_howManyHits 10 = .ok (.istore_n 3, 1) := dc_62 aX7_howManyHits_10
theorem dX7_howManyHits_11 : decode cX7_howManyHits 11 = .ok (.iconst 0, 1) := dc_3 aX7_howManyHits_11
theorem dX7_howManyHits_12 : decode cX7_howManyHits 12 = .ok (.istore 4, 2) := dc_54 (a0 := 4) aX7_howManyHits_12
theorem dX7_howManyHits_14 : decode cX7_howManyHits 14 = .ok (.iload 4, 2) := dc_21 (a0 := 4) aX7_howManyHits_14
theorem dX7_howManyHits_16 : decode cX7_howManyHits 16 = .ok (.iload_n 2, 1) := dc_28 aX7_howManyHits_16
theorem dX7_howManyHits_17 : decode cX7_howManyHits 17 = .ok (.if_icmp .ge 39, 3) := dc_162 (a0 := 0) (b0 := 39) aX7_howManyHits_17 (by decide)
theorem dX7_howManyHits_20 : decode cX7_howManyHits 20 = .ok (.aload_n 0, 1) := dc_42 aX7_howManyHits_20
theorem dX7_howManyHits_21 : decode cX7_howManyHits 21 = .ok (.aload_n 0, 1) := dc_42 aX7_howManyHits_21
theorem dX7_howManyHits_22 : decode cX7_howManyHits 22 = .ok (.getfield 21, 3) := dc_180 (a0 := 0) (b0 := 21) aX7_howManyHits_22
theorem dX7_howManyHits_25 : decode cX7_howManyHits 25 = .ok (.iload 4, 2) := dc_21 (a0 := 4) aX7_howManyHits_25
theorem dX7_howManyHits_27 : decode cX7_howManyHits 27 = .ok (.iaload, 1) := dc_46 aX7_howManyHits_27
theorem dX7_howManyHits_28 : decode cX7_howManyHits 28 = .ok (.aload_n 0, 1) := dc_42 aX7_howManyHits_28
theorem dX7_howManyHits_29 : decode cX7_howManyHits 29 = .ok (.getfield 15, 3) := dc_180 (a0 := 0) (b0 := 15) aX7_howManyHits_29
theorem dX7_howManyHits_32 : decode cX7_howManyHits 32 = .ok (.aload_n 0, 1) := dc_42 aX7_howManyHits_32
theorem dX7_howManyHits_33 : decode cX7_howManyHits 33 = .ok (.getfield 21, 3) := dc_180 (a0 := 0) (b0 := 21) aX7_howManyHits_33
theorem dX7_howManyHits_36 : decode cX7_howManyHits 36 = .ok (.iload 4, 2) := dc_21 (a0 := 4) aX7_howManyHits_36
theorem dX7_howManyHits_38 : decode cX7_howManyHits 38 = .ok (.iaload, 1) := dc_46 aX7_howManyHits_38
theorem dX7_howManyHits_39 : decode cX7_howManyHits 39 = .ok (.iaload, 1) := dc_46 aX7_howManyHits_39
theorem dX7_howManyHits_40 : decode cX7_howManyHits 40 = .ok (.iload_n 1, 1) := dc_27 aX7_howManyHits_40
theorem dX7_howManyHits_41 : decode cX7_howManyHits 41 = .ok (.invokevirtual 47, 3) := dc_182 (a0 := 0) (b0 := 47) aX7_howManyHits_41
theorem dX7_howManyHits_44 : decode cX7_howManyHits 44 = .ok (.ifCond .eq 6, 3) := dc_153 (a0 := 0) (b0 := 6) aX7_howManyHits_44 (by decide)
theorem dX7_howManyHits_47 : decode cX7_howManyHits 47 = .ok (.iinc 3 1, 3) := dc_132 (a0 := 3) (a1 := 1) aX7_howManyHits_47 (by decide)
theorem dX7_howManyHits_50 : decode cX7_howManyHits 50 = .ok (.iinc 4 1, 3) := dc_132 (a0 := 4) (a1 := 1) aX7_howManyHits_50 (by decide)
theorem dX7_howManyHits_53 : decode cX7_howManyHits 53 = .ok (.goto (-39), 3) := dc_167 (a0 := 255) (b0 := 217) aX7_howManyHits_53 (by decide)
theorem dX7_howManyHits_56 : decode cX7_howManyHits 56 = .ok (.iload_n 3, 1) := dc_29 aX7_howManyHits_56
theorem dX7_howManyHits_57 : decode cX7_howManyHits 57 = .ok (.ireturn, 1) := dc_172 aX7_howManyHits_57
set_option maxRecDepth 20000 in
theorem ggX7_chanceOfLives_X7_setRows : GoodIn wsX7_chanceOfLives wsX7_setRows := goodIn_k _ [[9], [3, 38, 0, 0, 0, 0, 0]] (by rfl) (by decide +kernel)
set_option maxRecDepth 20000 in
theorem gX7_chanceOfLives_X7_setRows : GoodIn wsX7_chanceOfLives (wsV RX7 37 RX7 yX7_setRows wsX7_setRows) := goodIn_app (goodIn_of _ (by decide +kernel)) ggX7_chanceOfLives_X7_setRows
set_option maxRecDepth 20000 in
theorem ggX7_chanceOfLives_X7_isHit : GoodIn wsX7_chanceOfLives wsX7_isHit := goodIn_k _ [[13], [1, 12, 0, 0, 0, 24, 0, 0, 0, 0, 0]] (by rfl) (by decide +kernel)
set_option maxRecDepth 20000 in
theorem gX7_chanceOfLives_X7_isHit : GoodIn wsX7_chanceOfLives (wsV RX7 47 RX7 yX7_isHit wsX7_isHit) := goodIn_app (goodIn_of _ (by decide +kernel)) ggX7_chanceOfLives_X7_isHit
set_option maxRecDepth 20000 in
theorem ggX7_chanceOfLives_X7_howManyHits : GoodIn wsX7_chanceOfLives wsX7_howManyHits := goodIn_k _ [[21], [1, 1, 0, 0, 0, 0, 0, 0, 0, 0, 0, 0, 0, 0, 0, 0, 24, 0, 0, 0, 0, 0]] (by rfl) (by decide +kernel)
set_option maxRecDepth 20000 in
theorem gX7_chanceOfLives_X7_howManyHits : GoodIn wsX7_chanceOfLives (wsV RX7 51 RX7 yX7_howManyHits wsX7_howManyHits) := goodIn_app (goodIn_of _ (by decide +kernel)) ggX7_chanceOfLives_X7_howManyHits
set_option maxRecDepth 20000 in
theorem ggX7_chanceOfLives_X7_waysToHit : GoodIn wsX7_chanceOfLives wsX7_waysToHit := goodIn_k _ [[25, 0, 0, 0, 0, 0, 0, 0, 0], [8, 25], [2, 32, 0, 0, 0, 0, 0, 0, 0, 0, 0, 0, 0, 0]] (by rfl) (by decide +kernel)
set_option maxRecDepth 20000 in
theorem gX7_chanceOfLives_X7_waysToHit : GoodIn wsX7_chanceOfLives (wsV RX7 54 RX7 yX7_waysToHit wsX7_waysToHit) := goodIn_app (goodIn_of _ (by decide +kernel)) ggX7_chanceOfLives_X7_waysToHit
noncomputable def sX7_chanceOfLives_90 : List Nat := 172 :: []
noncomputable def sX7_chanceOfLives_87 : List Nat := 182 :: 0 :: 54 :: sX7_chanceOfLives_90
noncomputable def sX7_chanceOfLives_84 : List Nat := 182 :: 0 :: 51 :: sX7_chanceOfLives_87
noncomputable def sX7_chanceOfLives_83 : List Nat := 27 :: sX7_chanceOfLives_84
noncomputable def sX7_chanceOfLives_82 : List Nat := 42 :: sX7_chanceOfLives_83
noncomputable def sX7_chanceOfLives_81 : List Nat := 28 :: sX7_chanceOfLives_82
noncomputable def sX7_chanceOfLives_80 : List Nat := 42 :: sX7_chanceOfLives_81
noncomputable def sX7_chanceOfLives_77 : List Nat := 167 :: 255 :: 198 :: sX7_chanceOfLives_80
noncomputable def sX7_chanceOfLives_74 : List Nat := 132 :: 3 :: 1 :: sX7_chanceOfLives_77
noncomputable def sX7_chanceOfLives_71 : List Nat := 167 :: 255 :: 212 :: sX7_chanceOfLives_74
noncomputable def sX7_chanceOfLives_68 : List Nat := 132 :: 4 :: 1 :: sX7_chanceOfLives_71
noncomputable def sX7_chanceOfLives_67 : List Nat := 84 :: sX7_chanceOfLives_68
noncomputable def sX7_chanceOfLives_64 : List Nat := 182 :: 0 :: 47 :: sX7_chanceOfLives_67
noncomputable def sX7_chanceOfLives_63 : List Nat := 27 :: sX7_chanceOfLives_64
noncomputable def sX7_chanceOfLives_62 : List Nat := 46 :: sX7_chanceOfLives_63
noncomputable def sX7_chanceOfLives_61 : List Nat := 46 :: sX7_chanceOfLives_62
noncomputable def sX7_chanceOfLives_59 : List Nat := 21 :: 4 :: sX7_chanceOfLives_61
noncomputable def sX7_chanceOfLives_56 : List Nat := 180 :: 0 :: 21 :: sX7_chanceOfLives_59
noncomputable def sX7_chanceOfLives_55 : List Nat := 42 :: sX7_chanceOfLives_56
noncomputable def sX7_chanceOfLives_52 : List Nat := 180 :: 0 :: 15 :: sX7_chanceOfLives_55
noncomputable def sX7_chanceOfLives_51 : List Nat := 42 :: sX7_chanceOfLives_52
noncomputable def sX7_chanceOfLives_50 : List Nat := 46 :: sX7_chanceOfLives_51
noncomputable def sX7_chanceOfLives_49 : List Nat := 29 :: sX7_chanceOfLives_50
noncomputable def sX7_chanceOfLives_46 : List Nat := 180 :: 0 :: 21 :: sX7_chanceOfLives_49
noncomputable def sX7_chanceOfLives_45 : List Nat := 42 :: sX7_chanceOfLives_46
noncomputable def sX7_chanceOfLives_44 : List Nat := 42 :: sX7_chanceOfLives_45
noncomputable def sX7_chanceOfLives_43 : List Nat := 96 :: sX7_chanceOfLives_44
noncomputable def sX7_chanceOfLives_41 : List Nat := 21 :: 4 :: sX7_chanceOfLives_43
noncomputable def sX7_chanceOfLives_40 : List Nat := 104 :: sX7_chanceOfLives_41
noncomputable def sX7_chanceOfLives_39 : List Nat := 29 :: sX7_chanceOfLives_40
noncomputable def sX7_chanceOfLives_37 : List Nat := 16 :: 8 :: sX7_chanceOfLives_39
noncomputable def sX7_chanceOfLives_34 : List Nat := 180 :: 0 :: 24 :: sX7_chanceOfLives_37
noncomputable def sX7_chanceOfLives_33 : List Nat := 42 :: sX7_chanceOfLives_34
noncomputable def sX7_chanceOfLives_30 : List Nat := 162 :: 0 :: 44 :: sX7_chanceOfLives_33
noncomputable def sX7_chanceOfLives_29 : List Nat := 28 :: sX7_chanceOfLives_30
noncomputable def sX7_chanceOfLives_27 : List Nat := 21 :: 4 :: sX7_chanceOfLives_29
noncomputable def sX7_chanceOfLives_25 : List Nat := 54 :: 4 :: sX7_chanceOfLives_27
noncomputable def sX7_chanceOfLives_24 : List Nat := 3 :: sX7_chanceOfLives_25
noncomputable def sX7_chanceOfLives_21 : List Nat := 162 :: 0 :: 59 :: sX7_chanceOfLives_24
noncomputable def sX7_chanceOfLives_20 : List Nat := 28 :: sX7_chanceOfLives_21
noncomputable def sX7_chanceOfLives_19 : List Nat := 29 :: sX7_chanceOfLives_20
noncomputable def sX7_chanceOfLives_18 : List Nat := 62 :: sX7_chanceOfLives_19
noncomputable def sX7_chanceOfLives_17 : List Nat := 3 :: sX7_chanceOfLives_18
noncomputable def sX7_chanceOfLives_16 : List Nat := 172 :: sX7_chanceOfLives_17
noncomputable def sX7_chanceOfLives_15 : List Nat := 2 :: sX7_chanceOfLives_16
noncomputable def sX7_chanceOfLives_12 : List Nat := 164 :: 0 :: 5 :: sX7_chanceOfLives_15
noncomputable def sX7_chanceOfLives_10 : List Nat := 16 :: 8 :: sX7_chanceOfLives_12
noncomputable def sX7_chanceOfLives_9 : List Nat := 28 :: sX7_chanceOfLives_10
noncomputable def sX7_chanceOfLives_8 : List Nat := 61 :: sX7_chanceOfLives_9
noncomputable def sX7_chanceOfLives_5 : List Nat := 182 :: 0 :: 37 :: sX7_chanceOfLives_8
noncomputable def sX7_chanceOfLives_2 : List Nat := 180 :: 0 :: 9 :: sX7_chanceOfLives_5
noncomputable def sX7_chanceOfLives_1 : List Nat := 42 :: sX7_chanceOfLives_2
noncomputable def sX7_chanceOfLives_0 : List Nat := 42 :: sX7_chanceOfLives_1
theorem aX7_chanceOfLives_0 : dc_at cX7_chanceOfLives 0 sX7_chanceOfLives_0 := dc_base (by decide +kernel)
theorem aX7_chanceOfLives_1 : dc_at cX7_chanceOfLives 1 sX7_chanceOfLives_1 := dc_n1 aX7_chanceOfLives_0
theorem aX7_chanceOfLives_2 : dc_at cX7_chanceOfLives 2 sX7_chanceOfLives_2 := dc_n1 aX7_chanceOfLives_1
theorem aX7_chanceOfLives_5 : dc_at cX7_chanceOfLives 5 sX7_chanceOfLives_5 := dc_n3 aX7_chanceOfLives_2
theorem aX7_chanceOfLives_8 : dc_at cX7_chanceOfLives 8 sX7_chanceOfLives_8 := dc_n3 aX7_chanceOfLives_5
theorem aX7_chanceOfLives_9 : dc_at cX7_chanceOfLives 9 sX7_chanceOfLives_9 := dc_n1 aX7_chanceOfLives_8
theorem aX7_chanceOfLives_10 : dc_at cX7_chanceOfLives 10 sX7_chanceOfLives_10 := dc_n1 aX7_chanceOfLives_9
theorem aX7_chanceOfLives_12 : dc_at cX7_chanceOfLives 12 sX7_chanceOfLives_12 := dc_n2 aX7_chanceOfLives_10
theorem aX7_chanceOfLives_15 : dc_at cX7_chanceOfLives 15 sX7_chanceOfLives_15 := dc_n3 aX7_chanceOfLives_12
theorem aX7_chanceOfLives_16 : dc_at cX7_chanceOfLives 16 sX7_chanceOfLives_16 := dc_n1 aX7_chanceOfLives_15
theorem aX7_chanceOfLives_17 : dc_at cX7_chanceOfLives 17 sX7_chanceOfLives_17 := dc_n1 aX7_chanceOfLives_16
theorem aX7_chanceOfLives_18 : dc_at cX7_chanceOfLives 18 sX7_chanceOfLives_18 := dc_n1 aX7_chanceOfLives_17
theorem aX7_chanceOfLives_19 : dc_at cX7_chanceOfLives 19 sX7_chanceOfLives_19 := dc_n1 aX7_chanceOfLives_18
theorem aX7_chanceOfLives_20 : dc_at cX7_chanceOfLives 20 sX7_chanceOfLives_20 := dc_n1 aX7_chanceOfLives_19
theorem aX7_chanceOfLives_21 : dc_at cX7_chanceOfLives 21 sX7_chanceOfLives_21 := dc_n1 aX7_chanceOfLives_20
theorem aX7_chanceOfLives_24 : dc_at cX7_chanceOfLives 24 sX7_chanceOfLives_24 := dc_n3 aX7_chanceOfLives_21
theorem aX7_chanceOfLives_25 : dc_at cX7_chanceOfLives 25 sX7_chanceOfLives_25 := dc_n1 aX7_chanceOfLives_24
theorem aX7_chanceOfLives_27 : dc_at cX7_chanceOfLives 27 sX7_chanceOfLives_27 := dc_n2 aX7_chanceOfLives_25
theorem aX7_chanceOfLives_29 : dc_at cX7_chanceOfLives 29 sX7_chanceOfLives_29 := dc_n2 aX7_chanceOfLives_27
theorem aX7_chanceOfLives_30 : dc_at cX7_chanceOfLives 30 sX7_chanceOfLives_30 := dc_n1 aX7_chanceOfLives_29
theorem aX7_chanceOfLives_33 : dc_at cX7_chanceOfLives 33 sX7_chanceOfLives_33 := dc_n3 aX7_chanceOfLives_30
theorem aX7_chanceOfLives_34 : dc_at cX7_chanceOfLives 34 sX7_chanceOfLives_34 := dc_n1 aX7_chanceOfLives_33
theorem aX7_chanceOfLives_37 : dc_at cX7_chanceOfLives 37 sX7_chanceOfLives_37 := dc_n3 aX7_chanceOfLives_34
theorem aX7_chanceOfLives_39 : dc_at cX7_chanceOfLives 39 sX7_chanceOfLives_39 := dc_n2 aX7_chanceOfLives_37
theorem aX7_chanceOfLives_40 : dc_at cX7_chanceOfLives 40 sX7_chanceOfLives_40 := dc_n1 aX7_chanceOfLives_39
theorem aX7_chanceOfLives_41 : dc_at cX7_chanceOfLives 41 sX7_chanceOfLives_41 := dc_n1 aX7_chanceOfLives_40
theorem aX7_chanceOfLives_43 : dc_at cX7_chanceOfLives 43 sX7_chanceOfLives_43 := dc_n2 aX7_chanceOfLives_41
theorem aX7_chanceOfLives_44 : dc_at cX7_chanceOfLives 44 sX7_chanceOfLives_44 := dc_n1 aX7_chanceOfLives_43
theorem aX7_chanceOfLives_45 : dc_at cX7_chanceOfLives 45 sX7_chanceOfLives_45 := dc_n1 aX7_chanceOfLives_44
theorem aX7_chanceOfLives_46 : dc_at cX7_chanceOfLives 46 sX7_chanceOfLives_46 := dc_n1 aX7_chanceOfLives_45
theorem aX7_chanceOfLives_49 : dc_at cX7_chanceOfLives 49 sX7_chanceOfLives_49 := dc_n3 aX7_chanceOfLives_46
theorem aX7_chanceOfLives_50 : dc_at cX7_chanceOfLives 50 sX7_chanceOfLives_50 := dc_n1 aX7_chanceOfLives_49
theorem aX7_chanceOfLives_51 : dc_at cX7_chanceOfLives 51 sX7_chanceOfLives_51 := dc_n1 aX7_chanceOfLives_50
theorem aX7_chanceOfLives_52 : dc_at cX7_chanceOfLives 52 sX7_chanceOfLives_52 := dc_n1 aX7_chanceOfLives_51
theorem aX7_chanceOfLives_55 : dc_at cX7_chanceOfLives 55 sX7_chanceOfLives_55 := dc_n3 aX7_chanceOfLives_52
theorem aX7_chanceOfLives_56 : dc_at cX7_chanceOfLives 56 sX7_chanceOfLives_56 := dc_n1 aX7_chanceOfLives_55
theorem aX7_chanceOfLives_59 : dc_at cX7_chanceOfLives 59 sX7_chanceOfLives_59 := dc_n3 aX7_chanceOfLives_56
theorem aX7_chanceOfLives_61 : dc_at cX7_chanceOfLives 61 sX7_chanceOfLives_61 := dc_n2 aX7_chanceOfLives_59
theorem aX7_chanceOfLives_62 : dc_at cX7_chanceOfLives 62 sX7_chanceOfLives_62 := dc_n1 aX7_chanceOfLives_61
theorem aX7_chanceOfLives_63 : dc_at cX7_chanceOfLives 63 sX7_chanceOfLives_63 := dc_n1 aX7_chanceOfLives_62
theorem aX7_chanceOfLives_64 : dc_at cX7_chanceOfLives 64 sX7_chanceOfLives_64 := dc_n1 aX7_chanceOfLives_63
theorem aX7_chanceOfLives_67 : dc_at cX7_chanceOfLives 67 sX7_chanceOfLives_67 := dc_n3 aX7_chanceOfLives_64
theorem aX7_chanceOfLives_68 : dc_at cX7_chanceOfLives 68 sX7_chanceOfLives_68 := dc_n1 aX7_chanceOfLives_67
theorem aX7_chanceOfLives_71 : dc_at cX7_chanceOfLives 71 sX7_chanceOfLives_71 := dc_n3 aX7_chanceOfLives_68
theorem aX7_chanceOfLives_74 : dc_at cX7_chanceOfLives 74 sX7_chanceOfLives_74 := dc_n3 aX7_chanceOfLives_71
theorem aX7_chanceOfLives_77 : dc_at cX7_chanceOfLives 77 sX7_chanceOfLives_77 := dc_n3 aX7_chanceOfLives_74
theorem aX7_chanceOfLives_80 : dc_at cX7_chanceOfLives 80 sX7_chanceOfLives_80 := dc_n3 aX7_chanceOfLives_77
theorem aX7_chanceOfLives_81 : dc_at cX7_chanceOfLives 81 sX7_chanceOfLives_81 := dc_n1 aX7_chanceOfLives_80
theorem aX7_chanceOfLives_82 : dc_at cX7_chanceOfLives 82 sX7_chanceOfLives_82 := dc_n1 aX7_chanceOfLives_81
theorem aX7_chanceOfLives_83 : dc_at cX7_chanceOfLives 83 sX7_chanceOfLives_83 := dc_n1 aX7_chanceOfLives_82
theorem aX7_chanceOfLives_84 : dc_at cX7_chanceOfLives 84 sX7_chanceOfLives_84 := dc_n1 aX7_chanceOfLives_83
theorem aX7_chanceOfLives_87 : dc_at cX7_chanceOfLives 87 sX7_chanceOfLives_87 := dc_n3 aX7_chanceOfLives_84
theorem aX7_chanceOfLives_90 : dc_at cX7_chanceOfLives 90 sX7_chanceOfLives_90 := dc_n3 aX7_chanceOfLives_87
theorem dX7_chanceOfLives_0 : decode cX7_chanceOfLives 0 = .ok (.aload_n 0, 1) := dc_42 aX7_chanceOfLives_0
theorem dX7_chanceOfLives_1 : decode cX7_chanceOfLives 1 = .ok (.aload_n 0, 1) := dc_42 aX7_chanceOfLives_1
theorem dX7_chanceOfLives_2 : decode cX7_chanceOfLives 2 = .ok (.getfield 9, 3) := dc_180 (a0 := 0) (b0 := 9) aX7_chanceOfLives_2
theorem dX7_chanceOfLives_5 : decode cX7_chanceOfLives 5 = .ok (.invokevirtual 37, 3) := dc_182 (a0 := 0) (b0 := 37) aX7_chanceOfLives_5
theorem dX7_chanceOfLives_8 : decode cX7_chanceOfLives 8 = .ok (.istore_n 2, 1) := dc_61 aX7_chanceOfLives_8
theorem dX7_chanceOfLives_9 : decode cX7_chanceOfLives 9 = .ok (.iload_n 2, 1) := dc_28 aX7_chanceOfLives_9
theorem dX7_chanceOfLives_10 : decode cX7_chanceOfLives 10 = .ok (.bipush 8, 2) := dc_16 (a0 := 8) aX7_chanceOfLives_10 (by decide)
theorem dX7_chanceOfLives_12 : decode cX7_chanceOfLives 12 = .ok (.if_icmp .le 5, 3) := dc_164 (a0 := 0) (b0 := 5) aX7_chanceOfLives_12 (by decide)
theorem dX7_chanceOfLives_15 : decode cX7_chanceOfLives 15 = .ok (.iconst (-1), 1) := dc_2 aX7_chanceOfLives_15
theorem dX7_chanceOfLives_16 : decode cX7_chanceOfLives 16 = .ok (.ireturn, 1) := dc_172 aX7_chanceOfLives_16
theorem dX7_chanceOfLives_17 : decode cX7_chanceOfLives 17 = .ok (.iconst 0, 1) := dc_3 aX7_chanceOfLives_17
theorem dX7_chanceOfLives_18 : decode cX7_chanceOfLives 18 = .ok (.istore_n 3, 1) := dc_62 aX7_chanceOfLives_18
theorem dX7_chanceOfLives_19 : decode cX7_chanceOfLives 19 = .ok (.iload_n 3, 1) := dc_29 aX7_chanceOfLives_19
theorem dX7_chanceOfLives_20 : decode cX7_chanceOfLives 20 = .ok (.iload_n 2, 1) := dc_28 aX7_chanceOfLives_20
theorem dX7_chanceOfLives_21 : decode cX7_chanceOfLives 21 = .ok (.if_icmp .ge 59, 3) := dc_162 (a0 := 0) (b0 := 59) aX7_chanceOfLives_21 (by decide)
theorem dX7_chanceOfLives_24 : decode cX7_chanceOfLives 24 = .ok (.iconst 0, 1) := dc_3 aX7_chanceOfLives_24
theorem dX7_chanceOfLives_25 : decode cX7_chanceOfLives 25 = .ok (.istore 4, 2) := dc_54 (a0 := 4) aX7_chanceOfLives_25
theorem dX7_chanceOfLives_27 : decode cX7_chanceOfLives 27 = .ok (.iload 4, 2) := dc_21 (a0 := 4) aX7_chanceOfLives_27
theorem dX7_chanceOfLives_29 : decode cX7_chanceOfLives 29 = .ok (.iload_n 2, 1) := dc_28 aX7_chanceOfLives_29
theorem dX7_chanceOfLives_30 : decode cX7_chanceOfLives 30 = .ok (.if_icmp .ge 44, 3) := dc_162 (a0 := 0) (b0 := 44) aX7_chanceOfLives_30 (by decide)
theorem dX7_chanceOfLives_33 : decode cX7_chanceOfLives 33 = .ok (.aload_n 0, 1) := dc_42 aX7_chanceOfLives_33
theorem dX7_chanceOfLives_34 : decode cX7_chanceOfLives 34 = .ok (.getfield 24, 3) := dc_180 (a0 := 0) (b0 := 24) aX7_chanceOfLives_34
theorem dX7_chanceOfLives_37 : decode cX7_chanceOfLives 37 = .ok (.bipush 8, 2) := dc_16 (a0 := 8) aX7_chanceOfLives_37 (by decide)
theorem dX7_chanceOfLives_39 : decode cX7_chanceOfLives 39 = .ok (.iload_n 3, 1) := dc_29 aX7_chanceOfLives_39
theorem dX7_chanceOfLives_40 : decode cX7_chanceOfLives 40 = .ok (.imul, 1) := dc_104 aX7_chanceOfLives_40
theorem dX7_chanceOfLives_41 : decode cX7_chanceOfLives 41 = .ok (.iload 4, 2) := dc_21 (a0 := 4) aX7_chanceOfLives_41
theorem dX7_chanceOfLives_43 : decode cX7_chanceOfLives 43 = .ok (.iadd, 1) := dc_96 aX7_chanceOfLives_43
theorem dX7_chanceOfLives_44 : decode cX7_chanceOfLives 44 = .ok (.aload_n 0, 1) := dc_42 aX7_chanceOfLives_44
theorem dX7_chanceOfLives_45 : decode cX7_chanceOfLives 45 = .ok (.aload_n 0, 1) := dc_42 aX7_chanceOfLives_45
theorem dX7_chanceOfLives_46 : decode cX7_chanceOfLives 46 = .ok (.getfield 21, 3) := dc_180 (a0 := 0) (b0 := 21) aX7_chanceOfLives_46
theorem dX7_chanceOfLives_49 : decode cX7_chanceOfLives 49 = .ok (.iload_n 3, 1) := dc_29 aX7_chanceOfLives_49
theorem dX7_chanceOfLives_50 : decode cX7_chanceOfLives 50 = .ok (.iaload, 1) := dc_46 aX7_chanceOfLives_50
theorem dX7_chanceOfLives_51 : decode cX7_chanceOfLives 51 = .ok (.aload_n 0, 1) := dc_42 aX7_chanceOfLives_51
theorem dX7_chanceOfLives_52 : decode cX7_chanceOfLives 52 = .ok (.getfield 15, 3) := dc_180 (a0 := 0) (b0 := 15) aX7_chanceOfLives_52
theorem dX7_chanceOfLives_55 : decode cX7_chanceOfLives 55 = .ok (.aload_n 0, 1) := dc_42 aX7_chanceOfLives_55
theorem dX7_chanceOfLives_56 : decode cX7_chanceOfLives 56 = .ok (.getfield 21, 3) := dc_180 (a0 := 0) (b0 := 21) aX7_chanceOfLives_56
theorem dX7_chanceOfLives_59 : decode cX7_chanceOfLives 59 = .ok (.iload 4, 2) := dc_21 (a0 := 4) aX7_chanceOfLives_59
theorem dX7_chanceOfLives_61 : decode cX7_chanceOfLives 61 = .ok (.iaload, 1) := dc_46 aX7_chanceOfLives_61
theorem dX7_chanceOfLives_62 : decode cX7_chanceOfLives 62 = .ok (.iaload, 1) := dc_46 aX7_chanceOfLives_62
theorem dX7_chanceOfLives_63 : decode cX7_chanceOfLives 63 = .ok (.iload_n 1, 1) := dc_27 aX7_chanceOfLives_63
theorem dX7_chanceOfLives_64 : decode cX7_chanceOfLives 64 = .ok (.invokevirtual 47, 3) := dc_182 (a0 := 0) (b0 := 47) aX7_chanceOfLives_64
theorem dX7_chanceOfLives_67 : decode cX7_chanceOfLives 67 = .ok (.bastore, 1) := dc_84 aX7_chanceOfLives_67
theorem dX7_chanceOfLives_68 : decode cX7_chanceOfLives 68 = .ok (.iinc 4 1, 3) := dc_132 (a0 := 4) (a1 := 1) aX7_chanceOfLives_68 (by decide)
theorem dX7_chanceOfLives_71 : decode cX7_chanceOfLives 71 = .ok (.goto (-44), 3) := dc_167 (a0 := 255) (b0 := 212) aX7_chanceOfLives_71 (by decide)
theorem dX7_chanceOfLives_74 : decode cX7_chanceOfLives 74 = .ok (.iinc 3 1, 3) := dc_132 (a0 := 3) (a1 := 1) aX7_chanceOfLives_74 (by decide)
theorem dX7_chanceOfLives_77 : decode cX7_chanceOfLives 77 = .ok (.goto (-58), 3) := dc_167 (a0 := 255) (b0 := 198) aX7_chanceOfLives_77 (by decide)
theorem dX7_chanceOfLives_80 : decode cX7_chanceOfLives 80 = .ok (.aload_n 0, 1) := dc_42 aX7_chanceOfLives_80
theorem dX7_chanceOfLives_81 : decode cX7_chanceOfLives 81 = .ok (.iload_n 2, 1) := dc_28 aX7_chanceOfLives_81
theorem dX7_chanceOfLives_82 : decode cX7_chanceOfLives 82 = .ok (.aload_n 0, 1) := dc_42 aX7_chanceOfLives_82
theorem dX7_chanceOfLives_83 : decode cX7_chanceOfLives 83 = .ok (.iload_n 1, 1) := dc_27 aX7_chanceOfLives_83
theorem dX7_chanceOfLives_84 : decode cX7_chanceOfLives 84 = .ok (.invokevirtual 51, 3) := dc_182 (a0 := 0) (b0 := 51) aX7_chanceOfLives_84
theorem dX7_chanceOfLives_87 : decode cX7_chanceOfLives 87 = .ok (.invokevirtual 54, 3) := dc_182 (a0 := 0) (b0 := 54) aX7_chanceOfLives_87
theorem dX7_chanceOfLives_90 : decode cX7_chanceOfLives 90 = .ok (.ireturn, 1) := dc_172 aX7_chanceOfLives_90
set_option maxRecDepth 20000 in
theorem ggX7_isToldByLot_X1_degreeOf : GoodIn wsX7_isToldByLot wsX1_degreeOf := goodIn_k _ [[5, 0, 0, 0]] (by rfl) (by decide +kernel)
set_option maxRecDepth 20000 in
theorem gX7_isToldByLot_X1_degreeOf : GoodIn wsX7_isToldByLot (wsV RX7 58 RX1 yX1_degreeOf wsX1_degreeOf) := goodIn_app (goodIn_of _ (by decide +kernel)) ggX7_isToldByLot_X1_degreeOf
noncomputable def sX7_isToldByLot_52 : List Nat := 172 :: []
noncomputable def sX7_isToldByLot_51 : List Nat := 3 :: sX7_isToldByLot_52
noncomputable def sX7_isToldByLot_48 : List Nat := 167 :: 0 :: 4 :: sX7_isToldByLot_51
noncomputable def sX7_isToldByLot_47 : List Nat := 4 :: sX7_isToldByLot_48
noncomputable def sX7_isToldByLot_44 : List Nat := 160 :: 0 :: 7 :: sX7_isToldByLot_47
noncomputable def sX7_isToldByLot_43 : List Nat := 112 :: sX7_isToldByLot_44
noncomputable def sX7_isToldByLot_41 : List Nat := 16 :: 12 :: sX7_isToldByLot_43
noncomputable def sX7_isToldByLot_40 : List Nat := 100 :: sX7_isToldByLot_41
noncomputable def sX7_isToldByLot_39 : List Nat := 4 :: sX7_isToldByLot_40
noncomputable def sX7_isToldByLot_38 : List Nat := 96 :: sX7_isToldByLot_39
noncomputable def sX7_isToldByLot_37 : List Nat := 28 :: sX7_isToldByLot_38
noncomputable def sX7_isToldByLot_36 : List Nat := 108 :: sX7_isToldByLot_37
noncomputable def sX7_isToldByLot_34 : List Nat := 16 :: 30 :: sX7_isToldByLot_36
noncomputable def sX7_isToldByLot_32 : List Nat := 21 :: 4 :: sX7_isToldByLot_34
noncomputable def sX7_isToldByLot_31 : List Nat := 108 :: sX7_isToldByLot_32
noncomputable def sX7_isToldByLot_29 : List Nat := 16 :: 30 :: sX7_isToldByLot_31
noncomputable def sX7_isToldByLot_28 : List Nat := 29 :: sX7_isToldByLot_29
noncomputable def sX7_isToldByLot_25 : List Nat := 159 :: 0 :: 26 :: sX7_isToldByLot_28
noncomputable def sX7_isToldByLot_24 : List Nat := 2 :: sX7_isToldByLot_25
noncomputable def sX7_isToldByLot_22 : List Nat := 21 :: 4 :: sX7_isToldByLot_24
noncomputable def sX7_isToldByLot_19 : List Nat := 159 :: 0 :: 32 :: sX7_isToldByLot_22
noncomputable def sX7_isToldByLot_18 : List Nat := 2 :: sX7_isToldByLot_19
noncomputable def sX7_isToldByLot_17 : List Nat := 29 :: sX7_isToldByLot_18
noncomputable def sX7_isToldByLot_15 : List Nat := 54 :: 4 :: sX7_isToldByLot_17
noncomputable def sX7_isToldByLot_12 : List Nat := 182 :: 0 :: 58 :: sX7_isToldByLot_15
noncomputable def sX7_isToldByLot_10 : List Nat := 16 :: 7 :: sX7_isToldByLot_12
noncomputable def sX7_isToldByLot_9 : List Nat := 27 :: sX7_isToldByLot_10
noncomputable def sX7_isToldByLot_8 : List Nat := 42 :: sX7_isToldByLot_9
noncomputable def sX7_isToldByLot_7 : List Nat := 62 :: sX7_isToldByLot_8
noncomputable def sX7_isToldByLot_4 : List Nat := 182 :: 0 :: 58 :: sX7_isToldByLot_7
noncomputable def sX7_isToldByLot_2 : List Nat := 16 :: 8 :: sX7_isToldByLot_4
noncomputable def sX7_isToldByLot_1 : List Nat := 27 :: sX7_isToldByLot_2
noncomputable def sX7_isToldByLot_0 : List Nat := 42 :: sX7_isToldByLot_1
theorem aX7_isToldByLot_0 : dc_at cX7_isToldByLot 0 sX7_isToldByLot_0 := dc_base (by decide +kernel)
theorem aX7_isToldByLot_1 : dc_at cX7_isToldByLot 1 sX7_isToldByLot_1 := dc_n1 aX7_isToldByLot_0
theorem aX7_isToldByLot_2 : dc_at cX7_isToldByLot 2 sX7_isToldByLot_2 := dc_n1 aX7_isToldByLot_1
theorem aX7_isToldByLot_4 : dc_at cX7_isToldByLot 4 sX7_isToldByLot_4 := dc_n2 aX7_isToldByLot_2
theorem aX7_isToldByLot_7 : dc_at cX7_isToldByLot 7 sX7_isToldByLot_7 := dc_n3 aX7_isToldByLot_4
theorem aX7_isToldByLot_8 : dc_at cX7_isToldByLot 8 sX7_isToldByLot_8 := dc_n1 aX7_isToldByLot_7
theorem aX7_isToldByLot_9 : dc_at cX7_isToldByLot 9 sX7_isToldByLot_9 := dc_n1 aX7_isToldByLot_8
theorem aX7_isToldByLot_10 : dc_at cX7_isToldByLot 10 sX7_isToldByLot_10 := dc_n1 aX7_isToldByLot_9
theorem aX7_isToldByLot_12 : dc_at cX7_isToldByLot 12 sX7_isToldByLot_12 := dc_n2 aX7_isToldByLot_10
theorem aX7_isToldByLot_15 : dc_at cX7_isToldByLot 15 sX7_isToldByLot_15 := dc_n3 aX7_isToldByLot_12
theorem aX7_isToldByLot_17 : dc_at cX7_isToldByLot 17 sX7_isToldByLot_17 := dc_n2 aX7_isToldByLot_15
theorem aX7_isToldByLot_18 : dc_at cX7_isToldByLot 18 sX7_isToldByLot_18 := dc_n1 aX7_isToldByLot_17
theorem aX7_isToldByLot_19 : dc_at cX7_isToldByLot 19 sX7_isToldByLot_19 := dc_n1 aX7_isToldByLot_18
theorem aX7_isToldByLot_22 : dc_at cX7_isToldByLot 22 sX7_isToldByLot_22 := dc_n3 aX7_isToldByLot_19
theorem aX7_isToldByLot_24 : dc_at cX7_isToldByLot 24 sX7_isToldByLot_24 := dc_n2 aX7_isToldByLot_22
theorem aX7_isToldByLot_25 : dc_at cX7_isToldByLot 25 sX7_isToldByLot_25 := dc_n1 aX7_isToldByLot_24
theorem aX7_isToldByLot_28 : dc_at cX7_isToldByLot 28 sX7_isToldByLot_28 := dc_n3 aX7_isToldByLot_25
theorem aX7_isToldByLot_29 : dc_at cX7_isToldByLot 29 sX7_isToldByLot_29 := dc_n1 aX7_isToldByLot_28
theorem aX7_isToldByLot_31 : dc_at cX7_isToldByLot 31 sX7_isToldByLot_31 := dc_n2 aX7_isToldByLot_29
theorem aX7_isToldByLot_32 : dc_at cX7_isToldByLot 32 sX7_isToldByLot_32 := dc_n1 aX7_isToldByLot_31
theorem aX7_isToldByLot_34 : dc_at cX7_isToldByLot 34 sX7_isToldByLot_34 := dc_n2 aX7_isToldByLot_32
theorem aX7_isToldByLot_36 : dc_at cX7_isToldByLot 36 sX7_isToldByLot_36 := dc_n2 aX7_isToldByLot_34
theorem aX7_isToldByLot_37 : dc_at cX7_isToldByLot 37 sX7_isToldByLot_37 := dc_n1 aX7_isToldByLot_36
theorem aX7_isToldByLot_38 : dc_at cX7_isToldByLot 38 sX7_isToldByLot_38 := dc_n1 aX7_isToldByLot_37
theorem aX7_isToldByLot_39 : dc_at cX7_isToldByLot 39 sX7_isToldByLot_39 := dc_n1 aX7_isToldByLot_38
theorem aX7_isToldByLot_40 : dc_at cX7_isToldByLot 40 sX7_isToldByLot_40 := dc_n1 aX7_isToldByLot_39
theorem aX7_isToldByLot_41 : dc_at cX7_isToldByLot 41 sX7_isToldByLot_41 := dc_n1 aX7_isToldByLot_40
theorem aX7_isToldByLot_43 : dc_at cX7_isToldByLot 43 sX7_isToldByLot_43 := dc_n2 aX7_isToldByLot_41
theorem aX7_isToldByLot_44 : dc_at cX7_isToldByLot 44 sX7_isToldByLot_44 := dc_n1 aX7_isToldByLot_43
theorem aX7_isToldByLot_47 : dc_at cX7_isToldByLot 47 sX7_isToldByLot_47 := dc_n3 aX7_isToldByLot_44
theorem aX7_isToldByLot_48 : dc_at cX7_isToldByLot 48 sX7_isToldByLot_48 := dc_n1 aX7_isToldByLot_47
theorem aX7_isToldByLot_51 : dc_at cX7_isToldByLot 51 sX7_isToldByLot_51 := dc_n3 aX7_isToldByLot_48
theorem aX7_isToldByLot_52 : dc_at cX7_isToldByLot 52 sX7_isToldByLot_52 := dc_n1 aX7_isToldByLot_51
theorem dX7_isToldByLot_0 : decode cX7_isToldByLot 0 = .ok (.aload_n 0, 1) := dc_42 aX7_isToldByLot_0
theorem dX7_isToldByLot_1 : decode cX7_isToldByLot 1 = .ok (.iload_n 1, 1) := dc_27 aX7_isToldByLot_1
theorem dX7_isToldByLot_2 : decode cX7_isToldByLot 2 = .ok (.bipush 8, 2) := dc_16 (a0 := 8) aX7_isToldByLot_2 (by decide)
theorem dX7_isToldByLot_4 : decode cX7_isToldByLot 4 = .ok (.invokevirtual 58, 3) := dc_182 (a0 := 0) (b0 := 58) aX7_isToldByLot_4
theorem dX7_isToldByLot_7 : decode cX7_isToldByLot 7 = .ok (.istore_n 3, 1) := dc_62 aX7_isToldByLot_7
theorem dX7_isToldByLot_8 : decode cX7_isToldByLot 8 = .ok (.aload_n 0, 1) := dc_42 aX7_isToldByLot_8
theorem dX7_isToldByLot_9 : decode cX7_isToldByLot 9 = .ok (.iload_n 1, 1) := dc_27 aX7_isToldByLot_9
theorem dX7_isToldByLot_10 : decode cX7_isToldByLot 10 = .ok (.bipush 7, 2) := dc_16 (a0 := 7) aX7_isToldByLot_10 (by decide)
theorem dX7_isToldByLot_12 : decode cX7_isToldByLot 12 = .ok (.invokevirtual 58, 3) := dc_182 (a0 := 0) (b0 := 58) aX7_isToldByLot_12
theorem dX7_isToldByLot_15 : decode cX7_isToldByLot 15 = .ok (.istore 4, 2) := dc_54 (a0 := 4) aX7_isToldByLot_15
theorem dX7_isToldByLot_17 : decode cX7_isToldByLot 17 = .ok (.iload_n 3, 1) := dc_29 aX7_isToldByLot_17
theorem dX7_isToldByLot_18 : decode cX7_isToldByLot 18 = .ok (.iconst (-1), 1) := dc_2 aX7_isToldByLot_18
theorem dX7_isToldByLot_19 : decode cX7_isToldByLot 19 = .ok (.if_icmp .eq 32, 3) := dc_159 (a0 := 0) (b0 := 32) aX7_isToldByLot_19 (by decide)
theorem dX7_isToldByLot_22 : decode cX7_isToldByLot 22 = .ok (.iload 4, 2) := dc_21 (a0 := 4) aX7_isToldByLot_22
theorem dX7_isToldByLot_24 : decode cX7_isToldByLot 24 = .ok (.iconst (-1), 1) := dc_2 aX7_isToldByLot_24
theorem dX7_isToldByLot_25 : decode cX7_isToldByLot 25 = .ok (.if_icmp .eq 26, 3) := dc_159 (a0 := 0) (b0 := 26) aX7_isToldByLot_25 (by decide)
theorem dX7_isToldByLot_28 : decode cX7_isToldByLot 28 = .ok (.iload_n 3, 1) := dc_29 aX7_isToldByLot_28
theorem dX7_isToldByLot_29 : decode cX7_isToldByLot 29 = .ok (.bipush 30, 2) := dc_16 (a0 := 30) aX7_isToldByLot_29 (by decide)
theorem dX7_isToldByLot_31 : decode cX7_isToldByLot 31 = .ok (.idiv, 1) := dc_108 aX7_isToldByLot_31
theorem dX7_isToldByLot_32 : decode cX7_isToldByLot 32 = .ok (.iload 4, 2) := dc_21 (a0 := 4) aX7_isToldByLot_32
theorem dX7_isToldByLot_34 : decode cX7_isToldByLot 34 = .ok (.bipush 30, 2) := dc_16 (a0 := 30) aX7_isToldByLot_34 (by decide)
theorem dX7_isToldByLot_36 : decode cX7_isToldByLot 36 = .ok (.idiv, 1) := dc_108 aX7_isToldByLot_36
theorem dX7_isToldByLot_37 : decode cX7_isToldByLot 37 = .ok (.iload_n 2, 1) := dc_28 aX7_isToldByLot_37
theorem dX7_isToldByLot_38 : decode cX7_isToldByLot 38 = .ok (.iadd, 1) := dc_96 aX7_isToldByLot_38
theorem dX7_isToldByLot_39 : decode cX7_isToldByLot 39 = .ok (.iconst 1, 1) := dc_4 aX7_isToldByLot_39
theorem dX7_isToldByLot_40 : decode cX7_isToldByLot 40 = .ok (.isub, 1) := dc_100 aX7_isToldByLot_40
theorem dX7_isToldByLot_41 : decode cX7_isToldByLot 41 = .ok (.bipush 12, 2) := dc_16 (a0 := 12) aX7_isToldByLot_41 (by decide)
theorem dX7_isToldByLot_43 : decode cX7_isToldByLot 43 = .ok (.irem, 1) := dc_112 aX7_isToldByLot_43
theorem dX7_isToldByLot_44 : decode cX7_isToldByLot 44 = .ok (.if_icmp .ne 7, 3) := dc_160 (a0 := 0) (b0 := 7) aX7_isToldByLot_44 (by decide)
theorem dX7_isToldByLot_47 : decode cX7_isToldByLot 47 = .ok (.iconst 1, 1) := dc_4 aX7_isToldByLot_47
theorem dX7_isToldByLot_48 : decode cX7_isToldByLot 48 = .ok (.goto 4, 3) := dc_167 (a0 := 0) (b0 := 4) aX7_isToldByLot_48 (by decide)
theorem dX7_isToldByLot_51 : decode cX7_isToldByLot 51 = .ok (.iconst 0, 1) := dc_3 aX7_isToldByLot_51
theorem dX7_isToldByLot_52 : decode cX7_isToldByLot 52 = .ok (.ireturn, 1) := dc_172 aX7_isToldByLot_52
set_option maxRecDepth 20000 in
theorem ggX7_howManyToldByLot_X7_setRows : GoodIn wsX7_howManyToldByLot wsX7_setRows := goodIn_k _ [[7], [2, 14, 0, 0, 0, 0, 0]] (by rfl) (by decide +kernel)
set_option maxRecDepth 20000 in
theorem gX7_howManyToldByLot_X7_setRows : GoodIn wsX7_howManyToldByLot (wsV RX7 37 RX7 yX7_setRows wsX7_setRows) := goodIn_app (goodIn_of _ (by decide +kernel)) ggX7_howManyToldByLot_X7_setRows
set_option maxRecDepth 20000 in
theorem ggX7_howManyToldByLot_X7_isToldByLot : GoodIn wsX7_howManyToldByLot wsX7_isToldByLot := goodIn_k _ [[10, 0, 0, 0, 0, 0, 0, 6, 0]] (by rfl) (by decide +kernel)
set_option maxRecDepth 20000 in
theorem gX7_howManyToldByLot_X7_isToldByLot : GoodIn wsX7_howManyToldByLot (va_wsS RX7 63 yX7_isToldByLot wsX7_isToldByLot) := goodIn_app (goodIn_of _ (by decide +kernel)) ggX7_howManyToldByLot_X7_isToldByLot
noncomputable def sX7_howManyToldByLot_56 : List Nat := 172 :: []
noncomputable def sX7_howManyToldByLot_55 : List Nat := 29 :: sX7_howManyToldByLot_56
noncomputable def sX7_howManyToldByLot_52 : List Nat := 167 :: 255 :: 218 :: sX7_howManyToldByLot_55
noncomputable def sX7_howManyToldByLot_49 : List Nat := 132 :: 4 :: 1 :: sX7_howManyToldByLot_52
noncomputable def sX7_howManyToldByLot_46 : List Nat := 132 :: 3 :: 1 :: sX7_howManyToldByLot_49
noncomputable def sX7_howManyToldByLot_43 : List Nat := 153 :: 0 :: 6 :: sX7_howManyToldByLot_46
noncomputable def sX7_howManyToldByLot_40 : List Nat := 184 :: 0 :: 63 :: sX7_howManyToldByLot_43
noncomputable def sX7_howManyToldByLot_39 : List Nat := 46 :: sX7_howManyToldByLot_40
noncomputable def sX7_howManyToldByLot_38 : List Nat := 46 :: sX7_howManyToldByLot_39
noncomputable def sX7_howManyToldByLot_36 : List Nat := 21 :: 4 :: sX7_howManyToldByLot_38
noncomputable def sX7_howManyToldByLot_33 : List Nat := 180 :: 0 :: 21 :: sX7_howManyToldByLot_36
noncomputable def sX7_howManyToldByLot_32 : List Nat := 42 :: sX7_howManyToldByLot_33
noncomputable def sX7_howManyToldByLot_29 : List Nat := 180 :: 0 :: 18 :: sX7_howManyToldByLot_32
noncomputable def sX7_howManyToldByLot_28 : List Nat := 42 :: sX7_howManyToldByLot_29
noncomputable def sX7_howManyToldByLot_27 : List Nat := 46 :: sX7_howManyToldByLot_28
noncomputable def sX7_howManyToldByLot_25 : List Nat := 21 :: 4 :: sX7_howManyToldByLot_27
noncomputable def sX7_howManyToldByLot_22 : List Nat := 180 :: 0 :: 21 :: sX7_howManyToldByLot_25
noncomputable def sX7_howManyToldByLot_21 : List Nat := 42 :: sX7_howManyToldByLot_22
noncomputable def sX7_howManyToldByLot_20 : List Nat := 43 :: sX7_howManyToldByLot_21
noncomputable def sX7_howManyToldByLot_17 : List Nat := 162 :: 0 :: 38 :: sX7_howManyToldByLot_20
noncomputable def sX7_howManyToldByLot_16 : List Nat := 28 :: sX7_howManyToldByLot_17
noncomputable def sX7_howManyToldByLot_14 : List Nat := 21 :: 4 :: sX7_howManyToldByLot_16
noncomputable def sX7_howManyToldByLot_12 : List Nat := 54 :: 4 :: sX7_howManyToldByLot_14
noncomputable def sX7_howManyToldByLot_11 : List Nat := 3 :: sX7_howManyToldByLot_12
noncomputable def sX7_howManyToldByLot_10 : List Nat := 62 :: sX7_howManyToldByLot_11
noncomputable def sX7_howManyToldByLot_9 : List Nat := 3 :: sX7_howManyToldByLot_10
noncomputable def sX7_howManyToldByLot_8 : List Nat := 61 :: sX7_howManyToldByLot_9
noncomputable def sX7_howManyToldByLot_5 : List Nat := 182 :: 0 :: 37 :: sX7_howManyToldByLot_8
noncomputable def sX7_howManyToldByLot_2 : List Nat := 180 :: 0 :: 18 :: sX7_howManyToldByLot_5
noncomputable def sX7_howManyToldByLot_1 : List Nat := 42 :: sX7_howManyToldByLot_2
noncomputable def sX7_howManyToldByLot_0 : List Nat := 42 :: sX7_howManyToldByLot_1
theorem aX7_howManyToldByLot_0 : dc_at cX7_howManyToldByLot 0 sX7_howManyToldByLot_0 := dc_base (by decide +kernel)
theorem aX7_howManyToldByLot_1 : dc_at cX7_howManyToldByLot 1 sX7_howManyToldByLot_1 := dc_n1 aX7_howManyToldByLot_0
theorem aX7_howManyToldByLot_2 : dc_at cX7_howManyToldByLot 2 sX7_howManyToldByLot_2 := dc_n1 aX7_howManyToldByLot_1
theorem aX7_howManyToldByLot_5 : dc_at cX7_howManyToldByLot 5 sX7_howManyToldByLot_5 := dc_n3 aX7_howManyToldByLot_2
theorem aX7_howManyToldByLot_8 : dc_at cX7_howManyToldByLot 8 sX7_howManyToldByLot_8 := dc_n3 aX7_howManyToldByLot_5
theorem aX7_howManyToldByLot_9 : dc_at cX7_howManyToldByLot 9 sX7_howManyToldByLot_9 := dc_n1 aX7_howManyToldByLot_8
theorem aX7_howManyToldByLot_10 : dc_at cX7_howManyToldByLot 10 sX7_howManyToldByLot_10 := dc_n1 aX7_howManyToldByLot_9
theorem aX7_howManyToldByLot_11 : dc_at cX7_howManyToldByLot 11 sX7_howManyToldByLot_11 := dc_n1 aX7_howManyToldByLot_10
theorem aX7_howManyToldByLot_12 : dc_at cX7_howManyToldByLot 12 sX7_howManyToldByLot_12 := dc_n1 aX7_howManyToldByLot_11
theorem aX7_howManyToldByLot_14 : dc_at cX7_howManyToldByLot 14 sX7_howManyToldByLot_14 := dc_n2 aX7_howManyToldByLot_12
theorem aX7_howManyToldByLot_16 : dc_at cX7_howManyToldByLot 16 sX7_howManyToldByLot_16 := dc_n2 aX7_howManyToldByLot_14
theorem aX7_howManyToldByLot_17 : dc_at cX7_howManyToldByLot 17 sX7_howManyToldByLot_17 := dc_n1 aX7_howManyToldByLot_16
theorem aX7_howManyToldByLot_20 : dc_at cX7_howManyToldByLot 20 sX7_howManyToldByLot_20 := dc_n3 aX7_howManyToldByLot_17
theorem aX7_howManyToldByLot_21 : dc_at cX7_howManyToldByLot 21 sX7_howManyToldByLot_21 := dc_n1 aX7_howManyToldByLot_20
theorem aX7_howManyToldByLot_22 : dc_at cX7_howManyToldByLot 22 sX7_howManyToldByLot_22 := dc_n1 aX7_howManyToldByLot_21
theorem aX7_howManyToldByLot_25 : dc_at cX7_howManyToldByLot 25 sX7_howManyToldByLot_25 := dc_n3 aX7_howManyToldByLot_22
theorem aX7_howManyToldByLot_27 : dc_at cX7_howManyToldByLot 27 sX7_howManyToldByLot_27 := dc_n2 aX7_howManyToldByLot_25
theorem aX7_howManyToldByLot_28 : dc_at cX7_howManyToldByLot 28 sX7_howManyToldByLot_28 := dc_n1 aX7_howManyToldByLot_27
theorem aX7_howManyToldByLot_29 : dc_at cX7_howManyToldByLot 29 sX7_howManyToldByLot_29 := dc_n1 aX7_howManyToldByLot_28
theorem aX7_howManyToldByLot_32 : dc_at cX7_howManyToldByLot 32 sX7_howManyToldByLot_32 := dc_n3 aX7_howManyToldByLot_29
theorem aX7_howManyToldByLot_33 : dc_at cX7_howManyToldByLot 33 sX7_howManyToldByLot_33 := dc_n1 aX7_howManyToldByLot_32
theorem aX7_howManyToldByLot_36 : dc_at cX7_howManyToldByLot 36 sX7_howManyToldByLot_36 := dc_n3 aX7_howManyToldByLot_33
theorem aX7_howManyToldByLot_38 : dc_at cX7_howManyToldByLot 38 sX7_howManyToldByLot_38 := dc_n2 aX7_howManyToldByLot_36
theorem aX7_howManyToldByLot_39 : dc_at cX7_howManyToldByLot 39 sX7_howManyToldByLot_39 := dc_n1 aX7_howManyToldByLot_38
theorem aX7_howManyToldByLot_40 : dc_at cX7_howManyToldByLot 40 sX7_howManyToldByLot_40 := dc_n1 aX7_howManyToldByLot_39
theorem aX7_howManyToldByLot_43 : dc_at cX7_howManyToldByLot 43 sX7_howManyToldByLot_43 := dc_n3 aX7_howManyToldByLot_40
theorem aX7_howManyToldByLot_46 : dc_at cX7_howManyToldByLot 46 sX7_howManyToldByLot_46 := dc_n3 aX7_howManyToldByLot_43
theorem aX7_howManyToldByLot_49 : dc_at cX7_howManyToldByLot 49 sX7_howManyToldByLot_49 := dc_n3 aX7_howManyToldByLot_46
theorem aX7_howManyToldByLot_52 : dc_at cX7_howManyToldByLot 52 sX7_howManyToldByLot_52 := dc_n3 aX7_howManyToldByLot_49
theorem aX7_howManyToldByLot_55 : dc_at cX7_howManyToldByLot 55 sX7_howManyToldByLot_55 := dc_n3 aX7_howManyToldByLot_52
theorem aX7_howManyToldByLot_56 : dc_at cX7_howManyToldByLot 56 sX7_howManyToldByLot_56 := dc_n1 aX7_howManyToldByLot_55
theorem dX7_howManyToldByLot_0 : decode cX7_howManyToldByLot 0 = .ok (.aload_n 0, 1) := dc_42 aX7_howManyToldByLot_0
theorem dX7_howManyToldByLot_1 : decode cX7_howManyToldByLot 1 = .ok (.aload_n 0, 1) := dc_42 aX7_howManyToldByLot_1
theorem dX7_howManyToldByLot_2 : decode cX7_howManyToldByLot 2 = .ok (.getfield 18, 3) := dc_180 (a0 := 0) (b0 := 18) aX7_howManyToldByLot_2
theorem dX7_howManyToldByLot_5 : decode cX7_howManyToldByLot 5 = .ok (.invokevirtual 37, 3) := dc_182 (a0 := 0) (b0 := 37) aX7_howManyToldByLot_5
theorem dX7_howManyToldByLot_8 : decode cX7_howManyToldByLot 8 = .ok (.istore_n 2, 1) := dc_61 aX7_howManyToldByLot_8
theorem dX7_howManyToldByLot_9 : decode cX7_howManyToldByLot 9 = .ok (.iconst 0, 1) := dc_3 aX7_howManyToldByLot_9
theorem dX7_howManyToldByLot_10 : decode cX7_howManyToldByLot 10 = .ok (.istore_n 3, 1) := dc_62 aX7_howManyToldByLot_10
theorem dX7_howManyToldByLot_11 : decode cX7_howManyToldByLot 11 = .ok (.iconst 0, 1) := dc_3 aX7_howManyToldByLot_11
theorem dX7_howManyToldByLot_12 : decode cX7_howManyToldByLot 12 = .ok (.istore 4, 2) := dc_54 (a0 := 4) aX7_howManyToldByLot_12
theorem dX7_howManyToldByLot_14 : decode cX7_howManyToldByLot 14 = .ok (.iload 4, 2) := dc_21 (a0 := 4) aX7_howManyToldByLot_14
theorem dX7_howManyToldByLot_16 : decode cX7_howManyToldByLot 16 = .ok (.iload_n 2, 1) := dc_28 aX7_howManyToldByLot_16
theorem dX7_howManyToldByLot_17 : decode cX7_howManyToldByLot 17 = .ok (.if_icmp .ge 38, 3) := dc_162 (a0 := 0) (b0 := 38) aX7_howManyToldByLot_17 (by decide)
theorem dX7_howManyToldByLot_20 : decode cX7_howManyToldByLot 20 = .ok (.aload_n 1, 1) := dc_43 aX7_howManyToldByLot_20
theorem dX7_howManyToldByLot_21 : decode cX7_howManyToldByLot 21 = .ok (.aload_n 0, 1) := dc_42 aX7_howManyToldByLot_21
theorem dX7_howManyToldByLot_22 : decode cX7_howManyToldByLot 22 = .ok (.getfield 21, 3) := dc_180 (a0 := 0) (b0 := 21) aX7_howManyToldByLot_22
theorem dX7_howManyToldByLot_25 : decode cX7_howManyToldByLot 25 = .ok (.iload 4, 2) := dc_21 (a0 := 4) aX7_howManyToldByLot_25
theorem dX7_howManyToldByLot_27 : decode cX7_howManyToldByLot 27 = .ok (.iaload, 1) := dc_46 aX7_howManyToldByLot_27
theorem dX7_howManyToldByLot_28 : decode cX7_howManyToldByLot 28 = .ok (.aload_n 0, 1) := dc_42 aX7_howManyToldByLot_28
theorem dX7_howManyToldByLot_29 : decode cX7_howManyToldByLot 29 = .ok (.getfield 18, 3) := dc_180 (a0 := 0) (b0 := 18) aX7_howManyToldByLot_29
theorem dX7_howManyToldByLot_32 : decode cX7_howManyToldByLot 32 = .ok (.aload_n 0, 1) := dc_42 aX7_howManyToldByLot_32
theorem dX7_howManyToldByLot_33 : decode cX7_howManyToldByLot 33 = .ok (.getfield 21, 3) := dc_180 (a0 := 0) (b0 := 21) aX7_howManyToldByLot_33
theorem dX7_howManyToldByLot_36 : decode cX7_howManyToldByLot 36 = .ok (.iload 4, 2) := dc_21 (a0 := 4) aX7_howManyToldByLot_36
theorem dX7_howManyToldByLot_38 : decode cX7_howManyToldByLot 38 = .ok (.iaload, 1) := dc_46 aX7_howManyToldByLot_38
theorem dX7_howManyToldByLot_39 : decode cX7_howManyToldByLot 39 = .ok (.iaload, 1) := dc_46 aX7_howManyToldByLot_39
theorem dX7_howManyToldByLot_40 : decode cX7_howManyToldByLot 40 = .ok (.invokestatic 63, 3) := dc_184 (a0 := 0) (b0 := 63) aX7_howManyToldByLot_40
theorem dX7_howManyToldByLot_43 : decode cX7_howManyToldByLot 43 = .ok (.ifCond .eq 6, 3) := dc_153 (a0 := 0) (b0 := 6) aX7_howManyToldByLot_43 (by decide)
theorem dX7_howManyToldByLot_46 : decode cX7_howManyToldByLot 46 = .ok (.iinc 3 1, 3) := dc_132 (a0 := 3) (a1 := 1) aX7_howManyToldByLot_46 (by decide)
theorem dX7_howManyToldByLot_49 : decode cX7_howManyToldByLot 49 = .ok (.iinc 4 1, 3) := dc_132 (a0 := 4) (a1 := 1) aX7_howManyToldByLot_49 (by decide)
theorem dX7_howManyToldByLot_52 : decode cX7_howManyToldByLot 52 = .ok (.goto (-38), 3) := dc_167 (a0 := 255) (b0 := 218) aX7_howManyToldByLot_52 (by decide)
theorem dX7_howManyToldByLot_55 : decode cX7_howManyToldByLot 55 = .ok (.iload_n 3, 1) := dc_29 aX7_howManyToldByLot_55
theorem dX7_howManyToldByLot_56 : decode cX7_howManyToldByLot 56 = .ok (.ireturn, 1) := dc_172 aX7_howManyToldByLot_56
set_option maxRecDepth 20000 in
theorem ggX7_chanceOfFates_X7_setRows : GoodIn wsX7_chanceOfFates wsX7_setRows := goodIn_k _ [[8], [3, 38, 0, 0, 0, 0, 0]] (by rfl) (by decide +kernel)
set_option maxRecDepth 20000 in
theorem gX7_chanceOfFates_X7_setRows : GoodIn wsX7_chanceOfFates (wsV RX7 37 RX7 yX7_setRows wsX7_setRows) := goodIn_app (goodIn_of _ (by decide +kernel)) ggX7_chanceOfFates_X7_setRows
set_option maxRecDepth 20000 in
theorem ggX7_chanceOfFates_X7_isToldByLot : GoodIn wsX7_chanceOfFates wsX7_isToldByLot := goodIn_k _ [[11, 0, 0, 0, 0, 0, 0, 30, 0]] (by rfl) (by decide +kernel)
set_option maxRecDepth 20000 in
theorem gX7_chanceOfFates_X7_isToldByLot : GoodIn wsX7_chanceOfFates (va_wsS RX7 63 yX7_isToldByLot wsX7_isToldByLot) := goodIn_app (goodIn_of _ (by decide +kernel)) ggX7_chanceOfFates_X7_isToldByLot
set_option maxRecDepth 20000 in
theorem ggX7_chanceOfFates_X7_howManyToldByLot : GoodIn wsX7_chanceOfFates wsX7_howManyToldByLot := goodIn_k _ [[21], [1, 1, 0, 0, 0, 0, 0, 0, 0, 0, 0, 0, 0, 0, 0, 0, 24, 0, 0, 0, 0, 0, 0, 0]] (by rfl) (by decide +kernel)
set_option maxRecDepth 20000 in
theorem gX7_chanceOfFates_X7_howManyToldByLot : GoodIn wsX7_chanceOfFates (wsV RX7 67 RX7 yX7_howManyToldByLot wsX7_howManyToldByLot) := goodIn_app (goodIn_of _ (by decide +kernel)) ggX7_chanceOfFates_X7_howManyToldByLot
set_option maxRecDepth 20000 in
theorem ggX7_chanceOfFates_X7_waysToHit : GoodIn wsX7_chanceOfFates wsX7_waysToHit := goodIn_k _ [[25, 0, 0, 0, 0, 0, 0, 0, 0], [7, 26], [2, 32, 0, 0, 0, 0, 0, 0, 0, 0, 0, 0, 0, 0]] (by rfl) (by decide +kernel)
set_option maxRecDepth 20000 in
theorem gX7_chanceOfFates_X7_waysToHit : GoodIn wsX7_chanceOfFates (wsV RX7 54 RX7 yX7_waysToHit wsX7_waysToHit) := goodIn_app (goodIn_of _ (by decide +kernel)) ggX7_chanceOfFates_X7_waysToHit
noncomputable def sX7_chanceOfFates_89 : List Nat := 172 :: []
noncomputable def sX7_chanceOfFates_86 : List Nat := 182 :: 0 :: 54 :: sX7_chanceOfFates_89
noncomputable def sX7_chanceOfFates_83 : List Nat := 182 :: 0 :: 67 :: sX7_chanceOfFates_86
noncomputable def sX7_chanceOfFates_82 : List Nat := 43 :: sX7_chanceOfFates_83
noncomputable def sX7_chanceOfFates_81 : List Nat := 42 :: sX7_chanceOfFates_82
noncomputable def sX7_chanceOfFates_80 : List Nat := 28 :: sX7_chanceOfFates_81
noncomputable def sX7_chanceOfFates_79 : List Nat := 42 :: sX7_chanceOfFates_80
noncomputable def sX7_chanceOfFates_76 : List Nat := 167 :: 255 :: 199 :: sX7_chanceOfFates_79
noncomputable def sX7_chanceOfFates_73 : List Nat := 132 :: 3 :: 1 :: sX7_chanceOfFates_76
noncomputable def sX7_chanceOfFates_70 : List Nat := 167 :: 255 :: 213 :: sX7_chanceOfFates_73
noncomputable def sX7_chanceOfFates_67 : List Nat := 132 :: 4 :: 1 :: sX7_chanceOfFates_70
noncomputable def sX7_chanceOfFates_66 : List Nat := 84 :: sX7_chanceOfFates_67
noncomputable def sX7_chanceOfFates_63 : List Nat := 184 :: 0 :: 63 :: sX7_chanceOfFates_66
noncomputable def sX7_chanceOfFates_62 : List Nat := 46 :: sX7_chanceOfFates_63
noncomputable def sX7_chanceOfFates_61 : List Nat := 46 :: sX7_chanceOfFates_62
noncomputable def sX7_chanceOfFates_59 : List Nat := 21 :: 4 :: sX7_chanceOfFates_61
noncomputable def sX7_chanceOfFates_56 : List Nat := 180 :: 0 :: 21 :: sX7_chanceOfFates_59
noncomputable def sX7_chanceOfFates_55 : List Nat := 42 :: sX7_chanceOfFates_56
noncomputable def sX7_chanceOfFates_52 : List Nat := 180 :: 0 :: 18 :: sX7_chanceOfFates_55
noncomputable def sX7_chanceOfFates_51 : List Nat := 42 :: sX7_chanceOfFates_52
noncomputable def sX7_chanceOfFates_50 : List Nat := 46 :: sX7_chanceOfFates_51
noncomputable def sX7_chanceOfFates_49 : List Nat := 29 :: sX7_chanceOfFates_50
noncomputable def sX7_chanceOfFates_46 : List Nat := 180 :: 0 :: 21 :: sX7_chanceOfFates_49
noncomputable def sX7_chanceOfFates_45 : List Nat := 42 :: sX7_chanceOfFates_46
noncomputable def sX7_chanceOfFates_44 : List Nat := 43 :: sX7_chanceOfFates_45
noncomputable def sX7_chanceOfFates_43 : List Nat := 96 :: sX7_chanceOfFates_44
noncomputable def sX7_chanceOfFates_41 : List Nat := 21 :: 4 :: sX7_chanceOfFates_43
noncomputable def sX7_chanceOfFates_40 : List Nat := 104 :: sX7_chanceOfFates_41
noncomputable def sX7_chanceOfFates_39 : List Nat := 29 :: sX7_chanceOfFates_40
noncomputable def sX7_chanceOfFates_37 : List Nat := 16 :: 8 :: sX7_chanceOfFates_39
noncomputable def sX7_chanceOfFates_34 : List Nat := 180 :: 0 :: 24 :: sX7_chanceOfFates_37
noncomputable def sX7_chanceOfFates_33 : List Nat := 42 :: sX7_chanceOfFates_34
noncomputable def sX7_chanceOfFates_30 : List Nat := 162 :: 0 :: 43 :: sX7_chanceOfFates_33
noncomputable def sX7_chanceOfFates_29 : List Nat := 28 :: sX7_chanceOfFates_30
noncomputable def sX7_chanceOfFates_27 : List Nat := 21 :: 4 :: sX7_chanceOfFates_29
noncomputable def sX7_chanceOfFates_25 : List Nat := 54 :: 4 :: sX7_chanceOfFates_27
noncomputable def sX7_chanceOfFates_24 : List Nat := 3 :: sX7_chanceOfFates_25
noncomputable def sX7_chanceOfFates_21 : List Nat := 162 :: 0 :: 58 :: sX7_chanceOfFates_24
noncomputable def sX7_chanceOfFates_20 : List Nat := 28 :: sX7_chanceOfFates_21
noncomputable def sX7_chanceOfFates_19 : List Nat := 29 :: sX7_chanceOfFates_20
noncomputable def sX7_chanceOfFates_18 : List Nat := 62 :: sX7_chanceOfFates_19
noncomputable def sX7_chanceOfFates_17 : List Nat := 3 :: sX7_chanceOfFates_18
noncomputable def sX7_chanceOfFates_16 : List Nat := 172 :: sX7_chanceOfFates_17
noncomputable def sX7_chanceOfFates_15 : List Nat := 2 :: sX7_chanceOfFates_16
noncomputable def sX7_chanceOfFates_12 : List Nat := 164 :: 0 :: 5 :: sX7_chanceOfFates_15
noncomputable def sX7_chanceOfFates_10 : List Nat := 16 :: 8 :: sX7_chanceOfFates_12
noncomputable def sX7_chanceOfFates_9 : List Nat := 28 :: sX7_chanceOfFates_10
noncomputable def sX7_chanceOfFates_8 : List Nat := 61 :: sX7_chanceOfFates_9
noncomputable def sX7_chanceOfFates_5 : List Nat := 182 :: 0 :: 37 :: sX7_chanceOfFates_8
noncomputable def sX7_chanceOfFates_2 : List Nat := 180 :: 0 :: 18 :: sX7_chanceOfFates_5
noncomputable def sX7_chanceOfFates_1 : List Nat := 42 :: sX7_chanceOfFates_2
noncomputable def sX7_chanceOfFates_0 : List Nat := 42 :: sX7_chanceOfFates_1
theorem aX7_chanceOfFates_0 : dc_at cX7_chanceOfFates 0 sX7_chanceOfFates_0 := dc_base (by decide +kernel)
theorem aX7_chanceOfFates_1 : dc_at cX7_chanceOfFates 1 sX7_chanceOfFates_1 := dc_n1 aX7_chanceOfFates_0
theorem aX7_chanceOfFates_2 : dc_at cX7_chanceOfFates 2 sX7_chanceOfFates_2 := dc_n1 aX7_chanceOfFates_1
theorem aX7_chanceOfFates_5 : dc_at cX7_chanceOfFates 5 sX7_chanceOfFates_5 := dc_n3 aX7_chanceOfFates_2
theorem aX7_chanceOfFates_8 : dc_at cX7_chanceOfFates 8 sX7_chanceOfFates_8 := dc_n3 aX7_chanceOfFates_5
theorem aX7_chanceOfFates_9 : dc_at cX7_chanceOfFates 9 sX7_chanceOfFates_9 := dc_n1 aX7_chanceOfFates_8
theorem aX7_chanceOfFates_10 : dc_at cX7_chanceOfFates 10 sX7_chanceOfFates_10 := dc_n1 aX7_chanceOfFates_9
theorem aX7_chanceOfFates_12 : dc_at cX7_chanceOfFates 12 sX7_chanceOfFates_12 := dc_n2 aX7_chanceOfFates_10
theorem aX7_chanceOfFates_15 : dc_at cX7_chanceOfFates 15 sX7_chanceOfFates_15 := dc_n3 aX7_chanceOfFates_12
theorem aX7_chanceOfFates_16 : dc_at cX7_chanceOfFates 16 sX7_chanceOfFates_16 := dc_n1 aX7_chanceOfFates_15
theorem aX7_chanceOfFates_17 : dc_at cX7_chanceOfFates 17 sX7_chanceOfFates_17 := dc_n1 aX7_chanceOfFates_16
theorem aX7_chanceOfFates_18 : dc_at cX7_chanceOfFates 18 sX7_chanceOfFates_18 := dc_n1 aX7_chanceOfFates_17
theorem aX7_chanceOfFates_19 : dc_at cX7_chanceOfFates 19 sX7_chanceOfFates_19 := dc_n1 aX7_chanceOfFates_18
theorem aX7_chanceOfFates_20 : dc_at cX7_chanceOfFates 20 sX7_chanceOfFates_20 := dc_n1 aX7_chanceOfFates_19
theorem aX7_chanceOfFates_21 : dc_at cX7_chanceOfFates 21 sX7_chanceOfFates_21 := dc_n1 aX7_chanceOfFates_20
theorem aX7_chanceOfFates_24 : dc_at cX7_chanceOfFates 24 sX7_chanceOfFates_24 := dc_n3 aX7_chanceOfFates_21
theorem aX7_chanceOfFates_25 : dc_at cX7_chanceOfFates 25 sX7_chanceOfFates_25 := dc_n1 aX7_chanceOfFates_24
theorem aX7_chanceOfFates_27 : dc_at cX7_chanceOfFates 27 sX7_chanceOfFates_27 := dc_n2 aX7_chanceOfFates_25
theorem aX7_chanceOfFates_29 : dc_at cX7_chanceOfFates 29 sX7_chanceOfFates_29 := dc_n2 aX7_chanceOfFates_27
theorem aX7_chanceOfFates_30 : dc_at cX7_chanceOfFates 30 sX7_chanceOfFates_30 := dc_n1 aX7_chanceOfFates_29
theorem aX7_chanceOfFates_33 : dc_at cX7_chanceOfFates 33 sX7_chanceOfFates_33 := dc_n3 aX7_chanceOfFates_30
theorem aX7_chanceOfFates_34 : dc_at cX7_chanceOfFates 34 sX7_chanceOfFates_34 := dc_n1 aX7_chanceOfFates_33
theorem aX7_chanceOfFates_37 : dc_at cX7_chanceOfFates 37 sX7_chanceOfFates_37 := dc_n3 aX7_chanceOfFates_34
theorem aX7_chanceOfFates_39 : dc_at cX7_chanceOfFates 39 sX7_chanceOfFates_39 := dc_n2 aX7_chanceOfFates_37
theorem aX7_chanceOfFates_40 : dc_at cX7_chanceOfFates 40 sX7_chanceOfFates_40 := dc_n1 aX7_chanceOfFates_39
theorem aX7_chanceOfFates_41 : dc_at cX7_chanceOfFates 41 sX7_chanceOfFates_41 := dc_n1 aX7_chanceOfFates_40
theorem aX7_chanceOfFates_43 : dc_at cX7_chanceOfFates 43 sX7_chanceOfFates_43 := dc_n2 aX7_chanceOfFates_41
theorem aX7_chanceOfFates_44 : dc_at cX7_chanceOfFates 44 sX7_chanceOfFates_44 := dc_n1 aX7_chanceOfFates_43
theorem aX7_chanceOfFates_45 : dc_at cX7_chanceOfFates 45 sX7_chanceOfFates_45 := dc_n1 aX7_chanceOfFates_44
theorem aX7_chanceOfFates_46 : dc_at cX7_chanceOfFates 46 sX7_chanceOfFates_46 := dc_n1 aX7_chanceOfFates_45
theorem aX7_chanceOfFates_49 : dc_at cX7_chanceOfFates 49 sX7_chanceOfFates_49 := dc_n3 aX7_chanceOfFates_46
theorem aX7_chanceOfFates_50 : dc_at cX7_chanceOfFates 50 sX7_chanceOfFates_50 := dc_n1 aX7_chanceOfFates_49
theorem aX7_chanceOfFates_51 : dc_at cX7_chanceOfFates 51 sX7_chanceOfFates_51 := dc_n1 aX7_chanceOfFates_50
theorem aX7_chanceOfFates_52 : dc_at cX7_chanceOfFates 52 sX7_chanceOfFates_52 := dc_n1 aX7_chanceOfFates_51
theorem aX7_chanceOfFates_55 : dc_at cX7_chanceOfFates 55 sX7_chanceOfFates_55 := dc_n3 aX7_chanceOfFates_52
theorem aX7_chanceOfFates_56 : dc_at cX7_chanceOfFates 56 sX7_chanceOfFates_56 := dc_n1 aX7_chanceOfFates_55
theorem aX7_chanceOfFates_59 : dc_at cX7_chanceOfFates 59 sX7_chanceOfFates_59 := dc_n3 aX7_chanceOfFates_56
theorem aX7_chanceOfFates_61 : dc_at cX7_chanceOfFates 61 sX7_chanceOfFates_61 := dc_n2 aX7_chanceOfFates_59
theorem aX7_chanceOfFates_62 : dc_at cX7_chanceOfFates 62 sX7_chanceOfFates_62 := dc_n1 aX7_chanceOfFates_61
theorem aX7_chanceOfFates_63 : dc_at cX7_chanceOfFates 63 sX7_chanceOfFates_63 := dc_n1 aX7_chanceOfFates_62
theorem aX7_chanceOfFates_66 : dc_at cX7_chanceOfFates 66 sX7_chanceOfFates_66 := dc_n3 aX7_chanceOfFates_63
theorem aX7_chanceOfFates_67 : dc_at cX7_chanceOfFates 67 sX7_chanceOfFates_67 := dc_n1 aX7_chanceOfFates_66
theorem aX7_chanceOfFates_70 : dc_at cX7_chanceOfFates 70 sX7_chanceOfFates_70 := dc_n3 aX7_chanceOfFates_67
theorem aX7_chanceOfFates_73 : dc_at cX7_chanceOfFates 73 sX7_chanceOfFates_73 := dc_n3 aX7_chanceOfFates_70
theorem aX7_chanceOfFates_76 : dc_at cX7_chanceOfFates 76 sX7_chanceOfFates_76 := dc_n3 aX7_chanceOfFates_73
theorem aX7_chanceOfFates_79 : dc_at cX7_chanceOfFates 79 sX7_chanceOfFates_79 := dc_n3 aX7_chanceOfFates_76
theorem aX7_chanceOfFates_80 : dc_at cX7_chanceOfFates 80 sX7_chanceOfFates_80 := dc_n1 aX7_chanceOfFates_79
theorem aX7_chanceOfFates_81 : dc_at cX7_chanceOfFates 81 sX7_chanceOfFates_81 := dc_n1 aX7_chanceOfFates_80
theorem aX7_chanceOfFates_82 : dc_at cX7_chanceOfFates 82 sX7_chanceOfFates_82 := dc_n1 aX7_chanceOfFates_81
theorem aX7_chanceOfFates_83 : dc_at cX7_chanceOfFates 83 sX7_chanceOfFates_83 := dc_n1 aX7_chanceOfFates_82
theorem aX7_chanceOfFates_86 : dc_at cX7_chanceOfFates 86 sX7_chanceOfFates_86 := dc_n3 aX7_chanceOfFates_83
theorem aX7_chanceOfFates_89 : dc_at cX7_chanceOfFates 89 sX7_chanceOfFates_89 := dc_n3 aX7_chanceOfFates_86
theorem dX7_chanceOfFates_0 : decode cX7_chanceOfFates 0 = .ok (.aload_n 0, 1) := dc_42 aX7_chanceOfFates_0
theorem dX7_chanceOfFates_1 : decode cX7_chanceOfFates 1 = .ok (.aload_n 0, 1) := dc_42 aX7_chanceOfFates_1
theorem dX7_chanceOfFates_2 : decode cX7_chanceOfFates 2 = .ok (.getfield 18, 3) := dc_180 (a0 := 0) (b0 := 18) aX7_chanceOfFates_2
theorem dX7_chanceOfFates_5 : decode cX7_chanceOfFates 5 = .ok (.invokevirtual 37, 3) := dc_182 (a0 := 0) (b0 := 37) aX7_chanceOfFates_5
theorem dX7_chanceOfFates_8 : decode cX7_chanceOfFates 8 = .ok (.istore_n 2, 1) := dc_61 aX7_chanceOfFates_8
theorem dX7_chanceOfFates_9 : decode cX7_chanceOfFates 9 = .ok (.iload_n 2, 1) := dc_28 aX7_chanceOfFates_9
theorem dX7_chanceOfFates_10 : decode cX7_chanceOfFates 10 = .ok (.bipush 8, 2) := dc_16 (a0 := 8) aX7_chanceOfFates_10 (by decide)
theorem dX7_chanceOfFates_12 : decode cX7_chanceOfFates 12 = .ok (.if_icmp .le 5, 3) := dc_164 (a0 := 0) (b0 := 5) aX7_chanceOfFates_12 (by decide)
theorem dX7_chanceOfFates_15 : decode cX7_chanceOfFates 15 = .ok (.iconst (-1), 1) := dc_2 aX7_chanceOfFates_15
theorem dX7_chanceOfFates_16 : decode cX7_chanceOfFates 16 = .ok (.ireturn, 1) := dc_172 aX7_chanceOfFates_16
theorem dX7_chanceOfFates_17 : decode cX7_chanceOfFates 17 = .ok (.iconst 0, 1) := dc_3 aX7_chanceOfFates_17
theorem dX7_chanceOfFates_18 : decode cX7_chanceOfFates 18 = .ok (.istore_n 3, 1) := dc_62 aX7_chanceOfFates_18
theorem dX7_chanceOfFates_19 : decode cX7_chanceOfFates 19 = .ok (.iload_n 3, 1) := dc_29 aX7_chanceOfFates_19
theorem dX7_chanceOfFates_20 : decode cX7_chanceOfFates 20 = .ok (.iload_n 2, 1) := dc_28 aX7_chanceOfFates_20
theorem dX7_chanceOfFates_21 : decode cX7_chanceOfFates 21 = .ok (.if_icmp .ge 58, 3) := dc_162 (a0 := 0) (b0 := 58) aX7_chanceOfFates_21 (by decide)
theorem dX7_chanceOfFates_24 : decode cX7_chanceOfFates 24 = .ok (.iconst 0, 1) := dc_3 aX7_chanceOfFates_24
theorem dX7_chanceOfFates_25 : decode cX7_chanceOfFates 25 = .ok (.istore 4, 2) := dc_54 (a0 := 4) aX7_chanceOfFates_25
theorem dX7_chanceOfFates_27 : decode cX7_chanceOfFates 27 = .ok (.iload 4, 2) := dc_21 (a0 := 4) aX7_chanceOfFates_27
theorem dX7_chanceOfFates_29 : decode cX7_chanceOfFates 29 = .ok (.iload_n 2, 1) := dc_28 aX7_chanceOfFates_29
theorem dX7_chanceOfFates_30 : decode cX7_chanceOfFates 30 = .ok (.if_icmp .ge 43, 3) := dc_162 (a0 := 0) (b0 := 43) aX7_chanceOfFates_30 (by decide)
theorem dX7_chanceOfFates_33 : decode cX7_chanceOfFates 33 = .ok (.aload_n 0, 1) := dc_42 aX7_chanceOfFates_33
theorem dX7_chanceOfFates_34 : decode cX7_chanceOfFates 34 = .ok (.getfield 24, 3) := dc_180 (a0 := 0) (b0 := 24) aX7_chanceOfFates_34
theorem dX7_chanceOfFates_37 : decode cX7_chanceOfFates 37 = .ok (.bipush 8, 2) := dc_16 (a0 := 8) aX7_chanceOfFates_37 (by decide)
theorem dX7_chanceOfFates_39 : decode cX7_chanceOfFates 39 = .ok (.iload_n 3, 1) := dc_29 aX7_chanceOfFates_39
theorem dX7_chanceOfFates_40 : decode cX7_chanceOfFates 40 = .ok (.imul, 1) := dc_104 aX7_chanceOfFates_40
theorem dX7_chanceOfFates_41 : decode cX7_chanceOfFates 41 = .ok (.iload 4, 2) := dc_21 (a0 := 4) aX7_chanceOfFates_41
theorem dX7_chanceOfFates_43 : decode cX7_chanceOfFates 43 = .ok (.iadd, 1) := dc_96 aX7_chanceOfFates_43
theorem dX7_chanceOfFates_44 : decode cX7_chanceOfFates 44 = .ok (.aload_n 1, 1) := dc_43 aX7_chanceOfFates_44
theorem dX7_chanceOfFates_45 : decode cX7_chanceOfFates 45 = .ok (.aload_n 0, 1) := dc_42 aX7_chanceOfFates_45
theorem dX7_chanceOfFates_46 : decode cX7_chanceOfFates 46 = .ok (.getfield 21, 3) := dc_180 (a0 := 0) (b0 := 21) aX7_chanceOfFates_46
theorem dX7_chanceOfFates_49 : decode cX7_chanceOfFates 49 = .ok (.iload_n 3, 1) := dc_29 aX7_chanceOfFates_49
theorem dX7_chanceOfFates_50 : decode cX7_chanceOfFates 50 = .ok (.iaload, 1) := dc_46 aX7_chanceOfFates_50
theorem dX7_chanceOfFates_51 : decode cX7_chanceOfFates 51 = .ok (.aload_n 0, 1) := dc_42 aX7_chanceOfFates_51
theorem dX7_chanceOfFates_52 : decode cX7_chanceOfFates 52 = .ok (.getfield 18, 3) := dc_180 (a0 := 0) (b0 := 18) aX7_chanceOfFates_52
theorem dX7_chanceOfFates_55 : decode cX7_chanceOfFates 55 = .ok (.aload_n 0, 1) := dc_42 aX7_chanceOfFates_55
theorem dX7_chanceOfFates_56 : decode cX7_chanceOfFates 56 = .ok (.getfield 21, 3) := dc_180 (a0 := 0) (b0 := 21) aX7_chanceOfFates_56
theorem dX7_chanceOfFates_59 : decode cX7_chanceOfFates 59 = .ok (.iload 4, 2) := dc_21 (a0 := 4) aX7_chanceOfFates_59
theorem dX7_chanceOfFates_61 : decode cX7_chanceOfFates 61 = .ok (.iaload, 1) := dc_46 aX7_chanceOfFates_61
theorem dX7_chanceOfFates_62 : decode cX7_chanceOfFates 62 = .ok (.iaload, 1) := dc_46 aX7_chanceOfFates_62
theorem dX7_chanceOfFates_63 : decode cX7_chanceOfFates 63 = .ok (.invokestatic 63, 3) := dc_184 (a0 := 0) (b0 := 63) aX7_chanceOfFates_63
theorem dX7_chanceOfFates_66 : decode cX7_chanceOfFates 66 = .ok (.bastore, 1) := dc_84 aX7_chanceOfFates_66
theorem dX7_chanceOfFates_67 : decode cX7_chanceOfFates 67 = .ok (.iinc 4 1, 3) := dc_132 (a0 := 4) (a1 := 1) aX7_chanceOfFates_67 (by decide)
theorem dX7_chanceOfFates_70 : decode cX7_chanceOfFates 70 = .ok (.goto (-43), 3) := dc_167 (a0 := 255) (b0 := 213) aX7_chanceOfFates_70 (by decide)
theorem dX7_chanceOfFates_73 : decode cX7_chanceOfFates 73 = .ok (.iinc 3 1, 3) := dc_132 (a0 := 3) (a1 := 1) aX7_chanceOfFates_73 (by decide)
theorem dX7_chanceOfFates_76 : decode cX7_chanceOfFates 76 = .ok (.goto (-57), 3) := dc_167 (a0 := 255) (b0 := 199) aX7_chanceOfFates_76 (by decide)
theorem dX7_chanceOfFates_79 : decode cX7_chanceOfFates 79 = .ok (.aload_n 0, 1) := dc_42 aX7_chanceOfFates_79
theorem dX7_chanceOfFates_80 : decode cX7_chanceOfFates 80 = .ok (.iload_n 2, 1) := dc_28 aX7_chanceOfFates_80
theorem dX7_chanceOfFates_81 : decode cX7_chanceOfFates 81 = .ok (.aload_n 0, 1) := dc_42 aX7_chanceOfFates_81
theorem dX7_chanceOfFates_82 : decode cX7_chanceOfFates 82 = .ok (.aload_n 1, 1) := dc_43 aX7_chanceOfFates_82
theorem dX7_chanceOfFates_83 : decode cX7_chanceOfFates 83 = .ok (.invokevirtual 67, 3) := dc_182 (a0 := 0) (b0 := 67) aX7_chanceOfFates_83
theorem dX7_chanceOfFates_86 : decode cX7_chanceOfFates 86 = .ok (.invokevirtual 54, 3) := dc_182 (a0 := 0) (b0 := 54) aX7_chanceOfFates_86
theorem dX7_chanceOfFates_89 : decode cX7_chanceOfFates 89 = .ok (.ireturn, 1) := dc_172 aX7_chanceOfFates_89
set_option maxRecDepth 20000 in
theorem ggX7_waysToHit_J7_fill_53178 : GoodIn wsX7_waysToHit wsJ7_fill_53178 := goodIn_k _ [[5]] (by rfl) (by decide +kernel)
set_option maxRecDepth 20000 in
theorem gX7_waysToHit_J7_fill_53178 : GoodIn wsX7_waysToHit (va_wsS RX7 31 yJ7_fill_53178 wsJ7_fill_53178) := goodIn_app (goodIn_of _ (by decide +kernel)) ggX7_waysToHit_J7_fill_53178
set_option maxRecDepth 20000 in
theorem ggX7_waysToHit_X7_layNext : GoodIn wsX7_waysToHit wsX7_layNext := goodIn_k _ [[10, 0], [1, 10, 0, 0, 0, 0, 0, 0, 0, 0, 0, 0, 0, 0]] (by rfl) (by decide +kernel)
set_option maxRecDepth 20000 in
theorem gX7_waysToHit_X7_layNext : GoodIn wsX7_waysToHit (wsV RX7 71 RX7 yX7_layNext wsX7_layNext) := goodIn_app (goodIn_of _ (by decide +kernel)) ggX7_waysToHit_X7_layNext
noncomputable def sX7_waysToHit_80 : List Nat := 172 :: []
noncomputable def sX7_waysToHit_78 : List Nat := 21 :: 4 :: sX7_waysToHit_80
noncomputable def sX7_waysToHit_75 : List Nat := 167 :: 255 :: 230 :: sX7_waysToHit_78
noncomputable def sX7_waysToHit_72 : List Nat := 132 :: 5 :: 1 :: sX7_waysToHit_75
noncomputable def sX7_waysToHit_70 : List Nat := 54 :: 4 :: sX7_waysToHit_72
noncomputable def sX7_waysToHit_69 : List Nat := 96 :: sX7_waysToHit_70
noncomputable def sX7_waysToHit_68 : List Nat := 46 :: sX7_waysToHit_69
noncomputable def sX7_waysToHit_67 : List Nat := 96 :: sX7_waysToHit_68
noncomputable def sX7_waysToHit_65 : List Nat := 21 :: 5 :: sX7_waysToHit_67
noncomputable def sX7_waysToHit_64 : List Nat := 104 :: sX7_waysToHit_65
noncomputable def sX7_waysToHit_63 : List Nat := 29 :: sX7_waysToHit_64
noncomputable def sX7_waysToHit_61 : List Nat := 16 :: 9 :: sX7_waysToHit_63
noncomputable def sX7_waysToHit_58 : List Nat := 180 :: 0 :: 28 :: sX7_waysToHit_61
noncomputable def sX7_waysToHit_57 : List Nat := 42 :: sX7_waysToHit_58
noncomputable def sX7_waysToHit_55 : List Nat := 21 :: 4 :: sX7_waysToHit_57
noncomputable def sX7_waysToHit_52 : List Nat := 163 :: 0 :: 26 :: sX7_waysToHit_55
noncomputable def sX7_waysToHit_51 : List Nat := 27 :: sX7_waysToHit_52
noncomputable def sX7_waysToHit_49 : List Nat := 21 :: 5 :: sX7_waysToHit_51
noncomputable def sX7_waysToHit_47 : List Nat := 54 :: 5 :: sX7_waysToHit_49
noncomputable def sX7_waysToHit_46 : List Nat := 28 :: sX7_waysToHit_47
noncomputable def sX7_waysToHit_44 : List Nat := 54 :: 4 :: sX7_waysToHit_46
noncomputable def sX7_waysToHit_43 : List Nat := 3 :: sX7_waysToHit_44
noncomputable def sX7_waysToHit_40 : List Nat := 167 :: 255 :: 240 :: sX7_waysToHit_43
noncomputable def sX7_waysToHit_37 : List Nat := 132 :: 4 :: 1 :: sX7_waysToHit_40
noncomputable def sX7_waysToHit_34 : List Nat := 182 :: 0 :: 71 :: sX7_waysToHit_37
noncomputable def sX7_waysToHit_33 : List Nat := 27 :: sX7_waysToHit_34
noncomputable def sX7_waysToHit_31 : List Nat := 21 :: 4 :: sX7_waysToHit_33
noncomputable def sX7_waysToHit_30 : List Nat := 42 :: sX7_waysToHit_31
noncomputable def sX7_waysToHit_27 : List Nat := 162 :: 0 :: 16 :: sX7_waysToHit_30
noncomputable def sX7_waysToHit_26 : List Nat := 29 :: sX7_waysToHit_27
noncomputable def sX7_waysToHit_24 : List Nat := 21 :: 4 :: sX7_waysToHit_26
noncomputable def sX7_waysToHit_22 : List Nat := 54 :: 4 :: sX7_waysToHit_24
noncomputable def sX7_waysToHit_21 : List Nat := 3 :: sX7_waysToHit_22
noncomputable def sX7_waysToHit_20 : List Nat := 79 :: sX7_waysToHit_21
noncomputable def sX7_waysToHit_19 : List Nat := 4 :: sX7_waysToHit_20
noncomputable def sX7_waysToHit_18 : List Nat := 3 :: sX7_waysToHit_19
noncomputable def sX7_waysToHit_15 : List Nat := 180 :: 0 :: 28 :: sX7_waysToHit_18
noncomputable def sX7_waysToHit_14 : List Nat := 42 :: sX7_waysToHit_15
noncomputable def sX7_waysToHit_11 : List Nat := 184 :: 0 :: 31 :: sX7_waysToHit_14
noncomputable def sX7_waysToHit_10 : List Nat := 3 :: sX7_waysToHit_11
noncomputable def sX7_waysToHit_7 : List Nat := 180 :: 0 :: 28 :: sX7_waysToHit_10
noncomputable def sX7_waysToHit_6 : List Nat := 42 :: sX7_waysToHit_7
noncomputable def sX7_waysToHit_5 : List Nat := 62 :: sX7_waysToHit_6
noncomputable def sX7_waysToHit_4 : List Nat := 100 :: sX7_waysToHit_5
noncomputable def sX7_waysToHit_3 : List Nat := 4 :: sX7_waysToHit_4
noncomputable def sX7_waysToHit_2 : List Nat := 120 :: sX7_waysToHit_3
noncomputable def sX7_waysToHit_1 : List Nat := 27 :: sX7_waysToHit_2
noncomputable def sX7_waysToHit_0 : List Nat := 4 :: sX7_waysToHit_1
theorem aX7_waysToHit_0 : dc_at cX7_waysToHit 0 sX7_waysToHit_0 := dc_base (by decide +kernel)
theorem aX7_waysToHit_1 : dc_at cX7_waysToHit 1 sX7_waysToHit_1 := dc_n1 aX7_waysToHit_0
theorem aX7_waysToHit_2 : dc_at cX7_waysToHit 2 sX7_waysToHit_2 := dc_n1 aX7_waysToHit_1
theorem aX7_waysToHit_3 : dc_at cX7_waysToHit 3 sX7_waysToHit_3 := dc_n1 aX7_waysToHit_2
theorem aX7_waysToHit_4 : dc_at cX7_waysToHit 4 sX7_waysToHit_4 := dc_n1 aX7_waysToHit_3
theorem aX7_waysToHit_5 : dc_at cX7_waysToHit 5 sX7_waysToHit_5 := dc_n1 aX7_waysToHit_4
theorem aX7_waysToHit_6 : dc_at cX7_waysToHit 6 sX7_waysToHit_6 := dc_n1 aX7_waysToHit_5
theorem aX7_waysToHit_7 : dc_at cX7_waysToHit 7 sX7_waysToHit_7 := dc_n1 aX7_waysToHit_6
theorem aX7_waysToHit_10 : dc_at cX7_waysToHit 10 sX7_waysToHit_10 := dc_n3 aX7_waysToHit_7
theorem aX7_waysToHit_11 : dc_at cX7_waysToHit 11 sX7_waysToHit_11 := dc_n1 aX7_waysToHit_10
theorem aX7_waysToHit_14 : dc_at cX7_waysToHit 14 sX7_waysToHit_14 := dc_n3 aX7_waysToHit_11
theorem aX7_waysToHit_15 : dc_at cX7_waysToHit 15 sX7_waysToHit_15 := dc_n1 aX7_waysToHit_14
theorem aX7_waysToHit_18 : dc_at cX7_waysToHit 18 sX7_waysToHit_18 := dc_n3 aX7_waysToHit_15
theorem aX7_waysToHit_19 : dc_at cX7_waysToHit 19 sX7_waysToHit_19 := dc_n1 aX7_waysToHit_18
theorem aX7_waysToHit_20 : dc_at cX7_waysToHit 20 sX7_waysToHit_20 := dc_n1 aX7_waysToHit_19
theorem aX7_waysToHit_21 : dc_at cX7_waysToHit 21 sX7_waysToHit_21 := dc_n1 aX7_waysToHit_20
theorem aX7_waysToHit_22 : dc_at cX7_waysToHit 22 sX7_waysToHit_22 := dc_n1 aX7_waysToHit_21
theorem aX7_waysToHit_24 : dc_at cX7_waysToHit 24 sX7_waysToHit_24 := dc_n2 aX7_waysToHit_22
theorem aX7_waysToHit_26 : dc_at cX7_waysToHit 26 sX7_waysToHit_26 := dc_n2 aX7_waysToHit_24
theorem aX7_waysToHit_27 : dc_at cX7_waysToHit 27 sX7_waysToHit_27 := dc_n1 aX7_waysToHit_26
theorem aX7_waysToHit_30 : dc_at cX7_waysToHit 30 sX7_waysToHit_30 := dc_n3 aX7_waysToHit_27
theorem aX7_waysToHit_31 : dc_at cX7_waysToHit 31 sX7_waysToHit_31 := dc_n1 aX7_waysToHit_30
theorem aX7_waysToHit_33 : dc_at cX7_waysToHit 33 sX7_waysToHit_33 := dc_n2 aX7_waysToHit_31
theorem aX7_waysToHit_34 : dc_at cX7_waysToHit 34 sX7_waysToHit_34 := dc_n1 aX7_waysToHit_33
theorem aX7_waysToHit_37 : dc_at cX7_waysToHit 37 sX7_waysToHit_37 := dc_n3 aX7_waysToHit_34
theorem aX7_waysToHit_40 : dc_at cX7_waysToHit 40 sX7_waysToHit_40 := dc_n3 aX7_waysToHit_37
theorem aX7_waysToHit_43 : dc_at cX7_waysToHit 43 sX7_waysToHit_43 := dc_n3 aX7_waysToHit_40
theorem aX7_waysToHit_44 : dc_at cX7_waysToHit 44 sX7_waysToHit_44 := dc_n1 aX7_waysToHit_43
theorem aX7_waysToHit_46 : dc_at cX7_waysToHit 46 sX7_waysToHit_46 := dc_n2 aX7_waysToHit_44
theorem aX7_waysToHit_47 : dc_at cX7_waysToHit 47 sX7_waysToHit_47 := dc_n1 aX7_waysToHit_46
theorem aX7_waysToHit_49 : dc_at cX7_waysToHit 49 sX7_waysToHit_49 := dc_n2 aX7_waysToHit_47
theorem aX7_waysToHit_51 : dc_at cX7_waysToHit 51 sX7_waysToHit_51 := dc_n2 aX7_waysToHit_49
theorem aX7_waysToHit_52 : dc_at cX7_waysToHit 52 sX7_waysToHit_52 := dc_n1 aX7_waysToHit_51
theorem aX7_waysToHit_55 : dc_at cX7_waysToHit 55 sX7_waysToHit_55 := dc_n3 aX7_waysToHit_52
theorem aX7_waysToHit_57 : dc_at cX7_waysToHit 57 sX7_waysToHit_57 := dc_n2 aX7_waysToHit_55
theorem aX7_waysToHit_58 : dc_at cX7_waysToHit 58 sX7_waysToHit_58 := dc_n1 aX7_waysToHit_57
theorem aX7_waysToHit_61 : dc_at cX7_waysToHit 61 sX7_waysToHit_61 := dc_n3 aX7_waysToHit_58
theorem aX7_waysToHit_63 : dc_at cX7_waysToHit 63 sX7_waysToHit_63 := dc_n2 aX7_waysToHit_61
theorem aX7_waysToHit_64 : dc_at cX7_waysToHit 64 sX7_waysToHit_64 := dc_n1 aX7_waysToHit_63
theorem aX7_waysToHit_65 : dc_at cX7_waysToHit 65 sX7_waysToHit_65 := dc_n1 aX7_waysToHit_64
theorem aX7_waysToHit_67 : dc_at cX7_waysToHit 67 sX7_waysToHit_67 := dc_n2 aX7_waysToHit_65
theorem aX7_waysToHit_68 : dc_at cX7_waysToHit 68 sX7_waysToHit_68 := dc_n1 aX7_waysToHit_67
theorem aX7_waysToHit_69 : dc_at cX7_waysToHit 69 sX7_waysToHit_69 := dc_n1 aX7_waysToHit_68
theorem aX7_waysToHit_70 : dc_at cX7_waysToHit 70 sX7_waysToHit_70 := dc_n1 aX7_waysToHit_69
theorem aX7_waysToHit_72 : dc_at cX7_waysToHit 72 sX7_waysToHit_72 := dc_n2 aX7_waysToHit_70
theorem aX7_waysToHit_75 : dc_at cX7_waysToHit 75 sX7_waysToHit_75 := dc_n3 aX7_waysToHit_72
theorem aX7_waysToHit_78 : dc_at cX7_waysToHit 78 sX7_waysToHit_78 := dc_n3 aX7_waysToHit_75
theorem aX7_waysToHit_80 : dc_at cX7_waysToHit 80 sX7_waysToHit_80 := dc_n2 aX7_waysToHit_78
theorem dX7_waysToHit_0 : decode cX7_waysToHit 0 = .ok (.iconst 1, 1) := dc_4 aX7_waysToHit_0
theorem dX7_waysToHit_1 : decode cX7_waysToHit 1 = .ok (.iload_n 1, 1) := dc_27 aX7_waysToHit_1
theorem dX7_waysToHit_2 : decode cX7_waysToHit 2 = .ok (.ishl, 1) := dc_120 aX7_waysToHit_2
theorem dX7_waysToHit_3 : decode cX7_waysToHit 3 = .ok (.iconst 1, 1) := dc_4 aX7_waysToHit_3
theorem dX7_waysToHit_4 : decode cX7_waysToHit 4 = .ok (.isub, 1) := dc_100 aX7_waysToHit_4
theorem dX7_waysToHit_5 : decode cX7_waysToHit 5 = .ok (.istore_n 3, 1) := dc_62 aX7_waysToHit_5
theorem dX7_waysToHit_6 : decode cX7_waysToHit 6 = .ok (.aload_n 0, 1) := dc_42 aX7_waysToHit_6
theorem dX7_waysToHit_7 : decode cX7_waysToHit 7 = .ok (.getfield 28, 3) := dc_180 (a0 := 0) (b0 := 28) aX7_waysToHit_7
theorem dX7_waysToHit_10 : decode cX7_waysToHit 10 = .ok (.iconst 0, 1) := dc_3 aX7_waysToHit_10
theorem dX7_waysToHit_11 : decode cX7_waysToHit 11 = .ok (.invokestatic 31, 3) := dc_184 (a0 := 0) (b0 := 31) aX7_waysToHit_11
theorem dX7_waysToHit_14 : decode cX7_waysToHit 14 = .ok (.aload_n 0, 1) := dc_42 aX7_waysToHit_14
theorem dX7_waysToHit_15 : decode cX7_waysToHit 15 = .ok (.getfield 28, 3) := dc_180 (a0 := 0) (b0 := 28) aX7_waysToHit_15
theorem dX7_waysToHit_18 : decode cX7_waysToHit 18 = .ok (.iconst 0, 1) := dc_3 aX7_waysToHit_18
theorem dX7_waysToHit_19 : decode cX7_waysToHit 19 = .ok (.iconst 1, 1) := dc_4 aX7_waysToHit_19
theorem dX7_waysToHit_20 : decode cX7_waysToHit 20 = .ok (.iastore, 1) := dc_79 aX7_waysToHit_20
theorem dX7_waysToHit_21 : decode cX7_waysToHit 21 = .ok (.iconst 0, 1) := dc_3 aX7_waysToHit_21
theorem dX7_waysToHit_22 : decode cX7_waysToHit 22 = .ok (.istore 4, 2) := dc_54 (a0 := 4) aX7_waysToHit_22
theorem dX7_waysToHit_24 : decode cX7_waysToHit 24 = .ok (.iload 4, 2) := dc_21 (a0 := 4) aX7_waysToHit_24
theorem dX7_waysToHit_26 : decode cX7_waysToHit 26 = .ok (.iload_n 3, 1) := dc_29 aX7_waysToHit_26
theorem dX7_waysToHit_27 : decode cX7_waysToHit 27 = .ok (.if_icmp .ge 16, 3) := dc_162 (a0 := 0) (b0 := 16) aX7_waysToHit_27 (by decide)
theorem dX7_waysToHit_30 : decode cX7_waysToHit 30 = .ok (.aload_n 0, 1) := dc_42 aX7_waysToHit_30
theorem dX7_waysToHit_31 : decode cX7_waysToHit 31 = .ok (.iload 4, 2) := dc_21 (a0 := 4) aX7_waysToHit_31
theorem dX7_waysToHit_33 : decode cX7_waysToHit 33 = .ok (.iload_n 1, 1) := dc_27 aX7_waysToHit_33
theorem dX7_waysToHit_34 : decode cX7_waysToHit 34 = .ok (.invokevirtual 71, 3) := dc_182 (a0 := 0) (b0 := 71) aX7_waysToHit_34
theorem dX7_waysToHit_37 : decode cX7_waysToHit 37 = .ok (.iinc 4 1, 3) := dc_132 (a0 := 4) (a1 := 1) aX7_waysToHit_37 (by decide)
theorem dX7_waysToHit_40 : decode cX7_waysToHit 40 = .ok (.goto (-16), 3) := dc_167 (a0 := 255) (b0 := 240) aX7_waysToHit_40 (by decide)
theorem dX7_waysToHit_43 : decode cX7_waysToHit 43 = .ok (.iconst 0, 1) := dc_3 aX7_waysToHit_43
theorem dX7_waysToHit_44 : decode cX7_waysToHit 44 = .ok (.istore 4, 2) := dc_54 (a0 := 4) aX7_waysToHit_44
theorem dX7_waysToHit_46 : decode cX7_waysToHit 46 = .ok (.iload_n 2, 1) := dc_28 aX7_waysToHit_46
theorem dX7_waysToHit_47 : decode cX7_waysToHit 47 = .ok (.istore 5, 2) := dc_54 (a0 := 5) aX7_waysToHit_47
theorem dX7_waysToHit_49 : decode cX7_waysToHit 49 = .ok (.iload 5, 2) := dc_21 (a0 := 5) aX7_waysToHit_49
theorem dX7_waysToHit_51 : decode cX7_waysToHit 51 = .ok (.iload_n 1, 1) := dc_27 aX7_waysToHit_51
theorem dX7_waysToHit_52 : decode cX7_waysToHit 52 = .ok (.if_icmp .gt 26, 3) := dc_163 (a0 := 0) (b0 := 26) aX7_waysToHit_52 (by decide)
theorem dX7_waysToHit_55 : decode cX7_waysToHit 55 = .ok (.iload 4, 2) := dc_21 (a0 := 4) aX7_waysToHit_55
theorem dX7_waysToHit_57 : decode cX7_waysToHit 57 = .ok (.aload_n 0, 1) := dc_42 aX7_waysToHit_57
theorem dX7_waysToHit_58 : decode cX7_waysToHit 58 = .ok (.getfield 28, 3) := dc_180 (a0 := 0) (b0 := 28) aX7_waysToHit_58
theorem dX7_waysToHit_61 : decode cX7_waysToHit 61 = .ok (.bipush 9, 2) := dc_16 (a0 := 9) aX7_waysToHit_61 (by decide)
theorem dX7_waysToHit_63 : decode cX7_waysToHit 63 = .ok (.iload_n 3, 1) := dc_29 aX7_waysToHit_63
theorem dX7_waysToHit_64 : decode cX7_waysToHit 64 = .ok (.imul, 1) := dc_104 aX7_waysToHit_64
theorem dX7_waysToHit_65 : decode cX7_waysToHit 65 = .ok (.iload 5, 2) := dc_21 (a0 := 5) aX7_waysToHit_65
theorem dX7_waysToHit_67 : decode cX7_waysToHit 67 = .ok (.iadd, 1) := dc_96 aX7_waysToHit_67
theorem dX7_waysToHit_68 : decode cX7_waysToHit 68 = .ok (.iaload, 1) := dc_46 aX7_waysToHit_68
theorem dX7_waysToHit_69 : decode cX7_waysToHit 69 = .ok (.iadd, 1) := dc_96 aX7_waysToHit_69
theorem dX7_waysToHit_70 : decode cX7_waysToHit 70 = .ok (.istore 4, 2) := dc_54 (a0 := 4) aX7_waysToHit_70
theorem dX7_waysToHit_72 : decode cX7_waysToHit 72 = .ok (.iinc 5 1, 3) := dc_132 (a0 := 5) (a1 := 1) aX7_waysToHit_72 (by decide)
theorem dX7_waysToHit_75 : decode cX7_waysToHit 75 = .ok (.goto (-26), 3) := dc_167 (a0 := 255) (b0 := 230) aX7_waysToHit_75 (by decide)
theorem dX7_waysToHit_78 : decode cX7_waysToHit 78 = .ok (.iload 4, 2) := dc_21 (a0 := 4) aX7_waysToHit_78
theorem dX7_waysToHit_80 : decode cX7_waysToHit 80 = .ok (.ireturn, 1) := dc_172 aX7_waysToHit_80
set_option maxRecDepth 20000 in
theorem ggX7_layNext_J6_bitCount_0f7a4 : GoodIn wsX7_layNext wsJ6_bitCount_0f7a4 := goodIn_k _ [[6, 0, 0, 0]] (by rfl) (by decide +kernel)
set_option maxRecDepth 20000 in
theorem gX7_layNext_J6_bitCount_0f7a4 : GoodIn wsX7_layNext (va_wsS RX7 75 yJ6_bitCount_0f7a4 wsJ6_bitCount_0f7a4) := goodIn_app (goodIn_of _ (by decide +kernel)) ggX7_layNext_J6_bitCount_0f7a4
noncomputable def sX7_layNext_105 : List Nat := 177 :: []
noncomputable def sX7_layNext_102 : List Nat := 167 :: 255 :: 162 :: sX7_layNext_105
noncomputable def sX7_layNext_99 : List Nat := 132 :: 4 :: 1 :: sX7_layNext_102
noncomputable def sX7_layNext_96 : List Nat := 167 :: 255 :: 216 :: sX7_layNext_99
noncomputable def sX7_layNext_93 : List Nat := 132 :: 7 :: 1 :: sX7_layNext_96
noncomputable def sX7_layNext_92 : List Nat := 79 :: sX7_layNext_93
noncomputable def sX7_layNext_91 : List Nat := 96 :: sX7_layNext_92
noncomputable def sX7_layNext_90 : List Nat := 46 :: sX7_layNext_91
noncomputable def sX7_layNext_89 : List Nat := 96 :: sX7_layNext_90
noncomputable def sX7_layNext_87 : List Nat := 21 :: 7 :: sX7_layNext_89
noncomputable def sX7_layNext_86 : List Nat := 104 :: sX7_layNext_87
noncomputable def sX7_layNext_85 : List Nat := 27 :: sX7_layNext_86
noncomputable def sX7_layNext_83 : List Nat := 16 :: 9 :: sX7_layNext_85
noncomputable def sX7_layNext_80 : List Nat := 180 :: 0 :: 28 :: sX7_layNext_83
noncomputable def sX7_layNext_79 : List Nat := 42 :: sX7_layNext_80
noncomputable def sX7_layNext_78 : List Nat := 46 :: sX7_layNext_79
noncomputable def sX7_layNext_77 : List Nat := 92 :: sX7_layNext_78
noncomputable def sX7_layNext_76 : List Nat := 96 :: sX7_layNext_77
noncomputable def sX7_layNext_74 : List Nat := 21 :: 5 :: sX7_layNext_76
noncomputable def sX7_layNext_73 : List Nat := 96 :: sX7_layNext_74
noncomputable def sX7_layNext_71 : List Nat := 21 :: 7 :: sX7_layNext_73
noncomputable def sX7_layNext_70 : List Nat := 104 :: sX7_layNext_71
noncomputable def sX7_layNext_68 : List Nat := 21 :: 6 :: sX7_layNext_70
noncomputable def sX7_layNext_66 : List Nat := 16 :: 9 :: sX7_layNext_68
noncomputable def sX7_layNext_63 : List Nat := 180 :: 0 :: 28 :: sX7_layNext_66
noncomputable def sX7_layNext_62 : List Nat := 42 :: sX7_layNext_63
noncomputable def sX7_layNext_59 : List Nat := 163 :: 0 :: 40 :: sX7_layNext_62
noncomputable def sX7_layNext_58 : List Nat := 29 :: sX7_layNext_59
noncomputable def sX7_layNext_56 : List Nat := 21 :: 7 :: sX7_layNext_58
noncomputable def sX7_layNext_54 : List Nat := 54 :: 7 :: sX7_layNext_56
noncomputable def sX7_layNext_53 : List Nat := 3 :: sX7_layNext_54
noncomputable def sX7_layNext_51 : List Nat := 54 :: 6 :: sX7_layNext_53
noncomputable def sX7_layNext_50 : List Nat := 128 :: sX7_layNext_51
noncomputable def sX7_layNext_49 : List Nat := 120 :: sX7_layNext_50
noncomputable def sX7_layNext_47 : List Nat := 21 :: 4 :: sX7_layNext_49
noncomputable def sX7_layNext_46 : List Nat := 4 :: sX7_layNext_47
noncomputable def sX7_layNext_45 : List Nat := 27 :: sX7_layNext_46
noncomputable def sX7_layNext_43 : List Nat := 54 :: 5 :: sX7_layNext_45
noncomputable def sX7_layNext_42 : List Nat := 3 :: sX7_layNext_43
noncomputable def sX7_layNext_39 : List Nat := 167 :: 0 :: 4 :: sX7_layNext_42
noncomputable def sX7_layNext_38 : List Nat := 4 :: sX7_layNext_39
noncomputable def sX7_layNext_35 : List Nat := 153 :: 0 :: 7 :: sX7_layNext_38
noncomputable def sX7_layNext_34 : List Nat := 51 :: sX7_layNext_35
noncomputable def sX7_layNext_33 : List Nat := 96 :: sX7_layNext_34
noncomputable def sX7_layNext_31 : List Nat := 21 :: 4 :: sX7_layNext_33
noncomputable def sX7_layNext_30 : List Nat := 104 :: sX7_layNext_31
noncomputable def sX7_layNext_29 : List Nat := 29 :: sX7_layNext_30
noncomputable def sX7_layNext_27 : List Nat := 16 :: 8 :: sX7_layNext_29
noncomputable def sX7_layNext_24 : List Nat := 180 :: 0 :: 24 :: sX7_layNext_27
noncomputable def sX7_layNext_23 : List Nat := 42 :: sX7_layNext_24
noncomputable def sX7_layNext_20 : List Nat := 154 :: 0 :: 79 :: sX7_layNext_23
noncomputable def sX7_layNext_19 : List Nat := 126 :: sX7_layNext_20
noncomputable def sX7_layNext_18 : List Nat := 4 :: sX7_layNext_19
noncomputable def sX7_layNext_17 : List Nat := 122 :: sX7_layNext_18
noncomputable def sX7_layNext_15 : List Nat := 21 :: 4 :: sX7_layNext_17
noncomputable def sX7_layNext_14 : List Nat := 27 :: sX7_layNext_15
noncomputable def sX7_layNext_11 : List Nat := 162 :: 0 :: 94 :: sX7_layNext_14
noncomputable def sX7_layNext_10 : List Nat := 28 :: sX7_layNext_11
noncomputable def sX7_layNext_8 : List Nat := 21 :: 4 :: sX7_layNext_10
noncomputable def sX7_layNext_6 : List Nat := 54 :: 4 :: sX7_layNext_8
noncomputable def sX7_layNext_5 : List Nat := 3 :: sX7_layNext_6
noncomputable def sX7_layNext_4 : List Nat := 62 :: sX7_layNext_5
noncomputable def sX7_layNext_1 : List Nat := 184 :: 0 :: 75 :: sX7_layNext_4
noncomputable def sX7_layNext_0 : List Nat := 27 :: sX7_layNext_1
theorem aX7_layNext_0 : dc_at cX7_layNext 0 sX7_layNext_0 := dc_base (by decide +kernel)
theorem aX7_layNext_1 : dc_at cX7_layNext 1 sX7_layNext_1 := dc_n1 aX7_layNext_0
theorem aX7_layNext_4 : dc_at cX7_layNext 4 sX7_layNext_4 := dc_n3 aX7_layNext_1
theorem aX7_layNext_5 : dc_at cX7_layNext 5 sX7_layNext_5 := dc_n1 aX7_layNext_4
theorem aX7_layNext_6 : dc_at cX7_layNext 6 sX7_layNext_6 := dc_n1 aX7_layNext_5
theorem aX7_layNext_8 : dc_at cX7_layNext 8 sX7_layNext_8 := dc_n2 aX7_layNext_6
theorem aX7_layNext_10 : dc_at cX7_layNext 10 sX7_layNext_10 := dc_n2 aX7_layNext_8
theorem aX7_layNext_11 : dc_at cX7_layNext 11 sX7_layNext_11 := dc_n1 aX7_layNext_10
theorem aX7_layNext_14 : dc_at cX7_layNext 14 sX7_layNext_14 := dc_n3 aX7_layNext_11
theorem aX7_layNext_15 : dc_at cX7_layNext 15 sX7_layNext_15 := dc_n1 aX7_layNext_14
theorem aX7_layNext_17 : dc_at cX7_layNext 17 sX7_layNext_17 := dc_n2 aX7_layNext_15
theorem aX7_layNext_18 : dc_at cX7_layNext 18 sX7_layNext_18 := dc_n1 aX7_layNext_17
theorem aX7_layNext_19 : dc_at cX7_layNext 19 sX7_layNext_19 := dc_n1 aX7_layNext_18
theorem aX7_layNext_20 : dc_at cX7_layNext 20 sX7_layNext_20 := dc_n1 aX7_layNext_19
theorem aX7_layNext_23 : dc_at cX7_layNext 23 sX7_layNext_23 := dc_n3 aX7_layNext_20
theorem aX7_layNext_24 : dc_at cX7_layNext 24 sX7_layNext_24 := dc_n1 aX7_layNext_23
theorem aX7_layNext_27 : dc_at cX7_layNext 27 sX7_layNext_27 := dc_n3 aX7_layNext_24
theorem aX7_layNext_29 : dc_at cX7_layNext 29 sX7_layNext_29 := dc_n2 aX7_layNext_27
theorem aX7_layNext_30 : dc_at cX7_layNext 30 sX7_layNext_30 := dc_n1 aX7_layNext_29
theorem aX7_layNext_31 : dc_at cX7_layNext 31 sX7_layNext_31 := dc_n1 aX7_layNext_30
theorem aX7_layNext_33 : dc_at cX7_layNext 33 sX7_layNext_33 := dc_n2 aX7_layNext_31
theorem aX7_layNext_34 : dc_at cX7_layNext 34 sX7_layNext_34 := dc_n1 aX7_layNext_33
theorem aX7_layNext_35 : dc_at cX7_layNext 35 sX7_layNext_35 := dc_n1 aX7_layNext_34
theorem aX7_layNext_38 : dc_at cX7_layNext 38 sX7_layNext_38 := dc_n3 aX7_layNext_35
theorem aX7_layNext_39 : dc_at cX7_layNext 39 sX7_layNext_39 := dc_n1 aX7_layNext_38
theorem aX7_layNext_42 : dc_at cX7_layNext 42 sX7_layNext_42 := dc_n3 aX7_layNext_39
theorem aX7_layNext_43 : dc_at cX7_layNext 43 sX7_layNext_43 := dc_n1 aX7_layNext_42
theorem aX7_layNext_45 : dc_at cX7_layNext 45 sX7_layNext_45 := dc_n2 aX7_layNext_43
theorem aX7_layNext_46 : dc_at cX7_layNext 46 sX7_layNext_46 := dc_n1 aX7_layNext_45
theorem aX7_layNext_47 : dc_at cX7_layNext 47 sX7_layNext_47 := dc_n1 aX7_layNext_46
theorem aX7_layNext_49 : dc_at cX7_layNext 49 sX7_layNext_49 := dc_n2 aX7_layNext_47
theorem aX7_layNext_50 : dc_at cX7_layNext 50 sX7_layNext_50 := dc_n1 aX7_layNext_49
theorem aX7_layNext_51 : dc_at cX7_layNext 51 sX7_layNext_51 := dc_n1 aX7_layNext_50
theorem aX7_layNext_53 : dc_at cX7_layNext 53 sX7_layNext_53 := dc_n2 aX7_layNext_51
theorem aX7_layNext_54 : dc_at cX7_layNext 54 sX7_layNext_54 := dc_n1 aX7_layNext_53
theorem aX7_layNext_56 : dc_at cX7_layNext 56 sX7_layNext_56 := dc_n2 aX7_layNext_54
theorem aX7_layNext_58 : dc_at cX7_layNext 58 sX7_layNext_58 := dc_n2 aX7_layNext_56
theorem aX7_layNext_59 : dc_at cX7_layNext 59 sX7_layNext_59 := dc_n1 aX7_layNext_58
theorem aX7_layNext_62 : dc_at cX7_layNext 62 sX7_layNext_62 := dc_n3 aX7_layNext_59
theorem aX7_layNext_63 : dc_at cX7_layNext 63 sX7_layNext_63 := dc_n1 aX7_layNext_62
theorem aX7_layNext_66 : dc_at cX7_layNext 66 sX7_layNext_66 := dc_n3 aX7_layNext_63
theorem aX7_layNext_68 : dc_at cX7_layNext 68 sX7_layNext_68 := dc_n2 aX7_layNext_66
theorem aX7_layNext_70 : dc_at cX7_layNext 70 sX7_layNext_70 := dc_n2 aX7_layNext_68
theorem aX7_layNext_71 : dc_at cX7_layNext 71 sX7_layNext_71 := dc_n1 aX7_layNext_70
theorem aX7_layNext_73 : dc_at cX7_layNext 73 sX7_layNext_73 := dc_n2 aX7_layNext_71
theorem aX7_layNext_74 : dc_at cX7_layNext 74 sX7_layNext_74 := dc_n1 aX7_layNext_73
theorem aX7_layNext_76 : dc_at cX7_layNext 76 sX7_layNext_76 := dc_n2 aX7_layNext_74
theorem aX7_layNext_77 : dc_at cX7_layNext 77 sX7_layNext_77 := dc_n1 aX7_layNext_76
theorem aX7_layNext_78 : dc_at cX7_layNext 78 sX7_layNext_78 := dc_n1 aX7_layNext_77
theorem aX7_layNext_79 : dc_at cX7_layNext 79 sX7_layNext_79 := dc_n1 aX7_layNext_78
theorem aX7_layNext_80 : dc_at cX7_layNext 80 sX7_layNext_80 := dc_n1 aX7_layNext_79
theorem aX7_layNext_83 : dc_at cX7_layNext 83 sX7_layNext_83 := dc_n3 aX7_layNext_80
theorem aX7_layNext_85 : dc_at cX7_layNext 85 sX7_layNext_85 := dc_n2 aX7_layNext_83
theorem aX7_layNext_86 : dc_at cX7_layNext 86 sX7_layNext_86 := dc_n1 aX7_layNext_85
theorem aX7_layNext_87 : dc_at cX7_layNext 87 sX7_layNext_87 := dc_n1 aX7_layNext_86
theorem aX7_layNext_89 : dc_at cX7_layNext 89 sX7_layNext_89 := dc_n2 aX7_layNext_87
theorem aX7_layNext_90 : dc_at cX7_layNext 90 sX7_layNext_90 := dc_n1 aX7_layNext_89
theorem aX7_layNext_91 : dc_at cX7_layNext 91 sX7_layNext_91 := dc_n1 aX7_layNext_90
theorem aX7_layNext_92 : dc_at cX7_layNext 92 sX7_layNext_92 := dc_n1 aX7_layNext_91
theorem aX7_layNext_93 : dc_at cX7_layNext 93 sX7_layNext_93 := dc_n1 aX7_layNext_92
theorem aX7_layNext_96 : dc_at cX7_layNext 96 sX7_layNext_96 := dc_n3 aX7_layNext_93
theorem aX7_layNext_99 : dc_at cX7_layNext 99 sX7_layNext_99 := dc_n3 aX7_layNext_96
theorem aX7_layNext_102 : dc_at cX7_layNext 102 sX7_layNext_102 := dc_n3 aX7_layNext_99
theorem aX7_layNext_105 : dc_at cX7_layNext 105 sX7_layNext_105 := dc_n3 aX7_layNext_102
theorem dX7_layNext_0 : decode cX7_layNext 0 = .ok (.iload_n 1, 1) := dc_27 aX7_layNext_0
theorem dX7_layNext_1 : decode cX7_layNext 1 = .ok (.invokestatic 75, 3) := dc_184 (a0 := 0) (b0 := 75) aX7_layNext_1
theorem dX7_layNext_4 : decode cX7_layNext 4 = .ok (.istore_n 3, 1) := dc_62 aX7_layNext_4
theorem dX7_layNext_5 : decode cX7_layNext 5 = .ok (.iconst 0, 1) := dc_3 aX7_layNext_5
theorem dX7_layNext_6 : decode cX7_layNext 6 = .ok (.istore 4, 2) := dc_54 (a0 := 4) aX7_layNext_6
theorem dX7_layNext_8 : decode cX7_layNext 8 = .ok (.iload 4, 2) := dc_21 (a0 := 4) aX7_layNext_8
theorem dX7_layNext_10 : decode cX7_layNext 10 = .ok (.iload_n 2, 1) := dc_28 aX7_layNext_10
theorem dX7_layNext_11 : decode cX7_layNext 11 = .ok (.if_icmp .ge 94, 3) := dc_162 (a0 := 0) (b0 := 94) aX7_layNext_11 (by decide)
theorem dX7_layNext_14 : decode cX7_layNext 14 = .ok (.iload_n 1, 1) := dc_27 aX7_layNext_14
theorem dX7_layNext_15 : decode cX7_layNext 15 = .ok (.iload 4, 2) := dc_21 (a0 := 4) aX7_layNext_15
theorem dX7_layNext_17 : decode cX7_layNext 17 = .ok (.ishr, 1) := dc_122 aX7_layNext_17
theorem dX7_layNext_18 : decode cX7_layNext 18 = .ok (.iconst 1, 1) := dc_4 aX7_layNext_18
theorem dX7_layNext_19 : decode cX7_layNext 19 = .ok (.iand, 1) := dc_126 aX7_layNext_19
theorem dX7_layNext_20 : decode cX7_layNext 20 = .ok (.ifCond .ne 79, 3) := dc_154 (a0 := 0) (b0 := 79) aX7_layNext_20 (by decide)
theorem dX7_layNext_23 : decode cX7_layNext 23 = .ok (.aload_n 0, 1) := dc_42 aX7_layNext_23
theorem dX7_layNext_24 : decode cX7_layNext 24 = .ok (.getfield 24, 3) := dc_180 (a0 := 0) (b0 := 24) aX7_layNext_24
theorem dX7_layNext_27 : decode cX7_layNext 27 = .ok (.bipush 8, 2) := dc_16 (a0 := 8) aX7_layNext_27 (by decide)
theorem dX7_layNext_29 : decode cX7_layNext 29 = .ok (.iload_n 3, 1) := dc_29 aX7_layNext_29
theorem dX7_layNext_30 : decode cX7_layNext 30 = .ok (.imul, 1) := dc_104 aX7_layNext_30
theorem dX7_layNext_31 : decode cX7_layNext 31 = .ok (.iload 4, 2) := dc_21 (a0 := 4) aX7_layNext_31
theorem dX7_layNext_33 : decode cX7_layNext 33 = .ok (.iadd, 1) := dc_96 aX7_layNext_33
theorem dX7_layNext_34 : decode cX7_layNext 34 = .ok (.baload, 1) := dc_51 aX7_layNext_34
theorem dX7_layNext_35 : decode cX7_layNext 35 = .ok (.ifCond .eq 7, 3) := dc_153 (a0 := 0) (b0 := 7) aX7_layNext_35 (by decide)
theorem dX7_layNext_38 : decode cX7_layNext 38 = .ok (.iconst 1, 1) := dc_4 aX7_layNext_38
theorem dX7_layNext_39 : decode cX7_layNext 39 = .ok (.goto 4, 3) := dc_167 (a0 := 0) (b0 := 4) aX7_layNext_39 (by decide)
theorem dX7_layNext_42 : decode cX7_layNext 42 = .ok (.iconst 0, 1) := dc_3 aX7_layNext_42
theorem dX7_layNext_43 : decode cX7_layNext 43 = .ok (.istore 5, 2) := dc_54 (a0 := 5) aX7_layNext_43
theorem dX7_layNext_45 : decode cX7_layNext 45 = .ok (.iload_n 1, 1) := dc_27 aX7_layNext_45
theorem dX7_layNext_46 : decode cX7_layNext 46 = .ok (.iconst 1, 1) := dc_4 aX7_layNext_46
theorem dX7_layNext_47 : decode cX7_layNext 47 = .ok (.iload 4, 2) := dc_21 (a0 := 4) aX7_layNext_47
theorem dX7_layNext_49 : decode cX7_layNext 49 = .ok (.ishl, 1) := dc_120 aX7_layNext_49
theorem dX7_layNext_50 : decode cX7_layNext 50 = .ok (.ior, 1) := dc_128 aX7_layNext_50
theorem dX7_layNext_51 : decode cX7_layNext 51 = .ok (.istore 6, 2) := dc_54 (a0 := 6) aX7_layNext_51
theorem dX7_layNext_53 : decode cX7_layNext 53 = .ok (.iconst 0, 1) := dc_3 aX7_layNext_53
theorem dX7_layNext_54 : decode cX7_layNext 54 = .ok (.istore 7, 2) := dc_54 (a0 := 7) aX7_layNext_54
theorem dX7_layNext_56 : decode cX7_layNext 56 = .ok (.iload 7, 2) := dc_21 (a0 := 7) aX7_layNext_56
theorem dX7_layNext_58 : decode cX7_layNext 58 = .ok (.iload_n 3, 1) := dc_29 aX7_layNext_58
theorem dX7_layNext_59 : decode cX7_layNext 59 = .ok (.if_icmp .gt 40, 3) := dc_163 (a0 := 0) (b0 := 40) aX7_layNext_59 (by decide)
theorem dX7_layNext_62 : decode cX7_layNext 62 = .ok (.aload_n 0, 1) := dc_42 aX7_layNext_62
theorem dX7_layNext_63 : decode cX7_layNext 63 = .ok (.getfield 28, 3) := dc_180 (a0 := 0) (b0 := 28) aX7_layNext_63
theorem dX7_layNext_66 : decode cX7_layNext 66 = .ok (.bipush 9, 2) := dc_16 (a0 := 9) aX7_layNext_66 (by decide)
theorem dX7_layNext_68 : decode cX7_layNext 68 = .ok (.iload 6, 2) := dc_21 (a0 := 6) aX7_layNext_68
theorem dX7_layNext_70 : decode cX7_layNext 70 = .ok (.imul, 1) := dc_104 aX7_layNext_70
theorem dX7_layNext_71 : decode cX7_layNext 71 = .ok (.iload 7, 2) := dc_21 (a0 := 7) aX7_layNext_71
theorem dX7_layNext_73 : decode cX7_layNext 73 = .ok (.iadd, 1) := dc_96 aX7_layNext_73
theorem dX7_layNext_74 : decode cX7_layNext 74 = .ok (.iload 5, 2) := dc_21 (a0 := 5) aX7_layNext_74
theorem dX7_layNext_76 : decode cX7_layNext 76 = .ok (.iadd, 1) := dc_96 aX7_layNext_76
theorem dX7_layNext_77 : decode cX7_layNext 77 = .ok (.dup2, 1) := dc_92 aX7_layNext_77
