theorem dX12_mixed_6 : decode cX12_mixed 6 = .ok (.ifCond .eq 13, 3) := dc_153 (a0 := 0) (b0 := 13) aX12_mixed_6 (by decide)
theorem dX12_mixed_9 : decode cX12_mixed 9 = .ok (.aload_n 0, 1) := dc_42 aX12_mixed_9
theorem dX12_mixed_10 : decode cX12_mixed 10 = .ok (.iload_n 3, 1) := dc_29 aX12_mixed_10
theorem dX12_mixed_11 : decode cX12_mixed 11 = .ok (.iload 4, 2) := dc_21 (a0 := 4) aX12_mixed_11
theorem dX12_mixed_13 : decode cX12_mixed 13 = .ok (.invokevirtual 291, 3) := dc_182 (a0 := 1) (b0 := 35) aX12_mixed_13
theorem dX12_mixed_16 : decode cX12_mixed 16 = .ok (.ifCond .ne 5, 3) := dc_154 (a0 := 0) (b0 := 5) aX12_mixed_16 (by decide)
theorem dX12_mixed_19 : decode cX12_mixed 19 = .ok (.iconst 0, 1) := dc_3 aX12_mixed_19
theorem dX12_mixed_20 : decode cX12_mixed 20 = .ok (.ireturn, 1) := dc_172 aX12_mixed_20
theorem dX12_mixed_21 : decode cX12_mixed 21 = .ok (.iconst 0, 1) := dc_3 aX12_mixed_21
theorem dX12_mixed_22 : decode cX12_mixed 22 = .ok (.istore 5, 2) := dc_54 (a0 := 5) aX12_mixed_22
theorem dX12_mixed_24 : decode cX12_mixed 24 = .ok (.iload_n 3, 1) := dc_29 aX12_mixed_24
theorem dX12_mixed_25 : decode cX12_mixed 25 = .ok (.istore 6, 2) := dc_54 (a0 := 6) aX12_mixed_25
theorem dX12_mixed_27 : decode cX12_mixed 27 = .ok (.iload 6, 2) := dc_21 (a0 := 6) aX12_mixed_27
theorem dX12_mixed_29 : decode cX12_mixed 29 = .ok (.iload_n 3, 1) := dc_29 aX12_mixed_29
theorem dX12_mixed_30 : decode cX12_mixed 30 = .ok (.iload 4, 2) := dc_21 (a0 := 4) aX12_mixed_30
theorem dX12_mixed_32 : decode cX12_mixed 32 = .ok (.iadd, 1) := dc_96 aX12_mixed_32
theorem dX12_mixed_33 : decode cX12_mixed 33 = .ok (.if_icmp .gt 27, 3) := dc_163 (a0 := 0) (b0 := 27) aX12_mixed_33 (by decide)
theorem dX12_mixed_36 : decode cX12_mixed 36 = .ok (.aload_n 0, 1) := dc_42 aX12_mixed_36
theorem dX12_mixed_37 : decode cX12_mixed 37 = .ok (.bipush 20, 2) := dc_16 (a0 := 20) aX12_mixed_37 (by decide)
theorem dX12_mixed_39 : decode cX12_mixed 39 = .ok (.iload_n 1, 1) := dc_27 aX12_mixed_39
theorem dX12_mixed_40 : decode cX12_mixed 40 = .ok (.imul, 1) := dc_104 aX12_mixed_40
theorem dX12_mixed_41 : decode cX12_mixed 41 = .ok (.iload_n 2, 1) := dc_28 aX12_mixed_41
theorem dX12_mixed_42 : decode cX12_mixed 42 = .ok (.iadd, 1) := dc_96 aX12_mixed_42
theorem dX12_mixed_43 : decode cX12_mixed 43 = .ok (.iload 6, 2) := dc_21 (a0 := 6) aX12_mixed_43
theorem dX12_mixed_45 : decode cX12_mixed 45 = .ok (.invokevirtual 294, 3) := dc_182 (a0 := 1) (b0 := 38) aX12_mixed_45
theorem dX12_mixed_48 : decode cX12_mixed 48 = .ok (.ifCond .eq 6, 3) := dc_153 (a0 := 0) (b0 := 6) aX12_mixed_48 (by decide)
theorem dX12_mixed_51 : decode cX12_mixed 51 = .ok (.iinc 5 1, 3) := dc_132 (a0 := 5) (a1 := 1) aX12_mixed_51 (by decide)
theorem dX12_mixed_54 : decode cX12_mixed 54 = .ok (.iinc 6 1, 3) := dc_132 (a0 := 6) (a1 := 1) aX12_mixed_54 (by decide)
theorem dX12_mixed_57 : decode cX12_mixed 57 = .ok (.goto (-30), 3) := dc_167 (a0 := 255) (b0 := 226) aX12_mixed_57 (by decide)
theorem dX12_mixed_60 : decode cX12_mixed 60 = .ok (.iload 5, 2) := dc_21 (a0 := 5) aX12_mixed_60
theorem dX12_mixed_62 : decode cX12_mixed 62 = .ok (.ireturn, 1) := dc_172 aX12_mixed_62
set_option maxRecDepth 20000 in
theorem ggX12_isMixed_X12_at : GoodIn wsX12_isMixed wsX12_at := goodIn_k _ [[5, 0, 14, 0, 0, 0, 0, 0, 0, 0, 0, 0, 0, 0, 0, 0, 0, 0, 0, 0, 0, 0, 0, 0, 0, 0, 0, 0, 0, 0, 0, 0, 0, 0, 0, 0, 0, 0, 0, 0, 0, 0, 0, 0, 0, 0, 0, 0, 0, 0, 0, 0, 0, 0, 0, 0, 0, 0, 0, 0]] (by rfl) (by decide +kernel)
set_option maxRecDepth 20000 in
theorem gX12_isMixed_X12_at : GoodIn wsX12_isMixed (wsV RX12 254 RX12 yX12_at wsX12_at) := goodIn_app (goodIn_of _ (by decide +kernel)) ggX12_isMixed_X12_at
set_option maxRecDepth 20000 in
theorem ggX12_isMixed_X12_placeOn : GoodIn wsX12_isMixed wsX12_placeOn := goodIn_k _ [[10, 0, 0, 0, 0, 0, 0, 0, 0, 0], [4, 15, 0, 0, 0, 0, 0, 0, 0, 0, 0, 0, 0, 0, 0, 0, 0, 0, 0, 0, 0, 0, 0, 0, 0, 0, 0, 0, 0, 0, 0, 0, 0, 0, 0, 0, 0, 0, 0, 0, 0, 0, 0, 0, 0, 0, 0, 0, 0, 0, 0, 0, 0, 0, 0, 0, 0, 0, 0, 0]] (by rfl) (by decide +kernel)
set_option maxRecDepth 20000 in
theorem gX12_isMixed_X12_placeOn : GoodIn wsX12_isMixed (wsV RX12 274 RX12 yX12_placeOn wsX12_placeOn) := goodIn_app (goodIn_of _ (by decide +kernel)) ggX12_isMixed_X12_placeOn
noncomputable def sX12_isMixed_121 : List Nat := 172 :: []
noncomputable def sX12_isMixed_120 : List Nat := 3 :: sX12_isMixed_121
noncomputable def sX12_isMixed_117 : List Nat := 167 :: 0 :: 4 :: sX12_isMixed_120
noncomputable def sX12_isMixed_116 : List Nat := 4 :: sX12_isMixed_117
noncomputable def sX12_isMixed_113 : List Nat := 154 :: 0 :: 7 :: sX12_isMixed_116
noncomputable def sX12_isMixed_112 : List Nat := 29 :: sX12_isMixed_113
noncomputable def sX12_isMixed_109 : List Nat := 153 :: 0 :: 11 :: sX12_isMixed_112
noncomputable def sX12_isMixed_107 : List Nat := 21 :: 4 :: sX12_isMixed_109
noncomputable def sX12_isMixed_104 : List Nat := 167 :: 255 :: 161 :: sX12_isMixed_107
noncomputable def sX12_isMixed_101 : List Nat := 132 :: 5 :: 1 :: sX12_isMixed_104
noncomputable def sX12_isMixed_99 : List Nat := 54 :: 4 :: sX12_isMixed_101
noncomputable def sX12_isMixed_98 : List Nat := 3 :: sX12_isMixed_99
noncomputable def sX12_isMixed_95 : List Nat := 167 :: 0 :: 4 :: sX12_isMixed_98
noncomputable def sX12_isMixed_94 : List Nat := 4 :: sX12_isMixed_95
noncomputable def sX12_isMixed_91 : List Nat := 153 :: 0 :: 7 :: sX12_isMixed_94
noncomputable def sX12_isMixed_89 : List Nat := 21 :: 6 :: sX12_isMixed_91
noncomputable def sX12_isMixed_88 : List Nat := 62 :: sX12_isMixed_89
noncomputable def sX12_isMixed_87 : List Nat := 126 :: sX12_isMixed_88
noncomputable def sX12_isMixed_85 : List Nat := 21 :: 6 :: sX12_isMixed_87
noncomputable def sX12_isMixed_84 : List Nat := 29 :: sX12_isMixed_85
noncomputable def sX12_isMixed_81 : List Nat := 167 :: 255 :: 216 :: sX12_isMixed_84
noncomputable def sX12_isMixed_78 : List Nat := 132 :: 7 :: 1 :: sX12_isMixed_81
noncomputable def sX12_isMixed_76 : List Nat := 54 :: 6 :: sX12_isMixed_78
noncomputable def sX12_isMixed_75 : List Nat := 128 :: sX12_isMixed_76
noncomputable def sX12_isMixed_74 : List Nat := 120 :: sX12_isMixed_75
noncomputable def sX12_isMixed_72 : List Nat := 21 :: 7 :: sX12_isMixed_74
noncomputable def sX12_isMixed_71 : List Nat := 4 :: sX12_isMixed_72
noncomputable def sX12_isMixed_69 : List Nat := 21 :: 6 :: sX12_isMixed_71
noncomputable def sX12_isMixed_66 : List Nat := 160 :: 0 :: 12 :: sX12_isMixed_69
noncomputable def sX12_isMixed_63 : List Nat := 182 :: 0 :: 254 :: sX12_isMixed_66
noncomputable def sX12_isMixed_61 : List Nat := 21 :: 5 :: sX12_isMixed_63
noncomputable def sX12_isMixed_60 : List Nat := 27 :: sX12_isMixed_61
noncomputable def sX12_isMixed_59 : List Nat := 42 :: sX12_isMixed_60
noncomputable def sX12_isMixed_58 : List Nat := 108 :: sX12_isMixed_59
noncomputable def sX12_isMixed_56 : List Nat := 16 :: 60 :: sX12_isMixed_58
noncomputable def sX12_isMixed_53 : List Nat := 182 :: 1 :: 18 :: sX12_isMixed_56
noncomputable def sX12_isMixed_52 : List Nat := 28 :: sX12_isMixed_53
noncomputable def sX12_isMixed_50 : List Nat := 21 :: 5 :: sX12_isMixed_52
noncomputable def sX12_isMixed_48 : List Nat := 21 :: 7 :: sX12_isMixed_50
noncomputable def sX12_isMixed_47 : List Nat := 42 :: sX12_isMixed_48
noncomputable def sX12_isMixed_44 : List Nat := 162 :: 0 :: 40 :: sX12_isMixed_47
noncomputable def sX12_isMixed_43 : List Nat := 7 :: sX12_isMixed_44
noncomputable def sX12_isMixed_41 : List Nat := 21 :: 7 :: sX12_isMixed_43
noncomputable def sX12_isMixed_39 : List Nat := 54 :: 7 :: sX12_isMixed_41
noncomputable def sX12_isMixed_38 : List Nat := 3 :: sX12_isMixed_39
noncomputable def sX12_isMixed_36 : List Nat := 54 :: 6 :: sX12_isMixed_38
noncomputable def sX12_isMixed_35 : List Nat := 3 :: sX12_isMixed_36
noncomputable def sX12_isMixed_32 : List Nat := 167 :: 0 :: 69 :: sX12_isMixed_35
noncomputable def sX12_isMixed_29 : List Nat := 160 :: 0 :: 6 :: sX12_isMixed_32
noncomputable def sX12_isMixed_28 : List Nat := 2 :: sX12_isMixed_29
noncomputable def sX12_isMixed_25 : List Nat := 182 :: 0 :: 254 :: sX12_isMixed_28
noncomputable def sX12_isMixed_23 : List Nat := 21 :: 5 :: sX12_isMixed_25
noncomputable def sX12_isMixed_22 : List Nat := 27 :: sX12_isMixed_23
noncomputable def sX12_isMixed_21 : List Nat := 42 :: sX12_isMixed_22
noncomputable def sX12_isMixed_18 : List Nat := 153 :: 0 :: 89 :: sX12_isMixed_21
noncomputable def sX12_isMixed_16 : List Nat := 21 :: 4 :: sX12_isMixed_18
noncomputable def sX12_isMixed_13 : List Nat := 162 :: 0 :: 94 :: sX12_isMixed_16
noncomputable def sX12_isMixed_11 : List Nat := 16 :: 7 :: sX12_isMixed_13
noncomputable def sX12_isMixed_9 : List Nat := 21 :: 5 :: sX12_isMixed_11
noncomputable def sX12_isMixed_7 : List Nat := 54 :: 5 :: sX12_isMixed_9
noncomputable def sX12_isMixed_6 : List Nat := 3 :: sX12_isMixed_7
noncomputable def sX12_isMixed_4 : List Nat := 54 :: 4 :: sX12_isMixed_6
noncomputable def sX12_isMixed_3 : List Nat := 4 :: sX12_isMixed_4
noncomputable def sX12_isMixed_2 : List Nat := 62 :: sX12_isMixed_3
noncomputable def sX12_isMixed_0 : List Nat := 16 :: 15 :: sX12_isMixed_2
theorem aX12_isMixed_0 : dc_at cX12_isMixed 0 sX12_isMixed_0 := dc_base (by decide +kernel)
theorem aX12_isMixed_2 : dc_at cX12_isMixed 2 sX12_isMixed_2 := dc_n2 aX12_isMixed_0
theorem aX12_isMixed_3 : dc_at cX12_isMixed 3 sX12_isMixed_3 := dc_n1 aX12_isMixed_2
theorem aX12_isMixed_4 : dc_at cX12_isMixed 4 sX12_isMixed_4 := dc_n1 aX12_isMixed_3
theorem aX12_isMixed_6 : dc_at cX12_isMixed 6 sX12_isMixed_6 := dc_n2 aX12_isMixed_4
theorem aX12_isMixed_7 : dc_at cX12_isMixed 7 sX12_isMixed_7 := dc_n1 aX12_isMixed_6
theorem aX12_isMixed_9 : dc_at cX12_isMixed 9 sX12_isMixed_9 := dc_n2 aX12_isMixed_7
theorem aX12_isMixed_11 : dc_at cX12_isMixed 11 sX12_isMixed_11 := dc_n2 aX12_isMixed_9
theorem aX12_isMixed_13 : dc_at cX12_isMixed 13 sX12_isMixed_13 := dc_n2 aX12_isMixed_11
theorem aX12_isMixed_16 : dc_at cX12_isMixed 16 sX12_isMixed_16 := dc_n3 aX12_isMixed_13
theorem aX12_isMixed_18 : dc_at cX12_isMixed 18 sX12_isMixed_18 := dc_n2 aX12_isMixed_16
theorem aX12_isMixed_21 : dc_at cX12_isMixed 21 sX12_isMixed_21 := dc_n3 aX12_isMixed_18
theorem aX12_isMixed_22 : dc_at cX12_isMixed 22 sX12_isMixed_22 := dc_n1 aX12_isMixed_21
theorem aX12_isMixed_23 : dc_at cX12_isMixed 23 sX12_isMixed_23 := dc_n1 aX12_isMixed_22
theorem aX12_isMixed_25 : dc_at cX12_isMixed 25 sX12_isMixed_25 := dc_n2 aX12_isMixed_23
theorem aX12_isMixed_28 : dc_at cX12_isMixed 28 sX12_isMixed_28 := dc_n3 aX12_isMixed_25
theorem aX12_isMixed_29 : dc_at cX12_isMixed 29 sX12_isMixed_29 := dc_n1 aX12_isMixed_28
theorem aX12_isMixed_32 : dc_at cX12_isMixed 32 sX12_isMixed_32 := dc_n3 aX12_isMixed_29
theorem aX12_isMixed_35 : dc_at cX12_isMixed 35 sX12_isMixed_35 := dc_n3 aX12_isMixed_32
theorem aX12_isMixed_36 : dc_at cX12_isMixed 36 sX12_isMixed_36 := dc_n1 aX12_isMixed_35
theorem aX12_isMixed_38 : dc_at cX12_isMixed 38 sX12_isMixed_38 := dc_n2 aX12_isMixed_36
theorem aX12_isMixed_39 : dc_at cX12_isMixed 39 sX12_isMixed_39 := dc_n1 aX12_isMixed_38
theorem aX12_isMixed_41 : dc_at cX12_isMixed 41 sX12_isMixed_41 := dc_n2 aX12_isMixed_39
theorem aX12_isMixed_43 : dc_at cX12_isMixed 43 sX12_isMixed_43 := dc_n2 aX12_isMixed_41
theorem aX12_isMixed_44 : dc_at cX12_isMixed 44 sX12_isMixed_44 := dc_n1 aX12_isMixed_43
theorem aX12_isMixed_47 : dc_at cX12_isMixed 47 sX12_isMixed_47 := dc_n3 aX12_isMixed_44
theorem aX12_isMixed_48 : dc_at cX12_isMixed 48 sX12_isMixed_48 := dc_n1 aX12_isMixed_47
theorem aX12_isMixed_50 : dc_at cX12_isMixed 50 sX12_isMixed_50 := dc_n2 aX12_isMixed_48
theorem aX12_isMixed_52 : dc_at cX12_isMixed 52 sX12_isMixed_52 := dc_n2 aX12_isMixed_50
theorem aX12_isMixed_53 : dc_at cX12_isMixed 53 sX12_isMixed_53 := dc_n1 aX12_isMixed_52
theorem aX12_isMixed_56 : dc_at cX12_isMixed 56 sX12_isMixed_56 := dc_n3 aX12_isMixed_53
theorem aX12_isMixed_58 : dc_at cX12_isMixed 58 sX12_isMixed_58 := dc_n2 aX12_isMixed_56
theorem aX12_isMixed_59 : dc_at cX12_isMixed 59 sX12_isMixed_59 := dc_n1 aX12_isMixed_58
theorem aX12_isMixed_60 : dc_at cX12_isMixed 60 sX12_isMixed_60 := dc_n1 aX12_isMixed_59
theorem aX12_isMixed_61 : dc_at cX12_isMixed 61 sX12_isMixed_61 := dc_n1 aX12_isMixed_60
theorem aX12_isMixed_63 : dc_at cX12_isMixed 63 sX12_isMixed_63 := dc_n2 aX12_isMixed_61
theorem aX12_isMixed_66 : dc_at cX12_isMixed 66 sX12_isMixed_66 := dc_n3 aX12_isMixed_63
theorem aX12_isMixed_69 : dc_at cX12_isMixed 69 sX12_isMixed_69 := dc_n3 aX12_isMixed_66
theorem aX12_isMixed_71 : dc_at cX12_isMixed 71 sX12_isMixed_71 := dc_n2 aX12_isMixed_69
theorem aX12_isMixed_72 : dc_at cX12_isMixed 72 sX12_isMixed_72 := dc_n1 aX12_isMixed_71
theorem aX12_isMixed_74 : dc_at cX12_isMixed 74 sX12_isMixed_74 := dc_n2 aX12_isMixed_72
theorem aX12_isMixed_75 : dc_at cX12_isMixed 75 sX12_isMixed_75 := dc_n1 aX12_isMixed_74
theorem aX12_isMixed_76 : dc_at cX12_isMixed 76 sX12_isMixed_76 := dc_n1 aX12_isMixed_75
theorem aX12_isMixed_78 : dc_at cX12_isMixed 78 sX12_isMixed_78 := dc_n2 aX12_isMixed_76
theorem aX12_isMixed_81 : dc_at cX12_isMixed 81 sX12_isMixed_81 := dc_n3 aX12_isMixed_78
theorem aX12_isMixed_84 : dc_at cX12_isMixed 84 sX12_isMixed_84 := dc_n3 aX12_isMixed_81
theorem aX12_isMixed_85 : dc_at cX12_isMixed 85 sX12_isMixed_85 := dc_n1 aX12_isMixed_84
theorem aX12_isMixed_87 : dc_at cX12_isMixed 87 sX12_isMixed_87 := dc_n2 aX12_isMixed_85
theorem aX12_isMixed_88 : dc_at cX12_isMixed 88 sX12_isMixed_88 := dc_n1 aX12_isMixed_87
theorem aX12_isMixed_89 : dc_at cX12_isMixed 89 sX12_isMixed_89 := dc_n1 aX12_isMixed_88
theorem aX12_isMixed_91 : dc_at cX12_isMixed 91 sX12_isMixed_91 := dc_n2 aX12_isMixed_89
theorem aX12_isMixed_94 : dc_at cX12_isMixed 94 sX12_isMixed_94 := dc_n3 aX12_isMixed_91
theorem aX12_isMixed_95 : dc_at cX12_isMixed 95 sX12_isMixed_95 := dc_n1 aX12_isMixed_94
theorem aX12_isMixed_98 : dc_at cX12_isMixed 98 sX12_isMixed_98 := dc_n3 aX12_isMixed_95
theorem aX12_isMixed_99 : dc_at cX12_isMixed 99 sX12_isMixed_99 := dc_n1 aX12_isMixed_98
theorem aX12_isMixed_101 : dc_at cX12_isMixed 101 sX12_isMixed_101 := dc_n2 aX12_isMixed_99
theorem aX12_isMixed_104 : dc_at cX12_isMixed 104 sX12_isMixed_104 := dc_n3 aX12_isMixed_101
theorem aX12_isMixed_107 : dc_at cX12_isMixed 107 sX12_isMixed_107 := dc_n3 aX12_isMixed_104
theorem aX12_isMixed_109 : dc_at cX12_isMixed 109 sX12_isMixed_109 := dc_n2 aX12_isMixed_107
theorem aX12_isMixed_112 : dc_at cX12_isMixed 112 sX12_isMixed_112 := dc_n3 aX12_isMixed_109
theorem aX12_isMixed_113 : dc_at cX12_isMixed 113 sX12_isMixed_113 := dc_n1 aX12_isMixed_112
theorem aX12_isMixed_116 : dc_at cX12_isMixed 116 sX12_isMixed_116 := dc_n3 aX12_isMixed_113
theorem aX12_isMixed_117 : dc_at cX12_isMixed 117 sX12_isMixed_117 := dc_n1 aX12_isMixed_116
theorem aX12_isMixed_120 : dc_at cX12_isMixed 120 sX12_isMixed_120 := dc_n3 aX12_isMixed_117
theorem aX12_isMixed_121 : dc_at cX12_isMixed 121 sX12_isMixed_121 := dc_n1 aX12_isMixed_120
theorem dX12_isMixed_0 : decode cX12_isMixed 0 = .ok (.bipush 15, 2) := dc_16 (a0 := 15) aX12_isMixed_0 (by decide)
theorem dX12_isMixed_2 : decode cX12_isMixed 2 = .ok (.istore_n 3, 1) := dc_62 aX12_isMixed_2
theorem dX12_isMixed_3 : decode cX12_isMixed 3 = .ok (.iconst 1, 1) := dc_4 aX12_isMixed_3
theorem dX12_isMixed_4 : decode cX12_isMixed 4 = .ok (.istore 4, 2) := dc_54 (a0 := 4) aX12_isMixed_4
theorem dX12_isMixed_6 : decode cX12_isMixed 6 = .ok (.iconst 0, 1) := dc_3 aX12_isMixed_6
theorem dX12_isMixed_7 : decode cX12_isMixed 7 = .ok (.istore 5, 2) := dc_54 (a0 := 5) aX12_isMixed_7
theorem dX12_isMixed_9 : decode cX12_isMixed 9 = .ok (.iload 5, 2) := dc_21 (a0 := 5) aX12_isMixed_9
theorem dX12_isMixed_11 : decode cX12_isMixed 11 = .ok (.bipush 7, 2) := dc_16 (a0 := 7) aX12_isMixed_11 (by decide)
theorem dX12_isMixed_13 : decode cX12_isMixed 13 = .ok (.if_icmp .ge 94, 3) := dc_162 (a0 := 0) (b0 := 94) aX12_isMixed_13 (by decide)
theorem dX12_isMixed_16 : decode cX12_isMixed 16 = .ok (.iload 4, 2) := dc_21 (a0 := 4) aX12_isMixed_16
theorem dX12_isMixed_18 : decode cX12_isMixed 18 = .ok (.ifCond .eq 89, 3) := dc_153 (a0 := 0) (b0 := 89) aX12_isMixed_18 (by decide)
theorem dX12_isMixed_21 : decode cX12_isMixed 21 = .ok (.aload_n 0, 1) := dc_42 aX12_isMixed_21
theorem dX12_isMixed_22 : decode cX12_isMixed 22 = .ok (.iload_n 1, 1) := dc_27 aX12_isMixed_22
theorem dX12_isMixed_23 : decode cX12_isMixed 23 = .ok (.iload 5, 2) := dc_21 (a0 := 5) aX12_isMixed_23
theorem dX12_isMixed_25 : decode cX12_isMixed 25 = .ok (.invokevirtual 254, 3) := dc_182 (a0 := 0) (b0 := 254) aX12_isMixed_25
theorem dX12_isMixed_28 : decode cX12_isMixed 28 = .ok (.iconst (-1), 1) := dc_2 aX12_isMixed_28
theorem dX12_isMixed_29 : decode cX12_isMixed 29 = .ok (.if_icmp .ne 6, 3) := dc_160 (a0 := 0) (b0 := 6) aX12_isMixed_29 (by decide)
theorem dX12_isMixed_32 : decode cX12_isMixed 32 = .ok (.goto 69, 3) := dc_167 (a0 := 0) (b0 := 69) aX12_isMixed_32 (by decide)
theorem dX12_isMixed_35 : decode cX12_isMixed 35 = .ok (.iconst 0, 1) := dc_3 aX12_isMixed_35
theorem dX12_isMixed_36 : decode cX12_isMixed 36 = .ok (.istore 6, 2) := dc_54 (a0 := 6) aX12_isMixed_36
theorem dX12_isMixed_38 : decode cX12_isMixed 38 = .ok (.iconst 0, 1) := dc_3 aX12_isMixed_38
theorem dX12_isMixed_39 : decode cX12_isMixed 39 = .ok (.istore 7, 2) := dc_54 (a0 := 7) aX12_isMixed_39
theorem dX12_isMixed_41 : decode cX12_isMixed 41 = .ok (.iload 7, 2) := dc_21 (a0 := 7) aX12_isMixed_41
theorem dX12_isMixed_43 : decode cX12_isMixed 43 = .ok (.iconst 4, 1) := dc_7 aX12_isMixed_43
theorem dX12_isMixed_44 : decode cX12_isMixed 44 = .ok (.if_icmp .ge 40, 3) := dc_162 (a0 := 0) (b0 := 40) aX12_isMixed_44 (by decide)
theorem dX12_isMixed_47 : decode cX12_isMixed 47 = .ok (.aload_n 0, 1) := dc_42 aX12_isMixed_47
theorem dX12_isMixed_48 : decode cX12_isMixed 48 = .ok (.iload 7, 2) := dc_21 (a0 := 7) aX12_isMixed_48
theorem dX12_isMixed_50 : decode cX12_isMixed 50 = .ok (.iload 5, 2) := dc_21 (a0 := 5) aX12_isMixed_50
theorem dX12_isMixed_52 : decode cX12_isMixed 52 = .ok (.iload_n 2, 1) := dc_28 aX12_isMixed_52
theorem dX12_isMixed_53 : decode cX12_isMixed 53 = .ok (.invokevirtual 274, 3) := dc_182 (a0 := 1) (b0 := 18) aX12_isMixed_53
theorem dX12_isMixed_56 : decode cX12_isMixed 56 = .ok (.bipush 60, 2) := dc_16 (a0 := 60) aX12_isMixed_56 (by decide)
theorem dX12_isMixed_58 : decode cX12_isMixed 58 = .ok (.idiv, 1) := dc_108 aX12_isMixed_58
theorem dX12_isMixed_59 : decode cX12_isMixed 59 = .ok (.aload_n 0, 1) := dc_42 aX12_isMixed_59
theorem dX12_isMixed_60 : decode cX12_isMixed 60 = .ok (.iload_n 1, 1) := dc_27 aX12_isMixed_60
theorem dX12_isMixed_61 : decode cX12_isMixed 61 = .ok (.iload 5, 2) := dc_21 (a0 := 5) aX12_isMixed_61
theorem dX12_isMixed_63 : decode cX12_isMixed 63 = .ok (.invokevirtual 254, 3) := dc_182 (a0 := 0) (b0 := 254) aX12_isMixed_63
theorem dX12_isMixed_66 : decode cX12_isMixed 66 = .ok (.if_icmp .ne 12, 3) := dc_160 (a0 := 0) (b0 := 12) aX12_isMixed_66 (by decide)
theorem dX12_isMixed_69 : decode cX12_isMixed 69 = .ok (.iload 6, 2) := dc_21 (a0 := 6) aX12_isMixed_69
theorem dX12_isMixed_71 : decode cX12_isMixed 71 = .ok (.iconst 1, 1) := dc_4 aX12_isMixed_71
theorem dX12_isMixed_72 : decode cX12_isMixed 72 = .ok (.iload 7, 2) := dc_21 (a0 := 7) aX12_isMixed_72
theorem dX12_isMixed_74 : decode cX12_isMixed 74 = .ok (.ishl, 1) := dc_120 aX12_isMixed_74
theorem dX12_isMixed_75 : decode cX12_isMixed 75 = .ok (.ior, 1) := dc_128 aX12_isMixed_75
theorem dX12_isMixed_76 : decode cX12_isMixed 76 = .ok (.istore 6, 2) := dc_54 (a0 := 6) aX12_isMixed_76
theorem dX12_isMixed_78 : decode cX12_isMixed 78 = .ok (.iinc 7 1, 3) := dc_132 (a0 := 7) (a1 := 1) aX12_isMixed_78 (by decide)
theorem dX12_isMixed_81 : decode cX12_isMixed 81 = .ok (.goto (-40), 3) := dc_167 (a0 := 255) (b0 := 216) aX12_isMixed_81 (by decide)
theorem dX12_isMixed_84 : decode cX12_isMixed 84 = .ok (.iload_n 3, 1) := dc_29 aX12_isMixed_84
theorem dX12_isMixed_85 : decode cX12_isMixed 85 = .ok (.iload 6, 2) := dc_21 (a0 := 6) aX12_isMixed_85
theorem dX12_isMixed_87 : decode cX12_isMixed 87 = .ok (.iand, 1) := dc_126 aX12_isMixed_87
theorem dX12_isMixed_88 : decode cX12_isMixed 88 = .ok (.istore_n 3, 1) := dc_62 aX12_isMixed_88
theorem dX12_isMixed_89 : decode cX12_isMixed 89 = .ok (.iload 6, 2) := dc_21 (a0 := 6) aX12_isMixed_89
theorem dX12_isMixed_91 : decode cX12_isMixed 91 = .ok (.ifCond .eq 7, 3) := dc_153 (a0 := 0) (b0 := 7) aX12_isMixed_91 (by decide)
theorem dX12_isMixed_94 : decode cX12_isMixed 94 = .ok (.iconst 1, 1) := dc_4 aX12_isMixed_94
theorem dX12_isMixed_95 : decode cX12_isMixed 95 = .ok (.goto 4, 3) := dc_167 (a0 := 0) (b0 := 4) aX12_isMixed_95 (by decide)
theorem dX12_isMixed_98 : decode cX12_isMixed 98 = .ok (.iconst 0, 1) := dc_3 aX12_isMixed_98
theorem dX12_isMixed_99 : decode cX12_isMixed 99 = .ok (.istore 4, 2) := dc_54 (a0 := 4) aX12_isMixed_99
theorem dX12_isMixed_101 : decode cX12_isMixed 101 = .ok (.iinc 5 1, 3) := dc_132 (a0 := 5) (a1 := 1) aX12_isMixed_101 (by decide)
theorem dX12_isMixed_104 : decode cX12_isMixed 104 = .ok (.goto (-95), 3) := dc_167 (a0 := 255) (b0 := 161) aX12_isMixed_104 (by decide)
theorem dX12_isMixed_107 : decode cX12_isMixed 107 = .ok (.iload 4, 2) := dc_21 (a0 := 4) aX12_isMixed_107
theorem dX12_isMixed_109 : decode cX12_isMixed 109 = .ok (.ifCond .eq 11, 3) := dc_153 (a0 := 0) (b0 := 11) aX12_isMixed_109 (by decide)
theorem dX12_isMixed_112 : decode cX12_isMixed 112 = .ok (.iload_n 3, 1) := dc_29 aX12_isMixed_112
theorem dX12_isMixed_113 : decode cX12_isMixed 113 = .ok (.ifCond .ne 7, 3) := dc_154 (a0 := 0) (b0 := 7) aX12_isMixed_113 (by decide)
theorem dX12_isMixed_116 : decode cX12_isMixed 116 = .ok (.iconst 1, 1) := dc_4 aX12_isMixed_116
theorem dX12_isMixed_117 : decode cX12_isMixed 117 = .ok (.goto 4, 3) := dc_167 (a0 := 0) (b0 := 4) aX12_isMixed_117 (by decide)
theorem dX12_isMixed_120 : decode cX12_isMixed 120 = .ok (.iconst 0, 1) := dc_3 aX12_isMixed_120
theorem dX12_isMixed_121 : decode cX12_isMixed 121 = .ok (.ireturn, 1) := dc_172 aX12_isMixed_121
set_option maxRecDepth 20000 in
theorem ggX12_seek_X12_isWheel : GoodIn wsX12_seek wsX12_isWheel := goodIn_k _ [[8, 0, 0, 0, 0], [7, 5, 3, 0, 0, 0, 0, 0, 0, 0, 0, 0, 0, 0, 0, 0, 0, 0, 0, 0, 0, 0, 0, 0, 0, 0, 0, 0, 0, 0, 0, 0, 0, 0, 0, 0, 0, 0, 0, 0, 0, 0, 0, 0, 0, 0, 0, 0, 0, 0, 0, 0, 0, 0, 0, 0, 0, 0, 0, 0]] (by rfl) (by decide +kernel)
set_option maxRecDepth 20000 in
theorem gX12_seek_X12_isWheel : GoodIn wsX12_seek (wsV RX12 247 RX12 yX12_isWheel wsX12_isWheel) := goodIn_app (goodIn_of _ (by decide +kernel)) ggX12_seek_X12_isWheel
set_option maxRecDepth 20000 in
theorem ggX12_seek_X12_within : GoodIn wsX12_seek wsX12_within := goodIn_k _ [[16]] (by rfl) (by decide +kernel)
set_option maxRecDepth 20000 in
theorem gX12_seek_X12_within : GoodIn wsX12_seek (va_wsS RX12 270 yX12_within wsX12_within) := goodIn_app (goodIn_of _ (by decide +kernel)) ggX12_seek_X12_within
set_option maxRecDepth 20000 in
theorem ggX12_seek_X12_right : GoodIn wsX12_seek wsX12_right := goodIn_k _ [[13], [9, 7, 0, 0, 0, 0, 0, 0, 0, 0, 0, 0, 0, 0, 0, 0, 0, 0, 0, 0, 0, 0, 0, 0, 0, 0, 0, 0, 0, 0, 0, 0, 0, 0, 0, 0, 0, 0, 0, 0, 0, 0, 0, 0, 0, 0, 0, 0, 0, 0, 0, 0, 0, 0, 0, 0, 0, 0, 0]] (by rfl) (by decide +kernel)
set_option maxRecDepth 20000 in
theorem gX12_seek_X12_right : GoodIn wsX12_seek (wsV RX12 209 RX12 yX12_right wsX12_right) := goodIn_app (goodIn_of _ (by decide +kernel)) ggX12_seek_X12_right
noncomputable def sX12_seek_104 : List Nat := 177 :: []
noncomputable def sX12_seek_103 : List Nat := 79 :: sX12_seek_104
noncomputable def sX12_seek_102 : List Nat := 2 :: sX12_seek_103
noncomputable def sX12_seek_100 : List Nat := 16 :: 6 :: sX12_seek_102
noncomputable def sX12_seek_97 : List Nat := 180 :: 0 :: 71 :: sX12_seek_100
noncomputable def sX12_seek_96 : List Nat := 42 :: sX12_seek_97
noncomputable def sX12_seek_95 : List Nat := 79 :: sX12_seek_96
noncomputable def sX12_seek_94 : List Nat := 2 :: sX12_seek_95
noncomputable def sX12_seek_93 : List Nat := 8 :: sX12_seek_94
noncomputable def sX12_seek_90 : List Nat := 180 :: 0 :: 71 :: sX12_seek_93
noncomputable def sX12_seek_89 : List Nat := 42 :: sX12_seek_90
noncomputable def sX12_seek_88 : List Nat := 79 :: sX12_seek_89
noncomputable def sX12_seek_87 : List Nat := 3 :: sX12_seek_88
noncomputable def sX12_seek_86 : List Nat := 7 :: sX12_seek_87
noncomputable def sX12_seek_83 : List Nat := 180 :: 0 :: 71 :: sX12_seek_86
noncomputable def sX12_seek_82 : List Nat := 42 :: sX12_seek_83
noncomputable def sX12_seek_81 : List Nat := 79 :: sX12_seek_82
noncomputable def sX12_seek_80 : List Nat := 2 :: sX12_seek_81
noncomputable def sX12_seek_79 : List Nat := 6 :: sX12_seek_80
noncomputable def sX12_seek_76 : List Nat := 180 :: 0 :: 71 :: sX12_seek_79
noncomputable def sX12_seek_75 : List Nat := 42 :: sX12_seek_76
noncomputable def sX12_seek_74 : List Nat := 79 :: sX12_seek_75
noncomputable def sX12_seek_72 : List Nat := 21 :: 4 :: sX12_seek_74
noncomputable def sX12_seek_71 : List Nat := 5 :: sX12_seek_72
noncomputable def sX12_seek_68 : List Nat := 180 :: 0 :: 71 :: sX12_seek_71
noncomputable def sX12_seek_67 : List Nat := 42 :: sX12_seek_68
noncomputable def sX12_seek_66 : List Nat := 79 :: sX12_seek_67
noncomputable def sX12_seek_65 : List Nat := 29 :: sX12_seek_66
noncomputable def sX12_seek_64 : List Nat := 4 :: sX12_seek_65
noncomputable def sX12_seek_61 : List Nat := 180 :: 0 :: 71 :: sX12_seek_64
noncomputable def sX12_seek_60 : List Nat := 42 :: sX12_seek_61
noncomputable def sX12_seek_59 : List Nat := 79 :: sX12_seek_60
noncomputable def sX12_seek_58 : List Nat := 96 :: sX12_seek_59
noncomputable def sX12_seek_57 : List Nat := 28 :: sX12_seek_58
noncomputable def sX12_seek_56 : List Nat := 104 :: sX12_seek_57
noncomputable def sX12_seek_55 : List Nat := 27 :: sX12_seek_56
noncomputable def sX12_seek_53 : List Nat := 16 :: 20 :: sX12_seek_55
noncomputable def sX12_seek_52 : List Nat := 3 :: sX12_seek_53
noncomputable def sX12_seek_49 : List Nat := 180 :: 0 :: 71 :: sX12_seek_52
noncomputable def sX12_seek_48 : List Nat := 42 :: sX12_seek_49
noncomputable def sX12_seek_45 : List Nat := 181 :: 1 :: 41 :: sX12_seek_48
noncomputable def sX12_seek_44 : List Nat := 4 :: sX12_seek_45
noncomputable def sX12_seek_43 : List Nat := 42 :: sX12_seek_44
noncomputable def sX12_seek_42 : List Nat := 177 :: sX12_seek_43
noncomputable def sX12_seek_39 : List Nat := 154 :: 0 :: 4 :: sX12_seek_42
noncomputable def sX12_seek_36 : List Nat := 182 :: 0 :: 209 :: sX12_seek_39
noncomputable def sX12_seek_35 : List Nat := 4 :: sX12_seek_36
noncomputable def sX12_seek_34 : List Nat := 3 :: sX12_seek_35
noncomputable def sX12_seek_31 : List Nat := 167 :: 0 :: 4 :: sX12_seek_34
noncomputable def sX12_seek_30 : List Nat := 4 :: sX12_seek_31
noncomputable def sX12_seek_27 : List Nat := 153 :: 0 :: 7 :: sX12_seek_30
noncomputable def sX12_seek_24 : List Nat := 184 :: 1 :: 14 :: sX12_seek_27
noncomputable def sX12_seek_22 : List Nat := 18 :: 218 :: sX12_seek_24
noncomputable def sX12_seek_21 : List Nat := 3 :: sX12_seek_22
noncomputable def sX12_seek_19 : List Nat := 21 :: 4 :: sX12_seek_21
noncomputable def sX12_seek_16 : List Nat := 153 :: 0 :: 18 :: sX12_seek_19
noncomputable def sX12_seek_13 : List Nat := 184 :: 1 :: 14 :: sX12_seek_16
noncomputable def sX12_seek_12 : List Nat := 6 :: sX12_seek_13
noncomputable def sX12_seek_11 : List Nat := 3 :: sX12_seek_12
noncomputable def sX12_seek_10 : List Nat := 29 :: sX12_seek_11
noncomputable def sX12_seek_9 : List Nat := 42 :: sX12_seek_10
noncomputable def sX12_seek_6 : List Nat := 153 :: 0 :: 36 :: sX12_seek_9
noncomputable def sX12_seek_3 : List Nat := 182 :: 0 :: 247 :: sX12_seek_6
noncomputable def sX12_seek_2 : List Nat := 28 :: sX12_seek_3
noncomputable def sX12_seek_1 : List Nat := 27 :: sX12_seek_2
noncomputable def sX12_seek_0 : List Nat := 42 :: sX12_seek_1
theorem aX12_seek_0 : dc_at cX12_seek 0 sX12_seek_0 := dc_base (by decide +kernel)
theorem aX12_seek_1 : dc_at cX12_seek 1 sX12_seek_1 := dc_n1 aX12_seek_0
theorem aX12_seek_2 : dc_at cX12_seek 2 sX12_seek_2 := dc_n1 aX12_seek_1
theorem aX12_seek_3 : dc_at cX12_seek 3 sX12_seek_3 := dc_n1 aX12_seek_2
theorem aX12_seek_6 : dc_at cX12_seek 6 sX12_seek_6 := dc_n3 aX12_seek_3
theorem aX12_seek_9 : dc_at cX12_seek 9 sX12_seek_9 := dc_n3 aX12_seek_6
theorem aX12_seek_10 : dc_at cX12_seek 10 sX12_seek_10 := dc_n1 aX12_seek_9
theorem aX12_seek_11 : dc_at cX12_seek 11 sX12_seek_11 := dc_n1 aX12_seek_10
theorem aX12_seek_12 : dc_at cX12_seek 12 sX12_seek_12 := dc_n1 aX12_seek_11
theorem aX12_seek_13 : dc_at cX12_seek 13 sX12_seek_13 := dc_n1 aX12_seek_12
theorem aX12_seek_16 : dc_at cX12_seek 16 sX12_seek_16 := dc_n3 aX12_seek_13
theorem aX12_seek_19 : dc_at cX12_seek 19 sX12_seek_19 := dc_n3 aX12_seek_16
theorem aX12_seek_21 : dc_at cX12_seek 21 sX12_seek_21 := dc_n2 aX12_seek_19
theorem aX12_seek_22 : dc_at cX12_seek 22 sX12_seek_22 := dc_n1 aX12_seek_21
theorem aX12_seek_24 : dc_at cX12_seek 24 sX12_seek_24 := dc_n2 aX12_seek_22
theorem aX12_seek_27 : dc_at cX12_seek 27 sX12_seek_27 := dc_n3 aX12_seek_24
theorem aX12_seek_30 : dc_at cX12_seek 30 sX12_seek_30 := dc_n3 aX12_seek_27
theorem aX12_seek_31 : dc_at cX12_seek 31 sX12_seek_31 := dc_n1 aX12_seek_30
theorem aX12_seek_34 : dc_at cX12_seek 34 sX12_seek_34 := dc_n3 aX12_seek_31
theorem aX12_seek_35 : dc_at cX12_seek 35 sX12_seek_35 := dc_n1 aX12_seek_34
theorem aX12_seek_36 : dc_at cX12_seek 36 sX12_seek_36 := dc_n1 aX12_seek_35
theorem aX12_seek_39 : dc_at cX12_seek 39 sX12_seek_39 := dc_n3 aX12_seek_36
theorem aX12_seek_42 : dc_at cX12_seek 42 sX12_seek_42 := dc_n3 aX12_seek_39
theorem aX12_seek_43 : dc_at cX12_seek 43 sX12_seek_43 := dc_n1 aX12_seek_42
theorem aX12_seek_44 : dc_at cX12_seek 44 sX12_seek_44 := dc_n1 aX12_seek_43
theorem aX12_seek_45 : dc_at cX12_seek 45 sX12_seek_45 := dc_n1 aX12_seek_44
theorem aX12_seek_48 : dc_at cX12_seek 48 sX12_seek_48 := dc_n3 aX12_seek_45
theorem aX12_seek_49 : dc_at cX12_seek 49 sX12_seek_49 := dc_n1 aX12_seek_48
theorem aX12_seek_52 : dc_at cX12_seek 52 sX12_seek_52 := dc_n3 aX12_seek_49
theorem aX12_seek_53 : dc_at cX12_seek 53 sX12_seek_53 := dc_n1 aX12_seek_52
theorem aX12_seek_55 : dc_at cX12_seek 55 sX12_seek_55 := dc_n2 aX12_seek_53
theorem aX12_seek_56 : dc_at cX12_seek 56 sX12_seek_56 := dc_n1 aX12_seek_55
theorem aX12_seek_57 : dc_at cX12_seek 57 sX12_seek_57 := dc_n1 aX12_seek_56
theorem aX12_seek_58 : dc_at cX12_seek 58 sX12_seek_58 := dc_n1 aX12_seek_57
theorem aX12_seek_59 : dc_at cX12_seek 59 sX12_seek_59 := dc_n1 aX12_seek_58
theorem aX12_seek_60 : dc_at cX12_seek 60 sX12_seek_60 := dc_n1 aX12_seek_59
theorem aX12_seek_61 : dc_at cX12_seek 61 sX12_seek_61 := dc_n1 aX12_seek_60
theorem aX12_seek_64 : dc_at cX12_seek 64 sX12_seek_64 := dc_n3 aX12_seek_61
theorem aX12_seek_65 : dc_at cX12_seek 65 sX12_seek_65 := dc_n1 aX12_seek_64
theorem aX12_seek_66 : dc_at cX12_seek 66 sX12_seek_66 := dc_n1 aX12_seek_65
theorem aX12_seek_67 : dc_at cX12_seek 67 sX12_seek_67 := dc_n1 aX12_seek_66
theorem aX12_seek_68 : dc_at cX12_seek 68 sX12_seek_68 := dc_n1 aX12_seek_67
theorem aX12_seek_71 : dc_at cX12_seek 71 sX12_seek_71 := dc_n3 aX12_seek_68
theorem aX12_seek_72 : dc_at cX12_seek 72 sX12_seek_72 := dc_n1 aX12_seek_71
theorem aX12_seek_74 : dc_at cX12_seek 74 sX12_seek_74 := dc_n2 aX12_seek_72
theorem aX12_seek_75 : dc_at cX12_seek 75 sX12_seek_75 := dc_n1 aX12_seek_74
theorem aX12_seek_76 : dc_at cX12_seek 76 sX12_seek_76 := dc_n1 aX12_seek_75
theorem aX12_seek_79 : dc_at cX12_seek 79 sX12_seek_79 := dc_n3 aX12_seek_76
theorem aX12_seek_80 : dc_at cX12_seek 80 sX12_seek_80 := dc_n1 aX12_seek_79
theorem aX12_seek_81 : dc_at cX12_seek 81 sX12_seek_81 := dc_n1 aX12_seek_80
theorem aX12_seek_82 : dc_at cX12_seek 82 sX12_seek_82 := dc_n1 aX12_seek_81
theorem aX12_seek_83 : dc_at cX12_seek 83 sX12_seek_83 := dc_n1 aX12_seek_82
theorem aX12_seek_86 : dc_at cX12_seek 86 sX12_seek_86 := dc_n3 aX12_seek_83
theorem aX12_seek_87 : dc_at cX12_seek 87 sX12_seek_87 := dc_n1 aX12_seek_86
theorem aX12_seek_88 : dc_at cX12_seek 88 sX12_seek_88 := dc_n1 aX12_seek_87
theorem aX12_seek_89 : dc_at cX12_seek 89 sX12_seek_89 := dc_n1 aX12_seek_88
theorem aX12_seek_90 : dc_at cX12_seek 90 sX12_seek_90 := dc_n1 aX12_seek_89
theorem aX12_seek_93 : dc_at cX12_seek 93 sX12_seek_93 := dc_n3 aX12_seek_90
theorem aX12_seek_94 : dc_at cX12_seek 94 sX12_seek_94 := dc_n1 aX12_seek_93
theorem aX12_seek_95 : dc_at cX12_seek 95 sX12_seek_95 := dc_n1 aX12_seek_94
theorem aX12_seek_96 : dc_at cX12_seek 96 sX12_seek_96 := dc_n1 aX12_seek_95
theorem aX12_seek_97 : dc_at cX12_seek 97 sX12_seek_97 := dc_n1 aX12_seek_96
theorem aX12_seek_100 : dc_at cX12_seek 100 sX12_seek_100 := dc_n3 aX12_seek_97
theorem aX12_seek_102 : dc_at cX12_seek 102 sX12_seek_102 := dc_n2 aX12_seek_100
theorem aX12_seek_103 : dc_at cX12_seek 103 sX12_seek_103 := dc_n1 aX12_seek_102
theorem aX12_seek_104 : dc_at cX12_seek 104 sX12_seek_104 := dc_n1 aX12_seek_103
theorem dX12_seek_0 : decode cX12_seek 0 = .ok (.aload_n 0, 1) := dc_42 aX12_seek_0
theorem dX12_seek_1 : decode cX12_seek 1 = .ok (.iload_n 1, 1) := dc_27 aX12_seek_1
theorem dX12_seek_2 : decode cX12_seek 2 = .ok (.iload_n 2, 1) := dc_28 aX12_seek_2
theorem dX12_seek_3 : decode cX12_seek 3 = .ok (.invokevirtual 247, 3) := dc_182 (a0 := 0) (b0 := 247) aX12_seek_3
theorem dX12_seek_6 : decode cX12_seek 6 = .ok (.ifCond .eq 36, 3) := dc_153 (a0 := 0) (b0 := 36) aX12_seek_6 (by decide)
theorem dX12_seek_9 : decode cX12_seek 9 = .ok (.aload_n 0, 1) := dc_42 aX12_seek_9
theorem dX12_seek_10 : decode cX12_seek 10 = .ok (.iload_n 3, 1) := dc_29 aX12_seek_10
theorem dX12_seek_11 : decode cX12_seek 11 = .ok (.iconst 0, 1) := dc_3 aX12_seek_11
theorem dX12_seek_12 : decode cX12_seek 12 = .ok (.iconst 3, 1) := dc_6 aX12_seek_12
theorem dX12_seek_13 : decode cX12_seek 13 = .ok (.invokestatic 270, 3) := dc_184 (a0 := 1) (b0 := 14) aX12_seek_13
theorem dX12_seek_16 : decode cX12_seek 16 = .ok (.ifCond .eq 18, 3) := dc_153 (a0 := 0) (b0 := 18) aX12_seek_16 (by decide)
theorem dX12_seek_19 : decode cX12_seek 19 = .ok (.iload 4, 2) := dc_21 (a0 := 4) aX12_seek_19
theorem dX12_seek_21 : decode cX12_seek 21 = .ok (.iconst 0, 1) := dc_3 aX12_seek_21
theorem dX12_seek_22 : decode cX12_seek 22 = .ok (.ldc 218, 2) := dc_18 (a0 := 218) aX12_seek_22
theorem dX12_seek_24 : decode cX12_seek 24 = .ok (.invokestatic 270, 3) := dc_184 (a0 := 1) (b0 := 14) aX12_seek_24
theorem dX12_seek_27 : decode cX12_seek 27 = .ok (.ifCond .eq 7, 3) := dc_153 (a0 := 0) (b0 := 7) aX12_seek_27 (by decide)
theorem dX12_seek_30 : decode cX12_seek 30 = .ok (.iconst 1, 1) := dc_4 aX12_seek_30
theorem dX12_seek_31 : decode cX12_seek 31 = .ok (.goto 4, 3) := dc_167 (a0 := 0) (b0 := 4) aX12_seek_31 (by decide)
theorem dX12_seek_34 : decode cX12_seek 34 = .ok (.iconst 0, 1) := dc_3 aX12_seek_34
theorem dX12_seek_35 : decode cX12_seek 35 = .ok (.iconst 1, 1) := dc_4 aX12_seek_35
theorem dX12_seek_36 : decode cX12_seek 36 = .ok (.invokevirtual 209, 3) := dc_182 (a0 := 0) (b0 := 209) aX12_seek_36
theorem dX12_seek_39 : decode cX12_seek 39 = .ok (.ifCond .ne 4, 3) := dc_154 (a0 := 0) (b0 := 4) aX12_seek_39 (by decide)
theorem dX12_seek_42 : decode cX12_seek 42 = .ok (.return_, 1) := dc_177 aX12_seek_42
theorem dX12_seek_43 : decode cX12_seek 43 = .ok (.aload_n 0, 1) := dc_42 aX12_seek_43
theorem dX12_seek_44 : decode cX12_seek 44 = .ok (.iconst 1, 1) := dc_4 aX12_seek_44
theorem dX12_seek_45 : decode cX12_seek 45 = .ok (.putfield 297, 3) := dc_181 (a0 := 1) (b0 := 41) aX12_seek_45
theorem dX12_seek_48 : decode cX12_seek 48 = .ok (.aload_n 0, 1) := dc_42 aX12_seek_48
theorem dX12_seek_49 : decode cX12_seek 49 = .ok (.getfield 71, 3) := dc_180 (a0 := 0) (b0 := 71) aX12_seek_49
theorem dX12_seek_52 : decode cX12_seek 52 = .ok (.iconst 0, 1) := dc_3 aX12_seek_52
theorem dX12_seek_53 : decode cX12_seek 53 = .ok (.bipush 20, 2) := dc_16 (a0 := 20) aX12_seek_53 (by decide)
theorem dX12_seek_55 : decode cX12_seek 55 = .ok (.iload_n 1, 1) := dc_27 aX12_seek_55
theorem dX12_seek_56 : decode cX12_seek 56 = .ok (.imul, 1) := dc_104 aX12_seek_56
theorem dX12_seek_57 : decode cX12_seek 57 = .ok (.iload_n 2, 1) := dc_28 aX12_seek_57
theorem dX12_seek_58 : decode cX12_seek 58 = .ok (.iadd, 1) := dc_96 aX12_seek_58
theorem dX12_seek_59 : decode cX12_seek 59 = .ok (.iastore, 1) := dc_79 aX12_seek_59
theorem dX12_seek_60 : decode cX12_seek 60 = .ok (.aload_n 0, 1) := dc_42 aX12_seek_60
theorem dX12_seek_61 : decode cX12_seek 61 = .ok (.getfield 71, 3) := dc_180 (a0 := 0) (b0 := 71) aX12_seek_61
theorem dX12_seek_64 : decode cX12_seek 64 = .ok (.iconst 1, 1) := dc_4 aX12_seek_64
theorem dX12_seek_65 : decode cX12_seek 65 = .ok (.iload_n 3, 1) := dc_29 aX12_seek_65
theorem dX12_seek_66 : decode cX12_seek 66 = .ok (.iastore, 1) := dc_79 aX12_seek_66
theorem dX12_seek_67 : decode cX12_seek 67 = .ok (.aload_n 0, 1) := dc_42 aX12_seek_67
theorem dX12_seek_68 : decode cX12_seek 68 = .ok (.getfield 71, 3) := dc_180 (a0 := 0) (b0 := 71) aX12_seek_68
theorem dX12_seek_71 : decode cX12_seek 71 = .ok (.iconst 2, 1) := dc_5 aX12_seek_71
theorem dX12_seek_72 : decode cX12_seek 72 = .ok (.iload 4, 2) := dc_21 (a0 := 4) aX12_seek_72
theorem dX12_seek_74 : decode cX12_seek 74 = .ok (.iastore, 1) := dc_79 aX12_seek_74
theorem dX12_seek_75 : decode cX12_seek 75 = .ok (.aload_n 0, 1) := dc_42 aX12_seek_75
theorem dX12_seek_76 : decode cX12_seek 76 = .ok (.getfield 71, 3) := dc_180 (a0 := 0) (b0 := 71) aX12_seek_76
theorem dX12_seek_79 : decode cX12_seek 79 = .ok (.iconst 3, 1) := dc_6 aX12_seek_79
theorem dX12_seek_80 : decode cX12_seek 80 = .ok (.iconst (-1), 1) := dc_2 aX12_seek_80
theorem dX12_seek_81 : decode cX12_seek 81 = .ok (.iastore, 1) := dc_79 aX12_seek_81
theorem dX12_seek_82 : decode cX12_seek 82 = .ok (.aload_n 0, 1) := dc_42 aX12_seek_82
theorem dX12_seek_83 : decode cX12_seek 83 = .ok (.getfield 71, 3) := dc_180 (a0 := 0) (b0 := 71) aX12_seek_83
theorem dX12_seek_86 : decode cX12_seek 86 = .ok (.iconst 4, 1) := dc_7 aX12_seek_86
theorem dX12_seek_87 : decode cX12_seek 87 = .ok (.iconst 0, 1) := dc_3 aX12_seek_87
theorem dX12_seek_88 : decode cX12_seek 88 = .ok (.iastore, 1) := dc_79 aX12_seek_88
theorem dX12_seek_89 : decode cX12_seek 89 = .ok (.aload_n 0, 1) := dc_42 aX12_seek_89
theorem dX12_seek_90 : decode cX12_seek 90 = .ok (.getfield 71, 3) := dc_180 (a0 := 0) (b0 := 71) aX12_seek_90
theorem dX12_seek_93 : decode cX12_seek 93 = .ok (.iconst 5, 1) := dc_8 aX12_seek_93
theorem dX12_seek_94 : decode cX12_seek 94 = .ok (.iconst (-1), 1) := dc_2 aX12_seek_94
theorem dX12_seek_95 : decode cX12_seek 95 = .ok (.iastore, 1) := dc_79 aX12_seek_95
theorem dX12_seek_96 : decode cX12_seek 96 = .ok (.aload_n 0, 1) := dc_42 aX12_seek_96
theorem dX12_seek_97 : decode cX12_seek 97 = .ok (.getfield 71, 3) := dc_180 (a0 := 0) (b0 := 71) aX12_seek_97
theorem dX12_seek_100 : decode cX12_seek 100 = .ok (.bipush 6, 2) := dc_16 (a0 := 6) aX12_seek_100 (by decide)
theorem dX12_seek_102 : decode cX12_seek 102 = .ok (.iconst (-1), 1) := dc_2 aX12_seek_102
theorem dX12_seek_103 : decode cX12_seek 103 = .ok (.iastore, 1) := dc_79 aX12_seek_103
theorem dX12_seek_104 : decode cX12_seek 104 = .ok (.return_, 1) := dc_177 aX12_seek_104
set_option maxRecDepth 20000 in
theorem ggX12_on_X12_right : GoodIn wsX12_on wsX12_right := goodIn_k _ [[10], [1, 50, 0, 0, 0, 0, 0, 0, 0, 0, 0, 0, 0, 0, 0, 0, 0, 0, 0, 0, 0, 0, 0, 0, 0, 0, 0, 0, 0, 0, 0, 0, 0, 0, 0, 0, 0, 0, 0, 0, 0, 0, 0, 0, 0, 0, 0, 0, 0, 0, 0, 0, 0, 0, 0, 0, 0, 0, 0]] (by rfl) (by decide +kernel)
set_option maxRecDepth 20000 in
theorem gX12_on_X12_right : GoodIn wsX12_on (wsV RX12 209 RX12 yX12_right wsX12_right) := goodIn_app (goodIn_of _ (by decide +kernel)) ggX12_on_X12_right
set_option maxRecDepth 20000 in
theorem ggX12_on_X12_within : GoodIn wsX12_on wsX12_within := goodIn_k _ [[13]] (by rfl) (by decide +kernel)
set_option maxRecDepth 20000 in
theorem gX12_on_X12_within : GoodIn wsX12_on (va_wsS RX12 270 yX12_within wsX12_within) := goodIn_app (goodIn_of _ (by decide +kernel)) ggX12_on_X12_within
set_option maxRecDepth 20000 in
theorem ggX12_on_X12_costOn : GoodIn wsX12_on wsX12_costOn := goodIn_k _ [[17, 0, 0, 0], [9, 11, 0, 0, 0, 0, 0, 0, 0, 0, 0, 0, 0, 0, 0, 0, 0, 0, 0, 0, 0, 0, 0, 0, 0, 0, 0, 0, 0, 0, 0, 0, 0, 0, 0, 0, 0, 0, 0, 0, 0, 0, 0, 0, 0, 0, 0, 0, 0, 0, 0, 0, 0, 0, 0, 0, 0, 0, 0, 0, 0, 0, 0, 0, 0, 0, 0, 0, 0, 0, 0, 0, 0, 0, 0, 0, 0, 0, 0, 0, 0, 0, 0, 0, 0, 0, 0, 0, 0, 0]] (by rfl) (by decide +kernel)
set_option maxRecDepth 20000 in
theorem gX12_on_X12_costOn : GoodIn wsX12_on (wsV RX12 286 RX12 yX12_costOn wsX12_costOn) := goodIn_app (goodIn_of _ (by decide +kernel)) ggX12_on_X12_costOn
noncomputable def sX12_on_190 : List Nat := 172 :: []
noncomputable def sX12_on_189 : List Nat := 28 :: sX12_on_190
noncomputable def sX12_on_186 : List Nat := 167 :: 255 :: 107 :: sX12_on_189
noncomputable def sX12_on_183 : List Nat := 132 :: 2 :: 1 :: sX12_on_186
noncomputable def sX12_on_182 : List Nat := 79 :: sX12_on_183
noncomputable def sX12_on_181 : List Nat := 96 :: sX12_on_182
noncomputable def sX12_on_180 : List Nat := 4 :: sX12_on_181
noncomputable def sX12_on_179 : List Nat := 46 :: sX12_on_180
noncomputable def sX12_on_178 : List Nat := 92 :: sX12_on_179
noncomputable def sX12_on_177 : List Nat := 5 :: sX12_on_178
noncomputable def sX12_on_174 : List Nat := 180 :: 0 :: 71 :: sX12_on_177
noncomputable def sX12_on_173 : List Nat := 42 :: sX12_on_174
noncomputable def sX12_on_172 : List Nat := 79 :: sX12_on_173
noncomputable def sX12_on_171 : List Nat := 29 :: sX12_on_172
noncomputable def sX12_on_169 : List Nat := 16 :: 6 :: sX12_on_171
noncomputable def sX12_on_166 : List Nat := 180 :: 0 :: 71 :: sX12_on_169
noncomputable def sX12_on_165 : List Nat := 42 :: sX12_on_166
noncomputable def sX12_on_164 : List Nat := 79 :: sX12_on_165
noncomputable def sX12_on_163 : List Nat := 96 :: sX12_on_164
noncomputable def sX12_on_162 : List Nat := 4 :: sX12_on_163
noncomputable def sX12_on_161 : List Nat := 46 :: sX12_on_162
noncomputable def sX12_on_160 : List Nat := 92 :: sX12_on_161
noncomputable def sX12_on_159 : List Nat := 7 :: sX12_on_160
noncomputable def sX12_on_156 : List Nat := 180 :: 0 :: 71 :: sX12_on_159
noncomputable def sX12_on_155 : List Nat := 42 :: sX12_on_156
noncomputable def sX12_on_152 : List Nat := 160 :: 0 :: 21 :: sX12_on_155
noncomputable def sX12_on_151 : List Nat := 46 :: sX12_on_152
noncomputable def sX12_on_150 : List Nat := 6 :: sX12_on_151
noncomputable def sX12_on_147 : List Nat := 180 :: 0 :: 71 :: sX12_on_150
noncomputable def sX12_on_146 : List Nat := 42 :: sX12_on_147
noncomputable def sX12_on_144 : List Nat := 21 :: 4 :: sX12_on_146
noncomputable def sX12_on_143 : List Nat := 79 :: sX12_on_144
noncomputable def sX12_on_142 : List Nat := 29 :: sX12_on_143
noncomputable def sX12_on_141 : List Nat := 8 :: sX12_on_142
noncomputable def sX12_on_138 : List Nat := 180 :: 0 :: 71 :: sX12_on_141
noncomputable def sX12_on_137 : List Nat := 42 :: sX12_on_138
noncomputable def sX12_on_136 : List Nat := 79 :: sX12_on_137
noncomputable def sX12_on_135 : List Nat := 3 :: sX12_on_136
noncomputable def sX12_on_134 : List Nat := 7 :: sX12_on_135
noncomputable def sX12_on_131 : List Nat := 180 :: 0 :: 71 :: sX12_on_134
noncomputable def sX12_on_130 : List Nat := 42 :: sX12_on_131
noncomputable def sX12_on_129 : List Nat := 79 :: sX12_on_130
noncomputable def sX12_on_127 : List Nat := 21 :: 4 :: sX12_on_129
noncomputable def sX12_on_126 : List Nat := 6 :: sX12_on_127
noncomputable def sX12_on_123 : List Nat := 180 :: 0 :: 71 :: sX12_on_126
noncomputable def sX12_on_122 : List Nat := 42 :: sX12_on_123
noncomputable def sX12_on_119 : List Nat := 162 :: 0 :: 25 :: sX12_on_122
noncomputable def sX12_on_118 : List Nat := 46 :: sX12_on_119
noncomputable def sX12_on_117 : List Nat := 6 :: sX12_on_118
noncomputable def sX12_on_114 : List Nat := 180 :: 0 :: 71 :: sX12_on_117
noncomputable def sX12_on_113 : List Nat := 42 :: sX12_on_114
noncomputable def sX12_on_111 : List Nat := 21 :: 4 :: sX12_on_113
noncomputable def sX12_on_108 : List Nat := 159 :: 0 :: 14 :: sX12_on_111
noncomputable def sX12_on_107 : List Nat := 2 :: sX12_on_108
noncomputable def sX12_on_106 : List Nat := 46 :: sX12_on_107
noncomputable def sX12_on_105 : List Nat := 6 :: sX12_on_106
noncomputable def sX12_on_102 : List Nat := 180 :: 0 :: 71 :: sX12_on_105
noncomputable def sX12_on_101 : List Nat := 42 :: sX12_on_102
noncomputable def sX12_on_99 : List Nat := 54 :: 4 :: sX12_on_101
noncomputable def sX12_on_96 : List Nat := 182 :: 1 :: 30 :: sX12_on_99
noncomputable def sX12_on_95 : List Nat := 46 :: sX12_on_96
noncomputable def sX12_on_94 : List Nat := 6 :: sX12_on_95
noncomputable def sX12_on_91 : List Nat := 180 :: 0 :: 71 :: sX12_on_94
noncomputable def sX12_on_90 : List Nat := 42 :: sX12_on_91
noncomputable def sX12_on_87 : List Nat := 167 :: 0 :: 9 :: sX12_on_90
noncomputable def sX12_on_84 : List Nat := 17 :: 3 :: 231 :: sX12_on_87
noncomputable def sX12_on_81 : List Nat := 160 :: 0 :: 9 :: sX12_on_84
noncomputable def sX12_on_80 : List Nat := 2 :: sX12_on_81
noncomputable def sX12_on_79 : List Nat := 46 :: sX12_on_80
noncomputable def sX12_on_78 : List Nat := 6 :: sX12_on_79
noncomputable def sX12_on_75 : List Nat := 180 :: 0 :: 71 :: sX12_on_78
noncomputable def sX12_on_74 : List Nat := 42 :: sX12_on_75
noncomputable def sX12_on_73 : List Nat := 29 :: sX12_on_74
noncomputable def sX12_on_72 : List Nat := 46 :: sX12_on_73
noncomputable def sX12_on_71 : List Nat := 4 :: sX12_on_72
noncomputable def sX12_on_68 : List Nat := 180 :: 0 :: 71 :: sX12_on_71
noncomputable def sX12_on_67 : List Nat := 42 :: sX12_on_68
noncomputable def sX12_on_66 : List Nat := 46 :: sX12_on_67
noncomputable def sX12_on_65 : List Nat := 3 :: sX12_on_66
noncomputable def sX12_on_62 : List Nat := 180 :: 0 :: 71 :: sX12_on_65
noncomputable def sX12_on_61 : List Nat := 42 :: sX12_on_62
noncomputable def sX12_on_60 : List Nat := 42 :: sX12_on_61
noncomputable def sX12_on_59 : List Nat := 62 :: sX12_on_60
noncomputable def sX12_on_58 : List Nat := 46 :: sX12_on_59
noncomputable def sX12_on_57 : List Nat := 5 :: sX12_on_58
noncomputable def sX12_on_54 : List Nat := 180 :: 0 :: 71 :: sX12_on_57
noncomputable def sX12_on_53 : List Nat := 42 :: sX12_on_54
noncomputable def sX12_on_50 : List Nat := 163 :: 0 :: 139 :: sX12_on_53
noncomputable def sX12_on_48 : List Nat := 18 :: 218 :: sX12_on_50
noncomputable def sX12_on_47 : List Nat := 46 :: sX12_on_48
noncomputable def sX12_on_46 : List Nat := 5 :: sX12_on_47
noncomputable def sX12_on_43 : List Nat := 180 :: 0 :: 71 :: sX12_on_46
noncomputable def sX12_on_42 : List Nat := 42 :: sX12_on_43
noncomputable def sX12_on_39 : List Nat := 162 :: 0 :: 150 :: sX12_on_42
noncomputable def sX12_on_38 : List Nat := 27 :: sX12_on_39
noncomputable def sX12_on_37 : List Nat := 28 :: sX12_on_38
noncomputable def sX12_on_36 : List Nat := 61 :: sX12_on_37
noncomputable def sX12_on_35 : List Nat := 3 :: sX12_on_36
noncomputable def sX12_on_34 : List Nat := 172 :: sX12_on_35
noncomputable def sX12_on_33 : List Nat := 3 :: sX12_on_34
noncomputable def sX12_on_30 : List Nat := 154 :: 0 :: 5 :: sX12_on_33
noncomputable def sX12_on_27 : List Nat := 182 :: 0 :: 209 :: sX12_on_30
noncomputable def sX12_on_26 : List Nat := 5 :: sX12_on_27
noncomputable def sX12_on_23 : List Nat := 184 :: 1 :: 14 :: sX12_on_26
noncomputable def sX12_on_20 : List Nat := 19 :: 1 :: 34 :: sX12_on_23
noncomputable def sX12_on_19 : List Nat := 3 :: sX12_on_20
noncomputable def sX12_on_18 : List Nat := 27 :: sX12_on_19
noncomputable def sX12_on_17 : List Nat := 42 :: sX12_on_18
noncomputable def sX12_on_14 : List Nat := 153 :: 0 :: 19 :: sX12_on_17
noncomputable def sX12_on_11 : List Nat := 182 :: 0 :: 209 :: sX12_on_14
noncomputable def sX12_on_10 : List Nat := 4 :: sX12_on_11
noncomputable def sX12_on_7 : List Nat := 180 :: 1 :: 41 :: sX12_on_10
noncomputable def sX12_on_6 : List Nat := 42 :: sX12_on_7
noncomputable def sX12_on_5 : List Nat := 42 :: sX12_on_6
noncomputable def sX12_on_2 : List Nat := 181 :: 0 :: 129 :: sX12_on_5
noncomputable def sX12_on_1 : List Nat := 3 :: sX12_on_2
noncomputable def sX12_on_0 : List Nat := 42 :: sX12_on_1
theorem aX12_on_0 : dc_at cX12_on 0 sX12_on_0 := dc_base (by decide +kernel)
theorem aX12_on_1 : dc_at cX12_on 1 sX12_on_1 := dc_n1 aX12_on_0
theorem aX12_on_2 : dc_at cX12_on 2 sX12_on_2 := dc_n1 aX12_on_1
theorem aX12_on_5 : dc_at cX12_on 5 sX12_on_5 := dc_n3 aX12_on_2
theorem aX12_on_6 : dc_at cX12_on 6 sX12_on_6 := dc_n1 aX12_on_5
theorem aX12_on_7 : dc_at cX12_on 7 sX12_on_7 := dc_n1 aX12_on_6
theorem aX12_on_10 : dc_at cX12_on 10 sX12_on_10 := dc_n3 aX12_on_7
theorem aX12_on_11 : dc_at cX12_on 11 sX12_on_11 := dc_n1 aX12_on_10
theorem aX12_on_14 : dc_at cX12_on 14 sX12_on_14 := dc_n3 aX12_on_11
theorem aX12_on_17 : dc_at cX12_on 17 sX12_on_17 := dc_n3 aX12_on_14
theorem aX12_on_18 : dc_at cX12_on 18 sX12_on_18 := dc_n1 aX12_on_17
theorem aX12_on_19 : dc_at cX12_on 19 sX12_on_19 := dc_n1 aX12_on_18
theorem aX12_on_20 : dc_at cX12_on 20 sX12_on_20 := dc_n1 aX12_on_19
theorem aX12_on_23 : dc_at cX12_on 23 sX12_on_23 := dc_n3 aX12_on_20
theorem aX12_on_26 : dc_at cX12_on 26 sX12_on_26 := dc_n3 aX12_on_23
theorem aX12_on_27 : dc_at cX12_on 27 sX12_on_27 := dc_n1 aX12_on_26
theorem aX12_on_30 : dc_at cX12_on 30 sX12_on_30 := dc_n3 aX12_on_27
theorem aX12_on_33 : dc_at cX12_on 33 sX12_on_33 := dc_n3 aX12_on_30
theorem aX12_on_34 : dc_at cX12_on 34 sX12_on_34 := dc_n1 aX12_on_33
theorem aX12_on_35 : dc_at cX12_on 35 sX12_on_35 := dc_n1 aX12_on_34
theorem aX12_on_36 : dc_at cX12_on 36 sX12_on_36 := dc_n1 aX12_on_35
theorem aX12_on_37 : dc_at cX12_on 37 sX12_on_37 := dc_n1 aX12_on_36
theorem aX12_on_38 : dc_at cX12_on 38 sX12_on_38 := dc_n1 aX12_on_37
theorem aX12_on_39 : dc_at cX12_on 39 sX12_on_39 := dc_n1 aX12_on_38
theorem aX12_on_42 : dc_at cX12_on 42 sX12_on_42 := dc_n3 aX12_on_39
theorem aX12_on_43 : dc_at cX12_on 43 sX12_on_43 := dc_n1 aX12_on_42
theorem aX12_on_46 : dc_at cX12_on 46 sX12_on_46 := dc_n3 aX12_on_43
theorem aX12_on_47 : dc_at cX12_on 47 sX12_on_47 := dc_n1 aX12_on_46
theorem aX12_on_48 : dc_at cX12_on 48 sX12_on_48 := dc_n1 aX12_on_47
theorem aX12_on_50 : dc_at cX12_on 50 sX12_on_50 := dc_n2 aX12_on_48
theorem aX12_on_53 : dc_at cX12_on 53 sX12_on_53 := dc_n3 aX12_on_50
theorem aX12_on_54 : dc_at cX12_on 54 sX12_on_54 := dc_n1 aX12_on_53
theorem aX12_on_57 : dc_at cX12_on 57 sX12_on_57 := dc_n3 aX12_on_54
theorem aX12_on_58 : dc_at cX12_on 58 sX12_on_58 := dc_n1 aX12_on_57
theorem aX12_on_59 : dc_at cX12_on 59 sX12_on_59 := dc_n1 aX12_on_58
theorem aX12_on_60 : dc_at cX12_on 60 sX12_on_60 := dc_n1 aX12_on_59
theorem aX12_on_61 : dc_at cX12_on 61 sX12_on_61 := dc_n1 aX12_on_60
theorem aX12_on_62 : dc_at cX12_on 62 sX12_on_62 := dc_n1 aX12_on_61
theorem aX12_on_65 : dc_at cX12_on 65 sX12_on_65 := dc_n3 aX12_on_62
theorem aX12_on_66 : dc_at cX12_on 66 sX12_on_66 := dc_n1 aX12_on_65
theorem aX12_on_67 : dc_at cX12_on 67 sX12_on_67 := dc_n1 aX12_on_66
theorem aX12_on_68 : dc_at cX12_on 68 sX12_on_68 := dc_n1 aX12_on_67
theorem aX12_on_71 : dc_at cX12_on 71 sX12_on_71 := dc_n3 aX12_on_68
theorem aX12_on_72 : dc_at cX12_on 72 sX12_on_72 := dc_n1 aX12_on_71
theorem aX12_on_73 : dc_at cX12_on 73 sX12_on_73 := dc_n1 aX12_on_72
theorem aX12_on_74 : dc_at cX12_on 74 sX12_on_74 := dc_n1 aX12_on_73
theorem aX12_on_75 : dc_at cX12_on 75 sX12_on_75 := dc_n1 aX12_on_74
theorem aX12_on_78 : dc_at cX12_on 78 sX12_on_78 := dc_n3 aX12_on_75
theorem aX12_on_79 : dc_at cX12_on 79 sX12_on_79 := dc_n1 aX12_on_78
theorem aX12_on_80 : dc_at cX12_on 80 sX12_on_80 := dc_n1 aX12_on_79
theorem aX12_on_81 : dc_at cX12_on 81 sX12_on_81 := dc_n1 aX12_on_80
theorem aX12_on_84 : dc_at cX12_on 84 sX12_on_84 := dc_n3 aX12_on_81
theorem aX12_on_87 : dc_at cX12_on 87 sX12_on_87 := dc_n3 aX12_on_84
theorem aX12_on_90 : dc_at cX12_on 90 sX12_on_90 := dc_n3 aX12_on_87
theorem aX12_on_91 : dc_at cX12_on 91 sX12_on_91 := dc_n1 aX12_on_90
theorem aX12_on_94 : dc_at cX12_on 94 sX12_on_94 := dc_n3 aX12_on_91
theorem aX12_on_95 : dc_at cX12_on 95 sX12_on_95 := dc_n1 aX12_on_94
theorem aX12_on_96 : dc_at cX12_on 96 sX12_on_96 := dc_n1 aX12_on_95
theorem aX12_on_99 : dc_at cX12_on 99 sX12_on_99 := dc_n3 aX12_on_96
theorem aX12_on_101 : dc_at cX12_on 101 sX12_on_101 := dc_n2 aX12_on_99
theorem aX12_on_102 : dc_at cX12_on 102 sX12_on_102 := dc_n1 aX12_on_101
theorem aX12_on_105 : dc_at cX12_on 105 sX12_on_105 := dc_n3 aX12_on_102
theorem aX12_on_106 : dc_at cX12_on 106 sX12_on_106 := dc_n1 aX12_on_105
theorem aX12_on_107 : dc_at cX12_on 107 sX12_on_107 := dc_n1 aX12_on_106
theorem aX12_on_108 : dc_at cX12_on 108 sX12_on_108 := dc_n1 aX12_on_107
theorem aX12_on_111 : dc_at cX12_on 111 sX12_on_111 := dc_n3 aX12_on_108
theorem aX12_on_113 : dc_at cX12_on 113 sX12_on_113 := dc_n2 aX12_on_111
theorem aX12_on_114 : dc_at cX12_on 114 sX12_on_114 := dc_n1 aX12_on_113
theorem aX12_on_117 : dc_at cX12_on 117 sX12_on_117 := dc_n3 aX12_on_114
theorem aX12_on_118 : dc_at cX12_on 118 sX12_on_118 := dc_n1 aX12_on_117
theorem aX12_on_119 : dc_at cX12_on 119 sX12_on_119 := dc_n1 aX12_on_118
theorem aX12_on_122 : dc_at cX12_on 122 sX12_on_122 := dc_n3 aX12_on_119
theorem aX12_on_123 : dc_at cX12_on 123 sX12_on_123 := dc_n1 aX12_on_122
theorem aX12_on_126 : dc_at cX12_on 126 sX12_on_126 := dc_n3 aX12_on_123
theorem aX12_on_127 : dc_at cX12_on 127 sX12_on_127 := dc_n1 aX12_on_126
theorem aX12_on_129 : dc_at cX12_on 129 sX12_on_129 := dc_n2 aX12_on_127
theorem aX12_on_130 : dc_at cX12_on 130 sX12_on_130 := dc_n1 aX12_on_129
theorem aX12_on_131 : dc_at cX12_on 131 sX12_on_131 := dc_n1 aX12_on_130
theorem aX12_on_134 : dc_at cX12_on 134 sX12_on_134 := dc_n3 aX12_on_131
theorem aX12_on_135 : dc_at cX12_on 135 sX12_on_135 := dc_n1 aX12_on_134
theorem aX12_on_136 : dc_at cX12_on 136 sX12_on_136 := dc_n1 aX12_on_135
theorem aX12_on_137 : dc_at cX12_on 137 sX12_on_137 := dc_n1 aX12_on_136
theorem aX12_on_138 : dc_at cX12_on 138 sX12_on_138 := dc_n1 aX12_on_137
theorem aX12_on_141 : dc_at cX12_on 141 sX12_on_141 := dc_n3 aX12_on_138
theorem aX12_on_142 : dc_at cX12_on 142 sX12_on_142 := dc_n1 aX12_on_141
theorem aX12_on_143 : dc_at cX12_on 143 sX12_on_143 := dc_n1 aX12_on_142
theorem aX12_on_144 : dc_at cX12_on 144 sX12_on_144 := dc_n1 aX12_on_143
theorem aX12_on_146 : dc_at cX12_on 146 sX12_on_146 := dc_n2 aX12_on_144
theorem aX12_on_147 : dc_at cX12_on 147 sX12_on_147 := dc_n1 aX12_on_146
theorem aX12_on_150 : dc_at cX12_on 150 sX12_on_150 := dc_n3 aX12_on_147
theorem aX12_on_151 : dc_at cX12_on 151 sX12_on_151 := dc_n1 aX12_on_150
theorem aX12_on_152 : dc_at cX12_on 152 sX12_on_152 := dc_n1 aX12_on_151
theorem aX12_on_155 : dc_at cX12_on 155 sX12_on_155 := dc_n3 aX12_on_152
theorem aX12_on_156 : dc_at cX12_on 156 sX12_on_156 := dc_n1 aX12_on_155
theorem aX12_on_159 : dc_at cX12_on 159 sX12_on_159 := dc_n3 aX12_on_156
theorem aX12_on_160 : dc_at cX12_on 160 sX12_on_160 := dc_n1 aX12_on_159
theorem aX12_on_161 : dc_at cX12_on 161 sX12_on_161 := dc_n1 aX12_on_160
theorem aX12_on_162 : dc_at cX12_on 162 sX12_on_162 := dc_n1 aX12_on_161
theorem aX12_on_163 : dc_at cX12_on 163 sX12_on_163 := dc_n1 aX12_on_162
theorem aX12_on_164 : dc_at cX12_on 164 sX12_on_164 := dc_n1 aX12_on_163
theorem aX12_on_165 : dc_at cX12_on 165 sX12_on_165 := dc_n1 aX12_on_164
theorem aX12_on_166 : dc_at cX12_on 166 sX12_on_166 := dc_n1 aX12_on_165
theorem aX12_on_169 : dc_at cX12_on 169 sX12_on_169 := dc_n3 aX12_on_166
theorem aX12_on_171 : dc_at cX12_on 171 sX12_on_171 := dc_n2 aX12_on_169
theorem aX12_on_172 : dc_at cX12_on 172 sX12_on_172 := dc_n1 aX12_on_171
theorem aX12_on_173 : dc_at cX12_on 173 sX12_on_173 := dc_n1 aX12_on_172
theorem aX12_on_174 : dc_at cX12_on 174 sX12_on_174 := dc_n1 aX12_on_173
theorem aX12_on_177 : dc_at cX12_on 177 sX12_on_177 := dc_n3 aX12_on_174
theorem aX12_on_178 : dc_at cX12_on 178 sX12_on_178 := dc_n1 aX12_on_177
theorem aX12_on_179 : dc_at cX12_on 179 sX12_on_179 := dc_n1 aX12_on_178
theorem aX12_on_180 : dc_at cX12_on 180 sX12_on_180 := dc_n1 aX12_on_179
theorem aX12_on_181 : dc_at cX12_on 181 sX12_on_181 := dc_n1 aX12_on_180
theorem aX12_on_182 : dc_at cX12_on 182 sX12_on_182 := dc_n1 aX12_on_181
theorem aX12_on_183 : dc_at cX12_on 183 sX12_on_183 := dc_n1 aX12_on_182
theorem aX12_on_186 : dc_at cX12_on 186 sX12_on_186 := dc_n3 aX12_on_183
theorem aX12_on_189 : dc_at cX12_on 189 sX12_on_189 := dc_n3 aX12_on_186
theorem aX12_on_190 : dc_at cX12_on 190 sX12_on_190 := dc_n1 aX12_on_189
theorem dX12_on_0 : decode cX12_on 0 = .ok (.aload_n 0, 1) := dc_42 aX12_on_0
theorem dX12_on_1 : decode cX12_on 1 = .ok (.iconst 0, 1) := dc_3 aX12_on_1
theorem dX12_on_2 : decode cX12_on 2 = .ok (.putfield 129, 3) := dc_181 (a0 := 0) (b0 := 129) aX12_on_2
theorem dX12_on_5 : decode cX12_on 5 = .ok (.aload_n 0, 1) := dc_42 aX12_on_5
theorem dX12_on_6 : decode cX12_on 6 = .ok (.aload_n 0, 1) := dc_42 aX12_on_6
theorem dX12_on_7 : decode cX12_on 7 = .ok (.getfield 297, 3) := dc_180 (a0 := 1) (b0 := 41) aX12_on_7
theorem dX12_on_10 : decode cX12_on 10 = .ok (.iconst 1, 1) := dc_4 aX12_on_10
theorem dX12_on_11 : decode cX12_on 11 = .ok (.invokevirtual 209, 3) := dc_182 (a0 := 0) (b0 := 209) aX12_on_11
theorem dX12_on_14 : decode cX12_on 14 = .ok (.ifCond .eq 19, 3) := dc_153 (a0 := 0) (b0 := 19) aX12_on_14 (by decide)
theorem dX12_on_17 : decode cX12_on 17 = .ok (.aload_n 0, 1) := dc_42 aX12_on_17
theorem dX12_on_18 : decode cX12_on 18 = .ok (.iload_n 1, 1) := dc_27 aX12_on_18
theorem dX12_on_19 : decode cX12_on 19 = .ok (.iconst 0, 1) := dc_3 aX12_on_19
theorem dX12_on_20 : decode cX12_on 20 = .ok (.ldc_w 290, 3) := dc_19 (a0 := 1) (b0 := 34) aX12_on_20
theorem dX12_on_23 : decode cX12_on 23 = .ok (.invokestatic 270, 3) := dc_184 (a0 := 1) (b0 := 14) aX12_on_23
theorem dX12_on_26 : decode cX12_on 26 = .ok (.iconst 2, 1) := dc_5 aX12_on_26
theorem dX12_on_27 : decode cX12_on 27 = .ok (.invokevirtual 209, 3) := dc_182 (a0 := 0) (b0 := 209) aX12_on_27
theorem dX12_on_30 : decode cX12_on 30 = .ok (.ifCond .ne 5, 3) := dc_154 (a0 := 0) (b0 := 5) aX12_on_30 (by decide)
theorem dX12_on_33 : decode cX12_on 33 = .ok (.iconst 0, 1) := dc_3 aX12_on_33
theorem dX12_on_34 : decode cX12_on 34 = .ok (.ireturn, 1) := dc_172 aX12_on_34
theorem dX12_on_35 : decode cX12_on 35 = .ok (.iconst 0, 1) := dc_3 aX12_on_35
theorem dX12_on_36 : decode cX12_on 36 = .ok (.istore_n 2, 1) := dc_61 aX12_on_36
theorem dX12_on_37 : decode cX12_on 37 = .ok (.iload_n 2, 1) := dc_28 aX12_on_37
theorem dX12_on_38 : decode cX12_on 38 = .ok (.iload_n 1, 1) := dc_27 aX12_on_38
theorem dX12_on_39 : decode cX12_on 39 = .ok (.if_icmp .ge 150, 3) := dc_162 (a0 := 0) (b0 := 150) aX12_on_39 (by decide)
theorem dX12_on_42 : decode cX12_on 42 = .ok (.aload_n 0, 1) := dc_42 aX12_on_42
theorem dX12_on_43 : decode cX12_on 43 = .ok (.getfield 71, 3) := dc_180 (a0 := 0) (b0 := 71) aX12_on_43
theorem dX12_on_46 : decode cX12_on 46 = .ok (.iconst 2, 1) := dc_5 aX12_on_46
theorem dX12_on_47 : decode cX12_on 47 = .ok (.iaload, 1) := dc_46 aX12_on_47
theorem dX12_on_48 : decode cX12_on 48 = .ok (.ldc 218, 2) := dc_18 (a0 := 218) aX12_on_48
theorem dX12_on_50 : decode cX12_on 50 = .ok (.if_icmp .gt 139, 3) := dc_163 (a0 := 0) (b0 := 139) aX12_on_50 (by decide)
theorem dX12_on_53 : decode cX12_on 53 = .ok (.aload_n 0, 1) := dc_42 aX12_on_53
theorem dX12_on_54 : decode cX12_on 54 = .ok (.getfield 71, 3) := dc_180 (a0 := 0) (b0 := 71) aX12_on_54
theorem dX12_on_57 : decode cX12_on 57 = .ok (.iconst 2, 1) := dc_5 aX12_on_57
theorem dX12_on_58 : decode cX12_on 58 = .ok (.iaload, 1) := dc_46 aX12_on_58
theorem dX12_on_59 : decode cX12_on 59 = .ok (.istore_n 3, 1) := dc_62 aX12_on_59
theorem dX12_on_60 : decode cX12_on 60 = .ok (.aload_n 0, 1) := dc_42 aX12_on_60
theorem dX12_on_61 : decode cX12_on 61 = .ok (.aload_n 0, 1) := dc_42 aX12_on_61
theorem dX12_on_62 : decode cX12_on 62 = .ok (.getfield 71, 3) := dc_180 (a0 := 0) (b0 := 71) aX12_on_62
theorem dX12_on_65 : decode cX12_on 65 = .ok (.iconst 0, 1) := dc_3 aX12_on_65
theorem dX12_on_66 : decode cX12_on 66 = .ok (.iaload, 1) := dc_46 aX12_on_66
theorem dX12_on_67 : decode cX12_on 67 = .ok (.aload_n 0, 1) := dc_42 aX12_on_67
theorem dX12_on_68 : decode cX12_on 68 = .ok (.getfield 71, 3) := dc_180 (a0 := 0) (b0 := 71) aX12_on_68
theorem dX12_on_71 : decode cX12_on 71 = .ok (.iconst 1, 1) := dc_4 aX12_on_71
theorem dX12_on_72 : decode cX12_on 72 = .ok (.iaload, 1) := dc_46 aX12_on_72
theorem dX12_on_73 : decode cX12_on 73 = .ok (.iload_n 3, 1) := dc_29 aX12_on_73
theorem dX12_on_74 : decode cX12_on 74 = .ok (.aload_n 0, 1) := dc_42 aX12_on_74
theorem dX12_on_75 : decode cX12_on 75 = .ok (.getfield 71, 3) := dc_180 (a0 := 0) (b0 := 71) aX12_on_75
theorem dX12_on_78 : decode cX12_on 78 = .ok (.iconst 3, 1) := dc_6 aX12_on_78
theorem dX12_on_79 : decode cX12_on 79 = .ok (.iaload, 1) := dc_46 aX12_on_79
theorem dX12_on_80 : decode cX12_on 80 = .ok (.iconst (-1), 1) := dc_2 aX12_on_80
theorem dX12_on_81 : decode cX12_on 81 = .ok (.if_icmp .ne 9, 3) := dc_160 (a0 := 0) (b0 := 9) aX12_on_81 (by decide)
theorem dX12_on_84 : decode cX12_on 84 = .ok (.sipush 999, 3) := dc_17 (a0 := 3) (b0 := 231) aX12_on_84 (by decide)
theorem dX12_on_87 : decode cX12_on 87 = .ok (.goto 9, 3) := dc_167 (a0 := 0) (b0 := 9) aX12_on_87 (by decide)
theorem dX12_on_90 : decode cX12_on 90 = .ok (.aload_n 0, 1) := dc_42 aX12_on_90
theorem dX12_on_91 : decode cX12_on 91 = .ok (.getfield 71, 3) := dc_180 (a0 := 0) (b0 := 71) aX12_on_91
theorem dX12_on_94 : decode cX12_on 94 = .ok (.iconst 3, 1) := dc_6 aX12_on_94
theorem dX12_on_95 : decode cX12_on 95 = .ok (.iaload, 1) := dc_46 aX12_on_95
theorem dX12_on_96 : decode cX12_on 96 = .ok (.invokevirtual 286, 3) := dc_182 (a0 := 1) (b0 := 30) aX12_on_96
theorem dX12_on_99 : decode cX12_on 99 = .ok (.istore 4, 2) := dc_54 (a0 := 4) aX12_on_99
theorem dX12_on_101 : decode cX12_on 101 = .ok (.aload_n 0, 1) := dc_42 aX12_on_101
theorem dX12_on_102 : decode cX12_on 102 = .ok (.getfield 71, 3) := dc_180 (a0 := 0) (b0 := 71) aX12_on_102
theorem dX12_on_105 : decode cX12_on 105 = .ok (.iconst 3, 1) := dc_6 aX12_on_105
theorem dX12_on_106 : decode cX12_on 106 = .ok (.iaload, 1) := dc_46 aX12_on_106
theorem dX12_on_107 : decode cX12_on 107 = .ok (.iconst (-1), 1) := dc_2 aX12_on_107
theorem dX12_on_108 : decode cX12_on 108 = .ok (.if_icmp .eq 14, 3) := dc_159 (a0 := 0) (b0 := 14) aX12_on_108 (by decide)
theorem dX12_on_111 : decode cX12_on 111 = .ok (.iload 4, 2) := dc_21 (a0 := 4) aX12_on_111
theorem dX12_on_113 : decode cX12_on 113 = .ok (.aload_n 0, 1) := dc_42 aX12_on_113
theorem dX12_on_114 : decode cX12_on 114 = .ok (.getfield 71, 3) := dc_180 (a0 := 0) (b0 := 71) aX12_on_114
theorem dX12_on_117 : decode cX12_on 117 = .ok (.iconst 3, 1) := dc_6 aX12_on_117
theorem dX12_on_118 : decode cX12_on 118 = .ok (.iaload, 1) := dc_46 aX12_on_118
theorem dX12_on_119 : decode cX12_on 119 = .ok (.if_icmp .ge 25, 3) := dc_162 (a0 := 0) (b0 := 25) aX12_on_119 (by decide)
theorem dX12_on_122 : decode cX12_on 122 = .ok (.aload_n 0, 1) := dc_42 aX12_on_122
theorem dX12_on_123 : decode cX12_on 123 = .ok (.getfield 71, 3) := dc_180 (a0 := 0) (b0 := 71) aX12_on_123
theorem dX12_on_126 : decode cX12_on 126 = .ok (.iconst 3, 1) := dc_6 aX12_on_126
theorem dX12_on_127 : decode cX12_on 127 = .ok (.iload 4, 2) := dc_21 (a0 := 4) aX12_on_127
theorem dX12_on_129 : decode cX12_on 129 = .ok (.iastore, 1) := dc_79 aX12_on_129
theorem dX12_on_130 : decode cX12_on 130 = .ok (.aload_n 0, 1) := dc_42 aX12_on_130
theorem dX12_on_131 : decode cX12_on 131 = .ok (.getfield 71, 3) := dc_180 (a0 := 0) (b0 := 71) aX12_on_131
theorem dX12_on_134 : decode cX12_on 134 = .ok (.iconst 4, 1) := dc_7 aX12_on_134
theorem dX12_on_135 : decode cX12_on 135 = .ok (.iconst 0, 1) := dc_3 aX12_on_135
theorem dX12_on_136 : decode cX12_on 136 = .ok (.iastore, 1) := dc_79 aX12_on_136
theorem dX12_on_137 : decode cX12_on 137 = .ok (.aload_n 0, 1) := dc_42 aX12_on_137
theorem dX12_on_138 : decode cX12_on 138 = .ok (.getfield 71, 3) := dc_180 (a0 := 0) (b0 := 71) aX12_on_138
theorem dX12_on_141 : decode cX12_on 141 = .ok (.iconst 5, 1) := dc_8 aX12_on_141
theorem dX12_on_142 : decode cX12_on 142 = .ok (.iload_n 3, 1) := dc_29 aX12_on_142
theorem dX12_on_143 : decode cX12_on 143 = .ok (.iastore, 1) := dc_79 aX12_on_143
theorem dX12_on_144 : decode cX12_on 144 = .ok (.iload 4, 2) := dc_21 (a0 := 4) aX12_on_144
theorem dX12_on_146 : decode cX12_on 146 = .ok (.aload_n 0, 1) := dc_42 aX12_on_146
theorem dX12_on_147 : decode cX12_on 147 = .ok (.getfield 71, 3) := dc_180 (a0 := 0) (b0 := 71) aX12_on_147
theorem dX12_on_150 : decode cX12_on 150 = .ok (.iconst 3, 1) := dc_6 aX12_on_150
theorem dX12_on_151 : decode cX12_on 151 = .ok (.iaload, 1) := dc_46 aX12_on_151
theorem dX12_on_152 : decode cX12_on 152 = .ok (.if_icmp .ne 21, 3) := dc_160 (a0 := 0) (b0 := 21) aX12_on_152 (by decide)
theorem dX12_on_155 : decode cX12_on 155 = .ok (.aload_n 0, 1) := dc_42 aX12_on_155
theorem dX12_on_156 : decode cX12_on 156 = .ok (.getfield 71, 3) := dc_180 (a0 := 0) (b0 := 71) aX12_on_156
theorem dX12_on_159 : decode cX12_on 159 = .ok (.iconst 4, 1) := dc_7 aX12_on_159
theorem dX12_on_160 : decode cX12_on 160 = .ok (.dup2, 1) := dc_92 aX12_on_160
theorem dX12_on_161 : decode cX12_on 161 = .ok (.iaload, 1) := dc_46 aX12_on_161
theorem dX12_on_162 : decode cX12_on 162 = .ok (.iconst 1, 1) := dc_4 aX12_on_162
theorem dX12_on_163 : decode cX12_on 163 = .ok (.iadd, 1) := dc_96 aX12_on_163
theorem dX12_on_164 : decode cX12_on 164 = .ok (.iastore, 1) := dc_79 aX12_on_164
theorem dX12_on_165 : decode cX12_on 165 = .ok (.aload_n 0, 1) := dc_42 aX12_on_165
theorem dX12_on_166 : decode cX12_on 166 = .ok (.getfield 71, 3) := dc_180 (a0 := 0) (b0 := 71) aX12_on_166
theorem dX12_on_169 : decode cX12_on 169 = .ok (.bipush 6, 2) := dc_16 (a0 := 6) aX12_on_169 (by decide)
theorem dX12_on_171 : decode cX12_on 171 = .ok (.iload_n 3, 1) := dc_29 aX12_on_171
theorem dX12_on_172 : decode cX12_on 172 = .ok (.iastore, 1) := dc_79 aX12_on_172
theorem dX12_on_173 : decode cX12_on 173 = .ok (.aload_n 0, 1) := dc_42 aX12_on_173
theorem dX12_on_174 : decode cX12_on 174 = .ok (.getfield 71, 3) := dc_180 (a0 := 0) (b0 := 71) aX12_on_174
theorem dX12_on_177 : decode cX12_on 177 = .ok (.iconst 2, 1) := dc_5 aX12_on_177
theorem dX12_on_178 : decode cX12_on 178 = .ok (.dup2, 1) := dc_92 aX12_on_178
theorem dX12_on_179 : decode cX12_on 179 = .ok (.iaload, 1) := dc_46 aX12_on_179
theorem dX12_on_180 : decode cX12_on 180 = .ok (.iconst 1, 1) := dc_4 aX12_on_180
theorem dX12_on_181 : decode cX12_on 181 = .ok (.iadd, 1) := dc_96 aX12_on_181
theorem dX12_on_182 : decode cX12_on 182 = .ok (.iastore, 1) := dc_79 aX12_on_182
theorem dX12_on_183 : decode cX12_on 183 = .ok (.iinc 2 1, 3) := dc_132 (a0 := 2) (a1 := 1) aX12_on_183 (by decide)
theorem dX12_on_186 : decode cX12_on 186 = .ok (.goto (-149), 3) := dc_167 (a0 := 255) (b0 := 107) aX12_on_186 (by decide)
theorem dX12_on_189 : decode cX12_on 189 = .ok (.iload_n 2, 1) := dc_28 aX12_on_189
theorem dX12_on_190 : decode cX12_on 190 = .ok (.ireturn, 1) := dc_172 aX12_on_190
set_option maxRecDepth 20000 in
theorem ggX12_held_X12_within : GoodIn wsX12_held wsX12_within := goodIn_k _ [[7]] (by rfl) (by decide +kernel)
set_option maxRecDepth 20000 in
theorem gX12_held_X12_within : GoodIn wsX12_held (va_wsS RX12 270 yX12_within wsX12_within) := goodIn_app (goodIn_of _ (by decide +kernel)) ggX12_held_X12_within
set_option maxRecDepth 20000 in
theorem ggX12_held_X12_right : GoodIn wsX12_held wsX12_right := goodIn_k _ [[11], [1, 10, 0, 0, 0, 0, 0, 0, 0, 0, 0, 0, 0, 0, 0, 0, 0, 0, 0, 0, 0, 0, 0, 0, 0, 0, 0, 0, 0, 0, 0, 0, 0, 0, 0, 0, 0, 0, 0, 0, 0, 0, 0, 0, 0, 0, 0, 0, 0, 0, 0, 0, 0, 0, 0, 0, 0, 0, 0]] (by rfl) (by decide +kernel)
set_option maxRecDepth 20000 in
theorem gX12_held_X12_right : GoodIn wsX12_held (wsV RX12 209 RX12 yX12_right wsX12_right) := goodIn_app (goodIn_of _ (by decide +kernel)) ggX12_held_X12_right
noncomputable def sX12_held_46 : List Nat := 172 :: []
noncomputable def sX12_held_45 : List Nat := 3 :: sX12_held_46
noncomputable def sX12_held_42 : List Nat := 167 :: 0 :: 4 :: sX12_held_45
noncomputable def sX12_held_41 : List Nat := 46 :: sX12_held_42
noncomputable def sX12_held_40 : List Nat := 96 :: sX12_held_41
noncomputable def sX12_held_39 : List Nat := 27 :: sX12_held_40
noncomputable def sX12_held_38 : List Nat := 5 :: sX12_held_39
noncomputable def sX12_held_35 : List Nat := 180 :: 0 :: 71 :: sX12_held_38
noncomputable def sX12_held_34 : List Nat := 42 :: sX12_held_35
noncomputable def sX12_held_31 : List Nat := 153 :: 0 :: 14 :: sX12_held_34
noncomputable def sX12_held_28 : List Nat := 182 :: 0 :: 209 :: sX12_held_31
noncomputable def sX12_held_27 : List Nat := 4 :: sX12_held_28
noncomputable def sX12_held_26 : List Nat := 3 :: sX12_held_27
noncomputable def sX12_held_23 : List Nat := 167 :: 0 :: 4 :: sX12_held_26
noncomputable def sX12_held_22 : List Nat := 4 :: sX12_held_23
noncomputable def sX12_held_19 : List Nat := 153 :: 0 :: 7 :: sX12_held_22
noncomputable def sX12_held_16 : List Nat := 184 :: 1 :: 14 :: sX12_held_19
noncomputable def sX12_held_15 : List Nat := 7 :: sX12_held_16
noncomputable def sX12_held_14 : List Nat := 3 :: sX12_held_15
noncomputable def sX12_held_13 : List Nat := 27 :: sX12_held_14
noncomputable def sX12_held_10 : List Nat := 153 :: 0 :: 16 :: sX12_held_13
noncomputable def sX12_held_7 : List Nat := 180 :: 1 :: 41 :: sX12_held_10
noncomputable def sX12_held_6 : List Nat := 42 :: sX12_held_7
noncomputable def sX12_held_5 : List Nat := 42 :: sX12_held_6
noncomputable def sX12_held_2 : List Nat := 181 :: 0 :: 129 :: sX12_held_5
noncomputable def sX12_held_1 : List Nat := 3 :: sX12_held_2
noncomputable def sX12_held_0 : List Nat := 42 :: sX12_held_1
theorem aX12_held_0 : dc_at cX12_held 0 sX12_held_0 := dc_base (by decide +kernel)
theorem aX12_held_1 : dc_at cX12_held 1 sX12_held_1 := dc_n1 aX12_held_0
theorem aX12_held_2 : dc_at cX12_held 2 sX12_held_2 := dc_n1 aX12_held_1
theorem aX12_held_5 : dc_at cX12_held 5 sX12_held_5 := dc_n3 aX12_held_2
theorem aX12_held_6 : dc_at cX12_held 6 sX12_held_6 := dc_n1 aX12_held_5
theorem aX12_held_7 : dc_at cX12_held 7 sX12_held_7 := dc_n1 aX12_held_6
theorem aX12_held_10 : dc_at cX12_held 10 sX12_held_10 := dc_n3 aX12_held_7
theorem aX12_held_13 : dc_at cX12_held 13 sX12_held_13 := dc_n3 aX12_held_10
theorem aX12_held_14 : dc_at cX12_held 14 sX12_held_14 := dc_n1 aX12_held_13
theorem aX12_held_15 : dc_at cX12_held 15 sX12_held_15 := dc_n1 aX12_held_14
theorem aX12_held_16 : dc_at cX12_held 16 sX12_held_16 := dc_n1 aX12_held_15
theorem aX12_held_19 : dc_at cX12_held 19 sX12_held_19 := dc_n3 aX12_held_16
theorem aX12_held_22 : dc_at cX12_held 22 sX12_held_22 := dc_n3 aX12_held_19
theorem aX12_held_23 : dc_at cX12_held 23 sX12_held_23 := dc_n1 aX12_held_22
theorem aX12_held_26 : dc_at cX12_held 26 sX12_held_26 := dc_n3 aX12_held_23
theorem aX12_held_27 : dc_at cX12_held 27 sX12_held_27 := dc_n1 aX12_held_26
theorem aX12_held_28 : dc_at cX12_held 28 sX12_held_28 := dc_n1 aX12_held_27
theorem aX12_held_31 : dc_at cX12_held 31 sX12_held_31 := dc_n3 aX12_held_28
theorem aX12_held_34 : dc_at cX12_held 34 sX12_held_34 := dc_n3 aX12_held_31
theorem aX12_held_35 : dc_at cX12_held 35 sX12_held_35 := dc_n1 aX12_held_34
theorem aX12_held_38 : dc_at cX12_held 38 sX12_held_38 := dc_n3 aX12_held_35
theorem aX12_held_39 : dc_at cX12_held 39 sX12_held_39 := dc_n1 aX12_held_38
theorem aX12_held_40 : dc_at cX12_held 40 sX12_held_40 := dc_n1 aX12_held_39
theorem aX12_held_41 : dc_at cX12_held 41 sX12_held_41 := dc_n1 aX12_held_40
theorem aX12_held_42 : dc_at cX12_held 42 sX12_held_42 := dc_n1 aX12_held_41
theorem aX12_held_45 : dc_at cX12_held 45 sX12_held_45 := dc_n3 aX12_held_42
theorem aX12_held_46 : dc_at cX12_held 46 sX12_held_46 := dc_n1 aX12_held_45
theorem dX12_held_0 : decode cX12_held 0 = .ok (.aload_n 0, 1) := dc_42 aX12_held_0
theorem dX12_held_1 : decode cX12_held 1 = .ok (.iconst 0, 1) := dc_3 aX12_held_1
theorem dX12_held_2 : decode cX12_held 2 = .ok (.putfield 129, 3) := dc_181 (a0 := 0) (b0 := 129) aX12_held_2
theorem dX12_held_5 : decode cX12_held 5 = .ok (.aload_n 0, 1) := dc_42 aX12_held_5
theorem dX12_held_6 : decode cX12_held 6 = .ok (.aload_n 0, 1) := dc_42 aX12_held_6
theorem dX12_held_7 : decode cX12_held 7 = .ok (.getfield 297, 3) := dc_180 (a0 := 1) (b0 := 41) aX12_held_7
theorem dX12_held_10 : decode cX12_held 10 = .ok (.ifCond .eq 16, 3) := dc_153 (a0 := 0) (b0 := 16) aX12_held_10 (by decide)
theorem dX12_held_13 : decode cX12_held 13 = .ok (.iload_n 1, 1) := dc_27 aX12_held_13
theorem dX12_held_14 : decode cX12_held 14 = .ok (.iconst 0, 1) := dc_3 aX12_held_14
theorem dX12_held_15 : decode cX12_held 15 = .ok (.iconst 4, 1) := dc_7 aX12_held_15
theorem dX12_held_16 : decode cX12_held 16 = .ok (.invokestatic 270, 3) := dc_184 (a0 := 1) (b0 := 14) aX12_held_16
theorem dX12_held_19 : decode cX12_held 19 = .ok (.ifCond .eq 7, 3) := dc_153 (a0 := 0) (b0 := 7) aX12_held_19 (by decide)
theorem dX12_held_22 : decode cX12_held 22 = .ok (.iconst 1, 1) := dc_4 aX12_held_22
theorem dX12_held_23 : decode cX12_held 23 = .ok (.goto 4, 3) := dc_167 (a0 := 0) (b0 := 4) aX12_held_23 (by decide)
theorem dX12_held_26 : decode cX12_held 26 = .ok (.iconst 0, 1) := dc_3 aX12_held_26
theorem dX12_held_27 : decode cX12_held 27 = .ok (.iconst 1, 1) := dc_4 aX12_held_27
theorem dX12_held_28 : decode cX12_held 28 = .ok (.invokevirtual 209, 3) := dc_182 (a0 := 0) (b0 := 209) aX12_held_28
theorem dX12_held_31 : decode cX12_held 31 = .ok (.ifCond .eq 14, 3) := dc_153 (a0 := 0) (b0 := 14) aX12_held_31 (by decide)
theorem dX12_held_34 : decode cX12_held 34 = .ok (.aload_n 0, 1) := dc_42 aX12_held_34
theorem dX12_held_35 : decode cX12_held 35 = .ok (.getfield 71, 3) := dc_180 (a0 := 0) (b0 := 71) aX12_held_35
theorem dX12_held_38 : decode cX12_held 38 = .ok (.iconst 2, 1) := dc_5 aX12_held_38
theorem dX12_held_39 : decode cX12_held 39 = .ok (.iload_n 1, 1) := dc_27 aX12_held_39
theorem dX12_held_40 : decode cX12_held 40 = .ok (.iadd, 1) := dc_96 aX12_held_40
theorem dX12_held_41 : decode cX12_held 41 = .ok (.iaload, 1) := dc_46 aX12_held_41
theorem dX12_held_42 : decode cX12_held 42 = .ok (.goto 4, 3) := dc_167 (a0 := 0) (b0 := 4) aX12_held_42 (by decide)
theorem dX12_held_45 : decode cX12_held 45 = .ok (.iconst 0, 1) := dc_3 aX12_held_45
theorem dX12_held_46 : decode cX12_held 46 = .ok (.ireturn, 1) := dc_172 aX12_held_46
set_option maxRecDepth 20000 in
theorem ggX12_image_X12_copies : GoodIn wsX12_image wsX12_copies := goodIn_k _ [[10]] (by rfl) (by decide +kernel)
set_option maxRecDepth 20000 in
theorem gX12_image_X12_copies : GoodIn wsX12_image (wsV RX12 234 RX12 yX12_copies wsX12_copies) := goodIn_app (goodIn_of _ (by decide +kernel)) ggX12_image_X12_copies
noncomputable def sX12_image_32 : List Nat := 172 :: []
noncomputable def sX12_image_31 : List Nat := 4 :: sX12_image_32
noncomputable def sX12_image_28 : List Nat := 182 :: 0 :: 234 :: sX12_image_31
noncomputable def sX12_image_25 : List Nat := 180 :: 0 :: 74 :: sX12_image_28
noncomputable def sX12_image_24 : List Nat := 42 :: sX12_image_25
noncomputable def sX12_image_21 : List Nat := 180 :: 0 :: 71 :: sX12_image_24
noncomputable def sX12_image_20 : List Nat := 42 :: sX12_image_21
noncomputable def sX12_image_19 : List Nat := 42 :: sX12_image_20
noncomputable def sX12_image_16 : List Nat := 181 :: 1 :: 44 :: sX12_image_19
noncomputable def sX12_image_15 : List Nat := 4 :: sX12_image_16
noncomputable def sX12_image_14 : List Nat := 42 :: sX12_image_15
noncomputable def sX12_image_13 : List Nat := 172 :: sX12_image_14
noncomputable def sX12_image_12 : List Nat := 3 :: sX12_image_13
noncomputable def sX12_image_9 : List Nat := 154 :: 0 :: 5 :: sX12_image_12
noncomputable def sX12_image_6 : List Nat := 180 :: 1 :: 41 :: sX12_image_9
noncomputable def sX12_image_5 : List Nat := 42 :: sX12_image_6
noncomputable def sX12_image_2 : List Nat := 181 :: 0 :: 129 :: sX12_image_5
noncomputable def sX12_image_1 : List Nat := 3 :: sX12_image_2
noncomputable def sX12_image_0 : List Nat := 42 :: sX12_image_1
theorem aX12_image_0 : dc_at cX12_image 0 sX12_image_0 := dc_base (by decide +kernel)
theorem aX12_image_1 : dc_at cX12_image 1 sX12_image_1 := dc_n1 aX12_image_0
theorem aX12_image_2 : dc_at cX12_image 2 sX12_image_2 := dc_n1 aX12_image_1
theorem aX12_image_5 : dc_at cX12_image 5 sX12_image_5 := dc_n3 aX12_image_2
theorem aX12_image_6 : dc_at cX12_image 6 sX12_image_6 := dc_n1 aX12_image_5
theorem aX12_image_9 : dc_at cX12_image 9 sX12_image_9 := dc_n3 aX12_image_6
theorem aX12_image_12 : dc_at cX12_image 12 sX12_image_12 := dc_n3 aX12_image_9
theorem aX12_image_13 : dc_at cX12_image 13 sX12_image_13 := dc_n1 aX12_image_12
theorem aX12_image_14 : dc_at cX12_image 14 sX12_image_14 := dc_n1 aX12_image_13
theorem aX12_image_15 : dc_at cX12_image 15 sX12_image_15 := dc_n1 aX12_image_14
theorem aX12_image_16 : dc_at cX12_image 16 sX12_image_16 := dc_n1 aX12_image_15
theorem aX12_image_19 : dc_at cX12_image 19 sX12_image_19 := dc_n3 aX12_image_16
theorem aX12_image_20 : dc_at cX12_image 20 sX12_image_20 := dc_n1 aX12_image_19
theorem aX12_image_21 : dc_at cX12_image 21 sX12_image_21 := dc_n1 aX12_image_20
theorem aX12_image_24 : dc_at cX12_image 24 sX12_image_24 := dc_n3 aX12_image_21
theorem aX12_image_25 : dc_at cX12_image 25 sX12_image_25 := dc_n1 aX12_image_24
theorem aX12_image_28 : dc_at cX12_image 28 sX12_image_28 := dc_n3 aX12_image_25
theorem aX12_image_31 : dc_at cX12_image 31 sX12_image_31 := dc_n3 aX12_image_28
theorem aX12_image_32 : dc_at cX12_image 32 sX12_image_32 := dc_n1 aX12_image_31
theorem dX12_image_0 : decode cX12_image 0 = .ok (.aload_n 0, 1) := dc_42 aX12_image_0
theorem dX12_image_1 : decode cX12_image 1 = .ok (.iconst 0, 1) := dc_3 aX12_image_1
theorem dX12_image_2 : decode cX12_image 2 = .ok (.putfield 129, 3) := dc_181 (a0 := 0) (b0 := 129) aX12_image_2
theorem dX12_image_5 : decode cX12_image 5 = .ok (.aload_n 0, 1) := dc_42 aX12_image_5
theorem dX12_image_6 : decode cX12_image 6 = .ok (.getfield 297, 3) := dc_180 (a0 := 1) (b0 := 41) aX12_image_6
theorem dX12_image_9 : decode cX12_image 9 = .ok (.ifCond .ne 5, 3) := dc_154 (a0 := 0) (b0 := 5) aX12_image_9 (by decide)
theorem dX12_image_12 : decode cX12_image 12 = .ok (.iconst 0, 1) := dc_3 aX12_image_12
theorem dX12_image_13 : decode cX12_image 13 = .ok (.ireturn, 1) := dc_172 aX12_image_13
theorem dX12_image_14 : decode cX12_image 14 = .ok (.aload_n 0, 1) := dc_42 aX12_image_14
theorem dX12_image_15 : decode cX12_image 15 = .ok (.iconst 1, 1) := dc_4 aX12_image_15
theorem dX12_image_16 : decode cX12_image 16 = .ok (.putfield 300, 3) := dc_181 (a0 := 1) (b0 := 44) aX12_image_16
theorem dX12_image_19 : decode cX12_image 19 = .ok (.aload_n 0, 1) := dc_42 aX12_image_19
theorem dX12_image_20 : decode cX12_image 20 = .ok (.aload_n 0, 1) := dc_42 aX12_image_20
theorem dX12_image_21 : decode cX12_image 21 = .ok (.getfield 71, 3) := dc_180 (a0 := 0) (b0 := 71) aX12_image_21
theorem dX12_image_24 : decode cX12_image 24 = .ok (.aload_n 0, 1) := dc_42 aX12_image_24
theorem dX12_image_25 : decode cX12_image 25 = .ok (.getfield 74, 3) := dc_180 (a0 := 0) (b0 := 74) aX12_image_25
theorem dX12_image_28 : decode cX12_image 28 = .ok (.invokevirtual 234, 3) := dc_182 (a0 := 0) (b0 := 234) aX12_image_28
theorem dX12_image_31 : decode cX12_image 31 = .ok (.iconst 1, 1) := dc_4 aX12_image_31
theorem dX12_image_32 : decode cX12_image 32 = .ok (.ireturn, 1) := dc_172 aX12_image_32
set_option maxRecDepth 20000 in
theorem ggX12_restore_X12_copies : GoodIn wsX12_restore wsX12_copies := goodIn_k _ [[10]] (by rfl) (by decide +kernel)
set_option maxRecDepth 20000 in
theorem gX12_restore_X12_copies : GoodIn wsX12_restore (wsV RX12 234 RX12 yX12_copies wsX12_copies) := goodIn_app (goodIn_of _ (by decide +kernel)) ggX12_restore_X12_copies
noncomputable def sX12_restore_32 : List Nat := 172 :: []
noncomputable def sX12_restore_31 : List Nat := 4 :: sX12_restore_32
noncomputable def sX12_restore_28 : List Nat := 182 :: 0 :: 234 :: sX12_restore_31
noncomputable def sX12_restore_25 : List Nat := 180 :: 0 :: 71 :: sX12_restore_28
noncomputable def sX12_restore_24 : List Nat := 42 :: sX12_restore_25
noncomputable def sX12_restore_21 : List Nat := 180 :: 0 :: 74 :: sX12_restore_24
noncomputable def sX12_restore_20 : List Nat := 42 :: sX12_restore_21
noncomputable def sX12_restore_19 : List Nat := 42 :: sX12_restore_20
noncomputable def sX12_restore_16 : List Nat := 181 :: 1 :: 41 :: sX12_restore_19
noncomputable def sX12_restore_15 : List Nat := 4 :: sX12_restore_16
noncomputable def sX12_restore_14 : List Nat := 42 :: sX12_restore_15
noncomputable def sX12_restore_13 : List Nat := 172 :: sX12_restore_14
noncomputable def sX12_restore_12 : List Nat := 3 :: sX12_restore_13
noncomputable def sX12_restore_9 : List Nat := 154 :: 0 :: 5 :: sX12_restore_12
noncomputable def sX12_restore_6 : List Nat := 180 :: 1 :: 44 :: sX12_restore_9
noncomputable def sX12_restore_5 : List Nat := 42 :: sX12_restore_6
noncomputable def sX12_restore_2 : List Nat := 181 :: 0 :: 129 :: sX12_restore_5
noncomputable def sX12_restore_1 : List Nat := 3 :: sX12_restore_2
noncomputable def sX12_restore_0 : List Nat := 42 :: sX12_restore_1
theorem aX12_restore_0 : dc_at cX12_restore 0 sX12_restore_0 := dc_base (by decide +kernel)
theorem aX12_restore_1 : dc_at cX12_restore 1 sX12_restore_1 := dc_n1 aX12_restore_0
theorem aX12_restore_2 : dc_at cX12_restore 2 sX12_restore_2 := dc_n1 aX12_restore_1
theorem aX12_restore_5 : dc_at cX12_restore 5 sX12_restore_5 := dc_n3 aX12_restore_2
theorem aX12_restore_6 : dc_at cX12_restore 6 sX12_restore_6 := dc_n1 aX12_restore_5
theorem aX12_restore_9 : dc_at cX12_restore 9 sX12_restore_9 := dc_n3 aX12_restore_6
theorem aX12_restore_12 : dc_at cX12_restore 12 sX12_restore_12 := dc_n3 aX12_restore_9
theorem aX12_restore_13 : dc_at cX12_restore 13 sX12_restore_13 := dc_n1 aX12_restore_12
theorem aX12_restore_14 : dc_at cX12_restore 14 sX12_restore_14 := dc_n1 aX12_restore_13
theorem aX12_restore_15 : dc_at cX12_restore 15 sX12_restore_15 := dc_n1 aX12_restore_14
theorem aX12_restore_16 : dc_at cX12_restore 16 sX12_restore_16 := dc_n1 aX12_restore_15
theorem aX12_restore_19 : dc_at cX12_restore 19 sX12_restore_19 := dc_n3 aX12_restore_16
theorem aX12_restore_20 : dc_at cX12_restore 20 sX12_restore_20 := dc_n1 aX12_restore_19
theorem aX12_restore_21 : dc_at cX12_restore 21 sX12_restore_21 := dc_n1 aX12_restore_20
theorem aX12_restore_24 : dc_at cX12_restore 24 sX12_restore_24 := dc_n3 aX12_restore_21
theorem aX12_restore_25 : dc_at cX12_restore 25 sX12_restore_25 := dc_n1 aX12_restore_24
theorem aX12_restore_28 : dc_at cX12_restore 28 sX12_restore_28 := dc_n3 aX12_restore_25
theorem aX12_restore_31 : dc_at cX12_restore 31 sX12_restore_31 := dc_n3 aX12_restore_28
theorem aX12_restore_32 : dc_at cX12_restore 32 sX12_restore_32 := dc_n1 aX12_restore_31
theorem dX12_restore_0 : decode cX12_restore 0 = .ok (.aload_n 0, 1) := dc_42 aX12_restore_0
theorem dX12_restore_1 : decode cX12_restore 1 = .ok (.iconst 0, 1) := dc_3 aX12_restore_1
theorem dX12_restore_2 : decode cX12_restore 2 = .ok (.putfield 129, 3) := dc_181 (a0 := 0) (b0 := 129) aX12_restore_2
theorem dX12_restore_5 : decode cX12_restore 5 = .ok (.aload_n 0, 1) := dc_42 aX12_restore_5
theorem dX12_restore_6 : decode cX12_restore 6 = .ok (.getfield 300, 3) := dc_180 (a0 := 1) (b0 := 44) aX12_restore_6
theorem dX12_restore_9 : decode cX12_restore 9 = .ok (.ifCond .ne 5, 3) := dc_154 (a0 := 0) (b0 := 5) aX12_restore_9 (by decide)
theorem dX12_restore_12 : decode cX12_restore 12 = .ok (.iconst 0, 1) := dc_3 aX12_restore_12
theorem dX12_restore_13 : decode cX12_restore 13 = .ok (.ireturn, 1) := dc_172 aX12_restore_13
theorem dX12_restore_14 : decode cX12_restore 14 = .ok (.aload_n 0, 1) := dc_42 aX12_restore_14
theorem dX12_restore_15 : decode cX12_restore 15 = .ok (.iconst 1, 1) := dc_4 aX12_restore_15
theorem dX12_restore_16 : decode cX12_restore 16 = .ok (.putfield 297, 3) := dc_181 (a0 := 1) (b0 := 41) aX12_restore_16
theorem dX12_restore_19 : decode cX12_restore 19 = .ok (.aload_n 0, 1) := dc_42 aX12_restore_19
theorem dX12_restore_20 : decode cX12_restore 20 = .ok (.aload_n 0, 1) := dc_42 aX12_restore_20
theorem dX12_restore_21 : decode cX12_restore 21 = .ok (.getfield 74, 3) := dc_180 (a0 := 0) (b0 := 74) aX12_restore_21
theorem dX12_restore_24 : decode cX12_restore 24 = .ok (.aload_n 0, 1) := dc_42 aX12_restore_24
theorem dX12_restore_25 : decode cX12_restore 25 = .ok (.getfield 71, 3) := dc_180 (a0 := 0) (b0 := 71) aX12_restore_25
theorem dX12_restore_28 : decode cX12_restore 28 = .ok (.invokevirtual 234, 3) := dc_182 (a0 := 0) (b0 := 234) aX12_restore_28
theorem dX12_restore_31 : decode cX12_restore 31 = .ok (.iconst 1, 1) := dc_4 aX12_restore_31
theorem dX12_restore_32 : decode cX12_restore 32 = .ok (.ireturn, 1) := dc_172 aX12_restore_32
set_option maxRecDepth 20000 in
theorem ggX12_misread_X12_isWheel : GoodIn wsX12_misread wsX12_isWheel := goodIn_k _ [[6, 0, 0, 0, 0], [5, 5, 33, 0, 0, 0, 0, 0, 0, 0, 0, 0, 0, 0, 0, 0, 0, 0, 0, 0, 0, 0, 0, 0, 0, 0, 0, 0, 0, 0, 0, 0, 0, 0, 0, 0, 0, 0, 0, 0, 0, 0, 0, 0, 0, 0, 0, 0, 0, 0, 0, 0, 0, 0, 0, 0, 0, 0, 0, 0]] (by rfl) (by decide +kernel)
set_option maxRecDepth 20000 in
theorem gX12_misread_X12_isWheel : GoodIn wsX12_misread (wsV RX12 247 RX12 yX12_isWheel wsX12_isWheel) := goodIn_app (goodIn_of _ (by decide +kernel)) ggX12_misread_X12_isWheel
set_option maxRecDepth 20000 in
theorem ggX12_misread_X12_within : GoodIn wsX12_misread wsX12_within := goodIn_k _ [[14]] (by rfl) (by decide +kernel)
set_option maxRecDepth 20000 in
theorem gX12_misread_X12_within : GoodIn wsX12_misread (va_wsS RX12 270 yX12_within wsX12_within) := goodIn_app (goodIn_of _ (by decide +kernel)) ggX12_misread_X12_within
set_option maxRecDepth 20000 in
theorem ggX12_misread_X12_right : GoodIn wsX12_misread wsX12_right := goodIn_k _ [[11], [7, 37, 0, 0, 0, 0, 0, 0, 0, 0, 0, 0, 0, 0, 0, 0, 0, 0, 0, 0, 0, 0, 0, 0, 0, 0, 0, 0, 0, 0, 0, 0, 0, 0, 0, 0, 0, 0, 0, 0, 0, 0, 0, 0, 0, 0, 0, 0, 0, 0, 0, 0, 0, 0, 0, 0, 0, 0, 0]] (by rfl) (by decide +kernel)
set_option maxRecDepth 20000 in
theorem gX12_misread_X12_right : GoodIn wsX12_misread (wsV RX12 209 RX12 yX12_right wsX12_right) := goodIn_app (goodIn_of _ (by decide +kernel)) ggX12_misread_X12_right
set_option maxRecDepth 20000 in
theorem ggX12_misread_X12_at : GoodIn wsX12_misread wsX12_at := goodIn_k _ [[18, 0, 25, 0, 0, 0, 0, 0, 0, 0, 0, 0, 0, 0, 0, 0, 0, 0, 0, 0, 0, 0, 0, 0, 0, 0, 0, 0, 0, 0, 0, 0, 0, 0, 0, 0, 0, 0, 0, 0, 0, 0, 0, 0, 0, 0, 0, 0, 0, 0, 0, 0, 0, 0, 0, 0, 0, 0, 0, 0]] (by rfl) (by decide +kernel)
set_option maxRecDepth 20000 in
theorem gX12_misread_X12_at : GoodIn wsX12_misread (wsV RX12 254 RX12 yX12_at wsX12_at) := goodIn_app (goodIn_of _ (by decide +kernel)) ggX12_misread_X12_at
set_option maxRecDepth 20000 in
theorem ggX12_misread_X12_placeOn : GoodIn wsX12_misread wsX12_placeOn := goodIn_k _ [[23, 0, 0, 0, 0, 0, 0, 0, 0, 0], [5, 27, 11, 0, 0, 0, 0, 0, 0, 0, 0, 0, 0, 0, 0, 0, 0, 0, 0, 0, 0, 0, 0, 0, 0, 0, 0, 0, 0, 0, 0, 0, 0, 0, 0, 0, 0, 0, 0, 0, 0, 0, 0, 0, 0, 0, 0, 0, 0, 0, 0, 0, 0, 0, 0, 0, 0, 0, 0, 0]] (by rfl) (by decide +kernel)
set_option maxRecDepth 20000 in
theorem gX12_misread_X12_placeOn : GoodIn wsX12_misread (wsV RX12 274 RX12 yX12_placeOn wsX12_placeOn) := goodIn_app (goodIn_of _ (by decide +kernel)) ggX12_misread_X12_placeOn
set_option maxRecDepth 20000 in
theorem ggX12_misread_X12_beside : GoodIn wsX12_misread wsX12_beside := goodIn_k _ [[37, 0, 0, 0], [5, 35, 0, 0, 0, 0, 0, 0, 0, 0, 0, 0, 0, 0, 0, 0, 0, 0, 0, 0, 0, 0, 0, 0, 0, 0, 0, 0, 0, 0, 0, 0, 0, 0, 0, 0, 0, 0, 0, 0, 0, 0, 0, 0, 0, 0, 0, 0, 0, 0, 0, 0, 0, 0, 0, 0, 0, 0, 0, 0, 0, 0, 0]] (by rfl) (by decide +kernel)
set_option maxRecDepth 20000 in
theorem gX12_misread_X12_beside : GoodIn wsX12_misread (wsV RX12 280 RX12 yX12_beside wsX12_beside) := goodIn_app (goodIn_of _ (by decide +kernel)) ggX12_misread_X12_beside
noncomputable def sX12_misread_97 : List Nat := 172 :: []
noncomputable def sX12_misread_94 : List Nat := 182 :: 1 :: 24 :: sX12_misread_97
noncomputable def sX12_misread_93 : List Nat := 108 :: sX12_misread_94
noncomputable def sX12_misread_91 : List Nat := 16 :: 60 :: sX12_misread_93
noncomputable def sX12_misread_88 : List Nat := 182 :: 1 :: 18 :: sX12_misread_91
noncomputable def sX12_misread_86 : List Nat := 21 :: 4 :: sX12_misread_88
noncomputable def sX12_misread_84 : List Nat := 21 :: 5 :: sX12_misread_86
noncomputable def sX12_misread_83 : List Nat := 29 :: sX12_misread_84
noncomputable def sX12_misread_82 : List Nat := 42 :: sX12_misread_83
noncomputable def sX12_misread_80 : List Nat := 21 :: 6 :: sX12_misread_82
noncomputable def sX12_misread_79 : List Nat := 42 :: sX12_misread_80
noncomputable def sX12_misread_76 : List Nat := 167 :: 0 :: 21 :: sX12_misread_79
noncomputable def sX12_misread_75 : List Nat := 2 :: sX12_misread_76
noncomputable def sX12_misread_72 : List Nat := 160 :: 0 :: 7 :: sX12_misread_75
noncomputable def sX12_misread_71 : List Nat := 2 :: sX12_misread_72
noncomputable def sX12_misread_69 : List Nat := 21 :: 6 :: sX12_misread_71
noncomputable def sX12_misread_67 : List Nat := 54 :: 6 :: sX12_misread_69
noncomputable def sX12_misread_64 : List Nat := 182 :: 0 :: 254 :: sX12_misread_67
noncomputable def sX12_misread_62 : List Nat := 21 :: 5 :: sX12_misread_64
noncomputable def sX12_misread_61 : List Nat := 96 :: sX12_misread_62
noncomputable def sX12_misread_60 : List Nat := 28 :: sX12_misread_61
noncomputable def sX12_misread_59 : List Nat := 104 :: sX12_misread_60
noncomputable def sX12_misread_58 : List Nat := 27 :: sX12_misread_59
noncomputable def sX12_misread_56 : List Nat := 16 :: 20 :: sX12_misread_58
noncomputable def sX12_misread_55 : List Nat := 42 :: sX12_misread_56
noncomputable def sX12_misread_54 : List Nat := 172 :: sX12_misread_55
noncomputable def sX12_misread_53 : List Nat := 3 :: sX12_misread_54
noncomputable def sX12_misread_50 : List Nat := 154 :: 0 :: 5 :: sX12_misread_53
noncomputable def sX12_misread_47 : List Nat := 182 :: 0 :: 209 :: sX12_misread_50
noncomputable def sX12_misread_46 : List Nat := 4 :: sX12_misread_47
noncomputable def sX12_misread_45 : List Nat := 3 :: sX12_misread_46
noncomputable def sX12_misread_42 : List Nat := 167 :: 0 :: 4 :: sX12_misread_45
noncomputable def sX12_misread_41 : List Nat := 4 :: sX12_misread_42
noncomputable def sX12_misread_38 : List Nat := 153 :: 0 :: 7 :: sX12_misread_41
noncomputable def sX12_misread_35 : List Nat := 184 :: 1 :: 14 :: sX12_misread_38
noncomputable def sX12_misread_33 : List Nat := 16 :: 6 :: sX12_misread_35
noncomputable def sX12_misread_32 : List Nat := 3 :: sX12_misread_33
noncomputable def sX12_misread_30 : List Nat := 21 :: 5 :: sX12_misread_32
noncomputable def sX12_misread_27 : List Nat := 153 :: 0 :: 18 :: sX12_misread_30
noncomputable def sX12_misread_24 : List Nat := 184 :: 1 :: 14 :: sX12_misread_27
noncomputable def sX12_misread_22 : List Nat := 18 :: 218 :: sX12_misread_24
noncomputable def sX12_misread_21 : List Nat := 3 :: sX12_misread_22
noncomputable def sX12_misread_19 : List Nat := 21 :: 4 :: sX12_misread_21
noncomputable def sX12_misread_16 : List Nat := 153 :: 0 :: 29 :: sX12_misread_19
noncomputable def sX12_misread_13 : List Nat := 184 :: 1 :: 14 :: sX12_misread_16
noncomputable def sX12_misread_12 : List Nat := 6 :: sX12_misread_13
noncomputable def sX12_misread_11 : List Nat := 3 :: sX12_misread_12
noncomputable def sX12_misread_10 : List Nat := 29 :: sX12_misread_11
noncomputable def sX12_misread_9 : List Nat := 42 :: sX12_misread_10
noncomputable def sX12_misread_6 : List Nat := 153 :: 0 :: 47 :: sX12_misread_9
noncomputable def sX12_misread_3 : List Nat := 182 :: 0 :: 247 :: sX12_misread_6
noncomputable def sX12_misread_2 : List Nat := 28 :: sX12_misread_3
noncomputable def sX12_misread_1 : List Nat := 27 :: sX12_misread_2
noncomputable def sX12_misread_0 : List Nat := 42 :: sX12_misread_1
theorem aX12_misread_0 : dc_at cX12_misread 0 sX12_misread_0 := dc_base (by decide +kernel)
theorem aX12_misread_1 : dc_at cX12_misread 1 sX12_misread_1 := dc_n1 aX12_misread_0
theorem aX12_misread_2 : dc_at cX12_misread 2 sX12_misread_2 := dc_n1 aX12_misread_1
theorem aX12_misread_3 : dc_at cX12_misread 3 sX12_misread_3 := dc_n1 aX12_misread_2
theorem aX12_misread_6 : dc_at cX12_misread 6 sX12_misread_6 := dc_n3 aX12_misread_3
theorem aX12_misread_9 : dc_at cX12_misread 9 sX12_misread_9 := dc_n3 aX12_misread_6
theorem aX12_misread_10 : dc_at cX12_misread 10 sX12_misread_10 := dc_n1 aX12_misread_9
theorem aX12_misread_11 : dc_at cX12_misread 11 sX12_misread_11 := dc_n1 aX12_misread_10
theorem aX12_misread_12 : dc_at cX12_misread 12 sX12_misread_12 := dc_n1 aX12_misread_11
theorem aX12_misread_13 : dc_at cX12_misread 13 sX12_misread_13 := dc_n1 aX12_misread_12
theorem aX12_misread_16 : dc_at cX12_misread 16 sX12_misread_16 := dc_n3 aX12_misread_13
theorem aX12_misread_19 : dc_at cX12_misread 19 sX12_misread_19 := dc_n3 aX12_misread_16
theorem aX12_misread_21 : dc_at cX12_misread 21 sX12_misread_21 := dc_n2 aX12_misread_19
theorem aX12_misread_22 : dc_at cX12_misread 22 sX12_misread_22 := dc_n1 aX12_misread_21
theorem aX12_misread_24 : dc_at cX12_misread 24 sX12_misread_24 := dc_n2 aX12_misread_22
theorem aX12_misread_27 : dc_at cX12_misread 27 sX12_misread_27 := dc_n3 aX12_misread_24
theorem aX12_misread_30 : dc_at cX12_misread 30 sX12_misread_30 := dc_n3 aX12_misread_27
theorem aX12_misread_32 : dc_at cX12_misread 32 sX12_misread_32 := dc_n2 aX12_misread_30
theorem aX12_misread_33 : dc_at cX12_misread 33 sX12_misread_33 := dc_n1 aX12_misread_32
theorem aX12_misread_35 : dc_at cX12_misread 35 sX12_misread_35 := dc_n2 aX12_misread_33
theorem aX12_misread_38 : dc_at cX12_misread 38 sX12_misread_38 := dc_n3 aX12_misread_35
theorem aX12_misread_41 : dc_at cX12_misread 41 sX12_misread_41 := dc_n3 aX12_misread_38
theorem aX12_misread_42 : dc_at cX12_misread 42 sX12_misread_42 := dc_n1 aX12_misread_41
theorem aX12_misread_45 : dc_at cX12_misread 45 sX12_misread_45 := dc_n3 aX12_misread_42
theorem aX12_misread_46 : dc_at cX12_misread 46 sX12_misread_46 := dc_n1 aX12_misread_45
theorem aX12_misread_47 : dc_at cX12_misread 47 sX12_misread_47 := dc_n1 aX12_misread_46
theorem aX12_misread_50 : dc_at cX12_misread 50 sX12_misread_50 := dc_n3 aX12_misread_47
theorem aX12_misread_53 : dc_at cX12_misread 53 sX12_misread_53 := dc_n3 aX12_misread_50
theorem aX12_misread_54 : dc_at cX12_misread 54 sX12_misread_54 := dc_n1 aX12_misread_53
theorem aX12_misread_55 : dc_at cX12_misread 55 sX12_misread_55 := dc_n1 aX12_misread_54
theorem aX12_misread_56 : dc_at cX12_misread 56 sX12_misread_56 := dc_n1 aX12_misread_55
theorem aX12_misread_58 : dc_at cX12_misread 58 sX12_misread_58 := dc_n2 aX12_misread_56
theorem aX12_misread_59 : dc_at cX12_misread 59 sX12_misread_59 := dc_n1 aX12_misread_58
theorem aX12_misread_60 : dc_at cX12_misread 60 sX12_misread_60 := dc_n1 aX12_misread_59
theorem aX12_misread_61 : dc_at cX12_misread 61 sX12_misread_61 := dc_n1 aX12_misread_60
theorem aX12_misread_62 : dc_at cX12_misread 62 sX12_misread_62 := dc_n1 aX12_misread_61
theorem aX12_misread_64 : dc_at cX12_misread 64 sX12_misread_64 := dc_n2 aX12_misread_62
theorem aX12_misread_67 : dc_at cX12_misread 67 sX12_misread_67 := dc_n3 aX12_misread_64
theorem aX12_misread_69 : dc_at cX12_misread 69 sX12_misread_69 := dc_n2 aX12_misread_67
theorem aX12_misread_71 : dc_at cX12_misread 71 sX12_misread_71 := dc_n2 aX12_misread_69
theorem aX12_misread_72 : dc_at cX12_misread 72 sX12_misread_72 := dc_n1 aX12_misread_71
theorem aX12_misread_75 : dc_at cX12_misread 75 sX12_misread_75 := dc_n3 aX12_misread_72
theorem aX12_misread_76 : dc_at cX12_misread 76 sX12_misread_76 := dc_n1 aX12_misread_75
theorem aX12_misread_79 : dc_at cX12_misread 79 sX12_misread_79 := dc_n3 aX12_misread_76
theorem aX12_misread_80 : dc_at cX12_misread 80 sX12_misread_80 := dc_n1 aX12_misread_79
theorem aX12_misread_82 : dc_at cX12_misread 82 sX12_misread_82 := dc_n2 aX12_misread_80
theorem aX12_misread_83 : dc_at cX12_misread 83 sX12_misread_83 := dc_n1 aX12_misread_82
theorem aX12_misread_84 : dc_at cX12_misread 84 sX12_misread_84 := dc_n1 aX12_misread_83
theorem aX12_misread_86 : dc_at cX12_misread 86 sX12_misread_86 := dc_n2 aX12_misread_84
theorem aX12_misread_88 : dc_at cX12_misread 88 sX12_misread_88 := dc_n2 aX12_misread_86
theorem aX12_misread_91 : dc_at cX12_misread 91 sX12_misread_91 := dc_n3 aX12_misread_88
theorem aX12_misread_93 : dc_at cX12_misread 93 sX12_misread_93 := dc_n2 aX12_misread_91
theorem aX12_misread_94 : dc_at cX12_misread 94 sX12_misread_94 := dc_n1 aX12_misread_93
theorem aX12_misread_97 : dc_at cX12_misread 97 sX12_misread_97 := dc_n3 aX12_misread_94
theorem dX12_misread_0 : decode cX12_misread 0 = .ok (.aload_n 0, 1) := dc_42 aX12_misread_0
theorem dX12_misread_1 : decode cX12_misread 1 = .ok (.iload_n 1, 1) := dc_27 aX12_misread_1
theorem dX12_misread_2 : decode cX12_misread 2 = .ok (.iload_n 2, 1) := dc_28 aX12_misread_2
theorem dX12_misread_3 : decode cX12_misread 3 = .ok (.invokevirtual 247, 3) := dc_182 (a0 := 0) (b0 := 247) aX12_misread_3
theorem dX12_misread_6 : decode cX12_misread 6 = .ok (.ifCond .eq 47, 3) := dc_153 (a0 := 0) (b0 := 47) aX12_misread_6 (by decide)
theorem dX12_misread_9 : decode cX12_misread 9 = .ok (.aload_n 0, 1) := dc_42 aX12_misread_9
theorem dX12_misread_10 : decode cX12_misread 10 = .ok (.iload_n 3, 1) := dc_29 aX12_misread_10
theorem dX12_misread_11 : decode cX12_misread 11 = .ok (.iconst 0, 1) := dc_3 aX12_misread_11
theorem dX12_misread_12 : decode cX12_misread 12 = .ok (.iconst 3, 1) := dc_6 aX12_misread_12
theorem dX12_misread_13 : decode cX12_misread 13 = .ok (.invokestatic 270, 3) := dc_184 (a0 := 1) (b0 := 14) aX12_misread_13
theorem dX12_misread_16 : decode cX12_misread 16 = .ok (.ifCond .eq 29, 3) := dc_153 (a0 := 0) (b0 := 29) aX12_misread_16 (by decide)
theorem dX12_misread_19 : decode cX12_misread 19 = .ok (.iload 4, 2) := dc_21 (a0 := 4) aX12_misread_19
theorem dX12_misread_21 : decode cX12_misread 21 = .ok (.iconst 0, 1) := dc_3 aX12_misread_21
theorem dX12_misread_22 : decode cX12_misread 22 = .ok (.ldc 218, 2) := dc_18 (a0 := 218) aX12_misread_22
theorem dX12_misread_24 : decode cX12_misread 24 = .ok (.invokestatic 270, 3) := dc_184 (a0 := 1) (b0 := 14) aX12_misread_24
theorem dX12_misread_27 : decode cX12_misread 27 = .ok (.ifCond .eq 18, 3) := dc_153 (a0 := 0) (b0 := 18) aX12_misread_27 (by decide)
theorem dX12_misread_30 : decode cX12_misread 30 = .ok (.iload 5, 2) := dc_21 (a0 := 5) aX12_misread_30
theorem dX12_misread_32 : decode cX12_misread 32 = .ok (.iconst 0, 1) := dc_3 aX12_misread_32
theorem dX12_misread_33 : decode cX12_misread 33 = .ok (.bipush 6, 2) := dc_16 (a0 := 6) aX12_misread_33 (by decide)
theorem dX12_misread_35 : decode cX12_misread 35 = .ok (.invokestatic 270, 3) := dc_184 (a0 := 1) (b0 := 14) aX12_misread_35
theorem dX12_misread_38 : decode cX12_misread 38 = .ok (.ifCond .eq 7, 3) := dc_153 (a0 := 0) (b0 := 7) aX12_misread_38 (by decide)
theorem dX12_misread_41 : decode cX12_misread 41 = .ok (.iconst 1, 1) := dc_4 aX12_misread_41
theorem dX12_misread_42 : decode cX12_misread 42 = .ok (.goto 4, 3) := dc_167 (a0 := 0) (b0 := 4) aX12_misread_42 (by decide)
theorem dX12_misread_45 : decode cX12_misread 45 = .ok (.iconst 0, 1) := dc_3 aX12_misread_45
theorem dX12_misread_46 : decode cX12_misread 46 = .ok (.iconst 1, 1) := dc_4 aX12_misread_46
theorem dX12_misread_47 : decode cX12_misread 47 = .ok (.invokevirtual 209, 3) := dc_182 (a0 := 0) (b0 := 209) aX12_misread_47
theorem dX12_misread_50 : decode cX12_misread 50 = .ok (.ifCond .ne 5, 3) := dc_154 (a0 := 0) (b0 := 5) aX12_misread_50 (by decide)
theorem dX12_misread_53 : decode cX12_misread 53 = .ok (.iconst 0, 1) := dc_3 aX12_misread_53
theorem dX12_misread_54 : decode cX12_misread 54 = .ok (.ireturn, 1) := dc_172 aX12_misread_54
theorem dX12_misread_55 : decode cX12_misread 55 = .ok (.aload_n 0, 1) := dc_42 aX12_misread_55
theorem dX12_misread_56 : decode cX12_misread 56 = .ok (.bipush 20, 2) := dc_16 (a0 := 20) aX12_misread_56 (by decide)
theorem dX12_misread_58 : decode cX12_misread 58 = .ok (.iload_n 1, 1) := dc_27 aX12_misread_58
theorem dX12_misread_59 : decode cX12_misread 59 = .ok (.imul, 1) := dc_104 aX12_misread_59
theorem dX12_misread_60 : decode cX12_misread 60 = .ok (.iload_n 2, 1) := dc_28 aX12_misread_60
theorem dX12_misread_61 : decode cX12_misread 61 = .ok (.iadd, 1) := dc_96 aX12_misread_61
theorem dX12_misread_62 : decode cX12_misread 62 = .ok (.iload 5, 2) := dc_21 (a0 := 5) aX12_misread_62
theorem dX12_misread_64 : decode cX12_misread 64 = .ok (.invokevirtual 254, 3) := dc_182 (a0 := 0) (b0 := 254) aX12_misread_64
theorem dX12_misread_67 : decode cX12_misread 67 = .ok (.istore 6, 2) := dc_54 (a0 := 6) aX12_misread_67
theorem dX12_misread_69 : decode cX12_misread 69 = .ok (.iload 6, 2) := dc_21 (a0 := 6) aX12_misread_69
theorem dX12_misread_71 : decode cX12_misread 71 = .ok (.iconst (-1), 1) := dc_2 aX12_misread_71
theorem dX12_misread_72 : decode cX12_misread 72 = .ok (.if_icmp .ne 7, 3) := dc_160 (a0 := 0) (b0 := 7) aX12_misread_72 (by decide)
theorem dX12_misread_75 : decode cX12_misread 75 = .ok (.iconst (-1), 1) := dc_2 aX12_misread_75
theorem dX12_misread_76 : decode cX12_misread 76 = .ok (.goto 21, 3) := dc_167 (a0 := 0) (b0 := 21) aX12_misread_76 (by decide)
theorem dX12_misread_79 : decode cX12_misread 79 = .ok (.aload_n 0, 1) := dc_42 aX12_misread_79
theorem dX12_misread_80 : decode cX12_misread 80 = .ok (.iload 6, 2) := dc_21 (a0 := 6) aX12_misread_80
theorem dX12_misread_82 : decode cX12_misread 82 = .ok (.aload_n 0, 1) := dc_42 aX12_misread_82
theorem dX12_misread_83 : decode cX12_misread 83 = .ok (.iload_n 3, 1) := dc_29 aX12_misread_83
theorem dX12_misread_84 : decode cX12_misread 84 = .ok (.iload 5, 2) := dc_21 (a0 := 5) aX12_misread_84
theorem dX12_misread_86 : decode cX12_misread 86 = .ok (.iload 4, 2) := dc_21 (a0 := 4) aX12_misread_86
theorem dX12_misread_88 : decode cX12_misread 88 = .ok (.invokevirtual 274, 3) := dc_182 (a0 := 1) (b0 := 18) aX12_misread_88
theorem dX12_misread_91 : decode cX12_misread 91 = .ok (.bipush 60, 2) := dc_16 (a0 := 60) aX12_misread_91 (by decide)
theorem dX12_misread_93 : decode cX12_misread 93 = .ok (.idiv, 1) := dc_108 aX12_misread_93
theorem dX12_misread_94 : decode cX12_misread 94 = .ok (.invokevirtual 280, 3) := dc_182 (a0 := 1) (b0 := 24) aX12_misread_94
theorem dX12_misread_97 : decode cX12_misread 97 = .ok (.ireturn, 1) := dc_172 aX12_misread_97
set_option maxRecDepth 20000 in
theorem ggX12_errors_X12_isWheel : GoodIn wsX12_errors wsX12_isWheel := goodIn_k _ [[9, 0, 0, 0, 0], [8, 5, 22, 0, 0, 0, 0, 0, 0, 0, 0, 0, 0, 0, 0, 0, 0, 0, 0, 0, 0, 0, 0, 0, 0, 0, 0, 0, 0, 0, 0, 0, 0, 0, 0, 0, 0, 0, 0, 0, 0, 0, 0, 0, 0, 0, 0, 0, 0, 0, 0, 0, 0, 0, 0, 0, 0, 0, 0, 0]] (by rfl) (by decide +kernel)
set_option maxRecDepth 20000 in
theorem gX12_errors_X12_isWheel : GoodIn wsX12_errors (wsV RX12 247 RX12 yX12_isWheel wsX12_isWheel) := goodIn_app (goodIn_of _ (by decide +kernel)) ggX12_errors_X12_isWheel
set_option maxRecDepth 20000 in
theorem ggX12_errors_X12_within : GoodIn wsX12_errors wsX12_within := goodIn_k _ [[17]] (by rfl) (by decide +kernel)
set_option maxRecDepth 20000 in
theorem gX12_errors_X12_within : GoodIn wsX12_errors (va_wsS RX12 270 yX12_within wsX12_within) := goodIn_app (goodIn_of _ (by decide +kernel)) ggX12_errors_X12_within
set_option maxRecDepth 20000 in
theorem ggX12_errors_X12_right : GoodIn wsX12_errors wsX12_right := goodIn_k _ [[14], [10, 26, 0, 0, 0, 0, 0, 0, 0, 0, 0, 0, 0, 0, 0, 0, 0, 0, 0, 0, 0, 0, 0, 0, 0, 0, 0, 0, 0, 0, 0, 0, 0, 0, 0, 0, 0, 0, 0, 0, 0, 0, 0, 0, 0, 0, 0, 0, 0, 0, 0, 0, 0, 0, 0, 0, 0, 0, 0]] (by rfl) (by decide +kernel)
set_option maxRecDepth 20000 in
theorem gX12_errors_X12_right : GoodIn wsX12_errors (wsV RX12 209 RX12 yX12_right wsX12_right) := goodIn_app (goodIn_of _ (by decide +kernel)) ggX12_errors_X12_right
set_option maxRecDepth 20000 in
theorem ggX12_errors_X12_at : GoodIn wsX12_errors wsX12_at := goodIn_k _ [[21, 0, 14, 0, 0, 0, 0, 0, 0, 0, 0, 0, 0, 0, 0, 0, 0, 0, 0, 0, 0, 0, 0, 0, 0, 0, 0, 0, 0, 0, 0, 0, 0, 0, 0, 0, 0, 0, 0, 0, 0, 0, 0, 0, 0, 0, 0, 0, 0, 0, 0, 0, 0, 0, 0, 0, 0, 0, 0, 0]] (by rfl) (by decide +kernel)
set_option maxRecDepth 20000 in
theorem gX12_errors_X12_at : GoodIn wsX12_errors (wsV RX12 254 RX12 yX12_at wsX12_at) := goodIn_app (goodIn_of _ (by decide +kernel)) ggX12_errors_X12_at
set_option maxRecDepth 20000 in
theorem ggX12_errors_X12_placeOn : GoodIn wsX12_errors wsX12_placeOn := goodIn_k _ [[26, 0, 0, 0, 0, 0, 0, 0, 0, 0], [8, 27, 0, 0, 0, 0, 0, 0, 0, 0, 0, 0, 0, 0, 0, 0, 0, 0, 0, 0, 0, 0, 0, 0, 0, 0, 0, 0, 0, 0, 0, 0, 0, 0, 0, 0, 0, 0, 0, 0, 0, 0, 0, 0, 0, 0, 0, 0, 0, 0, 0, 0, 0, 0, 0, 0, 0, 0, 0, 0]] (by rfl) (by decide +kernel)
set_option maxRecDepth 20000 in
theorem gX12_errors_X12_placeOn : GoodIn wsX12_errors (wsV RX12 274 RX12 yX12_placeOn wsX12_placeOn) := goodIn_app (goodIn_of _ (by decide +kernel)) ggX12_errors_X12_placeOn
noncomputable def sX12_errors_394 : List Nat := 172 :: []
noncomputable def sX12_errors_392 : List Nat := 21 :: 6 :: sX12_errors_394
noncomputable def sX12_errors_389 : List Nat := 167 :: 0 :: 5 :: sX12_errors_392
noncomputable def sX12_errors_388 : List Nat := 2 :: sX12_errors_389
noncomputable def sX12_errors_385 : List Nat := 154 :: 0 :: 7 :: sX12_errors_388
noncomputable def sX12_errors_384 : List Nat := 46 :: sX12_errors_385
noncomputable def sX12_errors_382 : List Nat := 21 :: 6 :: sX12_errors_384
noncomputable def sX12_errors_379 : List Nat := 180 :: 0 :: 83 :: sX12_errors_382
noncomputable def sX12_errors_378 : List Nat := 42 :: sX12_errors_379
noncomputable def sX12_errors_375 : List Nat := 167 :: 255 :: 221 :: sX12_errors_378
noncomputable def sX12_errors_372 : List Nat := 132 :: 7 :: 1 :: sX12_errors_375
noncomputable def sX12_errors_370 : List Nat := 54 :: 6 :: sX12_errors_372
noncomputable def sX12_errors_368 : List Nat := 21 :: 6 :: sX12_errors_370
noncomputable def sX12_errors_365 : List Nat := 167 :: 0 :: 5 :: sX12_errors_368
noncomputable def sX12_errors_363 : List Nat := 21 :: 7 :: sX12_errors_365
noncomputable def sX12_errors_360 : List Nat := 164 :: 0 :: 8 :: sX12_errors_363
noncomputable def sX12_errors_359 : List Nat := 46 :: sX12_errors_360
noncomputable def sX12_errors_357 : List Nat := 21 :: 6 :: sX12_errors_359
noncomputable def sX12_errors_354 : List Nat := 180 :: 0 :: 83 :: sX12_errors_357
noncomputable def sX12_errors_353 : List Nat := 42 :: sX12_errors_354
noncomputable def sX12_errors_352 : List Nat := 46 :: sX12_errors_353
noncomputable def sX12_errors_350 : List Nat := 21 :: 7 :: sX12_errors_352
noncomputable def sX12_errors_347 : List Nat := 180 :: 0 :: 83 :: sX12_errors_350
noncomputable def sX12_errors_346 : List Nat := 42 :: sX12_errors_347
noncomputable def sX12_errors_343 : List Nat := 162 :: 0 :: 35 :: sX12_errors_346
noncomputable def sX12_errors_342 : List Nat := 7 :: sX12_errors_343
noncomputable def sX12_errors_340 : List Nat := 21 :: 7 :: sX12_errors_342
noncomputable def sX12_errors_338 : List Nat := 54 :: 7 :: sX12_errors_340
noncomputable def sX12_errors_337 : List Nat := 5 :: sX12_errors_338
noncomputable def sX12_errors_335 : List Nat := 54 :: 6 :: sX12_errors_337
noncomputable def sX12_errors_334 : List Nat := 4 :: sX12_errors_335
noncomputable def sX12_errors_333 : List Nat := 172 :: sX12_errors_334
noncomputable def sX12_errors_332 : List Nat := 46 :: sX12_errors_333
noncomputable def sX12_errors_331 : List Nat := 100 :: sX12_errors_332
noncomputable def sX12_errors_329 : List Nat := 16 :: 7 :: sX12_errors_331
noncomputable def sX12_errors_327 : List Nat := 21 :: 4 :: sX12_errors_329
noncomputable def sX12_errors_324 : List Nat := 180 :: 0 :: 83 :: sX12_errors_327
noncomputable def sX12_errors_323 : List Nat := 42 :: sX12_errors_324
noncomputable def sX12_errors_320 : List Nat := 167 :: 0 :: 13 :: sX12_errors_323
noncomputable def sX12_errors_319 : List Nat := 46 :: sX12_errors_320
noncomputable def sX12_errors_318 : List Nat := 100 :: sX12_errors_319
noncomputable def sX12_errors_317 : List Nat := 7 :: sX12_errors_318
noncomputable def sX12_errors_315 : List Nat := 21 :: 4 :: sX12_errors_317
noncomputable def sX12_errors_312 : List Nat := 180 :: 0 :: 80 :: sX12_errors_315
noncomputable def sX12_errors_311 : List Nat := 42 :: sX12_errors_312
noncomputable def sX12_errors_308 : List Nat := 162 :: 0 :: 15 :: sX12_errors_311
noncomputable def sX12_errors_306 : List Nat := 16 :: 8 :: sX12_errors_308
noncomputable def sX12_errors_304 : List Nat := 21 :: 4 :: sX12_errors_306
noncomputable def sX12_errors_301 : List Nat := 167 :: 0 :: 32 :: sX12_errors_304
noncomputable def sX12_errors_300 : List Nat := 46 :: sX12_errors_301
noncomputable def sX12_errors_299 : List Nat := 100 :: sX12_errors_300
noncomputable def sX12_errors_298 : List Nat := 4 :: sX12_errors_299
noncomputable def sX12_errors_296 : List Nat := 21 :: 4 :: sX12_errors_298
noncomputable def sX12_errors_293 : List Nat := 180 :: 0 :: 77 :: sX12_errors_296
noncomputable def sX12_errors_292 : List Nat := 42 :: sX12_errors_293
noncomputable def sX12_errors_289 : List Nat := 162 :: 0 :: 15 :: sX12_errors_292
noncomputable def sX12_errors_288 : List Nat := 8 :: sX12_errors_289
noncomputable def sX12_errors_286 : List Nat := 21 :: 4 :: sX12_errors_288
noncomputable def sX12_errors_283 : List Nat := 164 :: 0 :: 51 :: sX12_errors_286
noncomputable def sX12_errors_282 : List Nat := 4 :: sX12_errors_283
noncomputable def sX12_errors_280 : List Nat := 21 :: 4 :: sX12_errors_282
noncomputable def sX12_errors_279 : List Nat := 172 :: sX12_errors_280
noncomputable def sX12_errors_277 : List Nat := 21 :: 5 :: sX12_errors_279
noncomputable def sX12_errors_274 : List Nat := 154 :: 0 :: 6 :: sX12_errors_277
noncomputable def sX12_errors_272 : List Nat := 21 :: 4 :: sX12_errors_274
noncomputable def sX12_errors_269 : List Nat := 167 :: 255 :: 77 :: sX12_errors_272
noncomputable def sX12_errors_266 : List Nat := 132 :: 6 :: 1 :: sX12_errors_269
noncomputable def sX12_errors_263 : List Nat := 167 :: 255 :: 180 :: sX12_errors_266
noncomputable def sX12_errors_260 : List Nat := 132 :: 9 :: 1 :: sX12_errors_263
noncomputable def sX12_errors_259 : List Nat := 79 :: sX12_errors_260
noncomputable def sX12_errors_258 : List Nat := 96 :: sX12_errors_259
noncomputable def sX12_errors_257 : List Nat := 108 :: sX12_errors_258
noncomputable def sX12_errors_255 : List Nat := 21 :: 8 :: sX12_errors_257
noncomputable def sX12_errors_253 : List Nat := 16 :: 6 :: sX12_errors_255
noncomputable def sX12_errors_252 : List Nat := 46 :: sX12_errors_253
noncomputable def sX12_errors_251 : List Nat := 92 :: sX12_errors_252
noncomputable def sX12_errors_249 : List Nat := 21 :: 9 :: sX12_errors_251
noncomputable def sX12_errors_246 : List Nat := 180 :: 0 :: 83 :: sX12_errors_249
noncomputable def sX12_errors_245 : List Nat := 42 :: sX12_errors_246
noncomputable def sX12_errors_244 : List Nat := 79 :: sX12_errors_245
noncomputable def sX12_errors_243 : List Nat := 96 :: sX12_errors_244
noncomputable def sX12_errors_242 : List Nat := 3 :: sX12_errors_243
noncomputable def sX12_errors_239 : List Nat := 167 :: 0 :: 4 :: sX12_errors_242
noncomputable def sX12_errors_238 : List Nat := 4 :: sX12_errors_239
noncomputable def sX12_errors_235 : List Nat := 160 :: 0 :: 7 :: sX12_errors_238
noncomputable def sX12_errors_234 : List Nat := 4 :: sX12_errors_235
noncomputable def sX12_errors_232 : List Nat := 21 :: 8 :: sX12_errors_234
noncomputable def sX12_errors_231 : List Nat := 46 :: sX12_errors_232
noncomputable def sX12_errors_230 : List Nat := 92 :: sX12_errors_231
noncomputable def sX12_errors_228 : List Nat := 21 :: 9 :: sX12_errors_230
noncomputable def sX12_errors_225 : List Nat := 180 :: 0 :: 80 :: sX12_errors_228
noncomputable def sX12_errors_224 : List Nat := 42 :: sX12_errors_225
noncomputable def sX12_errors_223 : List Nat := 79 :: sX12_errors_224
noncomputable def sX12_errors_222 : List Nat := 96 :: sX12_errors_223
noncomputable def sX12_errors_221 : List Nat := 4 :: sX12_errors_222
noncomputable def sX12_errors_220 : List Nat := 46 :: sX12_errors_221
noncomputable def sX12_errors_219 : List Nat := 92 :: sX12_errors_220
noncomputable def sX12_errors_217 : List Nat := 21 :: 9 :: sX12_errors_219
noncomputable def sX12_errors_214 : List Nat := 180 :: 0 :: 77 :: sX12_errors_217
noncomputable def sX12_errors_213 : List Nat := 42 :: sX12_errors_214
noncomputable def sX12_errors_210 : List Nat := 167 :: 0 :: 50 :: sX12_errors_213
noncomputable def sX12_errors_207 : List Nat := 159 :: 0 :: 6 :: sX12_errors_210
noncomputable def sX12_errors_205 : List Nat := 21 :: 7 :: sX12_errors_207
noncomputable def sX12_errors_204 : List Nat := 108 :: sX12_errors_205
noncomputable def sX12_errors_202 : List Nat := 16 :: 60 :: sX12_errors_204
noncomputable def sX12_errors_199 : List Nat := 182 :: 1 :: 18 :: sX12_errors_202
noncomputable def sX12_errors_198 : List Nat := 29 :: sX12_errors_199
noncomputable def sX12_errors_196 : List Nat := 21 :: 6 :: sX12_errors_198
noncomputable def sX12_errors_194 : List Nat := 21 :: 9 :: sX12_errors_196
noncomputable def sX12_errors_193 : List Nat := 42 :: sX12_errors_194
noncomputable def sX12_errors_190 : List Nat := 162 :: 0 :: 76 :: sX12_errors_193
noncomputable def sX12_errors_189 : List Nat := 7 :: sX12_errors_190
noncomputable def sX12_errors_187 : List Nat := 21 :: 9 :: sX12_errors_189
noncomputable def sX12_errors_185 : List Nat := 54 :: 9 :: sX12_errors_187
noncomputable def sX12_errors_184 : List Nat := 4 :: sX12_errors_185
noncomputable def sX12_errors_181 : List Nat := 167 :: 255 :: 220 :: sX12_errors_184
noncomputable def sX12_errors_178 : List Nat := 132 :: 9 :: 1 :: sX12_errors_181
noncomputable def sX12_errors_176 : List Nat := 54 :: 8 :: sX12_errors_178
noncomputable def sX12_errors_175 : List Nat := 96 :: sX12_errors_176
noncomputable def sX12_errors_174 : List Nat := 3 :: sX12_errors_175
noncomputable def sX12_errors_171 : List Nat := 167 :: 0 :: 4 :: sX12_errors_174
noncomputable def sX12_errors_170 : List Nat := 4 :: sX12_errors_171
noncomputable def sX12_errors_167 : List Nat := 160 :: 0 :: 7 :: sX12_errors_170
noncomputable def sX12_errors_165 : List Nat := 21 :: 7 :: sX12_errors_167
noncomputable def sX12_errors_164 : List Nat := 108 :: sX12_errors_165
noncomputable def sX12_errors_162 : List Nat := 16 :: 60 :: sX12_errors_164
noncomputable def sX12_errors_159 : List Nat := 182 :: 1 :: 18 :: sX12_errors_162
noncomputable def sX12_errors_158 : List Nat := 29 :: sX12_errors_159
noncomputable def sX12_errors_156 : List Nat := 21 :: 6 :: sX12_errors_158
noncomputable def sX12_errors_154 : List Nat := 21 :: 9 :: sX12_errors_156
noncomputable def sX12_errors_153 : List Nat := 42 :: sX12_errors_154
noncomputable def sX12_errors_151 : List Nat := 21 :: 8 :: sX12_errors_153
noncomputable def sX12_errors_148 : List Nat := 162 :: 0 :: 36 :: sX12_errors_151
noncomputable def sX12_errors_147 : List Nat := 7 :: sX12_errors_148
noncomputable def sX12_errors_145 : List Nat := 21 :: 9 :: sX12_errors_147
noncomputable def sX12_errors_143 : List Nat := 54 :: 9 :: sX12_errors_145
noncomputable def sX12_errors_142 : List Nat := 4 :: sX12_errors_143
noncomputable def sX12_errors_140 : List Nat := 54 :: 8 :: sX12_errors_142
noncomputable def sX12_errors_139 : List Nat := 3 :: sX12_errors_140
noncomputable def sX12_errors_136 : List Nat := 132 :: 5 :: 1 :: sX12_errors_139
noncomputable def sX12_errors_133 : List Nat := 167 :: 0 :: 133 :: sX12_errors_136
noncomputable def sX12_errors_130 : List Nat := 160 :: 0 :: 6 :: sX12_errors_133
noncomputable def sX12_errors_128 : List Nat := 21 :: 7 :: sX12_errors_130
noncomputable def sX12_errors_127 : List Nat := 108 :: sX12_errors_128
noncomputable def sX12_errors_125 : List Nat := 16 :: 60 :: sX12_errors_127
noncomputable def sX12_errors_122 : List Nat := 182 :: 1 :: 18 :: sX12_errors_125
noncomputable def sX12_errors_121 : List Nat := 29 :: sX12_errors_122
noncomputable def sX12_errors_119 : List Nat := 21 :: 6 :: sX12_errors_121
noncomputable def sX12_errors_118 : List Nat := 3 :: sX12_errors_119
noncomputable def sX12_errors_117 : List Nat := 42 :: sX12_errors_118
noncomputable def sX12_errors_114 : List Nat := 159 :: 0 :: 152 :: sX12_errors_117
noncomputable def sX12_errors_113 : List Nat := 2 :: sX12_errors_114
noncomputable def sX12_errors_111 : List Nat := 21 :: 7 :: sX12_errors_113
noncomputable def sX12_errors_109 : List Nat := 54 :: 7 :: sX12_errors_111
noncomputable def sX12_errors_106 : List Nat := 182 :: 0 :: 254 :: sX12_errors_109
noncomputable def sX12_errors_104 : List Nat := 21 :: 6 :: sX12_errors_106
noncomputable def sX12_errors_103 : List Nat := 96 :: sX12_errors_104
noncomputable def sX12_errors_102 : List Nat := 28 :: sX12_errors_103
noncomputable def sX12_errors_101 : List Nat := 104 :: sX12_errors_102
noncomputable def sX12_errors_100 : List Nat := 27 :: sX12_errors_101
noncomputable def sX12_errors_98 : List Nat := 16 :: 20 :: sX12_errors_100
noncomputable def sX12_errors_97 : List Nat := 42 :: sX12_errors_98
noncomputable def sX12_errors_94 : List Nat := 162 :: 0 :: 178 :: sX12_errors_97
noncomputable def sX12_errors_92 : List Nat := 16 :: 7 :: sX12_errors_94
noncomputable def sX12_errors_90 : List Nat := 21 :: 6 :: sX12_errors_92
noncomputable def sX12_errors_88 : List Nat := 54 :: 6 :: sX12_errors_90
noncomputable def sX12_errors_87 : List Nat := 3 :: sX12_errors_88
noncomputable def sX12_errors_84 : List Nat := 167 :: 255 :: 223 :: sX12_errors_87
noncomputable def sX12_errors_81 : List Nat := 132 :: 6 :: 1 :: sX12_errors_84
noncomputable def sX12_errors_80 : List Nat := 79 :: sX12_errors_81
noncomputable def sX12_errors_79 : List Nat := 3 :: sX12_errors_80
noncomputable def sX12_errors_77 : List Nat := 21 :: 6 :: sX12_errors_79
noncomputable def sX12_errors_74 : List Nat := 180 :: 0 :: 83 :: sX12_errors_77
noncomputable def sX12_errors_73 : List Nat := 42 :: sX12_errors_74
noncomputable def sX12_errors_72 : List Nat := 79 :: sX12_errors_73
noncomputable def sX12_errors_71 : List Nat := 3 :: sX12_errors_72
noncomputable def sX12_errors_69 : List Nat := 21 :: 6 :: sX12_errors_71
noncomputable def sX12_errors_66 : List Nat := 180 :: 0 :: 80 :: sX12_errors_69
noncomputable def sX12_errors_65 : List Nat := 42 :: sX12_errors_66
noncomputable def sX12_errors_64 : List Nat := 79 :: sX12_errors_65
noncomputable def sX12_errors_63 : List Nat := 3 :: sX12_errors_64
noncomputable def sX12_errors_61 : List Nat := 21 :: 6 :: sX12_errors_63
noncomputable def sX12_errors_58 : List Nat := 180 :: 0 :: 77 :: sX12_errors_61
noncomputable def sX12_errors_57 : List Nat := 42 :: sX12_errors_58
noncomputable def sX12_errors_54 : List Nat := 162 :: 0 :: 33 :: sX12_errors_57
noncomputable def sX12_errors_53 : List Nat := 7 :: sX12_errors_54
noncomputable def sX12_errors_51 : List Nat := 21 :: 6 :: sX12_errors_53
noncomputable def sX12_errors_49 : List Nat := 54 :: 6 :: sX12_errors_51
noncomputable def sX12_errors_48 : List Nat := 4 :: sX12_errors_49
noncomputable def sX12_errors_46 : List Nat := 54 :: 5 :: sX12_errors_48
noncomputable def sX12_errors_45 : List Nat := 3 :: sX12_errors_46
noncomputable def sX12_errors_44 : List Nat := 172 :: sX12_errors_45
noncomputable def sX12_errors_43 : List Nat := 3 :: sX12_errors_44
noncomputable def sX12_errors_40 : List Nat := 154 :: 0 :: 5 :: sX12_errors_43
noncomputable def sX12_errors_37 : List Nat := 182 :: 0 :: 209 :: sX12_errors_40
noncomputable def sX12_errors_36 : List Nat := 4 :: sX12_errors_37
noncomputable def sX12_errors_35 : List Nat := 3 :: sX12_errors_36
noncomputable def sX12_errors_32 : List Nat := 167 :: 0 :: 4 :: sX12_errors_35
noncomputable def sX12_errors_31 : List Nat := 4 :: sX12_errors_32
noncomputable def sX12_errors_28 : List Nat := 153 :: 0 :: 7 :: sX12_errors_31
noncomputable def sX12_errors_25 : List Nat := 184 :: 1 :: 14 :: sX12_errors_28
noncomputable def sX12_errors_23 : List Nat := 16 :: 10 :: sX12_errors_25
noncomputable def sX12_errors_22 : List Nat := 3 :: sX12_errors_23
noncomputable def sX12_errors_20 : List Nat := 21 :: 4 :: sX12_errors_22
noncomputable def sX12_errors_17 : List Nat := 153 :: 0 :: 18 :: sX12_errors_20
noncomputable def sX12_errors_14 : List Nat := 184 :: 1 :: 14 :: sX12_errors_17
noncomputable def sX12_errors_12 : List Nat := 18 :: 218 :: sX12_errors_14
noncomputable def sX12_errors_11 : List Nat := 3 :: sX12_errors_12
noncomputable def sX12_errors_10 : List Nat := 29 :: sX12_errors_11
noncomputable def sX12_errors_9 : List Nat := 42 :: sX12_errors_10
noncomputable def sX12_errors_6 : List Nat := 153 :: 0 :: 37 :: sX12_errors_9
noncomputable def sX12_errors_3 : List Nat := 182 :: 0 :: 247 :: sX12_errors_6
noncomputable def sX12_errors_2 : List Nat := 28 :: sX12_errors_3
noncomputable def sX12_errors_1 : List Nat := 27 :: sX12_errors_2
noncomputable def sX12_errors_0 : List Nat := 42 :: sX12_errors_1
theorem aX12_errors_0 : dc_at cX12_errors 0 sX12_errors_0 := dc_base (by decide +kernel)
theorem aX12_errors_1 : dc_at cX12_errors 1 sX12_errors_1 := dc_n1 aX12_errors_0
theorem aX12_errors_2 : dc_at cX12_errors 2 sX12_errors_2 := dc_n1 aX12_errors_1
theorem aX12_errors_3 : dc_at cX12_errors 3 sX12_errors_3 := dc_n1 aX12_errors_2
theorem aX12_errors_6 : dc_at cX12_errors 6 sX12_errors_6 := dc_n3 aX12_errors_3
theorem aX12_errors_9 : dc_at cX12_errors 9 sX12_errors_9 := dc_n3 aX12_errors_6
theorem aX12_errors_10 : dc_at cX12_errors 10 sX12_errors_10 := dc_n1 aX12_errors_9
theorem aX12_errors_11 : dc_at cX12_errors 11 sX12_errors_11 := dc_n1 aX12_errors_10
theorem aX12_errors_12 : dc_at cX12_errors 12 sX12_errors_12 := dc_n1 aX12_errors_11
theorem aX12_errors_14 : dc_at cX12_errors 14 sX12_errors_14 := dc_n2 aX12_errors_12
theorem aX12_errors_17 : dc_at cX12_errors 17 sX12_errors_17 := dc_n3 aX12_errors_14
theorem aX12_errors_20 : dc_at cX12_errors 20 sX12_errors_20 := dc_n3 aX12_errors_17
theorem aX12_errors_22 : dc_at cX12_errors 22 sX12_errors_22 := dc_n2 aX12_errors_20
theorem aX12_errors_23 : dc_at cX12_errors 23 sX12_errors_23 := dc_n1 aX12_errors_22
theorem aX12_errors_25 : dc_at cX12_errors 25 sX12_errors_25 := dc_n2 aX12_errors_23
theorem aX12_errors_28 : dc_at cX12_errors 28 sX12_errors_28 := dc_n3 aX12_errors_25
theorem aX12_errors_31 : dc_at cX12_errors 31 sX12_errors_31 := dc_n3 aX12_errors_28
theorem aX12_errors_32 : dc_at cX12_errors 32 sX12_errors_32 := dc_n1 aX12_errors_31
theorem aX12_errors_35 : dc_at cX12_errors 35 sX12_errors_35 := dc_n3 aX12_errors_32
theorem aX12_errors_36 : dc_at cX12_errors 36 sX12_errors_36 := dc_n1 aX12_errors_35
theorem aX12_errors_37 : dc_at cX12_errors 37 sX12_errors_37 := dc_n1 aX12_errors_36
theorem aX12_errors_40 : dc_at cX12_errors 40 sX12_errors_40 := dc_n3 aX12_errors_37
theorem aX12_errors_43 : dc_at cX12_errors 43 sX12_errors_43 := dc_n3 aX12_errors_40
theorem aX12_errors_44 : dc_at cX12_errors 44 sX12_errors_44 := dc_n1 aX12_errors_43
theorem aX12_errors_45 : dc_at cX12_errors 45 sX12_errors_45 := dc_n1 aX12_errors_44
theorem aX12_errors_46 : dc_at cX12_errors 46 sX12_errors_46 := dc_n1 aX12_errors_45
theorem aX12_errors_48 : dc_at cX12_errors 48 sX12_errors_48 := dc_n2 aX12_errors_46
theorem aX12_errors_49 : dc_at cX12_errors 49 sX12_errors_49 := dc_n1 aX12_errors_48
theorem aX12_errors_51 : dc_at cX12_errors 51 sX12_errors_51 := dc_n2 aX12_errors_49
theorem aX12_errors_53 : dc_at cX12_errors 53 sX12_errors_53 := dc_n2 aX12_errors_51
theorem aX12_errors_54 : dc_at cX12_errors 54 sX12_errors_54 := dc_n1 aX12_errors_53
theorem aX12_errors_57 : dc_at cX12_errors 57 sX12_errors_57 := dc_n3 aX12_errors_54
theorem aX12_errors_58 : dc_at cX12_errors 58 sX12_errors_58 := dc_n1 aX12_errors_57
theorem aX12_errors_61 : dc_at cX12_errors 61 sX12_errors_61 := dc_n3 aX12_errors_58
theorem aX12_errors_63 : dc_at cX12_errors 63 sX12_errors_63 := dc_n2 aX12_errors_61
theorem aX12_errors_64 : dc_at cX12_errors 64 sX12_errors_64 := dc_n1 aX12_errors_63
theorem aX12_errors_65 : dc_at cX12_errors 65 sX12_errors_65 := dc_n1 aX12_errors_64
theorem aX12_errors_66 : dc_at cX12_errors 66 sX12_errors_66 := dc_n1 aX12_errors_65
theorem aX12_errors_69 : dc_at cX12_errors 69 sX12_errors_69 := dc_n3 aX12_errors_66
theorem aX12_errors_71 : dc_at cX12_errors 71 sX12_errors_71 := dc_n2 aX12_errors_69
theorem aX12_errors_72 : dc_at cX12_errors 72 sX12_errors_72 := dc_n1 aX12_errors_71
theorem aX12_errors_73 : dc_at cX12_errors 73 sX12_errors_73 := dc_n1 aX12_errors_72
theorem aX12_errors_74 : dc_at cX12_errors 74 sX12_errors_74 := dc_n1 aX12_errors_73
theorem aX12_errors_77 : dc_at cX12_errors 77 sX12_errors_77 := dc_n3 aX12_errors_74
theorem aX12_errors_79 : dc_at cX12_errors 79 sX12_errors_79 := dc_n2 aX12_errors_77
theorem aX12_errors_80 : dc_at cX12_errors 80 sX12_errors_80 := dc_n1 aX12_errors_79
theorem aX12_errors_81 : dc_at cX12_errors 81 sX12_errors_81 := dc_n1 aX12_errors_80
theorem aX12_errors_84 : dc_at cX12_errors 84 sX12_errors_84 := dc_n3 aX12_errors_81
theorem aX12_errors_87 : dc_at cX12_errors 87 sX12_errors_87 := dc_n3 aX12_errors_84
theorem aX12_errors_88 : dc_at cX12_errors 88 sX12_errors_88 := dc_n1 aX12_errors_87
theorem aX12_errors_90 : dc_at cX12_errors 90 sX12_errors_90 := dc_n2 aX12_errors_88
theorem aX12_errors_92 : dc_at cX12_errors 92 sX12_errors_92 := dc_n2 aX12_errors_90
theorem aX12_errors_94 : dc_at cX12_errors 94 sX12_errors_94 := dc_n2 aX12_errors_92
theorem aX12_errors_97 : dc_at cX12_errors 97 sX12_errors_97 := dc_n3 aX12_errors_94
theorem aX12_errors_98 : dc_at cX12_errors 98 sX12_errors_98 := dc_n1 aX12_errors_97
theorem aX12_errors_100 : dc_at cX12_errors 100 sX12_errors_100 := dc_n2 aX12_errors_98
theorem aX12_errors_101 : dc_at cX12_errors 101 sX12_errors_101 := dc_n1 aX12_errors_100
theorem aX12_errors_102 : dc_at cX12_errors 102 sX12_errors_102 := dc_n1 aX12_errors_101
theorem aX12_errors_103 : dc_at cX12_errors 103 sX12_errors_103 := dc_n1 aX12_errors_102
theorem aX12_errors_104 : dc_at cX12_errors 104 sX12_errors_104 := dc_n1 aX12_errors_103
theorem aX12_errors_106 : dc_at cX12_errors 106 sX12_errors_106 := dc_n2 aX12_errors_104
theorem aX12_errors_109 : dc_at cX12_errors 109 sX12_errors_109 := dc_n3 aX12_errors_106
theorem aX12_errors_111 : dc_at cX12_errors 111 sX12_errors_111 := dc_n2 aX12_errors_109
theorem aX12_errors_113 : dc_at cX12_errors 113 sX12_errors_113 := dc_n2 aX12_errors_111
theorem aX12_errors_114 : dc_at cX12_errors 114 sX12_errors_114 := dc_n1 aX12_errors_113
theorem aX12_errors_117 : dc_at cX12_errors 117 sX12_errors_117 := dc_n3 aX12_errors_114
theorem aX12_errors_118 : dc_at cX12_errors 118 sX12_errors_118 := dc_n1 aX12_errors_117
theorem aX12_errors_119 : dc_at cX12_errors 119 sX12_errors_119 := dc_n1 aX12_errors_118
theorem aX12_errors_121 : dc_at cX12_errors 121 sX12_errors_121 := dc_n2 aX12_errors_119
theorem aX12_errors_122 : dc_at cX12_errors 122 sX12_errors_122 := dc_n1 aX12_errors_121
theorem aX12_errors_125 : dc_at cX12_errors 125 sX12_errors_125 := dc_n3 aX12_errors_122
theorem aX12_errors_127 : dc_at cX12_errors 127 sX12_errors_127 := dc_n2 aX12_errors_125
theorem aX12_errors_128 : dc_at cX12_errors 128 sX12_errors_128 := dc_n1 aX12_errors_127
theorem aX12_errors_130 : dc_at cX12_errors 130 sX12_errors_130 := dc_n2 aX12_errors_128
theorem aX12_errors_133 : dc_at cX12_errors 133 sX12_errors_133 := dc_n3 aX12_errors_130
theorem aX12_errors_136 : dc_at cX12_errors 136 sX12_errors_136 := dc_n3 aX12_errors_133
theorem aX12_errors_139 : dc_at cX12_errors 139 sX12_errors_139 := dc_n3 aX12_errors_136
theorem aX12_errors_140 : dc_at cX12_errors 140 sX12_errors_140 := dc_n1 aX12_errors_139
theorem aX12_errors_142 : dc_at cX12_errors 142 sX12_errors_142 := dc_n2 aX12_errors_140
theorem aX12_errors_143 : dc_at cX12_errors 143 sX12_errors_143 := dc_n1 aX12_errors_142
theorem aX12_errors_145 : dc_at cX12_errors 145 sX12_errors_145 := dc_n2 aX12_errors_143
theorem aX12_errors_147 : dc_at cX12_errors 147 sX12_errors_147 := dc_n2 aX12_errors_145
theorem aX12_errors_148 : dc_at cX12_errors 148 sX12_errors_148 := dc_n1 aX12_errors_147
theorem aX12_errors_151 : dc_at cX12_errors 151 sX12_errors_151 := dc_n3 aX12_errors_148
theorem aX12_errors_153 : dc_at cX12_errors 153 sX12_errors_153 := dc_n2 aX12_errors_151
theorem aX12_errors_154 : dc_at cX12_errors 154 sX12_errors_154 := dc_n1 aX12_errors_153
theorem aX12_errors_156 : dc_at cX12_errors 156 sX12_errors_156 := dc_n2 aX12_errors_154
theorem aX12_errors_158 : dc_at cX12_errors 158 sX12_errors_158 := dc_n2 aX12_errors_156
theorem aX12_errors_159 : dc_at cX12_errors 159 sX12_errors_159 := dc_n1 aX12_errors_158
theorem aX12_errors_162 : dc_at cX12_errors 162 sX12_errors_162 := dc_n3 aX12_errors_159
theorem aX12_errors_164 : dc_at cX12_errors 164 sX12_errors_164 := dc_n2 aX12_errors_162
theorem aX12_errors_165 : dc_at cX12_errors 165 sX12_errors_165 := dc_n1 aX12_errors_164
theorem aX12_errors_167 : dc_at cX12_errors 167 sX12_errors_167 := dc_n2 aX12_errors_165
theorem aX12_errors_170 : dc_at cX12_errors 170 sX12_errors_170 := dc_n3 aX12_errors_167
theorem aX12_errors_171 : dc_at cX12_errors 171 sX12_errors_171 := dc_n1 aX12_errors_170
theorem aX12_errors_174 : dc_at cX12_errors 174 sX12_errors_174 := dc_n3 aX12_errors_171
theorem aX12_errors_175 : dc_at cX12_errors 175 sX12_errors_175 := dc_n1 aX12_errors_174
theorem aX12_errors_176 : dc_at cX12_errors 176 sX12_errors_176 := dc_n1 aX12_errors_175
theorem aX12_errors_178 : dc_at cX12_errors 178 sX12_errors_178 := dc_n2 aX12_errors_176
theorem aX12_errors_181 : dc_at cX12_errors 181 sX12_errors_181 := dc_n3 aX12_errors_178
theorem aX12_errors_184 : dc_at cX12_errors 184 sX12_errors_184 := dc_n3 aX12_errors_181
theorem aX12_errors_185 : dc_at cX12_errors 185 sX12_errors_185 := dc_n1 aX12_errors_184
theorem aX12_errors_187 : dc_at cX12_errors 187 sX12_errors_187 := dc_n2 aX12_errors_185
theorem aX12_errors_189 : dc_at cX12_errors 189 sX12_errors_189 := dc_n2 aX12_errors_187
theorem aX12_errors_190 : dc_at cX12_errors 190 sX12_errors_190 := dc_n1 aX12_errors_189
theorem aX12_errors_193 : dc_at cX12_errors 193 sX12_errors_193 := dc_n3 aX12_errors_190
theorem aX12_errors_194 : dc_at cX12_errors 194 sX12_errors_194 := dc_n1 aX12_errors_193
theorem aX12_errors_196 : dc_at cX12_errors 196 sX12_errors_196 := dc_n2 aX12_errors_194
theorem aX12_errors_198 : dc_at cX12_errors 198 sX12_errors_198 := dc_n2 aX12_errors_196
theorem aX12_errors_199 : dc_at cX12_errors 199 sX12_errors_199 := dc_n1 aX12_errors_198
theorem aX12_errors_202 : dc_at cX12_errors 202 sX12_errors_202 := dc_n3 aX12_errors_199
theorem aX12_errors_204 : dc_at cX12_errors 204 sX12_errors_204 := dc_n2 aX12_errors_202
theorem aX12_errors_205 : dc_at cX12_errors 205 sX12_errors_205 := dc_n1 aX12_errors_204
theorem aX12_errors_207 : dc_at cX12_errors 207 sX12_errors_207 := dc_n2 aX12_errors_205
theorem aX12_errors_210 : dc_at cX12_errors 210 sX12_errors_210 := dc_n3 aX12_errors_207
theorem aX12_errors_213 : dc_at cX12_errors 213 sX12_errors_213 := dc_n3 aX12_errors_210
theorem aX12_errors_214 : dc_at cX12_errors 214 sX12_errors_214 := dc_n1 aX12_errors_213
theorem aX12_errors_217 : dc_at cX12_errors 217 sX12_errors_217 := dc_n3 aX12_errors_214
theorem aX12_errors_219 : dc_at cX12_errors 219 sX12_errors_219 := dc_n2 aX12_errors_217
theorem aX12_errors_220 : dc_at cX12_errors 220 sX12_errors_220 := dc_n1 aX12_errors_219
theorem aX12_errors_221 : dc_at cX12_errors 221 sX12_errors_221 := dc_n1 aX12_errors_220
theorem aX12_errors_222 : dc_at cX12_errors 222 sX12_errors_222 := dc_n1 aX12_errors_221
theorem aX12_errors_223 : dc_at cX12_errors 223 sX12_errors_223 := dc_n1 aX12_errors_222
theorem aX12_errors_224 : dc_at cX12_errors 224 sX12_errors_224 := dc_n1 aX12_errors_223
theorem aX12_errors_225 : dc_at cX12_errors 225 sX12_errors_225 := dc_n1 aX12_errors_224
theorem aX12_errors_228 : dc_at cX12_errors 228 sX12_errors_228 := dc_n3 aX12_errors_225
theorem aX12_errors_230 : dc_at cX12_errors 230 sX12_errors_230 := dc_n2 aX12_errors_228
theorem aX12_errors_231 : dc_at cX12_errors 231 sX12_errors_231 := dc_n1 aX12_errors_230
theorem aX12_errors_232 : dc_at cX12_errors 232 sX12_errors_232 := dc_n1 aX12_errors_231
theorem aX12_errors_234 : dc_at cX12_errors 234 sX12_errors_234 := dc_n2 aX12_errors_232
theorem aX12_errors_235 : dc_at cX12_errors 235 sX12_errors_235 := dc_n1 aX12_errors_234
theorem aX12_errors_238 : dc_at cX12_errors 238 sX12_errors_238 := dc_n3 aX12_errors_235
theorem aX12_errors_239 : dc_at cX12_errors 239 sX12_errors_239 := dc_n1 aX12_errors_238
theorem aX12_errors_242 : dc_at cX12_errors 242 sX12_errors_242 := dc_n3 aX12_errors_239
theorem aX12_errors_243 : dc_at cX12_errors 243 sX12_errors_243 := dc_n1 aX12_errors_242
theorem aX12_errors_244 : dc_at cX12_errors 244 sX12_errors_244 := dc_n1 aX12_errors_243
theorem aX12_errors_245 : dc_at cX12_errors 245 sX12_errors_245 := dc_n1 aX12_errors_244
theorem aX12_errors_246 : dc_at cX12_errors 246 sX12_errors_246 := dc_n1 aX12_errors_245
theorem aX12_errors_249 : dc_at cX12_errors 249 sX12_errors_249 := dc_n3 aX12_errors_246
theorem aX12_errors_251 : dc_at cX12_errors 251 sX12_errors_251 := dc_n2 aX12_errors_249
theorem aX12_errors_252 : dc_at cX12_errors 252 sX12_errors_252 := dc_n1 aX12_errors_251
theorem aX12_errors_253 : dc_at cX12_errors 253 sX12_errors_253 := dc_n1 aX12_errors_252
theorem aX12_errors_255 : dc_at cX12_errors 255 sX12_errors_255 := dc_n2 aX12_errors_253
theorem aX12_errors_257 : dc_at cX12_errors 257 sX12_errors_257 := dc_n2 aX12_errors_255
theorem aX12_errors_258 : dc_at cX12_errors 258 sX12_errors_258 := dc_n1 aX12_errors_257
theorem aX12_errors_259 : dc_at cX12_errors 259 sX12_errors_259 := dc_n1 aX12_errors_258
theorem aX12_errors_260 : dc_at cX12_errors 260 sX12_errors_260 := dc_n1 aX12_errors_259
theorem aX12_errors_263 : dc_at cX12_errors 263 sX12_errors_263 := dc_n3 aX12_errors_260
theorem aX12_errors_266 : dc_at cX12_errors 266 sX12_errors_266 := dc_n3 aX12_errors_263
theorem aX12_errors_269 : dc_at cX12_errors 269 sX12_errors_269 := dc_n3 aX12_errors_266
theorem aX12_errors_272 : dc_at cX12_errors 272 sX12_errors_272 := dc_n3 aX12_errors_269
theorem aX12_errors_274 : dc_at cX12_errors 274 sX12_errors_274 := dc_n2 aX12_errors_272
theorem aX12_errors_277 : dc_at cX12_errors 277 sX12_errors_277 := dc_n3 aX12_errors_274
theorem aX12_errors_279 : dc_at cX12_errors 279 sX12_errors_279 := dc_n2 aX12_errors_277
theorem aX12_errors_280 : dc_at cX12_errors 280 sX12_errors_280 := dc_n1 aX12_errors_279
theorem aX12_errors_282 : dc_at cX12_errors 282 sX12_errors_282 := dc_n2 aX12_errors_280
theorem aX12_errors_283 : dc_at cX12_errors 283 sX12_errors_283 := dc_n1 aX12_errors_282
theorem aX12_errors_286 : dc_at cX12_errors 286 sX12_errors_286 := dc_n3 aX12_errors_283
theorem aX12_errors_288 : dc_at cX12_errors 288 sX12_errors_288 := dc_n2 aX12_errors_286
theorem aX12_errors_289 : dc_at cX12_errors 289 sX12_errors_289 := dc_n1 aX12_errors_288
theorem aX12_errors_292 : dc_at cX12_errors 292 sX12_errors_292 := dc_n3 aX12_errors_289
theorem aX12_errors_293 : dc_at cX12_errors 293 sX12_errors_293 := dc_n1 aX12_errors_292
theorem aX12_errors_296 : dc_at cX12_errors 296 sX12_errors_296 := dc_n3 aX12_errors_293
theorem aX12_errors_298 : dc_at cX12_errors 298 sX12_errors_298 := dc_n2 aX12_errors_296
theorem aX12_errors_299 : dc_at cX12_errors 299 sX12_errors_299 := dc_n1 aX12_errors_298
theorem aX12_errors_300 : dc_at cX12_errors 300 sX12_errors_300 := dc_n1 aX12_errors_299
theorem aX12_errors_301 : dc_at cX12_errors 301 sX12_errors_301 := dc_n1 aX12_errors_300
theorem aX12_errors_304 : dc_at cX12_errors 304 sX12_errors_304 := dc_n3 aX12_errors_301
theorem aX12_errors_306 : dc_at cX12_errors 306 sX12_errors_306 := dc_n2 aX12_errors_304
theorem aX12_errors_308 : dc_at cX12_errors 308 sX12_errors_308 := dc_n2 aX12_errors_306
theorem aX12_errors_311 : dc_at cX12_errors 311 sX12_errors_311 := dc_n3 aX12_errors_308
theorem aX12_errors_312 : dc_at cX12_errors 312 sX12_errors_312 := dc_n1 aX12_errors_311
theorem aX12_errors_315 : dc_at cX12_errors 315 sX12_errors_315 := dc_n3 aX12_errors_312
theorem aX12_errors_317 : dc_at cX12_errors 317 sX12_errors_317 := dc_n2 aX12_errors_315
theorem aX12_errors_318 : dc_at cX12_errors 318 sX12_errors_318 := dc_n1 aX12_errors_317
theorem aX12_errors_319 : dc_at cX12_errors 319 sX12_errors_319 := dc_n1 aX12_errors_318
theorem aX12_errors_320 : dc_at cX12_errors 320 sX12_errors_320 := dc_n1 aX12_errors_319
theorem aX12_errors_323 : dc_at cX12_errors 323 sX12_errors_323 := dc_n3 aX12_errors_320
theorem aX12_errors_324 : dc_at cX12_errors 324 sX12_errors_324 := dc_n1 aX12_errors_323
theorem aX12_errors_327 : dc_at cX12_errors 327 sX12_errors_327 := dc_n3 aX12_errors_324
theorem aX12_errors_329 : dc_at cX12_errors 329 sX12_errors_329 := dc_n2 aX12_errors_327
theorem aX12_errors_331 : dc_at cX12_errors 331 sX12_errors_331 := dc_n2 aX12_errors_329
theorem aX12_errors_332 : dc_at cX12_errors 332 sX12_errors_332 := dc_n1 aX12_errors_331
theorem aX12_errors_333 : dc_at cX12_errors 333 sX12_errors_333 := dc_n1 aX12_errors_332
theorem aX12_errors_334 : dc_at cX12_errors 334 sX12_errors_334 := dc_n1 aX12_errors_333
theorem aX12_errors_335 : dc_at cX12_errors 335 sX12_errors_335 := dc_n1 aX12_errors_334
theorem aX12_errors_337 : dc_at cX12_errors 337 sX12_errors_337 := dc_n2 aX12_errors_335
theorem aX12_errors_338 : dc_at cX12_errors 338 sX12_errors_338 := dc_n1 aX12_errors_337
theorem aX12_errors_340 : dc_at cX12_errors 340 sX12_errors_340 := dc_n2 aX12_errors_338
theorem aX12_errors_342 : dc_at cX12_errors 342 sX12_errors_342 := dc_n2 aX12_errors_340
theorem aX12_errors_343 : dc_at cX12_errors 343 sX12_errors_343 := dc_n1 aX12_errors_342
theorem aX12_errors_346 : dc_at cX12_errors 346 sX12_errors_346 := dc_n3 aX12_errors_343
theorem aX12_errors_347 : dc_at cX12_errors 347 sX12_errors_347 := dc_n1 aX12_errors_346
theorem aX12_errors_350 : dc_at cX12_errors 350 sX12_errors_350 := dc_n3 aX12_errors_347
theorem aX12_errors_352 : dc_at cX12_errors 352 sX12_errors_352 := dc_n2 aX12_errors_350
theorem aX12_errors_353 : dc_at cX12_errors 353 sX12_errors_353 := dc_n1 aX12_errors_352
theorem aX12_errors_354 : dc_at cX12_errors 354 sX12_errors_354 := dc_n1 aX12_errors_353
theorem aX12_errors_357 : dc_at cX12_errors 357 sX12_errors_357 := dc_n3 aX12_errors_354
theorem aX12_errors_359 : dc_at cX12_errors 359 sX12_errors_359 := dc_n2 aX12_errors_357
theorem aX12_errors_360 : dc_at cX12_errors 360 sX12_errors_360 := dc_n1 aX12_errors_359
theorem aX12_errors_363 : dc_at cX12_errors 363 sX12_errors_363 := dc_n3 aX12_errors_360
theorem aX12_errors_365 : dc_at cX12_errors 365 sX12_errors_365 := dc_n2 aX12_errors_363
theorem aX12_errors_368 : dc_at cX12_errors 368 sX12_errors_368 := dc_n3 aX12_errors_365
theorem aX12_errors_370 : dc_at cX12_errors 370 sX12_errors_370 := dc_n2 aX12_errors_368
theorem aX12_errors_372 : dc_at cX12_errors 372 sX12_errors_372 := dc_n2 aX12_errors_370
theorem aX12_errors_375 : dc_at cX12_errors 375 sX12_errors_375 := dc_n3 aX12_errors_372
theorem aX12_errors_378 : dc_at cX12_errors 378 sX12_errors_378 := dc_n3 aX12_errors_375
theorem aX12_errors_379 : dc_at cX12_errors 379 sX12_errors_379 := dc_n1 aX12_errors_378
theorem aX12_errors_382 : dc_at cX12_errors 382 sX12_errors_382 := dc_n3 aX12_errors_379
theorem aX12_errors_384 : dc_at cX12_errors 384 sX12_errors_384 := dc_n2 aX12_errors_382
theorem aX12_errors_385 : dc_at cX12_errors 385 sX12_errors_385 := dc_n1 aX12_errors_384
theorem aX12_errors_388 : dc_at cX12_errors 388 sX12_errors_388 := dc_n3 aX12_errors_385
theorem aX12_errors_389 : dc_at cX12_errors 389 sX12_errors_389 := dc_n1 aX12_errors_388
theorem aX12_errors_392 : dc_at cX12_errors 392 sX12_errors_392 := dc_n3 aX12_errors_389
theorem aX12_errors_394 : dc_at cX12_errors 394 sX12_errors_394 := dc_n2 aX12_errors_392
theorem dX12_errors_0 : decode cX12_errors 0 = .ok (.aload_n 0, 1) := dc_42 aX12_errors_0
theorem dX12_errors_1 : decode cX12_errors 1 = .ok (.iload_n 1, 1) := dc_27 aX12_errors_1
theorem dX12_errors_2 : decode cX12_errors 2 = .ok (.iload_n 2, 1) := dc_28 aX12_errors_2
theorem dX12_errors_3 : decode cX12_errors 3 = .ok (.invokevirtual 247, 3) := dc_182 (a0 := 0) (b0 := 247) aX12_errors_3
theorem dX12_errors_6 : decode cX12_errors 6 = .ok (.ifCond .eq 37, 3) := dc_153 (a0 := 0) (b0 := 37) aX12_errors_6 (by decide)
theorem dX12_errors_9 : decode cX12_errors 9 = .ok (.aload_n 0, 1) := dc_42 aX12_errors_9
theorem dX12_errors_10 : decode cX12_errors 10 = .ok (.iload_n 3, 1) := dc_29 aX12_errors_10
theorem dX12_errors_11 : decode cX12_errors 11 = .ok (.iconst 0, 1) := dc_3 aX12_errors_11
theorem dX12_errors_12 : decode cX12_errors 12 = .ok (.ldc 218, 2) := dc_18 (a0 := 218) aX12_errors_12
theorem dX12_errors_14 : decode cX12_errors 14 = .ok (.invokestatic 270, 3) := dc_184 (a0 := 1) (b0 := 14) aX12_errors_14
theorem dX12_errors_17 : decode cX12_errors 17 = .ok (.ifCond .eq 18, 3) := dc_153 (a0 := 0) (b0 := 18) aX12_errors_17 (by decide)
theorem dX12_errors_20 : decode cX12_errors 20 = .ok (.iload 4, 2) := dc_21 (a0 := 4) aX12_errors_20
theorem dX12_errors_22 : decode cX12_errors 22 = .ok (.iconst 0, 1) := dc_3 aX12_errors_22
theorem dX12_errors_23 : decode cX12_errors 23 = .ok (.bipush 10, 2) := dc_16 (a0 := 10) aX12_errors_23 (by decide)
theorem dX12_errors_25 : decode cX12_errors 25 = .ok (.invokestatic 270, 3) := dc_184 (a0 := 1) (b0 := 14) aX12_errors_25
theorem dX12_errors_28 : decode cX12_errors 28 = .ok (.ifCond .eq 7, 3) := dc_153 (a0 := 0) (b0 := 7) aX12_errors_28 (by decide)
theorem dX12_errors_31 : decode cX12_errors 31 = .ok (.iconst 1, 1) := dc_4 aX12_errors_31
theorem dX12_errors_32 : decode cX12_errors 32 = .ok (.goto 4, 3) := dc_167 (a0 := 0) (b0 := 4) aX12_errors_32 (by decide)
theorem dX12_errors_35 : decode cX12_errors 35 = .ok (.iconst 0, 1) := dc_3 aX12_errors_35
theorem dX12_errors_36 : decode cX12_errors 36 = .ok (.iconst 1, 1) := dc_4 aX12_errors_36
theorem dX12_errors_37 : decode cX12_errors 37 = .ok (.invokevirtual 209, 3) := dc_182 (a0 := 0) (b0 := 209) aX12_errors_37
theorem dX12_errors_40 : decode cX12_errors 40 = .ok (.ifCond .ne 5, 3) := dc_154 (a0 := 0) (b0 := 5) aX12_errors_40 (by decide)
theorem dX12_errors_43 : decode cX12_errors 43 = .ok (.iconst 0, 1) := dc_3 aX12_errors_43
theorem dX12_errors_44 : decode cX12_errors 44 = .ok (.ireturn, 1) := dc_172 aX12_errors_44
theorem dX12_errors_45 : decode cX12_errors 45 = .ok (.iconst 0, 1) := dc_3 aX12_errors_45
theorem dX12_errors_46 : decode cX12_errors 46 = .ok (.istore 5, 2) := dc_54 (a0 := 5) aX12_errors_46
theorem dX12_errors_48 : decode cX12_errors 48 = .ok (.iconst 1, 1) := dc_4 aX12_errors_48
theorem dX12_errors_49 : decode cX12_errors 49 = .ok (.istore 6, 2) := dc_54 (a0 := 6) aX12_errors_49
theorem dX12_errors_51 : decode cX12_errors 51 = .ok (.iload 6, 2) := dc_21 (a0 := 6) aX12_errors_51
theorem dX12_errors_53 : decode cX12_errors 53 = .ok (.iconst 4, 1) := dc_7 aX12_errors_53
theorem dX12_errors_54 : decode cX12_errors 54 = .ok (.if_icmp .ge 33, 3) := dc_162 (a0 := 0) (b0 := 33) aX12_errors_54 (by decide)
theorem dX12_errors_57 : decode cX12_errors 57 = .ok (.aload_n 0, 1) := dc_42 aX12_errors_57
theorem dX12_errors_58 : decode cX12_errors 58 = .ok (.getfield 77, 3) := dc_180 (a0 := 0) (b0 := 77) aX12_errors_58
theorem dX12_errors_61 : decode cX12_errors 61 = .ok (.iload 6, 2) := dc_21 (a0 := 6) aX12_errors_61
theorem dX12_errors_63 : decode cX12_errors 63 = .ok (.iconst 0, 1) := dc_3 aX12_errors_63
theorem dX12_errors_64 : decode cX12_errors 64 = .ok (.iastore, 1) := dc_79 aX12_errors_64
theorem dX12_errors_65 : decode cX12_errors 65 = .ok (.aload_n 0, 1) := dc_42 aX12_errors_65
theorem dX12_errors_66 : decode cX12_errors 66 = .ok (.getfield 80, 3) := dc_180 (a0 := 0) (b0 := 80) aX12_errors_66
theorem dX12_errors_69 : decode cX12_errors 69 = .ok (.iload 6, 2) := dc_21 (a0 := 6) aX12_errors_69
theorem dX12_errors_71 : decode cX12_errors 71 = .ok (.iconst 0, 1) := dc_3 aX12_errors_71
theorem dX12_errors_72 : decode cX12_errors 72 = .ok (.iastore, 1) := dc_79 aX12_errors_72
theorem dX12_errors_73 : decode cX12_errors 73 = .ok (.aload_n 0, 1) := dc_42 aX12_errors_73
theorem dX12_errors_74 : decode cX12_errors 74 = .ok (.getfield 83, 3) := dc_180 (a0 := 0) (b0 := 83) aX12_errors_74
theorem dX12_errors_77 : decode cX12_errors 77 = .ok (.iload 6, 2) := dc_21 (a0 := 6) aX12_errors_77
theorem dX12_errors_79 : decode cX12_errors 79 = .ok (.iconst 0, 1) := dc_3 aX12_errors_79
theorem dX12_errors_80 : decode cX12_errors 80 = .ok (.iastore, 1) := dc_79 aX12_errors_80
theorem dX12_errors_81 : decode cX12_errors 81 = .ok (.iinc 6 1, 3) := dc_132 (a0 := 6) (a1 := 1) aX12_errors_81 (by decide)
theorem dX12_errors_84 : decode cX12_errors 84 = .ok (.goto (-33), 3) := dc_167 (a0 := 255) (b0 := 223) aX12_errors_84 (by decide)
theorem dX12_errors_87 : decode cX12_errors 87 = .ok (.iconst 0, 1) := dc_3 aX12_errors_87
theorem dX12_errors_88 : decode cX12_errors 88 = .ok (.istore 6, 2) := dc_54 (a0 := 6) aX12_errors_88
theorem dX12_errors_90 : decode cX12_errors 90 = .ok (.iload 6, 2) := dc_21 (a0 := 6) aX12_errors_90
theorem dX12_errors_92 : decode cX12_errors 92 = .ok (.bipush 7, 2) := dc_16 (a0 := 7) aX12_errors_92 (by decide)
theorem dX12_errors_94 : decode cX12_errors 94 = .ok (.if_icmp .ge 178, 3) := dc_162 (a0 := 0) (b0 := 178) aX12_errors_94 (by decide)
theorem dX12_errors_97 : decode cX12_errors 97 = .ok (.aload_n 0, 1) := dc_42 aX12_errors_97
theorem dX12_errors_98 : decode cX12_errors 98 = .ok (.bipush 20, 2) := dc_16 (a0 := 20) aX12_errors_98 (by decide)
theorem dX12_errors_100 : decode cX12_errors 100 = .ok (.iload_n 1, 1) := dc_27 aX12_errors_100
theorem dX12_errors_101 : decode cX12_errors 101 = .ok (.imul, 1) := dc_104 aX12_errors_101
theorem dX12_errors_102 : decode cX12_errors 102 = .ok (.iload_n 2, 1) := dc_28 aX12_errors_102
theorem dX12_errors_103 : decode cX12_errors 103 = .ok (.iadd, 1) := dc_96 aX12_errors_103
theorem dX12_errors_104 : decode cX12_errors 104 = .ok (.iload 6, 2) := dc_21 (a0 := 6) aX12_errors_104
theorem dX12_errors_106 : decode cX12_errors 106 = .ok (.invokevirtual 254, 3) := dc_182 (a0 := 0) (b0 := 254) aX12_errors_106
theorem dX12_errors_109 : decode cX12_errors 109 = .ok (.istore 7, 2) := dc_54 (a0 := 7) aX12_errors_109
theorem dX12_errors_111 : decode cX12_errors 111 = .ok (.iload 7, 2) := dc_21 (a0 := 7) aX12_errors_111
theorem dX12_errors_113 : decode cX12_errors 113 = .ok (.iconst (-1), 1) := dc_2 aX12_errors_113
theorem dX12_errors_114 : decode cX12_errors 114 = .ok (.if_icmp .eq 152, 3) := dc_159 (a0 := 0) (b0 := 152) aX12_errors_114 (by decide)
theorem dX12_errors_117 : decode cX12_errors 117 = .ok (.aload_n 0, 1) := dc_42 aX12_errors_117
theorem dX12_errors_118 : decode cX12_errors 118 = .ok (.iconst 0, 1) := dc_3 aX12_errors_118
theorem dX12_errors_119 : decode cX12_errors 119 = .ok (.iload 6, 2) := dc_21 (a0 := 6) aX12_errors_119
theorem dX12_errors_121 : decode cX12_errors 121 = .ok (.iload_n 3, 1) := dc_29 aX12_errors_121
theorem dX12_errors_122 : decode cX12_errors 122 = .ok (.invokevirtual 274, 3) := dc_182 (a0 := 1) (b0 := 18) aX12_errors_122
theorem dX12_errors_125 : decode cX12_errors 125 = .ok (.bipush 60, 2) := dc_16 (a0 := 60) aX12_errors_125 (by decide)
theorem dX12_errors_127 : decode cX12_errors 127 = .ok (.idiv, 1) := dc_108 aX12_errors_127
theorem dX12_errors_128 : decode cX12_errors 128 = .ok (.iload 7, 2) := dc_21 (a0 := 7) aX12_errors_128
theorem dX12_errors_130 : decode cX12_errors 130 = .ok (.if_icmp .ne 6, 3) := dc_160 (a0 := 0) (b0 := 6) aX12_errors_130 (by decide)
theorem dX12_errors_133 : decode cX12_errors 133 = .ok (.goto 133, 3) := dc_167 (a0 := 0) (b0 := 133) aX12_errors_133 (by decide)
theorem dX12_errors_136 : decode cX12_errors 136 = .ok (.iinc 5 1, 3) := dc_132 (a0 := 5) (a1 := 1) aX12_errors_136 (by decide)
theorem dX12_errors_139 : decode cX12_errors 139 = .ok (.iconst 0, 1) := dc_3 aX12_errors_139
theorem dX12_errors_140 : decode cX12_errors 140 = .ok (.istore 8, 2) := dc_54 (a0 := 8) aX12_errors_140
theorem dX12_errors_142 : decode cX12_errors 142 = .ok (.iconst 1, 1) := dc_4 aX12_errors_142
theorem dX12_errors_143 : decode cX12_errors 143 = .ok (.istore 9, 2) := dc_54 (a0 := 9) aX12_errors_143
theorem dX12_errors_145 : decode cX12_errors 145 = .ok (.iload 9, 2) := dc_21 (a0 := 9) aX12_errors_145
theorem dX12_errors_147 : decode cX12_errors 147 = .ok (.iconst 4, 1) := dc_7 aX12_errors_147
theorem dX12_errors_148 : decode cX12_errors 148 = .ok (.if_icmp .ge 36, 3) := dc_162 (a0 := 0) (b0 := 36) aX12_errors_148 (by decide)
theorem dX12_errors_151 : decode cX12_errors 151 = .ok (.iload 8, 2) := dc_21 (a0 := 8) aX12_errors_151
theorem dX12_errors_153 : decode cX12_errors 153 = .ok (.aload_n 0, 1) := dc_42 aX12_errors_153
theorem dX12_errors_154 : decode cX12_errors 154 = .ok (.iload 9, 2) := dc_21 (a0 := 9) aX12_errors_154
theorem dX12_errors_156 : decode cX12_errors 156 = .ok (.iload 6, 2) := dc_21 (a0 := 6) aX12_errors_156
theorem dX12_errors_158 : decode cX12_errors 158 = .ok (.iload_n 3, 1) := dc_29 aX12_errors_158
theorem dX12_errors_159 : decode cX12_errors 159 = .ok (.invokevirtual 274, 3) := dc_182 (a0 := 1) (b0 := 18) aX12_errors_159
theorem dX12_errors_162 : decode cX12_errors 162 = .ok (.bipush 60, 2) := dc_16 (a0 := 60) aX12_errors_162 (by decide)
theorem dX12_errors_164 : decode cX12_errors 164 = .ok (.idiv, 1) := dc_108 aX12_errors_164
theorem dX12_errors_165 : decode cX12_errors 165 = .ok (.iload 7, 2) := dc_21 (a0 := 7) aX12_errors_165
theorem dX12_errors_167 : decode cX12_errors 167 = .ok (.if_icmp .ne 7, 3) := dc_160 (a0 := 0) (b0 := 7) aX12_errors_167 (by decide)
theorem dX12_errors_170 : decode cX12_errors 170 = .ok (.iconst 1, 1) := dc_4 aX12_errors_170
theorem dX12_errors_171 : decode cX12_errors 171 = .ok (.goto 4, 3) := dc_167 (a0 := 0) (b0 := 4) aX12_errors_171 (by decide)
theorem dX12_errors_174 : decode cX12_errors 174 = .ok (.iconst 0, 1) := dc_3 aX12_errors_174
theorem dX12_errors_175 : decode cX12_errors 175 = .ok (.iadd, 1) := dc_96 aX12_errors_175
theorem dX12_errors_176 : decode cX12_errors 176 = .ok (.istore 8, 2) := dc_54 (a0 := 8) aX12_errors_176
theorem dX12_errors_178 : decode cX12_errors 178 = .ok (.iinc 9 1, 3) := dc_132 (a0 := 9) (a1 := 1) aX12_errors_178 (by decide)
theorem dX12_errors_181 : decode cX12_errors 181 = .ok (.goto (-36), 3) := dc_167 (a0 := 255) (b0 := 220) aX12_errors_181 (by decide)
theorem dX12_errors_184 : decode cX12_errors 184 = .ok (.iconst 1, 1) := dc_4 aX12_errors_184
theorem dX12_errors_185 : decode cX12_errors 185 = .ok (.istore 9, 2) := dc_54 (a0 := 9) aX12_errors_185
theorem dX12_errors_187 : decode cX12_errors 187 = .ok (.iload 9, 2) := dc_21 (a0 := 9) aX12_errors_187
theorem dX12_errors_189 : decode cX12_errors 189 = .ok (.iconst 4, 1) := dc_7 aX12_errors_189
theorem dX12_errors_190 : decode cX12_errors 190 = .ok (.if_icmp .ge 76, 3) := dc_162 (a0 := 0) (b0 := 76) aX12_errors_190 (by decide)
theorem dX12_errors_193 : decode cX12_errors 193 = .ok (.aload_n 0, 1) := dc_42 aX12_errors_193
theorem dX12_errors_194 : decode cX12_errors 194 = .ok (.iload 9, 2) := dc_21 (a0 := 9) aX12_errors_194
theorem dX12_errors_196 : decode cX12_errors 196 = .ok (.iload 6, 2) := dc_21 (a0 := 6) aX12_errors_196
theorem dX12_errors_198 : decode cX12_errors 198 = .ok (.iload_n 3, 1) := dc_29 aX12_errors_198
theorem dX12_errors_199 : decode cX12_errors 199 = .ok (.invokevirtual 274, 3) := dc_182 (a0 := 1) (b0 := 18) aX12_errors_199
theorem dX12_errors_202 : decode cX12_errors 202 = .ok (.bipush 60, 2) := dc_16 (a0 := 60) aX12_errors_202 (by decide)
theorem dX12_errors_204 : decode cX12_errors 204 = .ok (.idiv, 1) := dc_108 aX12_errors_204
theorem dX12_errors_205 : decode cX12_errors 205 = .ok (.iload 7, 2) := dc_21 (a0 := 7) aX12_errors_205
theorem dX12_errors_207 : decode cX12_errors 207 = .ok (.if_icmp .eq 6, 3) := dc_159 (a0 := 0) (b0 := 6) aX12_errors_207 (by decide)
theorem dX12_errors_210 : decode cX12_errors 210 = .ok (.goto 50, 3) := dc_167 (a0 := 0) (b0 := 50) aX12_errors_210 (by decide)
theorem dX12_errors_213 : decode cX12_errors 213 = .ok (.aload_n 0, 1) := dc_42 aX12_errors_213
theorem dX12_errors_214 : decode cX12_errors 214 = .ok (.getfield 77, 3) := dc_180 (a0 := 0) (b0 := 77) aX12_errors_214
theorem dX12_errors_217 : decode cX12_errors 217 = .ok (.iload 9, 2) := dc_21 (a0 := 9) aX12_errors_217
theorem dX12_errors_219 : decode cX12_errors 219 = .ok (.dup2, 1) := dc_92 aX12_errors_219
theorem dX12_errors_220 : decode cX12_errors 220 = .ok (.iaload, 1) := dc_46 aX12_errors_220
theorem dX12_errors_221 : decode cX12_errors 221 = .ok (.iconst 1, 1) := dc_4 aX12_errors_221
theorem dX12_errors_222 : decode cX12_errors 222 = .ok (.iadd, 1) := dc_96 aX12_errors_222
theorem dX12_errors_223 : decode cX12_errors 223 = .ok (.iastore, 1) := dc_79 aX12_errors_223
theorem dX12_errors_224 : decode cX12_errors 224 = .ok (.aload_n 0, 1) := dc_42 aX12_errors_224
theorem dX12_errors_225 : decode cX12_errors 225 = .ok (.getfield 80, 3) := dc_180 (a0 := 0) (b0 := 80) aX12_errors_225
theorem dX12_errors_228 : decode cX12_errors 228 = .ok (.iload 9, 2) := dc_21 (a0 := 9) aX12_errors_228
theorem dX12_errors_230 : decode cX12_errors 230 = .ok (.dup2, 1) := dc_92 aX12_errors_230
theorem dX12_errors_231 : decode cX12_errors 231 = .ok (.iaload, 1) := dc_46 aX12_errors_231
theorem dX12_errors_232 : decode cX12_errors 232 = .ok (.iload 8, 2) := dc_21 (a0 := 8) aX12_errors_232
theorem dX12_errors_234 : decode cX12_errors 234 = .ok (.iconst 1, 1) := dc_4 aX12_errors_234
theorem dX12_errors_235 : decode cX12_errors 235 = .ok (.if_icmp .ne 7, 3) := dc_160 (a0 := 0) (b0 := 7) aX12_errors_235 (by decide)
theorem dX12_errors_238 : decode cX12_errors 238 = .ok (.iconst 1, 1) := dc_4 aX12_errors_238
theorem dX12_errors_239 : decode cX12_errors 239 = .ok (.goto 4, 3) := dc_167 (a0 := 0) (b0 := 4) aX12_errors_239 (by decide)
theorem dX12_errors_242 : decode cX12_errors 242 = .ok (.iconst 0, 1) := dc_3 aX12_errors_242
theorem dX12_errors_243 : decode cX12_errors 243 = .ok (.iadd, 1) := dc_96 aX12_errors_243
theorem dX12_errors_244 : decode cX12_errors 244 = .ok (.iastore, 1) := dc_79 aX12_errors_244
theorem dX12_errors_245 : decode cX12_errors 245 = .ok (.aload_n 0, 1) := dc_42 aX12_errors_245
theorem dX12_errors_246 : decode cX12_errors 246 = .ok (.getfield 83, 3) := dc_180 (a0 := 0) (b0 := 83) aX12_errors_246
theorem dX12_errors_249 : decode cX12_errors 249 = .ok (.iload 9, 2) := dc_21 (a0 := 9) aX12_errors_249
theorem dX12_errors_251 : decode cX12_errors 251 = .ok (.dup2, 1) := dc_92 aX12_errors_251
theorem dX12_errors_252 : decode cX12_errors 252 = .ok (.iaload, 1) := dc_46 aX12_errors_252
theorem dX12_errors_253 : decode cX12_errors 253 = .ok (.bipush 6, 2) := dc_16 (a0 := 6) aX12_errors_253 (by decide)
theorem dX12_errors_255 : decode cX12_errors 255 = .ok (.iload 8, 2) := dc_21 (a0 := 8) aX12_errors_255
theorem dX12_errors_257 : decode cX12_errors 257 = .ok (.idiv, 1) := dc_108 aX12_errors_257
theorem dX12_errors_258 : decode cX12_errors 258 = .ok (.iadd, 1) := dc_96 aX12_errors_258
theorem dX12_errors_259 : decode cX12_errors 259 = .ok (.iastore, 1) := dc_79 aX12_errors_259
theorem dX12_errors_260 : decode cX12_errors 260 = .ok (.iinc 9 1, 3) := dc_132 (a0 := 9) (a1 := 1) aX12_errors_260 (by decide)
theorem dX12_errors_263 : decode cX12_errors 263 = .ok (.goto (-76), 3) := dc_167 (a0 := 255) (b0 := 180) aX12_errors_263 (by decide)
theorem dX12_errors_266 : decode cX12_errors 266 = .ok (.iinc 6 1, 3) := dc_132 (a0 := 6) (a1 := 1) aX12_errors_266 (by decide)
theorem dX12_errors_269 : decode cX12_errors 269 = .ok (.goto (-179), 3) := dc_167 (a0 := 255) (b0 := 77) aX12_errors_269 (by decide)
theorem dX12_errors_272 : decode cX12_errors 272 = .ok (.iload 4, 2) := dc_21 (a0 := 4) aX12_errors_272
theorem dX12_errors_274 : decode cX12_errors 274 = .ok (.ifCond .ne 6, 3) := dc_154 (a0 := 0) (b0 := 6) aX12_errors_274 (by decide)
theorem dX12_errors_277 : decode cX12_errors 277 = .ok (.iload 5, 2) := dc_21 (a0 := 5) aX12_errors_277
theorem dX12_errors_279 : decode cX12_errors 279 = .ok (.ireturn, 1) := dc_172 aX12_errors_279
theorem dX12_errors_280 : decode cX12_errors 280 = .ok (.iload 4, 2) := dc_21 (a0 := 4) aX12_errors_280
theorem dX12_errors_282 : decode cX12_errors 282 = .ok (.iconst 1, 1) := dc_4 aX12_errors_282
theorem dX12_errors_283 : decode cX12_errors 283 = .ok (.if_icmp .le 51, 3) := dc_164 (a0 := 0) (b0 := 51) aX12_errors_283 (by decide)
theorem dX12_errors_286 : decode cX12_errors 286 = .ok (.iload 4, 2) := dc_21 (a0 := 4) aX12_errors_286
theorem dX12_errors_288 : decode cX12_errors 288 = .ok (.iconst 5, 1) := dc_8 aX12_errors_288
theorem dX12_errors_289 : decode cX12_errors 289 = .ok (.if_icmp .ge 15, 3) := dc_162 (a0 := 0) (b0 := 15) aX12_errors_289 (by decide)
theorem dX12_errors_292 : decode cX12_errors 292 = .ok (.aload_n 0, 1) := dc_42 aX12_errors_292
theorem dX12_errors_293 : decode cX12_errors 293 = .ok (.getfield 77, 3) := dc_180 (a0 := 0) (b0 := 77) aX12_errors_293
theorem dX12_errors_296 : decode cX12_errors 296 = .ok (.iload 4, 2) := dc_21 (a0 := 4) aX12_errors_296
theorem dX12_errors_298 : decode cX12_errors 298 = .ok (.iconst 1, 1) := dc_4 aX12_errors_298
theorem dX12_errors_299 : decode cX12_errors 299 = .ok (.isub, 1) := dc_100 aX12_errors_299
theorem dX12_errors_300 : decode cX12_errors 300 = .ok (.iaload, 1) := dc_46 aX12_errors_300
theorem dX12_errors_301 : decode cX12_errors 301 = .ok (.goto 32, 3) := dc_167 (a0 := 0) (b0 := 32) aX12_errors_301 (by decide)
theorem dX12_errors_304 : decode cX12_errors 304 = .ok (.iload 4, 2) := dc_21 (a0 := 4) aX12_errors_304
theorem dX12_errors_306 : decode cX12_errors 306 = .ok (.bipush 8, 2) := dc_16 (a0 := 8) aX12_errors_306 (by decide)
theorem dX12_errors_308 : decode cX12_errors 308 = .ok (.if_icmp .ge 15, 3) := dc_162 (a0 := 0) (b0 := 15) aX12_errors_308 (by decide)
theorem dX12_errors_311 : decode cX12_errors 311 = .ok (.aload_n 0, 1) := dc_42 aX12_errors_311
theorem dX12_errors_312 : decode cX12_errors 312 = .ok (.getfield 80, 3) := dc_180 (a0 := 0) (b0 := 80) aX12_errors_312
theorem dX12_errors_315 : decode cX12_errors 315 = .ok (.iload 4, 2) := dc_21 (a0 := 4) aX12_errors_315
theorem dX12_errors_317 : decode cX12_errors 317 = .ok (.iconst 4, 1) := dc_7 aX12_errors_317
theorem dX12_errors_318 : decode cX12_errors 318 = .ok (.isub, 1) := dc_100 aX12_errors_318
theorem dX12_errors_319 : decode cX12_errors 319 = .ok (.iaload, 1) := dc_46 aX12_errors_319
theorem dX12_errors_320 : decode cX12_errors 320 = .ok (.goto 13, 3) := dc_167 (a0 := 0) (b0 := 13) aX12_errors_320 (by decide)
theorem dX12_errors_323 : decode cX12_errors 323 = .ok (.aload_n 0, 1) := dc_42 aX12_errors_323
theorem dX12_errors_324 : decode cX12_errors 324 = .ok (.getfield 83, 3) := dc_180 (a0 := 0) (b0 := 83) aX12_errors_324
theorem dX12_errors_327 : decode cX12_errors 327 = .ok (.iload 4, 2) := dc_21 (a0 := 4) aX12_errors_327
theorem dX12_errors_329 : decode cX12_errors 329 = .ok (.bipush 7, 2) := dc_16 (a0 := 7) aX12_errors_329 (by decide)
theorem dX12_errors_331 : decode cX12_errors 331 = .ok (.isub, 1) := dc_100 aX12_errors_331
theorem dX12_errors_332 : decode cX12_errors 332 = .ok (.iaload, 1) := dc_46 aX12_errors_332
theorem dX12_errors_333 : decode cX12_errors 333 = .ok (.ireturn, 1) := dc_172 aX12_errors_333
theorem dX12_errors_334 : decode cX12_errors 334 = .ok (.iconst 1, 1) := dc_4 aX12_errors_334
theorem dX12_errors_335 : decode cX12_errors 335 = .ok (.istore 6, 2) := dc_54 (a0 := 6) aX12_errors_335
theorem dX12_errors_337 : decode cX12_errors 337 = .ok (.iconst 2, 1) := dc_5 aX12_errors_337
theorem dX12_errors_338 : decode cX12_errors 338 = .ok (.istore 7, 2) := dc_54 (a0 := 7) aX12_errors_338
theorem dX12_errors_340 : decode cX12_errors 340 = .ok (.iload 7, 2) := dc_21 (a0 := 7) aX12_errors_340
theorem dX12_errors_342 : decode cX12_errors 342 = .ok (.iconst 4, 1) := dc_7 aX12_errors_342
theorem dX12_errors_343 : decode cX12_errors 343 = .ok (.if_icmp .ge 35, 3) := dc_162 (a0 := 0) (b0 := 35) aX12_errors_343 (by decide)
theorem dX12_errors_346 : decode cX12_errors 346 = .ok (.aload_n 0, 1) := dc_42 aX12_errors_346
theorem dX12_errors_347 : decode cX12_errors 347 = .ok (.getfield 83, 3) := dc_180 (a0 := 0) (b0 := 83) aX12_errors_347
theorem dX12_errors_350 : decode cX12_errors 350 = .ok (.iload 7, 2) := dc_21 (a0 := 7) aX12_errors_350
theorem dX12_errors_352 : decode cX12_errors 352 = .ok (.iaload, 1) := dc_46 aX12_errors_352
theorem dX12_errors_353 : decode cX12_errors 353 = .ok (.aload_n 0, 1) := dc_42 aX12_errors_353
theorem dX12_errors_354 : decode cX12_errors 354 = .ok (.getfield 83, 3) := dc_180 (a0 := 0) (b0 := 83) aX12_errors_354
theorem dX12_errors_357 : decode cX12_errors 357 = .ok (.iload 6, 2) := dc_21 (a0 := 6) aX12_errors_357
theorem dX12_errors_359 : decode cX12_errors 359 = .ok (.iaload, 1) := dc_46 aX12_errors_359
theorem dX12_errors_360 : decode cX12_errors 360 = .ok (.if_icmp .le 8, 3) := dc_164 (a0 := 0) (b0 := 8) aX12_errors_360 (by decide)
theorem dX12_errors_363 : decode cX12_errors 363 = .ok (.iload 7, 2) := dc_21 (a0 := 7) aX12_errors_363
theorem dX12_errors_365 : decode cX12_errors 365 = .ok (.goto 5, 3) := dc_167 (a0 := 0) (b0 := 5) aX12_errors_365 (by decide)
theorem dX12_errors_368 : decode cX12_errors 368 = .ok (.iload 6, 2) := dc_21 (a0 := 6) aX12_errors_368
theorem dX12_errors_370 : decode cX12_errors 370 = .ok (.istore 6, 2) := dc_54 (a0 := 6) aX12_errors_370
theorem dX12_errors_372 : decode cX12_errors 372 = .ok (.iinc 7 1, 3) := dc_132 (a0 := 7) (a1 := 1) aX12_errors_372 (by decide)
theorem dX12_errors_375 : decode cX12_errors 375 = .ok (.goto (-35), 3) := dc_167 (a0 := 255) (b0 := 221) aX12_errors_375 (by decide)
theorem dX12_errors_378 : decode cX12_errors 378 = .ok (.aload_n 0, 1) := dc_42 aX12_errors_378
theorem dX12_errors_379 : decode cX12_errors 379 = .ok (.getfield 83, 3) := dc_180 (a0 := 0) (b0 := 83) aX12_errors_379
theorem dX12_errors_382 : decode cX12_errors 382 = .ok (.iload 6, 2) := dc_21 (a0 := 6) aX12_errors_382
theorem dX12_errors_384 : decode cX12_errors 384 = .ok (.iaload, 1) := dc_46 aX12_errors_384
theorem dX12_errors_385 : decode cX12_errors 385 = .ok (.ifCond .ne 7, 3) := dc_154 (a0 := 0) (b0 := 7) aX12_errors_385 (by decide)
theorem dX12_errors_388 : decode cX12_errors 388 = .ok (.iconst (-1), 1) := dc_2 aX12_errors_388
theorem dX12_errors_389 : decode cX12_errors 389 = .ok (.goto 5, 3) := dc_167 (a0 := 0) (b0 := 5) aX12_errors_389 (by decide)
theorem dX12_errors_392 : decode cX12_errors 392 = .ok (.iload 6, 2) := dc_21 (a0 := 6) aX12_errors_392
theorem dX12_errors_394 : decode cX12_errors 394 = .ok (.ireturn, 1) := dc_172 aX12_errors_394
noncomputable def sX12_climbOf_63 : List Nat := 172 :: []
noncomputable def sX12_climbOf_62 : List Nat := 96 :: sX12_climbOf_63
noncomputable def sX12_climbOf_61 : List Nat := 104 :: sX12_climbOf_62
noncomputable def sX12_climbOf_60 : List Nat := 112 :: sX12_climbOf_61
noncomputable def sX12_climbOf_57 : List Nat := 17 :: 7 :: 8 :: sX12_climbOf_60
noncomputable def sX12_climbOf_56 : List Nat := 28 :: sX12_climbOf_57
noncomputable def sX12_climbOf_55 : List Nat := 46 :: sX12_climbOf_56
noncomputable def sX12_climbOf_54 : List Nat := 96 :: sX12_climbOf_55
noncomputable def sX12_climbOf_53 : List Nat := 108 :: sX12_climbOf_54
noncomputable def sX12_climbOf_50 : List Nat := 17 :: 7 :: 8 :: sX12_climbOf_53
noncomputable def sX12_climbOf_49 : List Nat := 28 :: sX12_climbOf_50
noncomputable def sX12_climbOf_48 : List Nat := 104 :: sX12_climbOf_49
noncomputable def sX12_climbOf_47 : List Nat := 27 :: sX12_climbOf_48
noncomputable def sX12_climbOf_45 : List Nat := 16 :: 12 :: sX12_climbOf_47
noncomputable def sX12_climbOf_42 : List Nat := 180 :: 0 :: 22 :: sX12_climbOf_45
noncomputable def sX12_climbOf_41 : List Nat := 42 :: sX12_climbOf_42
noncomputable def sX12_climbOf_40 : List Nat := 29 :: sX12_climbOf_41
noncomputable def sX12_climbOf_37 : List Nat := 167 :: 255 :: 224 :: sX12_climbOf_40
noncomputable def sX12_climbOf_34 : List Nat := 132 :: 4 :: 1 :: sX12_climbOf_37
noncomputable def sX12_climbOf_33 : List Nat := 62 :: sX12_climbOf_34
noncomputable def sX12_climbOf_32 : List Nat := 96 :: sX12_climbOf_33
noncomputable def sX12_climbOf_31 : List Nat := 104 :: sX12_climbOf_32
noncomputable def sX12_climbOf_30 : List Nat := 46 :: sX12_climbOf_31
noncomputable def sX12_climbOf_29 : List Nat := 96 :: sX12_climbOf_30
noncomputable def sX12_climbOf_27 : List Nat := 21 :: 4 :: sX12_climbOf_29
noncomputable def sX12_climbOf_26 : List Nat := 104 :: sX12_climbOf_27
noncomputable def sX12_climbOf_25 : List Nat := 27 :: sX12_climbOf_26
noncomputable def sX12_climbOf_23 : List Nat := 16 :: 12 :: sX12_climbOf_25
noncomputable def sX12_climbOf_20 : List Nat := 180 :: 0 :: 22 :: sX12_climbOf_23
noncomputable def sX12_climbOf_19 : List Nat := 42 :: sX12_climbOf_20
noncomputable def sX12_climbOf_16 : List Nat := 17 :: 7 :: 8 :: sX12_climbOf_19
noncomputable def sX12_climbOf_15 : List Nat := 29 :: sX12_climbOf_16
noncomputable def sX12_climbOf_12 : List Nat := 162 :: 0 :: 28 :: sX12_climbOf_15
noncomputable def sX12_climbOf_11 : List Nat := 108 :: sX12_climbOf_12
noncomputable def sX12_climbOf_8 : List Nat := 17 :: 7 :: 8 :: sX12_climbOf_11
noncomputable def sX12_climbOf_7 : List Nat := 28 :: sX12_climbOf_8
noncomputable def sX12_climbOf_5 : List Nat := 21 :: 4 :: sX12_climbOf_7
noncomputable def sX12_climbOf_3 : List Nat := 54 :: 4 :: sX12_climbOf_5
noncomputable def sX12_climbOf_2 : List Nat := 3 :: sX12_climbOf_3
noncomputable def sX12_climbOf_1 : List Nat := 62 :: sX12_climbOf_2
noncomputable def sX12_climbOf_0 : List Nat := 3 :: sX12_climbOf_1
theorem aX12_climbOf_0 : dc_at cX12_climbOf 0 sX12_climbOf_0 := dc_base (by decide +kernel)
theorem aX12_climbOf_1 : dc_at cX12_climbOf 1 sX12_climbOf_1 := dc_n1 aX12_climbOf_0
theorem aX12_climbOf_2 : dc_at cX12_climbOf 2 sX12_climbOf_2 := dc_n1 aX12_climbOf_1
theorem aX12_climbOf_3 : dc_at cX12_climbOf 3 sX12_climbOf_3 := dc_n1 aX12_climbOf_2
theorem aX12_climbOf_5 : dc_at cX12_climbOf 5 sX12_climbOf_5 := dc_n2 aX12_climbOf_3
theorem aX12_climbOf_7 : dc_at cX12_climbOf 7 sX12_climbOf_7 := dc_n2 aX12_climbOf_5
theorem aX12_climbOf_8 : dc_at cX12_climbOf 8 sX12_climbOf_8 := dc_n1 aX12_climbOf_7
theorem aX12_climbOf_11 : dc_at cX12_climbOf 11 sX12_climbOf_11 := dc_n3 aX12_climbOf_8
theorem aX12_climbOf_12 : dc_at cX12_climbOf 12 sX12_climbOf_12 := dc_n1 aX12_climbOf_11
theorem aX12_climbOf_15 : dc_at cX12_climbOf 15 sX12_climbOf_15 := dc_n3 aX12_climbOf_12
theorem aX12_climbOf_16 : dc_at cX12_climbOf 16 sX12_climbOf_16 := dc_n1 aX12_climbOf_15
theorem aX12_climbOf_19 : dc_at cX12_climbOf 19 sX12_climbOf_19 := dc_n3 aX12_climbOf_16
theorem aX12_climbOf_20 : dc_at cX12_climbOf 20 sX12_climbOf_20 := dc_n1 aX12_climbOf_19
theorem aX12_climbOf_23 : dc_at cX12_climbOf 23 sX12_climbOf_23 := dc_n3 aX12_climbOf_20
theorem aX12_climbOf_25 : dc_at cX12_climbOf 25 sX12_climbOf_25 := dc_n2 aX12_climbOf_23
theorem aX12_climbOf_26 : dc_at cX12_climbOf 26 sX12_climbOf_26 := dc_n1 aX12_climbOf_25
theorem aX12_climbOf_27 : dc_at cX12_climbOf 27 sX12_climbOf_27 := dc_n1 aX12_climbOf_26
theorem aX12_climbOf_29 : dc_at cX12_climbOf 29 sX12_climbOf_29 := dc_n2 aX12_climbOf_27
theorem aX12_climbOf_30 : dc_at cX12_climbOf 30 sX12_climbOf_30 := dc_n1 aX12_climbOf_29
theorem aX12_climbOf_31 : dc_at cX12_climbOf 31 sX12_climbOf_31 := dc_n1 aX12_climbOf_30
theorem aX12_climbOf_32 : dc_at cX12_climbOf 32 sX12_climbOf_32 := dc_n1 aX12_climbOf_31
theorem aX12_climbOf_33 : dc_at cX12_climbOf 33 sX12_climbOf_33 := dc_n1 aX12_climbOf_32
theorem aX12_climbOf_34 : dc_at cX12_climbOf 34 sX12_climbOf_34 := dc_n1 aX12_climbOf_33
theorem aX12_climbOf_37 : dc_at cX12_climbOf 37 sX12_climbOf_37 := dc_n3 aX12_climbOf_34
theorem aX12_climbOf_40 : dc_at cX12_climbOf 40 sX12_climbOf_40 := dc_n3 aX12_climbOf_37
theorem aX12_climbOf_41 : dc_at cX12_climbOf 41 sX12_climbOf_41 := dc_n1 aX12_climbOf_40
theorem aX12_climbOf_42 : dc_at cX12_climbOf 42 sX12_climbOf_42 := dc_n1 aX12_climbOf_41
theorem aX12_climbOf_45 : dc_at cX12_climbOf 45 sX12_climbOf_45 := dc_n3 aX12_climbOf_42
theorem aX12_climbOf_47 : dc_at cX12_climbOf 47 sX12_climbOf_47 := dc_n2 aX12_climbOf_45
theorem aX12_climbOf_48 : dc_at cX12_climbOf 48 sX12_climbOf_48 := dc_n1 aX12_climbOf_47
theorem aX12_climbOf_49 : dc_at cX12_climbOf 49 sX12_climbOf_49 := dc_n1 aX12_climbOf_48
theorem aX12_climbOf_50 : dc_at cX12_climbOf 50 sX12_climbOf_50 := dc_n1 aX12_climbOf_49
theorem aX12_climbOf_53 : dc_at cX12_climbOf 53 sX12_climbOf_53 := dc_n3 aX12_climbOf_50
theorem aX12_climbOf_54 : dc_at cX12_climbOf 54 sX12_climbOf_54 := dc_n1 aX12_climbOf_53
theorem aX12_climbOf_55 : dc_at cX12_climbOf 55 sX12_climbOf_55 := dc_n1 aX12_climbOf_54
theorem aX12_climbOf_56 : dc_at cX12_climbOf 56 sX12_climbOf_56 := dc_n1 aX12_climbOf_55
theorem aX12_climbOf_57 : dc_at cX12_climbOf 57 sX12_climbOf_57 := dc_n1 aX12_climbOf_56
theorem aX12_climbOf_60 : dc_at cX12_climbOf 60 sX12_climbOf_60 := dc_n3 aX12_climbOf_57
theorem aX12_climbOf_61 : dc_at cX12_climbOf 61 sX12_climbOf_61 := dc_n1 aX12_climbOf_60
theorem aX12_climbOf_62 : dc_at cX12_climbOf 62 sX12_climbOf_62 := dc_n1 aX12_climbOf_61
theorem aX12_climbOf_63 : dc_at cX12_climbOf 63 sX12_climbOf_63 := dc_n1 aX12_climbOf_62
theorem dX12_climbOf_0 : decode cX12_climbOf 0 = .ok (.iconst 0, 1) := dc_3 aX12_climbOf_0
theorem dX12_climbOf_1 : decode cX12_climbOf 1 = .ok (.istore_n 3, 1) := dc_62 aX12_climbOf_1
theorem dX12_climbOf_2 : decode cX12_climbOf 2 = .ok (.iconst 0, 1) := dc_3 aX12_climbOf_2
theorem dX12_climbOf_3 : decode cX12_climbOf 3 = .ok (.istore 4, 2) := dc_54 (a0 := 4) aX12_climbOf_3
theorem dX12_climbOf_5 : decode cX12_climbOf 5 = .ok (.iload 4, 2) := dc_21 (a0 := 4) aX12_climbOf_5
theorem dX12_climbOf_7 : decode cX12_climbOf 7 = .ok (.iload_n 2, 1) := dc_28 aX12_climbOf_7
theorem dX12_climbOf_8 : decode cX12_climbOf 8 = .ok (.sipush 1800, 3) := dc_17 (a0 := 7) (b0 := 8) aX12_climbOf_8 (by decide)
theorem dX12_climbOf_11 : decode cX12_climbOf 11 = .ok (.idiv, 1) := dc_108 aX12_climbOf_11
theorem dX12_climbOf_12 : decode cX12_climbOf 12 = .ok (.if_icmp .ge 28, 3) := dc_162 (a0 := 0) (b0 := 28) aX12_climbOf_12 (by decide)
theorem dX12_climbOf_15 : decode cX12_climbOf 15 = .ok (.iload_n 3, 1) := dc_29 aX12_climbOf_15
theorem dX12_climbOf_16 : decode cX12_climbOf 16 = .ok (.sipush 1800, 3) := dc_17 (a0 := 7) (b0 := 8) aX12_climbOf_16 (by decide)
theorem dX12_climbOf_19 : decode cX12_climbOf 19 = .ok (.aload_n 0, 1) := dc_42 aX12_climbOf_19
theorem dX12_climbOf_20 : decode cX12_climbOf 20 = .ok (.getfield 22, 3) := dc_180 (a0 := 0) (b0 := 22) aX12_climbOf_20
theorem dX12_climbOf_23 : decode cX12_climbOf 23 = .ok (.bipush 12, 2) := dc_16 (a0 := 12) aX12_climbOf_23 (by decide)
theorem dX12_climbOf_25 : decode cX12_climbOf 25 = .ok (.iload_n 1, 1) := dc_27 aX12_climbOf_25
theorem dX12_climbOf_26 : decode cX12_climbOf 26 = .ok (.imul, 1) := dc_104 aX12_climbOf_26
theorem dX12_climbOf_27 : decode cX12_climbOf 27 = .ok (.iload 4, 2) := dc_21 (a0 := 4) aX12_climbOf_27
theorem dX12_climbOf_29 : decode cX12_climbOf 29 = .ok (.iadd, 1) := dc_96 aX12_climbOf_29
theorem dX12_climbOf_30 : decode cX12_climbOf 30 = .ok (.iaload, 1) := dc_46 aX12_climbOf_30
theorem dX12_climbOf_31 : decode cX12_climbOf 31 = .ok (.imul, 1) := dc_104 aX12_climbOf_31
theorem dX12_climbOf_32 : decode cX12_climbOf 32 = .ok (.iadd, 1) := dc_96 aX12_climbOf_32
theorem dX12_climbOf_33 : decode cX12_climbOf 33 = .ok (.istore_n 3, 1) := dc_62 aX12_climbOf_33
theorem dX12_climbOf_34 : decode cX12_climbOf 34 = .ok (.iinc 4 1, 3) := dc_132 (a0 := 4) (a1 := 1) aX12_climbOf_34 (by decide)
theorem dX12_climbOf_37 : decode cX12_climbOf 37 = .ok (.goto (-32), 3) := dc_167 (a0 := 255) (b0 := 224) aX12_climbOf_37 (by decide)
theorem dX12_climbOf_40 : decode cX12_climbOf 40 = .ok (.iload_n 3, 1) := dc_29 aX12_climbOf_40
theorem dX12_climbOf_41 : decode cX12_climbOf 41 = .ok (.aload_n 0, 1) := dc_42 aX12_climbOf_41
theorem dX12_climbOf_42 : decode cX12_climbOf 42 = .ok (.getfield 22, 3) := dc_180 (a0 := 0) (b0 := 22) aX12_climbOf_42
theorem dX12_climbOf_45 : decode cX12_climbOf 45 = .ok (.bipush 12, 2) := dc_16 (a0 := 12) aX12_climbOf_45 (by decide)
theorem dX12_climbOf_47 : decode cX12_climbOf 47 = .ok (.iload_n 1, 1) := dc_27 aX12_climbOf_47
theorem dX12_climbOf_48 : decode cX12_climbOf 48 = .ok (.imul, 1) := dc_104 aX12_climbOf_48
theorem dX12_climbOf_49 : decode cX12_climbOf 49 = .ok (.iload_n 2, 1) := dc_28 aX12_climbOf_49
theorem dX12_climbOf_50 : decode cX12_climbOf 50 = .ok (.sipush 1800, 3) := dc_17 (a0 := 7) (b0 := 8) aX12_climbOf_50 (by decide)
theorem dX12_climbOf_53 : decode cX12_climbOf 53 = .ok (.idiv, 1) := dc_108 aX12_climbOf_53
theorem dX12_climbOf_54 : decode cX12_climbOf 54 = .ok (.iadd, 1) := dc_96 aX12_climbOf_54
theorem dX12_climbOf_55 : decode cX12_climbOf 55 = .ok (.iaload, 1) := dc_46 aX12_climbOf_55
theorem dX12_climbOf_56 : decode cX12_climbOf 56 = .ok (.iload_n 2, 1) := dc_28 aX12_climbOf_56
theorem dX12_climbOf_57 : decode cX12_climbOf 57 = .ok (.sipush 1800, 3) := dc_17 (a0 := 7) (b0 := 8) aX12_climbOf_57 (by decide)
theorem dX12_climbOf_60 : decode cX12_climbOf 60 = .ok (.irem, 1) := dc_112 aX12_climbOf_60
theorem dX12_climbOf_61 : decode cX12_climbOf 61 = .ok (.imul, 1) := dc_104 aX12_climbOf_61
theorem dX12_climbOf_62 : decode cX12_climbOf 62 = .ok (.iadd, 1) := dc_96 aX12_climbOf_62
theorem dX12_climbOf_63 : decode cX12_climbOf 63 = .ok (.ireturn, 1) := dc_172 aX12_climbOf_63
noncomputable def sX12_placeOf_71 : List Nat := 172 :: []
noncomputable def sX12_placeOf_70 : List Nat := 96 :: sX12_placeOf_71
noncomputable def sX12_placeOf_69 : List Nat := 108 :: sX12_placeOf_70
noncomputable def sX12_placeOf_68 : List Nat := 46 :: sX12_placeOf_69
noncomputable def sX12_placeOf_67 : List Nat := 96 :: sX12_placeOf_68
noncomputable def sX12_placeOf_65 : List Nat := 21 :: 4 :: sX12_placeOf_67
noncomputable def sX12_placeOf_64 : List Nat := 104 :: sX12_placeOf_65
noncomputable def sX12_placeOf_63 : List Nat := 27 :: sX12_placeOf_64
noncomputable def sX12_placeOf_61 : List Nat := 16 :: 12 :: sX12_placeOf_63
noncomputable def sX12_placeOf_58 : List Nat := 180 :: 0 :: 22 :: sX12_placeOf_61
noncomputable def sX12_placeOf_57 : List Nat := 42 :: sX12_placeOf_58
noncomputable def sX12_placeOf_56 : List Nat := 29 :: sX12_placeOf_57
noncomputable def sX12_placeOf_55 : List Nat := 104 :: sX12_placeOf_56
noncomputable def sX12_placeOf_53 : List Nat := 21 :: 4 :: sX12_placeOf_55
noncomputable def sX12_placeOf_50 : List Nat := 17 :: 7 :: 8 :: sX12_placeOf_53
noncomputable def sX12_placeOf_47 : List Nat := 167 :: 255 :: 214 :: sX12_placeOf_50
noncomputable def sX12_placeOf_44 : List Nat := 132 :: 4 :: 1 :: sX12_placeOf_47
noncomputable def sX12_placeOf_43 : List Nat := 62 :: sX12_placeOf_44
noncomputable def sX12_placeOf_42 : List Nat := 100 :: sX12_placeOf_43
noncomputable def sX12_placeOf_41 : List Nat := 104 :: sX12_placeOf_42
noncomputable def sX12_placeOf_40 : List Nat := 46 :: sX12_placeOf_41
noncomputable def sX12_placeOf_39 : List Nat := 96 :: sX12_placeOf_40
noncomputable def sX12_placeOf_37 : List Nat := 21 :: 4 :: sX12_placeOf_39
noncomputable def sX12_placeOf_36 : List Nat := 104 :: sX12_placeOf_37
noncomputable def sX12_placeOf_35 : List Nat := 27 :: sX12_placeOf_36
noncomputable def sX12_placeOf_33 : List Nat := 16 :: 12 :: sX12_placeOf_35
noncomputable def sX12_placeOf_30 : List Nat := 180 :: 0 :: 22 :: sX12_placeOf_33
noncomputable def sX12_placeOf_29 : List Nat := 42 :: sX12_placeOf_30
noncomputable def sX12_placeOf_26 : List Nat := 17 :: 7 :: 8 :: sX12_placeOf_29
noncomputable def sX12_placeOf_25 : List Nat := 29 :: sX12_placeOf_26
noncomputable def sX12_placeOf_22 : List Nat := 161 :: 0 :: 28 :: sX12_placeOf_25
noncomputable def sX12_placeOf_21 : List Nat := 104 :: sX12_placeOf_22
noncomputable def sX12_placeOf_20 : List Nat := 46 :: sX12_placeOf_21
noncomputable def sX12_placeOf_19 : List Nat := 96 :: sX12_placeOf_20
noncomputable def sX12_placeOf_17 : List Nat := 21 :: 4 :: sX12_placeOf_19
noncomputable def sX12_placeOf_16 : List Nat := 104 :: sX12_placeOf_17
noncomputable def sX12_placeOf_15 : List Nat := 27 :: sX12_placeOf_16
noncomputable def sX12_placeOf_13 : List Nat := 16 :: 12 :: sX12_placeOf_15
noncomputable def sX12_placeOf_10 : List Nat := 180 :: 0 :: 22 :: sX12_placeOf_13
noncomputable def sX12_placeOf_9 : List Nat := 42 :: sX12_placeOf_10
noncomputable def sX12_placeOf_6 : List Nat := 17 :: 7 :: 8 :: sX12_placeOf_9
noncomputable def sX12_placeOf_5 : List Nat := 29 :: sX12_placeOf_6
noncomputable def sX12_placeOf_3 : List Nat := 54 :: 4 :: sX12_placeOf_5
noncomputable def sX12_placeOf_2 : List Nat := 3 :: sX12_placeOf_3
noncomputable def sX12_placeOf_1 : List Nat := 62 :: sX12_placeOf_2
noncomputable def sX12_placeOf_0 : List Nat := 28 :: sX12_placeOf_1
theorem aX12_placeOf_0 : dc_at cX12_placeOf 0 sX12_placeOf_0 := dc_base (by decide +kernel)
theorem aX12_placeOf_1 : dc_at cX12_placeOf 1 sX12_placeOf_1 := dc_n1 aX12_placeOf_0
theorem aX12_placeOf_2 : dc_at cX12_placeOf 2 sX12_placeOf_2 := dc_n1 aX12_placeOf_1
theorem aX12_placeOf_3 : dc_at cX12_placeOf 3 sX12_placeOf_3 := dc_n1 aX12_placeOf_2
theorem aX12_placeOf_5 : dc_at cX12_placeOf 5 sX12_placeOf_5 := dc_n2 aX12_placeOf_3
theorem aX12_placeOf_6 : dc_at cX12_placeOf 6 sX12_placeOf_6 := dc_n1 aX12_placeOf_5
theorem aX12_placeOf_9 : dc_at cX12_placeOf 9 sX12_placeOf_9 := dc_n3 aX12_placeOf_6
theorem aX12_placeOf_10 : dc_at cX12_placeOf 10 sX12_placeOf_10 := dc_n1 aX12_placeOf_9
theorem aX12_placeOf_13 : dc_at cX12_placeOf 13 sX12_placeOf_13 := dc_n3 aX12_placeOf_10
theorem aX12_placeOf_15 : dc_at cX12_placeOf 15 sX12_placeOf_15 := dc_n2 aX12_placeOf_13
theorem aX12_placeOf_16 : dc_at cX12_placeOf 16 sX12_placeOf_16 := dc_n1 aX12_placeOf_15
theorem aX12_placeOf_17 : dc_at cX12_placeOf 17 sX12_placeOf_17 := dc_n1 aX12_placeOf_16
theorem aX12_placeOf_19 : dc_at cX12_placeOf 19 sX12_placeOf_19 := dc_n2 aX12_placeOf_17
theorem aX12_placeOf_20 : dc_at cX12_placeOf 20 sX12_placeOf_20 := dc_n1 aX12_placeOf_19
theorem aX12_placeOf_21 : dc_at cX12_placeOf 21 sX12_placeOf_21 := dc_n1 aX12_placeOf_20
theorem aX12_placeOf_22 : dc_at cX12_placeOf 22 sX12_placeOf_22 := dc_n1 aX12_placeOf_21
theorem aX12_placeOf_25 : dc_at cX12_placeOf 25 sX12_placeOf_25 := dc_n3 aX12_placeOf_22
theorem aX12_placeOf_26 : dc_at cX12_placeOf 26 sX12_placeOf_26 := dc_n1 aX12_placeOf_25
theorem aX12_placeOf_29 : dc_at cX12_placeOf 29 sX12_placeOf_29 := dc_n3 aX12_placeOf_26
theorem aX12_placeOf_30 : dc_at cX12_placeOf 30 sX12_placeOf_30 := dc_n1 aX12_placeOf_29
theorem aX12_placeOf_33 : dc_at cX12_placeOf 33 sX12_placeOf_33 := dc_n3 aX12_placeOf_30
theorem aX12_placeOf_35 : dc_at cX12_placeOf 35 sX12_placeOf_35 := dc_n2 aX12_placeOf_33
theorem aX12_placeOf_36 : dc_at cX12_placeOf 36 sX12_placeOf_36 := dc_n1 aX12_placeOf_35
theorem aX12_placeOf_37 : dc_at cX12_placeOf 37 sX12_placeOf_37 := dc_n1 aX12_placeOf_36
theorem aX12_placeOf_39 : dc_at cX12_placeOf 39 sX12_placeOf_39 := dc_n2 aX12_placeOf_37
theorem aX12_placeOf_40 : dc_at cX12_placeOf 40 sX12_placeOf_40 := dc_n1 aX12_placeOf_39
theorem aX12_placeOf_41 : dc_at cX12_placeOf 41 sX12_placeOf_41 := dc_n1 aX12_placeOf_40
theorem aX12_placeOf_42 : dc_at cX12_placeOf 42 sX12_placeOf_42 := dc_n1 aX12_placeOf_41
theorem aX12_placeOf_43 : dc_at cX12_placeOf 43 sX12_placeOf_43 := dc_n1 aX12_placeOf_42
theorem aX12_placeOf_44 : dc_at cX12_placeOf 44 sX12_placeOf_44 := dc_n1 aX12_placeOf_43
theorem aX12_placeOf_47 : dc_at cX12_placeOf 47 sX12_placeOf_47 := dc_n3 aX12_placeOf_44
theorem aX12_placeOf_50 : dc_at cX12_placeOf 50 sX12_placeOf_50 := dc_n3 aX12_placeOf_47
theorem aX12_placeOf_53 : dc_at cX12_placeOf 53 sX12_placeOf_53 := dc_n3 aX12_placeOf_50
theorem aX12_placeOf_55 : dc_at cX12_placeOf 55 sX12_placeOf_55 := dc_n2 aX12_placeOf_53
theorem aX12_placeOf_56 : dc_at cX12_placeOf 56 sX12_placeOf_56 := dc_n1 aX12_placeOf_55
theorem aX12_placeOf_57 : dc_at cX12_placeOf 57 sX12_placeOf_57 := dc_n1 aX12_placeOf_56
theorem aX12_placeOf_58 : dc_at cX12_placeOf 58 sX12_placeOf_58 := dc_n1 aX12_placeOf_57
theorem aX12_placeOf_61 : dc_at cX12_placeOf 61 sX12_placeOf_61 := dc_n3 aX12_placeOf_58
theorem aX12_placeOf_63 : dc_at cX12_placeOf 63 sX12_placeOf_63 := dc_n2 aX12_placeOf_61
theorem aX12_placeOf_64 : dc_at cX12_placeOf 64 sX12_placeOf_64 := dc_n1 aX12_placeOf_63
theorem aX12_placeOf_65 : dc_at cX12_placeOf 65 sX12_placeOf_65 := dc_n1 aX12_placeOf_64
theorem aX12_placeOf_67 : dc_at cX12_placeOf 67 sX12_placeOf_67 := dc_n2 aX12_placeOf_65
theorem aX12_placeOf_68 : dc_at cX12_placeOf 68 sX12_placeOf_68 := dc_n1 aX12_placeOf_67
theorem aX12_placeOf_69 : dc_at cX12_placeOf 69 sX12_placeOf_69 := dc_n1 aX12_placeOf_68
theorem aX12_placeOf_70 : dc_at cX12_placeOf 70 sX12_placeOf_70 := dc_n1 aX12_placeOf_69
theorem aX12_placeOf_71 : dc_at cX12_placeOf 71 sX12_placeOf_71 := dc_n1 aX12_placeOf_70
theorem dX12_placeOf_0 : decode cX12_placeOf 0 = .ok (.iload_n 2, 1) := dc_28 aX12_placeOf_0
theorem dX12_placeOf_1 : decode cX12_placeOf 1 = .ok (.istore_n 3, 1) := dc_62 aX12_placeOf_1
theorem dX12_placeOf_2 : decode cX12_placeOf 2 = .ok (.iconst 0, 1) := dc_3 aX12_placeOf_2
theorem dX12_placeOf_3 : decode cX12_placeOf 3 = .ok (.istore 4, 2) := dc_54 (a0 := 4) aX12_placeOf_3
theorem dX12_placeOf_5 : decode cX12_placeOf 5 = .ok (.iload_n 3, 1) := dc_29 aX12_placeOf_5
theorem dX12_placeOf_6 : decode cX12_placeOf 6 = .ok (.sipush 1800, 3) := dc_17 (a0 := 7) (b0 := 8) aX12_placeOf_6 (by decide)
theorem dX12_placeOf_9 : decode cX12_placeOf 9 = .ok (.aload_n 0, 1) := dc_42 aX12_placeOf_9
theorem dX12_placeOf_10 : decode cX12_placeOf 10 = .ok (.getfield 22, 3) := dc_180 (a0 := 0) (b0 := 22) aX12_placeOf_10
theorem dX12_placeOf_13 : decode cX12_placeOf 13 = .ok (.bipush 12, 2) := dc_16 (a0 := 12) aX12_placeOf_13 (by decide)
theorem dX12_placeOf_15 : decode cX12_placeOf 15 = .ok (.iload_n 1, 1) := dc_27 aX12_placeOf_15
theorem dX12_placeOf_16 : decode cX12_placeOf 16 = .ok (.imul, 1) := dc_104 aX12_placeOf_16
theorem dX12_placeOf_17 : decode cX12_placeOf 17 = .ok (.iload 4, 2) := dc_21 (a0 := 4) aX12_placeOf_17
theorem dX12_placeOf_19 : decode cX12_placeOf 19 = .ok (.iadd, 1) := dc_96 aX12_placeOf_19
theorem dX12_placeOf_20 : decode cX12_placeOf 20 = .ok (.iaload, 1) := dc_46 aX12_placeOf_20
theorem dX12_placeOf_21 : decode cX12_placeOf 21 = .ok (.imul, 1) := dc_104 aX12_placeOf_21
theorem dX12_placeOf_22 : decode cX12_placeOf 22 = .ok (.if_icmp .lt 28, 3) := dc_161 (a0 := 0) (b0 := 28) aX12_placeOf_22 (by decide)
theorem dX12_placeOf_25 : decode cX12_placeOf 25 = .ok (.iload_n 3, 1) := dc_29 aX12_placeOf_25
theorem dX12_placeOf_26 : decode cX12_placeOf 26 = .ok (.sipush 1800, 3) := dc_17 (a0 := 7) (b0 := 8) aX12_placeOf_26 (by decide)
theorem dX12_placeOf_29 : decode cX12_placeOf 29 = .ok (.aload_n 0, 1) := dc_42 aX12_placeOf_29
theorem dX12_placeOf_30 : decode cX12_placeOf 30 = .ok (.getfield 22, 3) := dc_180 (a0 := 0) (b0 := 22) aX12_placeOf_30
theorem dX12_placeOf_33 : decode cX12_placeOf 33 = .ok (.bipush 12, 2) := dc_16 (a0 := 12) aX12_placeOf_33 (by decide)
theorem dX12_placeOf_35 : decode cX12_placeOf 35 = .ok (.iload_n 1, 1) := dc_27 aX12_placeOf_35
theorem dX12_placeOf_36 : decode cX12_placeOf 36 = .ok (.imul, 1) := dc_104 aX12_placeOf_36
theorem dX12_placeOf_37 : decode cX12_placeOf 37 = .ok (.iload 4, 2) := dc_21 (a0 := 4) aX12_placeOf_37
theorem dX12_placeOf_39 : decode cX12_placeOf 39 = .ok (.iadd, 1) := dc_96 aX12_placeOf_39
theorem dX12_placeOf_40 : decode cX12_placeOf 40 = .ok (.iaload, 1) := dc_46 aX12_placeOf_40
theorem dX12_placeOf_41 : decode cX12_placeOf 41 = .ok (.imul, 1) := dc_104 aX12_placeOf_41
theorem dX12_placeOf_42 : decode cX12_placeOf 42 = .ok (.isub, 1) := dc_100 aX12_placeOf_42
theorem dX12_placeOf_43 : decode cX12_placeOf 43 = .ok (.istore_n 3, 1) := dc_62 aX12_placeOf_43
theorem dX12_placeOf_44 : decode cX12_placeOf 44 = .ok (.iinc 4 1, 3) := dc_132 (a0 := 4) (a1 := 1) aX12_placeOf_44 (by decide)
theorem dX12_placeOf_47 : decode cX12_placeOf 47 = .ok (.goto (-42), 3) := dc_167 (a0 := 255) (b0 := 214) aX12_placeOf_47 (by decide)
theorem dX12_placeOf_50 : decode cX12_placeOf 50 = .ok (.sipush 1800, 3) := dc_17 (a0 := 7) (b0 := 8) aX12_placeOf_50 (by decide)
theorem dX12_placeOf_53 : decode cX12_placeOf 53 = .ok (.iload 4, 2) := dc_21 (a0 := 4) aX12_placeOf_53
theorem dX12_placeOf_55 : decode cX12_placeOf 55 = .ok (.imul, 1) := dc_104 aX12_placeOf_55
theorem dX12_placeOf_56 : decode cX12_placeOf 56 = .ok (.iload_n 3, 1) := dc_29 aX12_placeOf_56
theorem dX12_placeOf_57 : decode cX12_placeOf 57 = .ok (.aload_n 0, 1) := dc_42 aX12_placeOf_57
theorem dX12_placeOf_58 : decode cX12_placeOf 58 = .ok (.getfield 22, 3) := dc_180 (a0 := 0) (b0 := 22) aX12_placeOf_58
theorem dX12_placeOf_61 : decode cX12_placeOf 61 = .ok (.bipush 12, 2) := dc_16 (a0 := 12) aX12_placeOf_61 (by decide)
theorem dX12_placeOf_63 : decode cX12_placeOf 63 = .ok (.iload_n 1, 1) := dc_27 aX12_placeOf_63
theorem dX12_placeOf_64 : decode cX12_placeOf 64 = .ok (.imul, 1) := dc_104 aX12_placeOf_64
theorem dX12_placeOf_65 : decode cX12_placeOf 65 = .ok (.iload 4, 2) := dc_21 (a0 := 4) aX12_placeOf_65
theorem dX12_placeOf_67 : decode cX12_placeOf 67 = .ok (.iadd, 1) := dc_96 aX12_placeOf_67
theorem dX12_placeOf_68 : decode cX12_placeOf 68 = .ok (.iaload, 1) := dc_46 aX12_placeOf_68
theorem dX12_placeOf_69 : decode cX12_placeOf 69 = .ok (.idiv, 1) := dc_108 aX12_placeOf_69
theorem dX12_placeOf_70 : decode cX12_placeOf 70 = .ok (.iadd, 1) := dc_96 aX12_placeOf_70
theorem dX12_placeOf_71 : decode cX12_placeOf 71 = .ok (.ireturn, 1) := dc_172 aX12_placeOf_71
set_option maxRecDepth 20000 in
theorem ggX12_isClimate_X12_within : GoodIn wsX12_isClimate wsX12_within := goodIn_k _ [[5]] (by rfl) (by decide +kernel)
set_option maxRecDepth 20000 in
theorem gX12_isClimate_X12_within : GoodIn wsX12_isClimate (va_wsS RX12 270 yX12_within wsX12_within) := goodIn_app (goodIn_of _ (by decide +kernel)) ggX12_isClimate_X12_within
set_option maxRecDepth 20000 in
theorem ggX12_isClimate_X12_right : GoodIn wsX12_isClimate wsX12_right := goodIn_k _ [[9, 0, 0, 0, 0, 0, 0, 0, 0, 0, 0, 0, 0, 0, 0, 0, 0, 0, 0, 0, 0, 0, 0, 0, 0, 0, 0, 0, 0, 0, 0, 0, 0, 0, 0, 0, 0, 0, 0, 0, 0, 0, 0, 0, 0, 0, 0, 0, 0, 0, 0, 0, 0, 0, 0, 0, 0, 0, 0, 0]] (by rfl) (by decide +kernel)
set_option maxRecDepth 20000 in
theorem gX12_isClimate_X12_right : GoodIn wsX12_isClimate (wsV RX12 209 RX12 yX12_right wsX12_right) := goodIn_app (goodIn_of _ (by decide +kernel)) ggX12_isClimate_X12_right
noncomputable def sX12_isClimate_33 : List Nat := 172 :: []
noncomputable def sX12_isClimate_30 : List Nat := 182 :: 0 :: 209 :: sX12_isClimate_33
noncomputable def sX12_isClimate_29 : List Nat := 4 :: sX12_isClimate_30
noncomputable def sX12_isClimate_28 : List Nat := 3 :: sX12_isClimate_29
noncomputable def sX12_isClimate_25 : List Nat := 167 :: 0 :: 4 :: sX12_isClimate_28
noncomputable def sX12_isClimate_24 : List Nat := 4 :: sX12_isClimate_25
noncomputable def sX12_isClimate_21 : List Nat := 153 :: 0 :: 7 :: sX12_isClimate_24
noncomputable def sX12_isClimate_18 : List Nat := 184 :: 1 :: 14 :: sX12_isClimate_21
noncomputable def sX12_isClimate_15 : List Nat := 17 :: 84 :: 95 :: sX12_isClimate_18
noncomputable def sX12_isClimate_14 : List Nat := 3 :: sX12_isClimate_15
noncomputable def sX12_isClimate_13 : List Nat := 28 :: sX12_isClimate_14
noncomputable def sX12_isClimate_10 : List Nat := 162 :: 0 :: 18 :: sX12_isClimate_13
noncomputable def sX12_isClimate_7 : List Nat := 180 :: 0 :: 228 :: sX12_isClimate_10
noncomputable def sX12_isClimate_6 : List Nat := 42 :: sX12_isClimate_7
noncomputable def sX12_isClimate_5 : List Nat := 27 :: sX12_isClimate_6
noncomputable def sX12_isClimate_2 : List Nat := 155 :: 0 :: 26 :: sX12_isClimate_5
noncomputable def sX12_isClimate_1 : List Nat := 27 :: sX12_isClimate_2
noncomputable def sX12_isClimate_0 : List Nat := 42 :: sX12_isClimate_1
theorem aX12_isClimate_0 : dc_at cX12_isClimate 0 sX12_isClimate_0 := dc_base (by decide +kernel)
theorem aX12_isClimate_1 : dc_at cX12_isClimate 1 sX12_isClimate_1 := dc_n1 aX12_isClimate_0
theorem aX12_isClimate_2 : dc_at cX12_isClimate 2 sX12_isClimate_2 := dc_n1 aX12_isClimate_1
theorem aX12_isClimate_5 : dc_at cX12_isClimate 5 sX12_isClimate_5 := dc_n3 aX12_isClimate_2
theorem aX12_isClimate_6 : dc_at cX12_isClimate 6 sX12_isClimate_6 := dc_n1 aX12_isClimate_5
theorem aX12_isClimate_7 : dc_at cX12_isClimate 7 sX12_isClimate_7 := dc_n1 aX12_isClimate_6
theorem aX12_isClimate_10 : dc_at cX12_isClimate 10 sX12_isClimate_10 := dc_n3 aX12_isClimate_7
theorem aX12_isClimate_13 : dc_at cX12_isClimate 13 sX12_isClimate_13 := dc_n3 aX12_isClimate_10
theorem aX12_isClimate_14 : dc_at cX12_isClimate 14 sX12_isClimate_14 := dc_n1 aX12_isClimate_13
theorem aX12_isClimate_15 : dc_at cX12_isClimate 15 sX12_isClimate_15 := dc_n1 aX12_isClimate_14
theorem aX12_isClimate_18 : dc_at cX12_isClimate 18 sX12_isClimate_18 := dc_n3 aX12_isClimate_15
theorem aX12_isClimate_21 : dc_at cX12_isClimate 21 sX12_isClimate_21 := dc_n3 aX12_isClimate_18
theorem aX12_isClimate_24 : dc_at cX12_isClimate 24 sX12_isClimate_24 := dc_n3 aX12_isClimate_21
theorem aX12_isClimate_25 : dc_at cX12_isClimate 25 sX12_isClimate_25 := dc_n1 aX12_isClimate_24
theorem aX12_isClimate_28 : dc_at cX12_isClimate 28 sX12_isClimate_28 := dc_n3 aX12_isClimate_25
theorem aX12_isClimate_29 : dc_at cX12_isClimate 29 sX12_isClimate_29 := dc_n1 aX12_isClimate_28
theorem aX12_isClimate_30 : dc_at cX12_isClimate 30 sX12_isClimate_30 := dc_n1 aX12_isClimate_29
theorem aX12_isClimate_33 : dc_at cX12_isClimate 33 sX12_isClimate_33 := dc_n3 aX12_isClimate_30
theorem dX12_isClimate_0 : decode cX12_isClimate 0 = .ok (.aload_n 0, 1) := dc_42 aX12_isClimate_0
theorem dX12_isClimate_1 : decode cX12_isClimate 1 = .ok (.iload_n 1, 1) := dc_27 aX12_isClimate_1
theorem dX12_isClimate_2 : decode cX12_isClimate 2 = .ok (.ifCond .lt 26, 3) := dc_155 (a0 := 0) (b0 := 26) aX12_isClimate_2 (by decide)
theorem dX12_isClimate_5 : decode cX12_isClimate 5 = .ok (.iload_n 1, 1) := dc_27 aX12_isClimate_5
theorem dX12_isClimate_6 : decode cX12_isClimate 6 = .ok (.aload_n 0, 1) := dc_42 aX12_isClimate_6
theorem dX12_isClimate_7 : decode cX12_isClimate 7 = .ok (.getfield 228, 3) := dc_180 (a0 := 0) (b0 := 228) aX12_isClimate_7
theorem dX12_isClimate_10 : decode cX12_isClimate 10 = .ok (.if_icmp .ge 18, 3) := dc_162 (a0 := 0) (b0 := 18) aX12_isClimate_10 (by decide)
theorem dX12_isClimate_13 : decode cX12_isClimate 13 = .ok (.iload_n 2, 1) := dc_28 aX12_isClimate_13
theorem dX12_isClimate_14 : decode cX12_isClimate 14 = .ok (.iconst 0, 1) := dc_3 aX12_isClimate_14
theorem dX12_isClimate_15 : decode cX12_isClimate 15 = .ok (.sipush 21599, 3) := dc_17 (a0 := 84) (b0 := 95) aX12_isClimate_15 (by decide)
theorem dX12_isClimate_18 : decode cX12_isClimate 18 = .ok (.invokestatic 270, 3) := dc_184 (a0 := 1) (b0 := 14) aX12_isClimate_18
theorem dX12_isClimate_21 : decode cX12_isClimate 21 = .ok (.ifCond .eq 7, 3) := dc_153 (a0 := 0) (b0 := 7) aX12_isClimate_21 (by decide)
theorem dX12_isClimate_24 : decode cX12_isClimate 24 = .ok (.iconst 1, 1) := dc_4 aX12_isClimate_24
theorem dX12_isClimate_25 : decode cX12_isClimate 25 = .ok (.goto 4, 3) := dc_167 (a0 := 0) (b0 := 4) aX12_isClimate_25 (by decide)
theorem dX12_isClimate_28 : decode cX12_isClimate 28 = .ok (.iconst 0, 1) := dc_3 aX12_isClimate_28
theorem dX12_isClimate_29 : decode cX12_isClimate 29 = .ok (.iconst 1, 1) := dc_4 aX12_isClimate_29
theorem dX12_isClimate_30 : decode cX12_isClimate 30 = .ok (.invokevirtual 209, 3) := dc_182 (a0 := 0) (b0 := 209) aX12_isClimate_30
theorem dX12_isClimate_33 : decode cX12_isClimate 33 = .ok (.ireturn, 1) := dc_172 aX12_isClimate_33
set_option maxRecDepth 20000 in
theorem ggX12_climb_X12_isClimate : GoodIn wsX12_climb wsX12_isClimate := goodIn_k _ [[6, 0, 0, 0], [5, 4, 0, 0, 0, 0], [1, 18, 0, 0, 0, 0, 0, 0, 0, 0, 0, 0, 0, 0, 0, 0, 0, 0, 0, 0, 0, 0, 0, 0, 0, 0, 0, 0, 0, 0, 0, 0, 0, 0, 0, 0, 0, 0, 0, 0, 0, 0, 0, 0, 0, 0, 0, 0, 0, 0, 0, 0, 0, 0, 0, 0, 0, 0, 0]] (by rfl) (by decide +kernel)
set_option maxRecDepth 20000 in
theorem gX12_climb_X12_isClimate : GoodIn wsX12_climb (wsV RX12 303 RX12 yX12_isClimate wsX12_isClimate) := goodIn_app (goodIn_of _ (by decide +kernel)) ggX12_climb_X12_isClimate
set_option maxRecDepth 20000 in
theorem ggX12_climb_X12_climbOf : GoodIn wsX12_climb wsX12_climbOf := goodIn_k _ [[18, 0, 0, 0, 0, 0, 0, 0, 0, 0, 0, 0, 0, 0, 0, 0, 0, 0, 0, 0, 0, 0, 0, 0, 0, 0, 0, 0, 0, 0, 0, 0, 0, 0, 0, 0, 0, 0, 0, 0, 0, 0, 0, 0, 0, 0, 0, 0, 0, 0, 0, 0, 0, 0, 0, 0, 0, 0, 0, 0]] (by rfl) (by decide +kernel)
set_option maxRecDepth 20000 in
theorem gX12_climb_X12_climbOf : GoodIn wsX12_climb (wsV RX12 306 RX12 yX12_climbOf wsX12_climbOf) := goodIn_app (goodIn_of _ (by decide +kernel)) ggX12_climb_X12_climbOf
noncomputable def sX12_climb_24 : List Nat := 172 :: []
noncomputable def sX12_climb_23 : List Nat := 3 :: sX12_climb_24
noncomputable def sX12_climb_20 : List Nat := 167 :: 0 :: 4 :: sX12_climb_23
noncomputable def sX12_climb_17 : List Nat := 182 :: 1 :: 50 :: sX12_climb_20
noncomputable def sX12_climb_16 : List Nat := 28 :: sX12_climb_17
noncomputable def sX12_climb_15 : List Nat := 27 :: sX12_climb_16
noncomputable def sX12_climb_14 : List Nat := 42 :: sX12_climb_15
noncomputable def sX12_climb_11 : List Nat := 153 :: 0 :: 12 :: sX12_climb_14
noncomputable def sX12_climb_8 : List Nat := 182 :: 1 :: 47 :: sX12_climb_11
noncomputable def sX12_climb_7 : List Nat := 28 :: sX12_climb_8
noncomputable def sX12_climb_6 : List Nat := 27 :: sX12_climb_7
noncomputable def sX12_climb_5 : List Nat := 42 :: sX12_climb_6
noncomputable def sX12_climb_2 : List Nat := 181 :: 0 :: 129 :: sX12_climb_5
noncomputable def sX12_climb_1 : List Nat := 3 :: sX12_climb_2
noncomputable def sX12_climb_0 : List Nat := 42 :: sX12_climb_1
theorem aX12_climb_0 : dc_at cX12_climb 0 sX12_climb_0 := dc_base (by decide +kernel)
theorem aX12_climb_1 : dc_at cX12_climb 1 sX12_climb_1 := dc_n1 aX12_climb_0
theorem aX12_climb_2 : dc_at cX12_climb 2 sX12_climb_2 := dc_n1 aX12_climb_1
theorem aX12_climb_5 : dc_at cX12_climb 5 sX12_climb_5 := dc_n3 aX12_climb_2
theorem aX12_climb_6 : dc_at cX12_climb 6 sX12_climb_6 := dc_n1 aX12_climb_5
theorem aX12_climb_7 : dc_at cX12_climb 7 sX12_climb_7 := dc_n1 aX12_climb_6
theorem aX12_climb_8 : dc_at cX12_climb 8 sX12_climb_8 := dc_n1 aX12_climb_7
theorem aX12_climb_11 : dc_at cX12_climb 11 sX12_climb_11 := dc_n3 aX12_climb_8
theorem aX12_climb_14 : dc_at cX12_climb 14 sX12_climb_14 := dc_n3 aX12_climb_11
theorem aX12_climb_15 : dc_at cX12_climb 15 sX12_climb_15 := dc_n1 aX12_climb_14
theorem aX12_climb_16 : dc_at cX12_climb 16 sX12_climb_16 := dc_n1 aX12_climb_15
theorem aX12_climb_17 : dc_at cX12_climb 17 sX12_climb_17 := dc_n1 aX12_climb_16
theorem aX12_climb_20 : dc_at cX12_climb 20 sX12_climb_20 := dc_n3 aX12_climb_17
theorem aX12_climb_23 : dc_at cX12_climb 23 sX12_climb_23 := dc_n3 aX12_climb_20
theorem aX12_climb_24 : dc_at cX12_climb 24 sX12_climb_24 := dc_n1 aX12_climb_23
theorem dX12_climb_0 : decode cX12_climb 0 = .ok (.aload_n 0, 1) := dc_42 aX12_climb_0
theorem dX12_climb_1 : decode cX12_climb 1 = .ok (.iconst 0, 1) := dc_3 aX12_climb_1
theorem dX12_climb_2 : decode cX12_climb 2 = .ok (.putfield 129, 3) := dc_181 (a0 := 0) (b0 := 129) aX12_climb_2
theorem dX12_climb_5 : decode cX12_climb 5 = .ok (.aload_n 0, 1) := dc_42 aX12_climb_5
theorem dX12_climb_6 : decode cX12_climb 6 = .ok (.iload_n 1, 1) := dc_27 aX12_climb_6
theorem dX12_climb_7 : decode cX12_climb 7 = .ok (.iload_n 2, 1) := dc_28 aX12_climb_7
theorem dX12_climb_8 : decode cX12_climb 8 = .ok (.invokevirtual 303, 3) := dc_182 (a0 := 1) (b0 := 47) aX12_climb_8
theorem dX12_climb_11 : decode cX12_climb 11 = .ok (.ifCond .eq 12, 3) := dc_153 (a0 := 0) (b0 := 12) aX12_climb_11 (by decide)
theorem dX12_climb_14 : decode cX12_climb 14 = .ok (.aload_n 0, 1) := dc_42 aX12_climb_14
theorem dX12_climb_15 : decode cX12_climb 15 = .ok (.iload_n 1, 1) := dc_27 aX12_climb_15
theorem dX12_climb_16 : decode cX12_climb 16 = .ok (.iload_n 2, 1) := dc_28 aX12_climb_16
theorem dX12_climb_17 : decode cX12_climb 17 = .ok (.invokevirtual 306, 3) := dc_182 (a0 := 1) (b0 := 50) aX12_climb_17
theorem dX12_climb_20 : decode cX12_climb 20 = .ok (.goto 4, 3) := dc_167 (a0 := 0) (b0 := 4) aX12_climb_20 (by decide)
theorem dX12_climb_23 : decode cX12_climb 23 = .ok (.iconst 0, 1) := dc_3 aX12_climb_23
theorem dX12_climb_24 : decode cX12_climb 24 = .ok (.ireturn, 1) := dc_172 aX12_climb_24
set_option maxRecDepth 20000 in
theorem ggX12_riseOf_X12_climbOf : GoodIn wsX12_riseOf wsX12_climbOf := goodIn_k _ [[6, 0, 4, 0, 0, 0, 0, 0, 0, 0, 0, 0, 0, 0, 0, 0, 0, 0, 0, 0, 0, 0, 0, 0, 0, 0, 0, 0, 0, 0, 0, 0, 0, 0, 0, 0, 0, 0, 0, 0, 0, 0, 0, 0, 0, 0, 0, 0, 0, 0, 0, 0, 0, 0, 0, 0, 0, 0, 0, 0]] (by rfl) (by decide +kernel)
set_option maxRecDepth 20000 in
theorem gX12_riseOf_X12_climbOf : GoodIn wsX12_riseOf (wsV RX12 306 RX12 yX12_climbOf wsX12_climbOf) := goodIn_app (goodIn_of _ (by decide +kernel)) ggX12_riseOf_X12_climbOf
set_option maxRecDepth 20000 in
theorem ggX12_riseOf_X12_placeOf : GoodIn wsX12_riseOf wsX12_placeOf := goodIn_k _ [[11], [7, 4, 0, 0, 0, 0, 0, 0, 0, 0, 0, 0, 0, 0, 0, 0, 0, 0, 0, 0, 0, 0, 0, 0, 0, 0, 0, 0, 0, 0, 0, 0, 0, 0, 0, 0, 0, 0, 0, 0, 0, 0, 0, 0, 0, 0, 0, 0, 0, 0, 0, 0, 0, 0, 0, 0, 0, 0, 0]] (by rfl) (by decide +kernel)
set_option maxRecDepth 20000 in
theorem gX12_riseOf_X12_placeOf : GoodIn wsX12_riseOf (wsV RX12 310 RX12 yX12_placeOf wsX12_placeOf) := goodIn_app (goodIn_of _ (by decide +kernel)) ggX12_riseOf_X12_placeOf
noncomputable def sX12_riseOf_21 : List Nat := 172 :: []
noncomputable def sX12_riseOf_18 : List Nat := 182 :: 1 :: 54 :: sX12_riseOf_21
noncomputable def sX12_riseOf_17 : List Nat := 112 :: sX12_riseOf_18
noncomputable def sX12_riseOf_14 : List Nat := 19 :: 1 :: 53 :: sX12_riseOf_17
noncomputable def sX12_riseOf_13 : List Nat := 96 :: sX12_riseOf_14
noncomputable def sX12_riseOf_12 : List Nat := 104 :: sX12_riseOf_13
noncomputable def sX12_riseOf_11 : List Nat := 29 :: sX12_riseOf_12
noncomputable def sX12_riseOf_8 : List Nat := 17 :: 70 :: 80 :: sX12_riseOf_11
noncomputable def sX12_riseOf_5 : List Nat := 182 :: 1 :: 50 :: sX12_riseOf_8
noncomputable def sX12_riseOf_4 : List Nat := 28 :: sX12_riseOf_5
noncomputable def sX12_riseOf_3 : List Nat := 27 :: sX12_riseOf_4
noncomputable def sX12_riseOf_2 : List Nat := 42 :: sX12_riseOf_3
noncomputable def sX12_riseOf_1 : List Nat := 27 :: sX12_riseOf_2
noncomputable def sX12_riseOf_0 : List Nat := 42 :: sX12_riseOf_1
theorem aX12_riseOf_0 : dc_at cX12_riseOf 0 sX12_riseOf_0 := dc_base (by decide +kernel)
theorem aX12_riseOf_1 : dc_at cX12_riseOf 1 sX12_riseOf_1 := dc_n1 aX12_riseOf_0
theorem aX12_riseOf_2 : dc_at cX12_riseOf 2 sX12_riseOf_2 := dc_n1 aX12_riseOf_1
theorem aX12_riseOf_3 : dc_at cX12_riseOf 3 sX12_riseOf_3 := dc_n1 aX12_riseOf_2
theorem aX12_riseOf_4 : dc_at cX12_riseOf 4 sX12_riseOf_4 := dc_n1 aX12_riseOf_3
theorem aX12_riseOf_5 : dc_at cX12_riseOf 5 sX12_riseOf_5 := dc_n1 aX12_riseOf_4
theorem aX12_riseOf_8 : dc_at cX12_riseOf 8 sX12_riseOf_8 := dc_n3 aX12_riseOf_5
theorem aX12_riseOf_11 : dc_at cX12_riseOf 11 sX12_riseOf_11 := dc_n3 aX12_riseOf_8
theorem aX12_riseOf_12 : dc_at cX12_riseOf 12 sX12_riseOf_12 := dc_n1 aX12_riseOf_11
theorem aX12_riseOf_13 : dc_at cX12_riseOf 13 sX12_riseOf_13 := dc_n1 aX12_riseOf_12
theorem aX12_riseOf_14 : dc_at cX12_riseOf 14 sX12_riseOf_14 := dc_n1 aX12_riseOf_13
theorem aX12_riseOf_17 : dc_at cX12_riseOf 17 sX12_riseOf_17 := dc_n3 aX12_riseOf_14
theorem aX12_riseOf_18 : dc_at cX12_riseOf 18 sX12_riseOf_18 := dc_n1 aX12_riseOf_17
theorem aX12_riseOf_21 : dc_at cX12_riseOf 21 sX12_riseOf_21 := dc_n3 aX12_riseOf_18
theorem dX12_riseOf_0 : decode cX12_riseOf 0 = .ok (.aload_n 0, 1) := dc_42 aX12_riseOf_0
theorem dX12_riseOf_1 : decode cX12_riseOf 1 = .ok (.iload_n 1, 1) := dc_27 aX12_riseOf_1
theorem dX12_riseOf_2 : decode cX12_riseOf 2 = .ok (.aload_n 0, 1) := dc_42 aX12_riseOf_2
theorem dX12_riseOf_3 : decode cX12_riseOf 3 = .ok (.iload_n 1, 1) := dc_27 aX12_riseOf_3
theorem dX12_riseOf_4 : decode cX12_riseOf 4 = .ok (.iload_n 2, 1) := dc_28 aX12_riseOf_4
theorem dX12_riseOf_5 : decode cX12_riseOf 5 = .ok (.invokevirtual 306, 3) := dc_182 (a0 := 1) (b0 := 50) aX12_riseOf_5
theorem dX12_riseOf_8 : decode cX12_riseOf 8 = .ok (.sipush 18000, 3) := dc_17 (a0 := 70) (b0 := 80) aX12_riseOf_8 (by decide)
theorem dX12_riseOf_11 : decode cX12_riseOf 11 = .ok (.iload_n 3, 1) := dc_29 aX12_riseOf_11
theorem dX12_riseOf_12 : decode cX12_riseOf 12 = .ok (.imul, 1) := dc_104 aX12_riseOf_12
theorem dX12_riseOf_13 : decode cX12_riseOf 13 = .ok (.iadd, 1) := dc_96 aX12_riseOf_13
theorem dX12_riseOf_14 : decode cX12_riseOf 14 = .ok (.ldc_w 309, 3) := dc_19 (a0 := 1) (b0 := 53) aX12_riseOf_14
theorem dX12_riseOf_17 : decode cX12_riseOf 17 = .ok (.irem, 1) := dc_112 aX12_riseOf_17
theorem dX12_riseOf_18 : decode cX12_riseOf 18 = .ok (.invokevirtual 310, 3) := dc_182 (a0 := 1) (b0 := 54) aX12_riseOf_18
theorem dX12_riseOf_21 : decode cX12_riseOf 21 = .ok (.ireturn, 1) := dc_172 aX12_riseOf_21
set_option maxRecDepth 20000 in
theorem ggX12_rise_X12_isClimate : GoodIn wsX12_rise wsX12_isClimate := goodIn_k _ [[6, 0, 0, 0], [5, 4, 0, 0, 0, 0], [1, 27, 0, 0, 0, 0, 0, 0, 0, 0, 0, 0, 0, 0, 0, 0, 0, 0, 0, 0, 0, 0, 0, 0, 0, 0, 0, 0, 0, 0, 0, 0, 0, 0, 0, 0, 0, 0, 0, 0, 0, 0, 0, 0, 0, 0, 0, 0, 0, 0, 0, 0, 0, 0, 0, 0, 0, 0, 0]] (by rfl) (by decide +kernel)
set_option maxRecDepth 20000 in
theorem gX12_rise_X12_isClimate : GoodIn wsX12_rise (wsV RX12 303 RX12 yX12_isClimate wsX12_isClimate) := goodIn_app (goodIn_of _ (by decide +kernel)) ggX12_rise_X12_isClimate
set_option maxRecDepth 20000 in
theorem ggX12_rise_X12_within : GoodIn wsX12_rise wsX12_within := goodIn_k _ [[10]] (by rfl) (by decide +kernel)
set_option maxRecDepth 20000 in
theorem gX12_rise_X12_within : GoodIn wsX12_rise (va_wsS RX12 270 yX12_within wsX12_within) := goodIn_app (goodIn_of _ (by decide +kernel)) ggX12_rise_X12_within
set_option maxRecDepth 20000 in
theorem ggX12_rise_X12_right : GoodIn wsX12_rise wsX12_right := goodIn_k _ [[14], [1, 27, 0, 0, 0, 0, 0, 0, 0, 0, 0, 0, 0, 0, 0, 0, 0, 0, 0, 0, 0, 0, 0, 0, 0, 0, 0, 0, 0, 0, 0, 0, 0, 0, 0, 0, 0, 0, 0, 0, 0, 0, 0, 0, 0, 0, 0, 0, 0, 0, 0, 0, 0, 0, 0, 0, 0, 0, 0]] (by rfl) (by decide +kernel)
set_option maxRecDepth 20000 in
theorem gX12_rise_X12_right : GoodIn wsX12_rise (wsV RX12 209 RX12 yX12_right wsX12_right) := goodIn_app (goodIn_of _ (by decide +kernel)) ggX12_rise_X12_right
set_option maxRecDepth 20000 in
theorem ggX12_rise_X12_riseOf : GoodIn wsX12_rise wsX12_riseOf := goodIn_k _ [[18, 0, 0, 0, 0], [5, 17, 0, 0, 0, 0, 0, 0, 0, 0, 0, 0, 0, 0, 0, 0, 0, 0, 0, 0, 0, 0, 0, 0, 0, 0, 0, 0, 0, 0, 0, 0, 0, 0, 0, 0, 0, 0, 0, 0, 0, 0, 0, 0, 0, 0, 0, 0, 0, 0, 0, 0, 0, 0, 0, 0, 0, 0, 0, 0, 0, 0, 0, 0, 0]] (by rfl) (by decide +kernel)
set_option maxRecDepth 20000 in
theorem gX12_rise_X12_riseOf : GoodIn wsX12_rise (wsV RX12 313 RX12 yX12_riseOf wsX12_riseOf) := goodIn_app (goodIn_of _ (by decide +kernel)) ggX12_rise_X12_riseOf
noncomputable def sX12_rise_39 : List Nat := 172 :: []
noncomputable def sX12_rise_36 : List Nat := 182 :: 1 :: 57 :: sX12_rise_39
noncomputable def sX12_rise_35 : List Nat := 29 :: sX12_rise_36
noncomputable def sX12_rise_34 : List Nat := 28 :: sX12_rise_35
noncomputable def sX12_rise_33 : List Nat := 27 :: sX12_rise_34
noncomputable def sX12_rise_32 : List Nat := 42 :: sX12_rise_33
noncomputable def sX12_rise_31 : List Nat := 172 :: sX12_rise_32
noncomputable def sX12_rise_30 : List Nat := 3 :: sX12_rise_31
noncomputable def sX12_rise_27 : List Nat := 154 :: 0 :: 5 :: sX12_rise_30
noncomputable def sX12_rise_24 : List Nat := 182 :: 0 :: 209 :: sX12_rise_27
noncomputable def sX12_rise_23 : List Nat := 4 :: sX12_rise_24
noncomputable def sX12_rise_20 : List Nat := 184 :: 1 :: 14 :: sX12_rise_23
noncomputable def sX12_rise_17 : List Nat := 17 :: 1 :: 103 :: sX12_rise_20
noncomputable def sX12_rise_16 : List Nat := 3 :: sX12_rise_17
noncomputable def sX12_rise_15 : List Nat := 29 :: sX12_rise_16
noncomputable def sX12_rise_14 : List Nat := 42 :: sX12_rise_15
noncomputable def sX12_rise_11 : List Nat := 153 :: 0 :: 19 :: sX12_rise_14
noncomputable def sX12_rise_8 : List Nat := 182 :: 1 :: 47 :: sX12_rise_11
noncomputable def sX12_rise_7 : List Nat := 28 :: sX12_rise_8
noncomputable def sX12_rise_6 : List Nat := 27 :: sX12_rise_7
noncomputable def sX12_rise_5 : List Nat := 42 :: sX12_rise_6
noncomputable def sX12_rise_2 : List Nat := 181 :: 0 :: 129 :: sX12_rise_5
noncomputable def sX12_rise_1 : List Nat := 3 :: sX12_rise_2
noncomputable def sX12_rise_0 : List Nat := 42 :: sX12_rise_1
theorem aX12_rise_0 : dc_at cX12_rise 0 sX12_rise_0 := dc_base (by decide +kernel)
theorem aX12_rise_1 : dc_at cX12_rise 1 sX12_rise_1 := dc_n1 aX12_rise_0
theorem aX12_rise_2 : dc_at cX12_rise 2 sX12_rise_2 := dc_n1 aX12_rise_1
theorem aX12_rise_5 : dc_at cX12_rise 5 sX12_rise_5 := dc_n3 aX12_rise_2
theorem aX12_rise_6 : dc_at cX12_rise 6 sX12_rise_6 := dc_n1 aX12_rise_5
theorem aX12_rise_7 : dc_at cX12_rise 7 sX12_rise_7 := dc_n1 aX12_rise_6
theorem aX12_rise_8 : dc_at cX12_rise 8 sX12_rise_8 := dc_n1 aX12_rise_7
theorem aX12_rise_11 : dc_at cX12_rise 11 sX12_rise_11 := dc_n3 aX12_rise_8
theorem aX12_rise_14 : dc_at cX12_rise 14 sX12_rise_14 := dc_n3 aX12_rise_11
theorem aX12_rise_15 : dc_at cX12_rise 15 sX12_rise_15 := dc_n1 aX12_rise_14
theorem aX12_rise_16 : dc_at cX12_rise 16 sX12_rise_16 := dc_n1 aX12_rise_15
theorem aX12_rise_17 : dc_at cX12_rise 17 sX12_rise_17 := dc_n1 aX12_rise_16
theorem aX12_rise_20 : dc_at cX12_rise 20 sX12_rise_20 := dc_n3 aX12_rise_17
theorem aX12_rise_23 : dc_at cX12_rise 23 sX12_rise_23 := dc_n3 aX12_rise_20
theorem aX12_rise_24 : dc_at cX12_rise 24 sX12_rise_24 := dc_n1 aX12_rise_23
theorem aX12_rise_27 : dc_at cX12_rise 27 sX12_rise_27 := dc_n3 aX12_rise_24
theorem aX12_rise_30 : dc_at cX12_rise 30 sX12_rise_30 := dc_n3 aX12_rise_27
theorem aX12_rise_31 : dc_at cX12_rise 31 sX12_rise_31 := dc_n1 aX12_rise_30
theorem aX12_rise_32 : dc_at cX12_rise 32 sX12_rise_32 := dc_n1 aX12_rise_31
theorem aX12_rise_33 : dc_at cX12_rise 33 sX12_rise_33 := dc_n1 aX12_rise_32
theorem aX12_rise_34 : dc_at cX12_rise 34 sX12_rise_34 := dc_n1 aX12_rise_33
theorem aX12_rise_35 : dc_at cX12_rise 35 sX12_rise_35 := dc_n1 aX12_rise_34
theorem aX12_rise_36 : dc_at cX12_rise 36 sX12_rise_36 := dc_n1 aX12_rise_35
theorem aX12_rise_39 : dc_at cX12_rise 39 sX12_rise_39 := dc_n3 aX12_rise_36
theorem dX12_rise_0 : decode cX12_rise 0 = .ok (.aload_n 0, 1) := dc_42 aX12_rise_0
theorem dX12_rise_1 : decode cX12_rise 1 = .ok (.iconst 0, 1) := dc_3 aX12_rise_1
theorem dX12_rise_2 : decode cX12_rise 2 = .ok (.putfield 129, 3) := dc_181 (a0 := 0) (b0 := 129) aX12_rise_2
theorem dX12_rise_5 : decode cX12_rise 5 = .ok (.aload_n 0, 1) := dc_42 aX12_rise_5
theorem dX12_rise_6 : decode cX12_rise 6 = .ok (.iload_n 1, 1) := dc_27 aX12_rise_6
theorem dX12_rise_7 : decode cX12_rise 7 = .ok (.iload_n 2, 1) := dc_28 aX12_rise_7
theorem dX12_rise_8 : decode cX12_rise 8 = .ok (.invokevirtual 303, 3) := dc_182 (a0 := 1) (b0 := 47) aX12_rise_8
theorem dX12_rise_11 : decode cX12_rise 11 = .ok (.ifCond .eq 19, 3) := dc_153 (a0 := 0) (b0 := 19) aX12_rise_11 (by decide)
theorem dX12_rise_14 : decode cX12_rise 14 = .ok (.aload_n 0, 1) := dc_42 aX12_rise_14
theorem dX12_rise_15 : decode cX12_rise 15 = .ok (.iload_n 3, 1) := dc_29 aX12_rise_15
theorem dX12_rise_16 : decode cX12_rise 16 = .ok (.iconst 0, 1) := dc_3 aX12_rise_16
theorem dX12_rise_17 : decode cX12_rise 17 = .ok (.sipush 359, 3) := dc_17 (a0 := 1) (b0 := 103) aX12_rise_17 (by decide)
theorem dX12_rise_20 : decode cX12_rise 20 = .ok (.invokestatic 270, 3) := dc_184 (a0 := 1) (b0 := 14) aX12_rise_20
theorem dX12_rise_23 : decode cX12_rise 23 = .ok (.iconst 1, 1) := dc_4 aX12_rise_23
theorem dX12_rise_24 : decode cX12_rise 24 = .ok (.invokevirtual 209, 3) := dc_182 (a0 := 0) (b0 := 209) aX12_rise_24
theorem dX12_rise_27 : decode cX12_rise 27 = .ok (.ifCond .ne 5, 3) := dc_154 (a0 := 0) (b0 := 5) aX12_rise_27 (by decide)
theorem dX12_rise_30 : decode cX12_rise 30 = .ok (.iconst 0, 1) := dc_3 aX12_rise_30
theorem dX12_rise_31 : decode cX12_rise 31 = .ok (.ireturn, 1) := dc_172 aX12_rise_31
theorem dX12_rise_32 : decode cX12_rise 32 = .ok (.aload_n 0, 1) := dc_42 aX12_rise_32
theorem dX12_rise_33 : decode cX12_rise 33 = .ok (.iload_n 1, 1) := dc_27 aX12_rise_33
theorem dX12_rise_34 : decode cX12_rise 34 = .ok (.iload_n 2, 1) := dc_28 aX12_rise_34
theorem dX12_rise_35 : decode cX12_rise 35 = .ok (.iload_n 3, 1) := dc_29 aX12_rise_35
theorem dX12_rise_36 : decode cX12_rise 36 = .ok (.invokevirtual 313, 3) := dc_182 (a0 := 1) (b0 := 57) aX12_rise_36
theorem dX12_rise_39 : decode cX12_rise 39 = .ok (.ireturn, 1) := dc_172 aX12_rise_39
set_option maxRecDepth 20000 in
theorem ggX12_middleOf_X12_climbOf : GoodIn wsX12_middleOf wsX12_climbOf := goodIn_k _ [[7, 0, 4, 0, 0, 0, 0, 0, 0, 0, 0, 0, 0, 0, 0, 0, 0, 0, 0, 0, 0, 0, 0, 0, 0, 0, 0, 0, 0, 0, 0, 0, 0, 0, 0, 0, 0, 0, 0, 0, 0, 0, 0, 0, 0, 0, 0, 0, 0, 0, 0, 0, 0, 0, 0, 0, 0, 0, 0, 0]] (by rfl) (by decide +kernel)
set_option maxRecDepth 20000 in
theorem gX12_middleOf_X12_climbOf : GoodIn wsX12_middleOf (wsV RX12 306 RX12 yX12_climbOf wsX12_climbOf) := goodIn_app (goodIn_of _ (by decide +kernel)) ggX12_middleOf_X12_climbOf
set_option maxRecDepth 20000 in
theorem ggX12_middleOf_X12_placeOf : GoodIn wsX12_middleOf wsX12_placeOf := goodIn_k _ [[12], [8, 4, 0, 0, 0, 0, 0, 0, 0, 0, 0, 0, 0, 0, 0, 0, 0, 0, 0, 0, 0, 0, 0, 0, 0, 0, 0, 0, 0, 0, 0, 0, 0, 0, 0, 0, 0, 0, 0, 0, 0, 0, 0, 0, 0, 0, 0, 0, 0, 0, 0, 0, 0, 0, 0, 0, 0, 0, 0]] (by rfl) (by decide +kernel)
set_option maxRecDepth 20000 in
theorem gX12_middleOf_X12_placeOf : GoodIn wsX12_middleOf (wsV RX12 310 RX12 yX12_placeOf wsX12_placeOf) := goodIn_app (goodIn_of _ (by decide +kernel)) ggX12_middleOf_X12_placeOf
noncomputable def sX12_middleOf_23 : List Nat := 172 :: []
noncomputable def sX12_middleOf_20 : List Nat := 182 :: 1 :: 54 :: sX12_middleOf_23
noncomputable def sX12_middleOf_19 : List Nat := 112 :: sX12_middleOf_20
noncomputable def sX12_middleOf_16 : List Nat := 19 :: 1 :: 53 :: sX12_middleOf_19
noncomputable def sX12_middleOf_15 : List Nat := 100 :: sX12_middleOf_16
noncomputable def sX12_middleOf_12 : List Nat := 19 :: 1 :: 60 :: sX12_middleOf_15
noncomputable def sX12_middleOf_11 : List Nat := 96 :: sX12_middleOf_12
noncomputable def sX12_middleOf_8 : List Nat := 19 :: 1 :: 53 :: sX12_middleOf_11
noncomputable def sX12_middleOf_5 : List Nat := 182 :: 1 :: 50 :: sX12_middleOf_8
noncomputable def sX12_middleOf_4 : List Nat := 28 :: sX12_middleOf_5
noncomputable def sX12_middleOf_3 : List Nat := 27 :: sX12_middleOf_4
noncomputable def sX12_middleOf_2 : List Nat := 42 :: sX12_middleOf_3
noncomputable def sX12_middleOf_1 : List Nat := 3 :: sX12_middleOf_2
noncomputable def sX12_middleOf_0 : List Nat := 42 :: sX12_middleOf_1
theorem aX12_middleOf_0 : dc_at cX12_middleOf 0 sX12_middleOf_0 := dc_base (by decide +kernel)
theorem aX12_middleOf_1 : dc_at cX12_middleOf 1 sX12_middleOf_1 := dc_n1 aX12_middleOf_0
theorem aX12_middleOf_2 : dc_at cX12_middleOf 2 sX12_middleOf_2 := dc_n1 aX12_middleOf_1
theorem aX12_middleOf_3 : dc_at cX12_middleOf 3 sX12_middleOf_3 := dc_n1 aX12_middleOf_2
theorem aX12_middleOf_4 : dc_at cX12_middleOf 4 sX12_middleOf_4 := dc_n1 aX12_middleOf_3
theorem aX12_middleOf_5 : dc_at cX12_middleOf 5 sX12_middleOf_5 := dc_n1 aX12_middleOf_4
theorem aX12_middleOf_8 : dc_at cX12_middleOf 8 sX12_middleOf_8 := dc_n3 aX12_middleOf_5
theorem aX12_middleOf_11 : dc_at cX12_middleOf 11 sX12_middleOf_11 := dc_n3 aX12_middleOf_8
theorem aX12_middleOf_12 : dc_at cX12_middleOf 12 sX12_middleOf_12 := dc_n1 aX12_middleOf_11
theorem aX12_middleOf_15 : dc_at cX12_middleOf 15 sX12_middleOf_15 := dc_n3 aX12_middleOf_12
theorem aX12_middleOf_16 : dc_at cX12_middleOf 16 sX12_middleOf_16 := dc_n1 aX12_middleOf_15
theorem aX12_middleOf_19 : dc_at cX12_middleOf 19 sX12_middleOf_19 := dc_n3 aX12_middleOf_16
theorem aX12_middleOf_20 : dc_at cX12_middleOf 20 sX12_middleOf_20 := dc_n1 aX12_middleOf_19
theorem aX12_middleOf_23 : dc_at cX12_middleOf 23 sX12_middleOf_23 := dc_n3 aX12_middleOf_20
theorem dX12_middleOf_0 : decode cX12_middleOf 0 = .ok (.aload_n 0, 1) := dc_42 aX12_middleOf_0
theorem dX12_middleOf_1 : decode cX12_middleOf 1 = .ok (.iconst 0, 1) := dc_3 aX12_middleOf_1
theorem dX12_middleOf_2 : decode cX12_middleOf 2 = .ok (.aload_n 0, 1) := dc_42 aX12_middleOf_2
theorem dX12_middleOf_3 : decode cX12_middleOf 3 = .ok (.iload_n 1, 1) := dc_27 aX12_middleOf_3
theorem dX12_middleOf_4 : decode cX12_middleOf 4 = .ok (.iload_n 2, 1) := dc_28 aX12_middleOf_4
theorem dX12_middleOf_5 : decode cX12_middleOf 5 = .ok (.invokevirtual 306, 3) := dc_182 (a0 := 1) (b0 := 50) aX12_middleOf_5
theorem dX12_middleOf_8 : decode cX12_middleOf 8 = .ok (.ldc_w 309, 3) := dc_19 (a0 := 1) (b0 := 53) aX12_middleOf_8
theorem dX12_middleOf_11 : decode cX12_middleOf 11 = .ok (.iadd, 1) := dc_96 aX12_middleOf_11
theorem dX12_middleOf_12 : decode cX12_middleOf 12 = .ok (.ldc_w 316, 3) := dc_19 (a0 := 1) (b0 := 60) aX12_middleOf_12
theorem dX12_middleOf_15 : decode cX12_middleOf 15 = .ok (.isub, 1) := dc_100 aX12_middleOf_15
theorem dX12_middleOf_16 : decode cX12_middleOf 16 = .ok (.ldc_w 309, 3) := dc_19 (a0 := 1) (b0 := 53) aX12_middleOf_16
theorem dX12_middleOf_19 : decode cX12_middleOf 19 = .ok (.irem, 1) := dc_112 aX12_middleOf_19
theorem dX12_middleOf_20 : decode cX12_middleOf 20 = .ok (.invokevirtual 310, 3) := dc_182 (a0 := 1) (b0 := 54) aX12_middleOf_20
theorem dX12_middleOf_23 : decode cX12_middleOf 23 = .ok (.ireturn, 1) := dc_172 aX12_middleOf_23
set_option maxRecDepth 20000 in
theorem ggX12_middle_X12_isClimate : GoodIn wsX12_middle wsX12_isClimate := goodIn_k _ [[6, 0, 0, 0], [5, 4, 0, 0, 0, 0], [1, 28, 0, 0, 0, 0, 0, 0, 0, 0, 0, 0, 0, 0, 0, 0, 0, 0, 0, 0, 0, 0, 0, 0, 0, 0, 0, 0, 0, 0, 0, 0, 0, 0, 0, 0, 0, 0, 0, 0, 0, 0, 0, 0, 0, 0, 0, 0, 0, 0, 0, 0, 0, 0, 0, 0, 0, 0, 0]] (by rfl) (by decide +kernel)
set_option maxRecDepth 20000 in
theorem gX12_middle_X12_isClimate : GoodIn wsX12_middle (wsV RX12 303 RX12 yX12_isClimate wsX12_isClimate) := goodIn_app (goodIn_of _ (by decide +kernel)) ggX12_middle_X12_isClimate
set_option maxRecDepth 20000 in
theorem ggX12_middle_X12_middleOf : GoodIn wsX12_middle wsX12_middleOf := goodIn_k _ [[18, 0, 0, 0, 0, 0], [5, 18, 0, 0, 0, 0, 0, 0, 0, 0, 0, 0, 0, 0, 0, 0, 0, 0, 0, 0, 0, 0, 0, 0, 0, 0, 0, 0, 0, 0, 0, 0, 0, 0, 0, 0, 0, 0, 0, 0, 0, 0, 0, 0, 0, 0, 0, 0, 0, 0, 0, 0, 0, 0, 0, 0, 0, 0, 0, 0, 0, 0, 0, 0, 0]] (by rfl) (by decide +kernel)
set_option maxRecDepth 20000 in
theorem gX12_middle_X12_middleOf : GoodIn wsX12_middle (wsV RX12 317 RX12 yX12_middleOf wsX12_middleOf) := goodIn_app (goodIn_of _ (by decide +kernel)) ggX12_middle_X12_middleOf
noncomputable def sX12_middle_24 : List Nat := 172 :: []
noncomputable def sX12_middle_23 : List Nat := 3 :: sX12_middle_24
noncomputable def sX12_middle_20 : List Nat := 167 :: 0 :: 4 :: sX12_middle_23
noncomputable def sX12_middle_17 : List Nat := 182 :: 1 :: 61 :: sX12_middle_20
noncomputable def sX12_middle_16 : List Nat := 28 :: sX12_middle_17
noncomputable def sX12_middle_15 : List Nat := 27 :: sX12_middle_16
noncomputable def sX12_middle_14 : List Nat := 42 :: sX12_middle_15
noncomputable def sX12_middle_11 : List Nat := 153 :: 0 :: 12 :: sX12_middle_14
noncomputable def sX12_middle_8 : List Nat := 182 :: 1 :: 47 :: sX12_middle_11
noncomputable def sX12_middle_7 : List Nat := 28 :: sX12_middle_8
noncomputable def sX12_middle_6 : List Nat := 27 :: sX12_middle_7
noncomputable def sX12_middle_5 : List Nat := 42 :: sX12_middle_6
noncomputable def sX12_middle_2 : List Nat := 181 :: 0 :: 129 :: sX12_middle_5
noncomputable def sX12_middle_1 : List Nat := 3 :: sX12_middle_2
noncomputable def sX12_middle_0 : List Nat := 42 :: sX12_middle_1
theorem aX12_middle_0 : dc_at cX12_middle 0 sX12_middle_0 := dc_base (by decide +kernel)
theorem aX12_middle_1 : dc_at cX12_middle 1 sX12_middle_1 := dc_n1 aX12_middle_0
theorem aX12_middle_2 : dc_at cX12_middle 2 sX12_middle_2 := dc_n1 aX12_middle_1
theorem aX12_middle_5 : dc_at cX12_middle 5 sX12_middle_5 := dc_n3 aX12_middle_2
theorem aX12_middle_6 : dc_at cX12_middle 6 sX12_middle_6 := dc_n1 aX12_middle_5
theorem aX12_middle_7 : dc_at cX12_middle 7 sX12_middle_7 := dc_n1 aX12_middle_6
theorem aX12_middle_8 : dc_at cX12_middle 8 sX12_middle_8 := dc_n1 aX12_middle_7
theorem aX12_middle_11 : dc_at cX12_middle 11 sX12_middle_11 := dc_n3 aX12_middle_8
theorem aX12_middle_14 : dc_at cX12_middle 14 sX12_middle_14 := dc_n3 aX12_middle_11
theorem aX12_middle_15 : dc_at cX12_middle 15 sX12_middle_15 := dc_n1 aX12_middle_14
theorem aX12_middle_16 : dc_at cX12_middle 16 sX12_middle_16 := dc_n1 aX12_middle_15
theorem aX12_middle_17 : dc_at cX12_middle 17 sX12_middle_17 := dc_n1 aX12_middle_16
theorem aX12_middle_20 : dc_at cX12_middle 20 sX12_middle_20 := dc_n3 aX12_middle_17
theorem aX12_middle_23 : dc_at cX12_middle 23 sX12_middle_23 := dc_n3 aX12_middle_20
theorem aX12_middle_24 : dc_at cX12_middle 24 sX12_middle_24 := dc_n1 aX12_middle_23
theorem dX12_middle_0 : decode cX12_middle 0 = .ok (.aload_n 0, 1) := dc_42 aX12_middle_0
theorem dX12_middle_1 : decode cX12_middle 1 = .ok (.iconst 0, 1) := dc_3 aX12_middle_1
theorem dX12_middle_2 : decode cX12_middle 2 = .ok (.putfield 129, 3) := dc_181 (a0 := 0) (b0 := 129) aX12_middle_2
theorem dX12_middle_5 : decode cX12_middle 5 = .ok (.aload_n 0, 1) := dc_42 aX12_middle_5
theorem dX12_middle_6 : decode cX12_middle 6 = .ok (.iload_n 1, 1) := dc_27 aX12_middle_6
theorem dX12_middle_7 : decode cX12_middle 7 = .ok (.iload_n 2, 1) := dc_28 aX12_middle_7
theorem dX12_middle_8 : decode cX12_middle 8 = .ok (.invokevirtual 303, 3) := dc_182 (a0 := 1) (b0 := 47) aX12_middle_8
theorem dX12_middle_11 : decode cX12_middle 11 = .ok (.ifCond .eq 12, 3) := dc_153 (a0 := 0) (b0 := 12) aX12_middle_11 (by decide)
theorem dX12_middle_14 : decode cX12_middle 14 = .ok (.aload_n 0, 1) := dc_42 aX12_middle_14
theorem dX12_middle_15 : decode cX12_middle 15 = .ok (.iload_n 1, 1) := dc_27 aX12_middle_15
theorem dX12_middle_16 : decode cX12_middle 16 = .ok (.iload_n 2, 1) := dc_28 aX12_middle_16
theorem dX12_middle_17 : decode cX12_middle 17 = .ok (.invokevirtual 317, 3) := dc_182 (a0 := 1) (b0 := 61) aX12_middle_17
theorem dX12_middle_20 : decode cX12_middle 20 = .ok (.goto 4, 3) := dc_167 (a0 := 0) (b0 := 4) aX12_middle_20 (by decide)
theorem dX12_middle_23 : decode cX12_middle 23 = .ok (.iconst 0, 1) := dc_3 aX12_middle_23
theorem dX12_middle_24 : decode cX12_middle 24 = .ok (.ireturn, 1) := dc_172 aX12_middle_24
set_option maxRecDepth 20000 in
theorem ggX12_isHour_X12_at : GoodIn wsX12_isHour wsX12_at := goodIn_k _ [[5, 0, 14, 0, 0, 0, 0, 0, 0, 0, 0, 0, 0, 0, 0, 0, 0, 0, 0, 0, 0, 0, 0, 0, 0, 0, 0, 0, 0, 0, 0, 0, 0, 0, 0, 0, 0, 0, 0, 0, 0, 0, 0, 0, 0, 0, 0, 0, 0, 0, 0, 0, 0, 0, 0, 0, 0, 0, 0, 0]] (by rfl) (by decide +kernel)
set_option maxRecDepth 20000 in
theorem gX12_isHour_X12_at : GoodIn wsX12_isHour (wsV RX12 254 RX12 yX12_at wsX12_at) := goodIn_app (goodIn_of _ (by decide +kernel)) ggX12_isHour_X12_at
set_option maxRecDepth 20000 in
theorem ggX12_isHour_X12_riseOf : GoodIn wsX12_isHour wsX12_riseOf := goodIn_k _ [[10, 0, 0, 0, 0], [4, 10, 0, 0, 0, 0, 0, 0, 0, 0, 0, 0, 0, 0, 0, 0, 0, 0, 0, 0, 0, 0, 0, 0, 0, 0, 0, 0, 0, 0, 0, 0, 0, 0, 0, 0, 0, 0, 0, 0, 0, 0, 0, 0, 0, 0, 0, 0, 0, 0, 0, 0, 0, 0, 0, 0, 0, 0, 0, 0, 0, 0, 0, 0, 0]] (by rfl) (by decide +kernel)
set_option maxRecDepth 20000 in
theorem gX12_isHour_X12_riseOf : GoodIn wsX12_isHour (wsV RX12 313 RX12 yX12_riseOf wsX12_riseOf) := goodIn_app (goodIn_of _ (by decide +kernel)) ggX12_isHour_X12_riseOf
noncomputable def sX12_isHour_33 : List Nat := 172 :: []
noncomputable def sX12_isHour_32 : List Nat := 3 :: sX12_isHour_33
noncomputable def sX12_isHour_29 : List Nat := 167 :: 0 :: 4 :: sX12_isHour_32
noncomputable def sX12_isHour_28 : List Nat := 4 :: sX12_isHour_29
noncomputable def sX12_isHour_25 : List Nat := 160 :: 0 :: 7 :: sX12_isHour_28
noncomputable def sX12_isHour_22 : List Nat := 182 :: 0 :: 254 :: sX12_isHour_25
noncomputable def sX12_isHour_20 : List Nat := 16 :: 7 :: sX12_isHour_22
noncomputable def sX12_isHour_19 : List Nat := 27 :: sX12_isHour_20
noncomputable def sX12_isHour_18 : List Nat := 42 :: sX12_isHour_19
noncomputable def sX12_isHour_17 : List Nat := 108 :: sX12_isHour_18
noncomputable def sX12_isHour_15 : List Nat := 16 :: 60 :: sX12_isHour_17
noncomputable def sX12_isHour_12 : List Nat := 182 :: 1 :: 57 :: sX12_isHour_15
noncomputable def sX12_isHour_11 : List Nat := 29 :: sX12_isHour_12
noncomputable def sX12_isHour_10 : List Nat := 104 :: sX12_isHour_11
noncomputable def sX12_isHour_7 : List Nat := 182 :: 0 :: 254 :: sX12_isHour_10
noncomputable def sX12_isHour_6 : List Nat := 3 :: sX12_isHour_7
noncomputable def sX12_isHour_5 : List Nat := 27 :: sX12_isHour_6
noncomputable def sX12_isHour_4 : List Nat := 42 :: sX12_isHour_5
noncomputable def sX12_isHour_2 : List Nat := 16 :: 60 :: sX12_isHour_4
noncomputable def sX12_isHour_1 : List Nat := 28 :: sX12_isHour_2
noncomputable def sX12_isHour_0 : List Nat := 42 :: sX12_isHour_1
theorem aX12_isHour_0 : dc_at cX12_isHour 0 sX12_isHour_0 := dc_base (by decide +kernel)
theorem aX12_isHour_1 : dc_at cX12_isHour 1 sX12_isHour_1 := dc_n1 aX12_isHour_0
theorem aX12_isHour_2 : dc_at cX12_isHour 2 sX12_isHour_2 := dc_n1 aX12_isHour_1
theorem aX12_isHour_4 : dc_at cX12_isHour 4 sX12_isHour_4 := dc_n2 aX12_isHour_2
theorem aX12_isHour_5 : dc_at cX12_isHour 5 sX12_isHour_5 := dc_n1 aX12_isHour_4
theorem aX12_isHour_6 : dc_at cX12_isHour 6 sX12_isHour_6 := dc_n1 aX12_isHour_5
theorem aX12_isHour_7 : dc_at cX12_isHour 7 sX12_isHour_7 := dc_n1 aX12_isHour_6
theorem aX12_isHour_10 : dc_at cX12_isHour 10 sX12_isHour_10 := dc_n3 aX12_isHour_7
theorem aX12_isHour_11 : dc_at cX12_isHour 11 sX12_isHour_11 := dc_n1 aX12_isHour_10
theorem aX12_isHour_12 : dc_at cX12_isHour 12 sX12_isHour_12 := dc_n1 aX12_isHour_11
theorem aX12_isHour_15 : dc_at cX12_isHour 15 sX12_isHour_15 := dc_n3 aX12_isHour_12
theorem aX12_isHour_17 : dc_at cX12_isHour 17 sX12_isHour_17 := dc_n2 aX12_isHour_15
theorem aX12_isHour_18 : dc_at cX12_isHour 18 sX12_isHour_18 := dc_n1 aX12_isHour_17
theorem aX12_isHour_19 : dc_at cX12_isHour 19 sX12_isHour_19 := dc_n1 aX12_isHour_18
theorem aX12_isHour_20 : dc_at cX12_isHour 20 sX12_isHour_20 := dc_n1 aX12_isHour_19
theorem aX12_isHour_22 : dc_at cX12_isHour 22 sX12_isHour_22 := dc_n2 aX12_isHour_20
theorem aX12_isHour_25 : dc_at cX12_isHour 25 sX12_isHour_25 := dc_n3 aX12_isHour_22
theorem aX12_isHour_28 : dc_at cX12_isHour 28 sX12_isHour_28 := dc_n3 aX12_isHour_25
theorem aX12_isHour_29 : dc_at cX12_isHour 29 sX12_isHour_29 := dc_n1 aX12_isHour_28
theorem aX12_isHour_32 : dc_at cX12_isHour 32 sX12_isHour_32 := dc_n3 aX12_isHour_29
theorem aX12_isHour_33 : dc_at cX12_isHour 33 sX12_isHour_33 := dc_n1 aX12_isHour_32
theorem dX12_isHour_0 : decode cX12_isHour 0 = .ok (.aload_n 0, 1) := dc_42 aX12_isHour_0
theorem dX12_isHour_1 : decode cX12_isHour 1 = .ok (.iload_n 2, 1) := dc_28 aX12_isHour_1
theorem dX12_isHour_2 : decode cX12_isHour 2 = .ok (.bipush 60, 2) := dc_16 (a0 := 60) aX12_isHour_2 (by decide)
theorem dX12_isHour_4 : decode cX12_isHour 4 = .ok (.aload_n 0, 1) := dc_42 aX12_isHour_4
theorem dX12_isHour_5 : decode cX12_isHour 5 = .ok (.iload_n 1, 1) := dc_27 aX12_isHour_5
theorem dX12_isHour_6 : decode cX12_isHour 6 = .ok (.iconst 0, 1) := dc_3 aX12_isHour_6
theorem dX12_isHour_7 : decode cX12_isHour 7 = .ok (.invokevirtual 254, 3) := dc_182 (a0 := 0) (b0 := 254) aX12_isHour_7
theorem dX12_isHour_10 : decode cX12_isHour 10 = .ok (.imul, 1) := dc_104 aX12_isHour_10
theorem dX12_isHour_11 : decode cX12_isHour 11 = .ok (.iload_n 3, 1) := dc_29 aX12_isHour_11
theorem dX12_isHour_12 : decode cX12_isHour 12 = .ok (.invokevirtual 313, 3) := dc_182 (a0 := 1) (b0 := 57) aX12_isHour_12
theorem dX12_isHour_15 : decode cX12_isHour 15 = .ok (.bipush 60, 2) := dc_16 (a0 := 60) aX12_isHour_15 (by decide)
theorem dX12_isHour_17 : decode cX12_isHour 17 = .ok (.idiv, 1) := dc_108 aX12_isHour_17
theorem dX12_isHour_18 : decode cX12_isHour 18 = .ok (.aload_n 0, 1) := dc_42 aX12_isHour_18
theorem dX12_isHour_19 : decode cX12_isHour 19 = .ok (.iload_n 1, 1) := dc_27 aX12_isHour_19
theorem dX12_isHour_20 : decode cX12_isHour 20 = .ok (.bipush 7, 2) := dc_16 (a0 := 7) aX12_isHour_20 (by decide)
theorem dX12_isHour_22 : decode cX12_isHour 22 = .ok (.invokevirtual 254, 3) := dc_182 (a0 := 0) (b0 := 254) aX12_isHour_22
theorem dX12_isHour_25 : decode cX12_isHour 25 = .ok (.if_icmp .ne 7, 3) := dc_160 (a0 := 0) (b0 := 7) aX12_isHour_25 (by decide)
theorem dX12_isHour_28 : decode cX12_isHour 28 = .ok (.iconst 1, 1) := dc_4 aX12_isHour_28
theorem dX12_isHour_29 : decode cX12_isHour 29 = .ok (.goto 4, 3) := dc_167 (a0 := 0) (b0 := 4) aX12_isHour_29 (by decide)
theorem dX12_isHour_32 : decode cX12_isHour 32 = .ok (.iconst 0, 1) := dc_3 aX12_isHour_32
theorem dX12_isHour_33 : decode cX12_isHour 33 = .ok (.ireturn, 1) := dc_172 aX12_isHour_33
set_option maxRecDepth 20000 in
theorem ggX12_hour_X12_isWheel : GoodIn wsX12_hour wsX12_isWheel := goodIn_k _ [[6, 0, 0, 0, 0], [5, 5, 23, 0, 0, 0, 0, 0, 0, 0, 0, 0, 0, 0, 0, 0, 0, 0, 0, 0, 0, 0, 0, 0, 0, 0, 0, 0, 0, 0, 0, 0, 0, 0, 0, 0, 0, 0, 0, 0, 0, 0, 0, 0, 0, 0, 0, 0, 0, 0, 0, 0, 0, 0, 0, 0, 0, 0, 0, 0]] (by rfl) (by decide +kernel)
set_option maxRecDepth 20000 in
theorem gX12_hour_X12_isWheel : GoodIn wsX12_hour (wsV RX12 247 RX12 yX12_isWheel wsX12_isWheel) := goodIn_app (goodIn_of _ (by decide +kernel)) ggX12_hour_X12_isWheel
set_option maxRecDepth 20000 in
theorem ggX12_hour_X12_at : GoodIn wsX12_hour wsX12_at := goodIn_k _ [[15, 0, 18, 0, 0, 0, 0, 0, 0, 0, 0, 0, 0, 0, 0, 0, 0, 0, 0, 0, 0, 0, 0, 0, 0, 0, 0, 0, 0, 0, 0, 0, 0, 0, 0, 0, 0, 0, 0, 0, 0, 0, 0, 0, 0, 0, 0, 0, 0, 0, 0, 0, 0, 0, 0, 0, 0, 0, 0, 0]] (by rfl) (by decide +kernel)
set_option maxRecDepth 20000 in
theorem gX12_hour_X12_at : GoodIn wsX12_hour (wsV RX12 254 RX12 yX12_at wsX12_at) := goodIn_app (goodIn_of _ (by decide +kernel)) ggX12_hour_X12_at
set_option maxRecDepth 20000 in
theorem ggX12_hour_X12_isHour : GoodIn wsX12_hour wsX12_isHour := goodIn_k _ [[20], [12, 0, 0], [5, 9, 0, 4, 0, 0, 0, 0, 0, 0, 0, 0, 0, 0, 0, 0, 0, 0, 0, 0, 0, 0, 0, 0, 0, 0, 0, 0, 0, 0, 0, 0, 0, 0, 0, 0, 0, 0, 0, 0, 0, 0, 0, 0, 0, 0, 0, 0, 0, 0, 0, 0, 0, 0, 0, 0, 0, 0, 0, 0, 0, 0, 0, 0, 0, 0, 0, 0, 0, 0, 0, 0, 0, 0, 0]] (by rfl) (by decide +kernel)
set_option maxRecDepth 20000 in
theorem gX12_hour_X12_isHour : GoodIn wsX12_hour (wsV RX12 320 RX12 yX12_isHour wsX12_isHour) := goodIn_app (goodIn_of _ (by decide +kernel)) ggX12_hour_X12_isHour
set_option maxRecDepth 20000 in
theorem ggX12_hour_X12_right : GoodIn wsX12_hour wsX12_right := goodIn_k _ [[11], [7, 27, 0, 0, 0, 0, 0, 0, 0, 0, 0, 0, 0, 0, 0, 0, 0, 0, 0, 0, 0, 0, 0, 0, 0, 0, 0, 0, 0, 0, 0, 0, 0, 0, 0, 0, 0, 0, 0, 0, 0, 0, 0, 0, 0, 0, 0, 0, 0, 0, 0, 0, 0, 0, 0, 0, 0, 0, 0]] (by rfl) (by decide +kernel)
set_option maxRecDepth 20000 in
theorem gX12_hour_X12_right : GoodIn wsX12_hour (wsV RX12 209 RX12 yX12_right wsX12_right) := goodIn_app (goodIn_of _ (by decide +kernel)) ggX12_hour_X12_right
noncomputable def sX12_hour_151 : List Nat := 172 :: []
noncomputable def sX12_hour_150 : List Nat := 3 :: sX12_hour_151
noncomputable def sX12_hour_147 : List Nat := 167 :: 0 :: 4 :: sX12_hour_150
noncomputable def sX12_hour_145 : List Nat := 21 :: 6 :: sX12_hour_147
noncomputable def sX12_hour_142 : List Nat := 153 :: 0 :: 8 :: sX12_hour_145
noncomputable def sX12_hour_139 : List Nat := 182 :: 0 :: 209 :: sX12_hour_142
noncomputable def sX12_hour_138 : List Nat := 4 :: sX12_hour_139
noncomputable def sX12_hour_137 : List Nat := 3 :: sX12_hour_138
noncomputable def sX12_hour_134 : List Nat := 167 :: 0 :: 4 :: sX12_hour_137
noncomputable def sX12_hour_133 : List Nat := 4 :: sX12_hour_134
noncomputable def sX12_hour_130 : List Nat := 160 :: 0 :: 7 :: sX12_hour_133
noncomputable def sX12_hour_129 : List Nat := 2 :: sX12_hour_130
noncomputable def sX12_hour_128 : List Nat := 29 :: sX12_hour_129
noncomputable def sX12_hour_127 : List Nat := 42 :: sX12_hour_128
noncomputable def sX12_hour_124 : List Nat := 167 :: 255 :: 199 :: sX12_hour_127
noncomputable def sX12_hour_121 : List Nat := 132 :: 7 :: 1 :: sX12_hour_124
noncomputable def sX12_hour_118 : List Nat := 132 :: 6 :: 1 :: sX12_hour_121
noncomputable def sX12_hour_117 : List Nat := 172 :: sX12_hour_118
noncomputable def sX12_hour_115 : List Nat := 21 :: 7 :: sX12_hour_117
noncomputable def sX12_hour_112 : List Nat := 160 :: 0 :: 6 :: sX12_hour_115
noncomputable def sX12_hour_111 : List Nat := 29 :: sX12_hour_112
noncomputable def sX12_hour_109 : List Nat := 21 :: 6 :: sX12_hour_111
noncomputable def sX12_hour_106 : List Nat := 167 :: 0 :: 15 :: sX12_hour_109
noncomputable def sX12_hour_103 : List Nat := 154 :: 0 :: 6 :: sX12_hour_106
noncomputable def sX12_hour_100 : List Nat := 182 :: 1 :: 64 :: sX12_hour_103
noncomputable def sX12_hour_99 : List Nat := 112 :: sX12_hour_100
noncomputable def sX12_hour_96 : List Nat := 17 :: 1 :: 104 :: sX12_hour_99
noncomputable def sX12_hour_94 : List Nat := 21 :: 7 :: sX12_hour_96
noncomputable def sX12_hour_93 : List Nat := 108 :: sX12_hour_94
noncomputable def sX12_hour_90 : List Nat := 17 :: 1 :: 104 :: sX12_hour_93
noncomputable def sX12_hour_88 : List Nat := 21 :: 7 :: sX12_hour_90
noncomputable def sX12_hour_86 : List Nat := 21 :: 4 :: sX12_hour_88
noncomputable def sX12_hour_85 : List Nat := 42 :: sX12_hour_86
noncomputable def sX12_hour_82 : List Nat := 153 :: 0 :: 45 :: sX12_hour_85
noncomputable def sX12_hour_80 : List Nat := 21 :: 5 :: sX12_hour_82
noncomputable def sX12_hour_77 : List Nat := 162 :: 0 :: 50 :: sX12_hour_80
noncomputable def sX12_hour_76 : List Nat := 104 :: sX12_hour_77
noncomputable def sX12_hour_73 : List Nat := 180 :: 0 :: 228 :: sX12_hour_76
noncomputable def sX12_hour_72 : List Nat := 42 :: sX12_hour_73
noncomputable def sX12_hour_69 : List Nat := 17 :: 1 :: 104 :: sX12_hour_72
noncomputable def sX12_hour_67 : List Nat := 21 :: 7 :: sX12_hour_69
noncomputable def sX12_hour_65 : List Nat := 54 :: 7 :: sX12_hour_67
noncomputable def sX12_hour_64 : List Nat := 3 :: sX12_hour_65
noncomputable def sX12_hour_62 : List Nat := 54 :: 6 :: sX12_hour_64
noncomputable def sX12_hour_61 : List Nat := 3 :: sX12_hour_62
noncomputable def sX12_hour_60 : List Nat := 172 :: sX12_hour_61
noncomputable def sX12_hour_59 : List Nat := 2 :: sX12_hour_60
noncomputable def sX12_hour_56 : List Nat := 160 :: 0 :: 5 :: sX12_hour_59
noncomputable def sX12_hour_55 : List Nat := 2 :: sX12_hour_56
noncomputable def sX12_hour_54 : List Nat := 29 :: sX12_hour_55
noncomputable def sX12_hour_51 : List Nat := 154 :: 0 :: 10 :: sX12_hour_54
noncomputable def sX12_hour_49 : List Nat := 21 :: 5 :: sX12_hour_51
noncomputable def sX12_hour_47 : List Nat := 54 :: 5 :: sX12_hour_49
noncomputable def sX12_hour_46 : List Nat := 3 :: sX12_hour_47
noncomputable def sX12_hour_43 : List Nat := 167 :: 0 :: 4 :: sX12_hour_46
noncomputable def sX12_hour_42 : List Nat := 4 :: sX12_hour_43
noncomputable def sX12_hour_39 : List Nat := 159 :: 0 :: 7 :: sX12_hour_42
noncomputable def sX12_hour_38 : List Nat := 2 :: sX12_hour_39
noncomputable def sX12_hour_35 : List Nat := 182 :: 0 :: 254 :: sX12_hour_38
noncomputable def sX12_hour_33 : List Nat := 16 :: 7 :: sX12_hour_35
noncomputable def sX12_hour_31 : List Nat := 21 :: 4 :: sX12_hour_33
noncomputable def sX12_hour_30 : List Nat := 42 :: sX12_hour_31
noncomputable def sX12_hour_27 : List Nat := 159 :: 0 :: 19 :: sX12_hour_30
noncomputable def sX12_hour_26 : List Nat := 2 :: sX12_hour_27
noncomputable def sX12_hour_23 : List Nat := 182 :: 0 :: 254 :: sX12_hour_26
noncomputable def sX12_hour_22 : List Nat := 3 :: sX12_hour_23
noncomputable def sX12_hour_20 : List Nat := 21 :: 4 :: sX12_hour_22
noncomputable def sX12_hour_19 : List Nat := 42 :: sX12_hour_20
noncomputable def sX12_hour_17 : List Nat := 54 :: 4 :: sX12_hour_19
noncomputable def sX12_hour_16 : List Nat := 96 :: sX12_hour_17
noncomputable def sX12_hour_15 : List Nat := 28 :: sX12_hour_16
noncomputable def sX12_hour_14 : List Nat := 104 :: sX12_hour_15
noncomputable def sX12_hour_13 : List Nat := 27 :: sX12_hour_14
noncomputable def sX12_hour_11 : List Nat := 16 :: 20 :: sX12_hour_13
noncomputable def sX12_hour_10 : List Nat := 172 :: sX12_hour_11
noncomputable def sX12_hour_9 : List Nat := 3 :: sX12_hour_10
noncomputable def sX12_hour_6 : List Nat := 154 :: 0 :: 5 :: sX12_hour_9
noncomputable def sX12_hour_3 : List Nat := 182 :: 0 :: 247 :: sX12_hour_6
noncomputable def sX12_hour_2 : List Nat := 28 :: sX12_hour_3
noncomputable def sX12_hour_1 : List Nat := 27 :: sX12_hour_2
noncomputable def sX12_hour_0 : List Nat := 42 :: sX12_hour_1
theorem aX12_hour_0 : dc_at cX12_hour 0 sX12_hour_0 := dc_base (by decide +kernel)
theorem aX12_hour_1 : dc_at cX12_hour 1 sX12_hour_1 := dc_n1 aX12_hour_0
theorem aX12_hour_2 : dc_at cX12_hour 2 sX12_hour_2 := dc_n1 aX12_hour_1
theorem aX12_hour_3 : dc_at cX12_hour 3 sX12_hour_3 := dc_n1 aX12_hour_2
theorem aX12_hour_6 : dc_at cX12_hour 6 sX12_hour_6 := dc_n3 aX12_hour_3
theorem aX12_hour_9 : dc_at cX12_hour 9 sX12_hour_9 := dc_n3 aX12_hour_6
theorem aX12_hour_10 : dc_at cX12_hour 10 sX12_hour_10 := dc_n1 aX12_hour_9
theorem aX12_hour_11 : dc_at cX12_hour 11 sX12_hour_11 := dc_n1 aX12_hour_10
theorem aX12_hour_13 : dc_at cX12_hour 13 sX12_hour_13 := dc_n2 aX12_hour_11
theorem aX12_hour_14 : dc_at cX12_hour 14 sX12_hour_14 := dc_n1 aX12_hour_13
theorem aX12_hour_15 : dc_at cX12_hour 15 sX12_hour_15 := dc_n1 aX12_hour_14
theorem aX12_hour_16 : dc_at cX12_hour 16 sX12_hour_16 := dc_n1 aX12_hour_15
theorem aX12_hour_17 : dc_at cX12_hour 17 sX12_hour_17 := dc_n1 aX12_hour_16
theorem aX12_hour_19 : dc_at cX12_hour 19 sX12_hour_19 := dc_n2 aX12_hour_17
theorem aX12_hour_20 : dc_at cX12_hour 20 sX12_hour_20 := dc_n1 aX12_hour_19
theorem aX12_hour_22 : dc_at cX12_hour 22 sX12_hour_22 := dc_n2 aX12_hour_20
theorem aX12_hour_23 : dc_at cX12_hour 23 sX12_hour_23 := dc_n1 aX12_hour_22
theorem aX12_hour_26 : dc_at cX12_hour 26 sX12_hour_26 := dc_n3 aX12_hour_23
theorem aX12_hour_27 : dc_at cX12_hour 27 sX12_hour_27 := dc_n1 aX12_hour_26
theorem aX12_hour_30 : dc_at cX12_hour 30 sX12_hour_30 := dc_n3 aX12_hour_27
theorem aX12_hour_31 : dc_at cX12_hour 31 sX12_hour_31 := dc_n1 aX12_hour_30
theorem aX12_hour_33 : dc_at cX12_hour 33 sX12_hour_33 := dc_n2 aX12_hour_31
theorem aX12_hour_35 : dc_at cX12_hour 35 sX12_hour_35 := dc_n2 aX12_hour_33
theorem aX12_hour_38 : dc_at cX12_hour 38 sX12_hour_38 := dc_n3 aX12_hour_35
theorem aX12_hour_39 : dc_at cX12_hour 39 sX12_hour_39 := dc_n1 aX12_hour_38
theorem aX12_hour_42 : dc_at cX12_hour 42 sX12_hour_42 := dc_n3 aX12_hour_39
theorem aX12_hour_43 : dc_at cX12_hour 43 sX12_hour_43 := dc_n1 aX12_hour_42
theorem aX12_hour_46 : dc_at cX12_hour 46 sX12_hour_46 := dc_n3 aX12_hour_43
theorem aX12_hour_47 : dc_at cX12_hour 47 sX12_hour_47 := dc_n1 aX12_hour_46
theorem aX12_hour_49 : dc_at cX12_hour 49 sX12_hour_49 := dc_n2 aX12_hour_47
theorem aX12_hour_51 : dc_at cX12_hour 51 sX12_hour_51 := dc_n2 aX12_hour_49
theorem aX12_hour_54 : dc_at cX12_hour 54 sX12_hour_54 := dc_n3 aX12_hour_51
theorem aX12_hour_55 : dc_at cX12_hour 55 sX12_hour_55 := dc_n1 aX12_hour_54
theorem aX12_hour_56 : dc_at cX12_hour 56 sX12_hour_56 := dc_n1 aX12_hour_55
theorem aX12_hour_59 : dc_at cX12_hour 59 sX12_hour_59 := dc_n3 aX12_hour_56
theorem aX12_hour_60 : dc_at cX12_hour 60 sX12_hour_60 := dc_n1 aX12_hour_59
theorem aX12_hour_61 : dc_at cX12_hour 61 sX12_hour_61 := dc_n1 aX12_hour_60
theorem aX12_hour_62 : dc_at cX12_hour 62 sX12_hour_62 := dc_n1 aX12_hour_61
theorem aX12_hour_64 : dc_at cX12_hour 64 sX12_hour_64 := dc_n2 aX12_hour_62
theorem aX12_hour_65 : dc_at cX12_hour 65 sX12_hour_65 := dc_n1 aX12_hour_64
theorem aX12_hour_67 : dc_at cX12_hour 67 sX12_hour_67 := dc_n2 aX12_hour_65
theorem aX12_hour_69 : dc_at cX12_hour 69 sX12_hour_69 := dc_n2 aX12_hour_67
theorem aX12_hour_72 : dc_at cX12_hour 72 sX12_hour_72 := dc_n3 aX12_hour_69
theorem aX12_hour_73 : dc_at cX12_hour 73 sX12_hour_73 := dc_n1 aX12_hour_72
theorem aX12_hour_76 : dc_at cX12_hour 76 sX12_hour_76 := dc_n3 aX12_hour_73
theorem aX12_hour_77 : dc_at cX12_hour 77 sX12_hour_77 := dc_n1 aX12_hour_76
theorem aX12_hour_80 : dc_at cX12_hour 80 sX12_hour_80 := dc_n3 aX12_hour_77
theorem aX12_hour_82 : dc_at cX12_hour 82 sX12_hour_82 := dc_n2 aX12_hour_80
theorem aX12_hour_85 : dc_at cX12_hour 85 sX12_hour_85 := dc_n3 aX12_hour_82
theorem aX12_hour_86 : dc_at cX12_hour 86 sX12_hour_86 := dc_n1 aX12_hour_85
theorem aX12_hour_88 : dc_at cX12_hour 88 sX12_hour_88 := dc_n2 aX12_hour_86
theorem aX12_hour_90 : dc_at cX12_hour 90 sX12_hour_90 := dc_n2 aX12_hour_88
theorem aX12_hour_93 : dc_at cX12_hour 93 sX12_hour_93 := dc_n3 aX12_hour_90
theorem aX12_hour_94 : dc_at cX12_hour 94 sX12_hour_94 := dc_n1 aX12_hour_93
theorem aX12_hour_96 : dc_at cX12_hour 96 sX12_hour_96 := dc_n2 aX12_hour_94
theorem aX12_hour_99 : dc_at cX12_hour 99 sX12_hour_99 := dc_n3 aX12_hour_96
theorem aX12_hour_100 : dc_at cX12_hour 100 sX12_hour_100 := dc_n1 aX12_hour_99
theorem aX12_hour_103 : dc_at cX12_hour 103 sX12_hour_103 := dc_n3 aX12_hour_100
theorem aX12_hour_106 : dc_at cX12_hour 106 sX12_hour_106 := dc_n3 aX12_hour_103
theorem aX12_hour_109 : dc_at cX12_hour 109 sX12_hour_109 := dc_n3 aX12_hour_106
theorem aX12_hour_111 : dc_at cX12_hour 111 sX12_hour_111 := dc_n2 aX12_hour_109
theorem aX12_hour_112 : dc_at cX12_hour 112 sX12_hour_112 := dc_n1 aX12_hour_111
theorem aX12_hour_115 : dc_at cX12_hour 115 sX12_hour_115 := dc_n3 aX12_hour_112
theorem aX12_hour_117 : dc_at cX12_hour 117 sX12_hour_117 := dc_n2 aX12_hour_115
theorem aX12_hour_118 : dc_at cX12_hour 118 sX12_hour_118 := dc_n1 aX12_hour_117
theorem aX12_hour_121 : dc_at cX12_hour 121 sX12_hour_121 := dc_n3 aX12_hour_118
theorem aX12_hour_124 : dc_at cX12_hour 124 sX12_hour_124 := dc_n3 aX12_hour_121
theorem aX12_hour_127 : dc_at cX12_hour 127 sX12_hour_127 := dc_n3 aX12_hour_124
theorem aX12_hour_128 : dc_at cX12_hour 128 sX12_hour_128 := dc_n1 aX12_hour_127
theorem aX12_hour_129 : dc_at cX12_hour 129 sX12_hour_129 := dc_n1 aX12_hour_128
theorem aX12_hour_130 : dc_at cX12_hour 130 sX12_hour_130 := dc_n1 aX12_hour_129
theorem aX12_hour_133 : dc_at cX12_hour 133 sX12_hour_133 := dc_n3 aX12_hour_130
theorem aX12_hour_134 : dc_at cX12_hour 134 sX12_hour_134 := dc_n1 aX12_hour_133
theorem aX12_hour_137 : dc_at cX12_hour 137 sX12_hour_137 := dc_n3 aX12_hour_134
theorem aX12_hour_138 : dc_at cX12_hour 138 sX12_hour_138 := dc_n1 aX12_hour_137
theorem aX12_hour_139 : dc_at cX12_hour 139 sX12_hour_139 := dc_n1 aX12_hour_138
theorem aX12_hour_142 : dc_at cX12_hour 142 sX12_hour_142 := dc_n3 aX12_hour_139
theorem aX12_hour_145 : dc_at cX12_hour 145 sX12_hour_145 := dc_n3 aX12_hour_142
theorem aX12_hour_147 : dc_at cX12_hour 147 sX12_hour_147 := dc_n2 aX12_hour_145
theorem aX12_hour_150 : dc_at cX12_hour 150 sX12_hour_150 := dc_n3 aX12_hour_147
theorem aX12_hour_151 : dc_at cX12_hour 151 sX12_hour_151 := dc_n1 aX12_hour_150
theorem dX12_hour_0 : decode cX12_hour 0 = .ok (.aload_n 0, 1) := dc_42 aX12_hour_0
theorem dX12_hour_1 : decode cX12_hour 1 = .ok (.iload_n 1, 1) := dc_27 aX12_hour_1
theorem dX12_hour_2 : decode cX12_hour 2 = .ok (.iload_n 2, 1) := dc_28 aX12_hour_2
theorem dX12_hour_3 : decode cX12_hour 3 = .ok (.invokevirtual 247, 3) := dc_182 (a0 := 0) (b0 := 247) aX12_hour_3
theorem dX12_hour_6 : decode cX12_hour 6 = .ok (.ifCond .ne 5, 3) := dc_154 (a0 := 0) (b0 := 5) aX12_hour_6 (by decide)
theorem dX12_hour_9 : decode cX12_hour 9 = .ok (.iconst 0, 1) := dc_3 aX12_hour_9
theorem dX12_hour_10 : decode cX12_hour 10 = .ok (.ireturn, 1) := dc_172 aX12_hour_10
theorem dX12_hour_11 : decode cX12_hour 11 = .ok (.bipush 20, 2) := dc_16 (a0 := 20) aX12_hour_11 (by decide)
theorem dX12_hour_13 : decode cX12_hour 13 = .ok (.iload_n 1, 1) := dc_27 aX12_hour_13
theorem dX12_hour_14 : decode cX12_hour 14 = .ok (.imul, 1) := dc_104 aX12_hour_14
theorem dX12_hour_15 : decode cX12_hour 15 = .ok (.iload_n 2, 1) := dc_28 aX12_hour_15
theorem dX12_hour_16 : decode cX12_hour 16 = .ok (.iadd, 1) := dc_96 aX12_hour_16
theorem dX12_hour_17 : decode cX12_hour 17 = .ok (.istore 4, 2) := dc_54 (a0 := 4) aX12_hour_17
theorem dX12_hour_19 : decode cX12_hour 19 = .ok (.aload_n 0, 1) := dc_42 aX12_hour_19
theorem dX12_hour_20 : decode cX12_hour 20 = .ok (.iload 4, 2) := dc_21 (a0 := 4) aX12_hour_20
theorem dX12_hour_22 : decode cX12_hour 22 = .ok (.iconst 0, 1) := dc_3 aX12_hour_22
theorem dX12_hour_23 : decode cX12_hour 23 = .ok (.invokevirtual 254, 3) := dc_182 (a0 := 0) (b0 := 254) aX12_hour_23
theorem dX12_hour_26 : decode cX12_hour 26 = .ok (.iconst (-1), 1) := dc_2 aX12_hour_26
theorem dX12_hour_27 : decode cX12_hour 27 = .ok (.if_icmp .eq 19, 3) := dc_159 (a0 := 0) (b0 := 19) aX12_hour_27 (by decide)
theorem dX12_hour_30 : decode cX12_hour 30 = .ok (.aload_n 0, 1) := dc_42 aX12_hour_30
theorem dX12_hour_31 : decode cX12_hour 31 = .ok (.iload 4, 2) := dc_21 (a0 := 4) aX12_hour_31
theorem dX12_hour_33 : decode cX12_hour 33 = .ok (.bipush 7, 2) := dc_16 (a0 := 7) aX12_hour_33 (by decide)
theorem dX12_hour_35 : decode cX12_hour 35 = .ok (.invokevirtual 254, 3) := dc_182 (a0 := 0) (b0 := 254) aX12_hour_35
theorem dX12_hour_38 : decode cX12_hour 38 = .ok (.iconst (-1), 1) := dc_2 aX12_hour_38
theorem dX12_hour_39 : decode cX12_hour 39 = .ok (.if_icmp .eq 7, 3) := dc_159 (a0 := 0) (b0 := 7) aX12_hour_39 (by decide)
theorem dX12_hour_42 : decode cX12_hour 42 = .ok (.iconst 1, 1) := dc_4 aX12_hour_42
theorem dX12_hour_43 : decode cX12_hour 43 = .ok (.goto 4, 3) := dc_167 (a0 := 0) (b0 := 4) aX12_hour_43 (by decide)
theorem dX12_hour_46 : decode cX12_hour 46 = .ok (.iconst 0, 1) := dc_3 aX12_hour_46
theorem dX12_hour_47 : decode cX12_hour 47 = .ok (.istore 5, 2) := dc_54 (a0 := 5) aX12_hour_47
theorem dX12_hour_49 : decode cX12_hour 49 = .ok (.iload 5, 2) := dc_21 (a0 := 5) aX12_hour_49
theorem dX12_hour_51 : decode cX12_hour 51 = .ok (.ifCond .ne 10, 3) := dc_154 (a0 := 0) (b0 := 10) aX12_hour_51 (by decide)
theorem dX12_hour_54 : decode cX12_hour 54 = .ok (.iload_n 3, 1) := dc_29 aX12_hour_54
theorem dX12_hour_55 : decode cX12_hour 55 = .ok (.iconst (-1), 1) := dc_2 aX12_hour_55
theorem dX12_hour_56 : decode cX12_hour 56 = .ok (.if_icmp .ne 5, 3) := dc_160 (a0 := 0) (b0 := 5) aX12_hour_56 (by decide)
theorem dX12_hour_59 : decode cX12_hour 59 = .ok (.iconst (-1), 1) := dc_2 aX12_hour_59
theorem dX12_hour_60 : decode cX12_hour 60 = .ok (.ireturn, 1) := dc_172 aX12_hour_60
theorem dX12_hour_61 : decode cX12_hour 61 = .ok (.iconst 0, 1) := dc_3 aX12_hour_61
theorem dX12_hour_62 : decode cX12_hour 62 = .ok (.istore 6, 2) := dc_54 (a0 := 6) aX12_hour_62
theorem dX12_hour_64 : decode cX12_hour 64 = .ok (.iconst 0, 1) := dc_3 aX12_hour_64
theorem dX12_hour_65 : decode cX12_hour 65 = .ok (.istore 7, 2) := dc_54 (a0 := 7) aX12_hour_65
theorem dX12_hour_67 : decode cX12_hour 67 = .ok (.iload 7, 2) := dc_21 (a0 := 7) aX12_hour_67
theorem dX12_hour_69 : decode cX12_hour 69 = .ok (.sipush 360, 3) := dc_17 (a0 := 1) (b0 := 104) aX12_hour_69 (by decide)
theorem dX12_hour_72 : decode cX12_hour 72 = .ok (.aload_n 0, 1) := dc_42 aX12_hour_72
theorem dX12_hour_73 : decode cX12_hour 73 = .ok (.getfield 228, 3) := dc_180 (a0 := 0) (b0 := 228) aX12_hour_73
theorem dX12_hour_76 : decode cX12_hour 76 = .ok (.imul, 1) := dc_104 aX12_hour_76
theorem dX12_hour_77 : decode cX12_hour 77 = .ok (.if_icmp .ge 50, 3) := dc_162 (a0 := 0) (b0 := 50) aX12_hour_77 (by decide)
theorem dX12_hour_80 : decode cX12_hour 80 = .ok (.iload 5, 2) := dc_21 (a0 := 5) aX12_hour_80
theorem dX12_hour_82 : decode cX12_hour 82 = .ok (.ifCond .eq 45, 3) := dc_153 (a0 := 0) (b0 := 45) aX12_hour_82 (by decide)
theorem dX12_hour_85 : decode cX12_hour 85 = .ok (.aload_n 0, 1) := dc_42 aX12_hour_85
theorem dX12_hour_86 : decode cX12_hour 86 = .ok (.iload 4, 2) := dc_21 (a0 := 4) aX12_hour_86
theorem dX12_hour_88 : decode cX12_hour 88 = .ok (.iload 7, 2) := dc_21 (a0 := 7) aX12_hour_88
theorem dX12_hour_90 : decode cX12_hour 90 = .ok (.sipush 360, 3) := dc_17 (a0 := 1) (b0 := 104) aX12_hour_90 (by decide)
theorem dX12_hour_93 : decode cX12_hour 93 = .ok (.idiv, 1) := dc_108 aX12_hour_93
theorem dX12_hour_94 : decode cX12_hour 94 = .ok (.iload 7, 2) := dc_21 (a0 := 7) aX12_hour_94
theorem dX12_hour_96 : decode cX12_hour 96 = .ok (.sipush 360, 3) := dc_17 (a0 := 1) (b0 := 104) aX12_hour_96 (by decide)
theorem dX12_hour_99 : decode cX12_hour 99 = .ok (.irem, 1) := dc_112 aX12_hour_99
theorem dX12_hour_100 : decode cX12_hour 100 = .ok (.invokevirtual 320, 3) := dc_182 (a0 := 1) (b0 := 64) aX12_hour_100
theorem dX12_hour_103 : decode cX12_hour 103 = .ok (.ifCond .ne 6, 3) := dc_154 (a0 := 0) (b0 := 6) aX12_hour_103 (by decide)
theorem dX12_hour_106 : decode cX12_hour 106 = .ok (.goto 15, 3) := dc_167 (a0 := 0) (b0 := 15) aX12_hour_106 (by decide)
theorem dX12_hour_109 : decode cX12_hour 109 = .ok (.iload 6, 2) := dc_21 (a0 := 6) aX12_hour_109
theorem dX12_hour_111 : decode cX12_hour 111 = .ok (.iload_n 3, 1) := dc_29 aX12_hour_111
theorem dX12_hour_112 : decode cX12_hour 112 = .ok (.if_icmp .ne 6, 3) := dc_160 (a0 := 0) (b0 := 6) aX12_hour_112 (by decide)
theorem dX12_hour_115 : decode cX12_hour 115 = .ok (.iload 7, 2) := dc_21 (a0 := 7) aX12_hour_115
theorem dX12_hour_117 : decode cX12_hour 117 = .ok (.ireturn, 1) := dc_172 aX12_hour_117
theorem dX12_hour_118 : decode cX12_hour 118 = .ok (.iinc 6 1, 3) := dc_132 (a0 := 6) (a1 := 1) aX12_hour_118 (by decide)
theorem dX12_hour_121 : decode cX12_hour 121 = .ok (.iinc 7 1, 3) := dc_132 (a0 := 7) (a1 := 1) aX12_hour_121 (by decide)
theorem dX12_hour_124 : decode cX12_hour 124 = .ok (.goto (-57), 3) := dc_167 (a0 := 255) (b0 := 199) aX12_hour_124 (by decide)
theorem dX12_hour_127 : decode cX12_hour 127 = .ok (.aload_n 0, 1) := dc_42 aX12_hour_127
theorem dX12_hour_128 : decode cX12_hour 128 = .ok (.iload_n 3, 1) := dc_29 aX12_hour_128
theorem dX12_hour_129 : decode cX12_hour 129 = .ok (.iconst (-1), 1) := dc_2 aX12_hour_129
theorem dX12_hour_130 : decode cX12_hour 130 = .ok (.if_icmp .ne 7, 3) := dc_160 (a0 := 0) (b0 := 7) aX12_hour_130 (by decide)
theorem dX12_hour_133 : decode cX12_hour 133 = .ok (.iconst 1, 1) := dc_4 aX12_hour_133
theorem dX12_hour_134 : decode cX12_hour 134 = .ok (.goto 4, 3) := dc_167 (a0 := 0) (b0 := 4) aX12_hour_134 (by decide)
theorem dX12_hour_137 : decode cX12_hour 137 = .ok (.iconst 0, 1) := dc_3 aX12_hour_137
theorem dX12_hour_138 : decode cX12_hour 138 = .ok (.iconst 1, 1) := dc_4 aX12_hour_138
theorem dX12_hour_139 : decode cX12_hour 139 = .ok (.invokevirtual 209, 3) := dc_182 (a0 := 0) (b0 := 209) aX12_hour_139
theorem dX12_hour_142 : decode cX12_hour 142 = .ok (.ifCond .eq 8, 3) := dc_153 (a0 := 0) (b0 := 8) aX12_hour_142 (by decide)
theorem dX12_hour_145 : decode cX12_hour 145 = .ok (.iload 6, 2) := dc_21 (a0 := 6) aX12_hour_145
theorem dX12_hour_147 : decode cX12_hour 147 = .ok (.goto 4, 3) := dc_167 (a0 := 0) (b0 := 4) aX12_hour_147 (by decide)
theorem dX12_hour_150 : decode cX12_hour 150 = .ok (.iconst 0, 1) := dc_3 aX12_hour_150
theorem dX12_hour_151 : decode cX12_hour 151 = .ok (.ireturn, 1) := dc_172 aX12_hour_151
set_option maxRecDepth 20000 in
theorem ggX12_houseAt_X12_middleOf : GoodIn wsX12_houseAt wsX12_middleOf := goodIn_k _ [[5, 0, 0, 0, 0, 0], [4, 6, 0, 0, 0, 0, 0, 0, 0, 0, 0, 0, 0, 0, 0, 0, 0, 0, 0, 0, 0, 0, 0, 0, 0, 0, 0, 0, 0, 0, 0, 0, 0, 0, 0, 0, 0, 0, 0, 0, 0, 0, 0, 0, 0, 0, 0, 0, 0, 0, 0, 0, 0, 0, 0, 0, 0, 0, 0, 0, 0, 0, 0, 0, 0]] (by rfl) (by decide +kernel)
set_option maxRecDepth 20000 in
theorem gX12_houseAt_X12_middleOf : GoodIn wsX12_houseAt (wsV RX12 317 RX12 yX12_middleOf wsX12_middleOf) := goodIn_app (goodIn_of _ (by decide +kernel)) ggX12_houseAt_X12_middleOf
noncomputable def sX12_houseAt_219 : List Nat := 172 :: []
noncomputable def sX12_houseAt_218 : List Nat := 112 :: sX12_houseAt_219
noncomputable def sX12_houseAt_215 : List Nat := 17 :: 1 :: 104 :: sX12_houseAt_218
noncomputable def sX12_houseAt_214 : List Nat := 96 :: sX12_houseAt_215
noncomputable def sX12_houseAt_211 : List Nat := 17 :: 0 :: 180 :: sX12_houseAt_214
noncomputable def sX12_houseAt_209 : List Nat := 21 :: 9 :: sX12_houseAt_211
noncomputable def sX12_houseAt_206 : List Nat := 167 :: 0 :: 9 :: sX12_houseAt_209
noncomputable def sX12_houseAt_204 : List Nat := 21 :: 9 :: sX12_houseAt_206
noncomputable def sX12_houseAt_201 : List Nat := 160 :: 0 :: 8 :: sX12_houseAt_204
noncomputable def sX12_houseAt_199 : List Nat := 21 :: 4 :: sX12_houseAt_201
noncomputable def sX12_houseAt_197 : List Nat := 21 :: 8 :: sX12_houseAt_199
noncomputable def sX12_houseAt_195 : List Nat := 54 :: 9 :: sX12_houseAt_197
noncomputable def sX12_houseAt_194 : List Nat := 96 :: sX12_houseAt_195
noncomputable def sX12_houseAt_193 : List Nat := 108 :: sX12_houseAt_194
noncomputable def sX12_houseAt_192 : List Nat := 6 :: sX12_houseAt_193
noncomputable def sX12_houseAt_191 : List Nat := 104 :: sX12_houseAt_192
noncomputable def sX12_houseAt_189 : List Nat := 21 :: 7 :: sX12_houseAt_191
noncomputable def sX12_houseAt_188 : List Nat := 5 :: sX12_houseAt_189
noncomputable def sX12_houseAt_187 : List Nat := 27 :: sX12_houseAt_188
noncomputable def sX12_houseAt_184 : List Nat := 167 :: 0 :: 11 :: sX12_houseAt_187
noncomputable def sX12_houseAt_183 : List Nat := 96 :: sX12_houseAt_184
noncomputable def sX12_houseAt_182 : List Nat := 108 :: sX12_houseAt_183
noncomputable def sX12_houseAt_181 : List Nat := 6 :: sX12_houseAt_182
noncomputable def sX12_houseAt_179 : List Nat := 21 :: 7 :: sX12_houseAt_181
noncomputable def sX12_houseAt_178 : List Nat := 27 :: sX12_houseAt_179
noncomputable def sX12_houseAt_175 : List Nat := 160 :: 0 :: 12 :: sX12_houseAt_178
noncomputable def sX12_houseAt_174 : List Nat := 5 :: sX12_houseAt_175
noncomputable def sX12_houseAt_172 : List Nat := 21 :: 8 :: sX12_houseAt_174
noncomputable def sX12_houseAt_169 : List Nat := 167 :: 0 :: 26 :: sX12_houseAt_172
noncomputable def sX12_houseAt_168 : List Nat := 96 :: sX12_houseAt_169
noncomputable def sX12_houseAt_167 : List Nat := 108 :: sX12_houseAt_168
noncomputable def sX12_houseAt_166 : List Nat := 6 :: sX12_houseAt_167
noncomputable def sX12_houseAt_165 : List Nat := 104 :: sX12_houseAt_166
noncomputable def sX12_houseAt_163 : List Nat := 21 :: 6 :: sX12_houseAt_165
noncomputable def sX12_houseAt_162 : List Nat := 5 :: sX12_houseAt_163
noncomputable def sX12_houseAt_160 : List Nat := 21 :: 5 :: sX12_houseAt_162
noncomputable def sX12_houseAt_157 : List Nat := 160 :: 0 :: 15 :: sX12_houseAt_160
noncomputable def sX12_houseAt_155 : List Nat := 16 :: 12 :: sX12_houseAt_157
noncomputable def sX12_houseAt_153 : List Nat := 21 :: 8 :: sX12_houseAt_155
noncomputable def sX12_houseAt_150 : List Nat := 167 :: 0 :: 45 :: sX12_houseAt_153
noncomputable def sX12_houseAt_149 : List Nat := 96 :: sX12_houseAt_150
noncomputable def sX12_houseAt_148 : List Nat := 108 :: sX12_houseAt_149
noncomputable def sX12_houseAt_147 : List Nat := 6 :: sX12_houseAt_148
noncomputable def sX12_houseAt_145 : List Nat := 21 :: 6 :: sX12_houseAt_147
noncomputable def sX12_houseAt_143 : List Nat := 21 :: 5 :: sX12_houseAt_145
noncomputable def sX12_houseAt_140 : List Nat := 160 :: 0 :: 13 :: sX12_houseAt_143
noncomputable def sX12_houseAt_138 : List Nat := 16 :: 11 :: sX12_houseAt_140
noncomputable def sX12_houseAt_136 : List Nat := 21 :: 8 :: sX12_houseAt_138
noncomputable def sX12_houseAt_133 : List Nat := 167 :: 0 :: 62 :: sX12_houseAt_136
noncomputable def sX12_houseAt_131 : List Nat := 21 :: 5 :: sX12_houseAt_133
noncomputable def sX12_houseAt_128 : List Nat := 160 :: 0 :: 8 :: sX12_houseAt_131
noncomputable def sX12_houseAt_126 : List Nat := 16 :: 10 :: sX12_houseAt_128
noncomputable def sX12_houseAt_124 : List Nat := 21 :: 8 :: sX12_houseAt_126
noncomputable def sX12_houseAt_121 : List Nat := 167 :: 0 :: 74 :: sX12_houseAt_124
noncomputable def sX12_houseAt_120 : List Nat := 27 :: sX12_houseAt_121
noncomputable def sX12_houseAt_117 : List Nat := 160 :: 0 :: 7 :: sX12_houseAt_120
noncomputable def sX12_houseAt_116 : List Nat := 4 :: sX12_houseAt_117
noncomputable def sX12_houseAt_114 : List Nat := 21 :: 8 :: sX12_houseAt_116
noncomputable def sX12_houseAt_112 : List Nat := 54 :: 8 :: sX12_houseAt_114
noncomputable def sX12_houseAt_110 : List Nat := 21 :: 4 :: sX12_houseAt_112
noncomputable def sX12_houseAt_107 : List Nat := 167 :: 0 :: 5 :: sX12_houseAt_110
noncomputable def sX12_houseAt_106 : List Nat := 96 :: sX12_houseAt_107
noncomputable def sX12_houseAt_105 : List Nat := 4 :: sX12_houseAt_106
noncomputable def sX12_houseAt_104 : List Nat := 112 :: sX12_houseAt_105
noncomputable def sX12_houseAt_102 : List Nat := 16 :: 12 :: sX12_houseAt_104
noncomputable def sX12_houseAt_101 : List Nat := 96 :: sX12_houseAt_102
noncomputable def sX12_houseAt_100 : List Nat := 8 :: sX12_houseAt_101
noncomputable def sX12_houseAt_98 : List Nat := 21 :: 4 :: sX12_houseAt_100
noncomputable def sX12_houseAt_95 : List Nat := 162 :: 0 :: 15 :: sX12_houseAt_98
noncomputable def sX12_houseAt_93 : List Nat := 16 :: 10 :: sX12_houseAt_95
noncomputable def sX12_houseAt_91 : List Nat := 21 :: 4 :: sX12_houseAt_93
noncomputable def sX12_houseAt_88 : List Nat := 164 :: 0 :: 22 :: sX12_houseAt_91
noncomputable def sX12_houseAt_87 : List Nat := 6 :: sX12_houseAt_88
noncomputable def sX12_houseAt_85 : List Nat := 21 :: 4 :: sX12_houseAt_87
noncomputable def sX12_houseAt_83 : List Nat := 54 :: 7 :: sX12_houseAt_85
noncomputable def sX12_houseAt_82 : List Nat := 112 :: sX12_houseAt_83
noncomputable def sX12_houseAt_79 : List Nat := 17 :: 1 :: 104 :: sX12_houseAt_82
noncomputable def sX12_houseAt_78 : List Nat := 96 :: sX12_houseAt_79
noncomputable def sX12_houseAt_75 : List Nat := 17 :: 1 :: 104 :: sX12_houseAt_78
noncomputable def sX12_houseAt_74 : List Nat := 100 :: sX12_houseAt_75
noncomputable def sX12_houseAt_73 : List Nat := 27 :: sX12_houseAt_74
noncomputable def sX12_houseAt_72 : List Nat := 96 :: sX12_houseAt_73
noncomputable def sX12_houseAt_69 : List Nat := 17 :: 0 :: 180 :: sX12_houseAt_72
noncomputable def sX12_houseAt_67 : List Nat := 21 :: 5 :: sX12_houseAt_69
noncomputable def sX12_houseAt_65 : List Nat := 54 :: 6 :: sX12_houseAt_67
noncomputable def sX12_houseAt_64 : List Nat := 112 :: sX12_houseAt_65
noncomputable def sX12_houseAt_61 : List Nat := 17 :: 1 :: 104 :: sX12_houseAt_64
noncomputable def sX12_houseAt_60 : List Nat := 96 :: sX12_houseAt_61
noncomputable def sX12_houseAt_57 : List Nat := 17 :: 1 :: 104 :: sX12_houseAt_60
noncomputable def sX12_houseAt_56 : List Nat := 100 :: sX12_houseAt_57
noncomputable def sX12_houseAt_54 : List Nat := 21 :: 5 :: sX12_houseAt_56
noncomputable def sX12_houseAt_53 : List Nat := 27 :: sX12_houseAt_54
noncomputable def sX12_houseAt_51 : List Nat := 54 :: 5 :: sX12_houseAt_53
noncomputable def sX12_houseAt_50 : List Nat := 108 :: sX12_houseAt_51
noncomputable def sX12_houseAt_48 : List Nat := 16 :: 60 :: sX12_houseAt_50
noncomputable def sX12_houseAt_45 : List Nat := 182 :: 1 :: 61 :: sX12_houseAt_48
noncomputable def sX12_houseAt_44 : List Nat := 104 :: sX12_houseAt_45
noncomputable def sX12_houseAt_43 : List Nat := 27 :: sX12_houseAt_44
noncomputable def sX12_houseAt_41 : List Nat := 16 :: 60 :: sX12_houseAt_43
noncomputable def sX12_houseAt_40 : List Nat := 29 :: sX12_houseAt_41
noncomputable def sX12_houseAt_39 : List Nat := 42 :: sX12_houseAt_40
noncomputable def sX12_houseAt_38 : List Nat := 172 :: sX12_houseAt_39
noncomputable def sX12_houseAt_37 : List Nat := 112 :: sX12_houseAt_38
noncomputable def sX12_houseAt_34 : List Nat := 17 :: 1 :: 104 :: sX12_houseAt_37
noncomputable def sX12_houseAt_33 : List Nat := 96 :: sX12_houseAt_34
noncomputable def sX12_houseAt_32 : List Nat := 104 :: sX12_houseAt_33
noncomputable def sX12_houseAt_31 : List Nat := 100 :: sX12_houseAt_32
noncomputable def sX12_houseAt_30 : List Nat := 4 :: sX12_houseAt_31
noncomputable def sX12_houseAt_28 : List Nat := 21 :: 4 :: sX12_houseAt_30
noncomputable def sX12_houseAt_26 : List Nat := 16 :: 30 :: sX12_houseAt_28
noncomputable def sX12_houseAt_25 : List Nat := 27 :: sX12_houseAt_26
noncomputable def sX12_houseAt_22 : List Nat := 160 :: 0 :: 17 :: sX12_houseAt_25
noncomputable def sX12_houseAt_21 : List Nat := 4 :: sX12_houseAt_22
noncomputable def sX12_houseAt_20 : List Nat := 28 :: sX12_houseAt_21
noncomputable def sX12_houseAt_19 : List Nat := 172 :: sX12_houseAt_20
noncomputable def sX12_houseAt_18 : List Nat := 104 :: sX12_houseAt_19
noncomputable def sX12_houseAt_17 : List Nat := 112 :: sX12_houseAt_18
noncomputable def sX12_houseAt_15 : List Nat := 16 :: 12 :: sX12_houseAt_17
noncomputable def sX12_houseAt_14 : List Nat := 100 :: sX12_houseAt_15
noncomputable def sX12_houseAt_13 : List Nat := 4 :: sX12_houseAt_14
noncomputable def sX12_houseAt_12 : List Nat := 96 :: sX12_houseAt_13
noncomputable def sX12_houseAt_10 : List Nat := 21 :: 4 :: sX12_houseAt_12
noncomputable def sX12_houseAt_9 : List Nat := 108 :: sX12_houseAt_10
noncomputable def sX12_houseAt_7 : List Nat := 16 :: 30 :: sX12_houseAt_9
noncomputable def sX12_houseAt_6 : List Nat := 27 :: sX12_houseAt_7
noncomputable def sX12_houseAt_4 : List Nat := 16 :: 30 :: sX12_houseAt_6
noncomputable def sX12_houseAt_1 : List Nat := 154 :: 0 :: 19 :: sX12_houseAt_4
noncomputable def sX12_houseAt_0 : List Nat := 28 :: sX12_houseAt_1
theorem aX12_houseAt_0 : dc_at cX12_houseAt 0 sX12_houseAt_0 := dc_base (by decide +kernel)
theorem aX12_houseAt_1 : dc_at cX12_houseAt 1 sX12_houseAt_1 := dc_n1 aX12_houseAt_0
theorem aX12_houseAt_4 : dc_at cX12_houseAt 4 sX12_houseAt_4 := dc_n3 aX12_houseAt_1
theorem aX12_houseAt_6 : dc_at cX12_houseAt 6 sX12_houseAt_6 := dc_n2 aX12_houseAt_4
theorem aX12_houseAt_7 : dc_at cX12_houseAt 7 sX12_houseAt_7 := dc_n1 aX12_houseAt_6
theorem aX12_houseAt_9 : dc_at cX12_houseAt 9 sX12_houseAt_9 := dc_n2 aX12_houseAt_7
theorem aX12_houseAt_10 : dc_at cX12_houseAt 10 sX12_houseAt_10 := dc_n1 aX12_houseAt_9
theorem aX12_houseAt_12 : dc_at cX12_houseAt 12 sX12_houseAt_12 := dc_n2 aX12_houseAt_10
theorem aX12_houseAt_13 : dc_at cX12_houseAt 13 sX12_houseAt_13 := dc_n1 aX12_houseAt_12
theorem aX12_houseAt_14 : dc_at cX12_houseAt 14 sX12_houseAt_14 := dc_n1 aX12_houseAt_13
theorem aX12_houseAt_15 : dc_at cX12_houseAt 15 sX12_houseAt_15 := dc_n1 aX12_houseAt_14
theorem aX12_houseAt_17 : dc_at cX12_houseAt 17 sX12_houseAt_17 := dc_n2 aX12_houseAt_15
theorem aX12_houseAt_18 : dc_at cX12_houseAt 18 sX12_houseAt_18 := dc_n1 aX12_houseAt_17
theorem aX12_houseAt_19 : dc_at cX12_houseAt 19 sX12_houseAt_19 := dc_n1 aX12_houseAt_18
theorem aX12_houseAt_20 : dc_at cX12_houseAt 20 sX12_houseAt_20 := dc_n1 aX12_houseAt_19
theorem aX12_houseAt_21 : dc_at cX12_houseAt 21 sX12_houseAt_21 := dc_n1 aX12_houseAt_20
theorem aX12_houseAt_22 : dc_at cX12_houseAt 22 sX12_houseAt_22 := dc_n1 aX12_houseAt_21
theorem aX12_houseAt_25 : dc_at cX12_houseAt 25 sX12_houseAt_25 := dc_n3 aX12_houseAt_22
theorem aX12_houseAt_26 : dc_at cX12_houseAt 26 sX12_houseAt_26 := dc_n1 aX12_houseAt_25
theorem aX12_houseAt_28 : dc_at cX12_houseAt 28 sX12_houseAt_28 := dc_n2 aX12_houseAt_26
theorem aX12_houseAt_30 : dc_at cX12_houseAt 30 sX12_houseAt_30 := dc_n2 aX12_houseAt_28
theorem aX12_houseAt_31 : dc_at cX12_houseAt 31 sX12_houseAt_31 := dc_n1 aX12_houseAt_30
theorem aX12_houseAt_32 : dc_at cX12_houseAt 32 sX12_houseAt_32 := dc_n1 aX12_houseAt_31
theorem aX12_houseAt_33 : dc_at cX12_houseAt 33 sX12_houseAt_33 := dc_n1 aX12_houseAt_32
theorem aX12_houseAt_34 : dc_at cX12_houseAt 34 sX12_houseAt_34 := dc_n1 aX12_houseAt_33
theorem aX12_houseAt_37 : dc_at cX12_houseAt 37 sX12_houseAt_37 := dc_n3 aX12_houseAt_34
theorem aX12_houseAt_38 : dc_at cX12_houseAt 38 sX12_houseAt_38 := dc_n1 aX12_houseAt_37
theorem aX12_houseAt_39 : dc_at cX12_houseAt 39 sX12_houseAt_39 := dc_n1 aX12_houseAt_38
theorem aX12_houseAt_40 : dc_at cX12_houseAt 40 sX12_houseAt_40 := dc_n1 aX12_houseAt_39
theorem aX12_houseAt_41 : dc_at cX12_houseAt 41 sX12_houseAt_41 := dc_n1 aX12_houseAt_40
theorem aX12_houseAt_43 : dc_at cX12_houseAt 43 sX12_houseAt_43 := dc_n2 aX12_houseAt_41
theorem aX12_houseAt_44 : dc_at cX12_houseAt 44 sX12_houseAt_44 := dc_n1 aX12_houseAt_43
theorem aX12_houseAt_45 : dc_at cX12_houseAt 45 sX12_houseAt_45 := dc_n1 aX12_houseAt_44
theorem aX12_houseAt_48 : dc_at cX12_houseAt 48 sX12_houseAt_48 := dc_n3 aX12_houseAt_45
theorem aX12_houseAt_50 : dc_at cX12_houseAt 50 sX12_houseAt_50 := dc_n2 aX12_houseAt_48
theorem aX12_houseAt_51 : dc_at cX12_houseAt 51 sX12_houseAt_51 := dc_n1 aX12_houseAt_50
theorem aX12_houseAt_53 : dc_at cX12_houseAt 53 sX12_houseAt_53 := dc_n2 aX12_houseAt_51
theorem aX12_houseAt_54 : dc_at cX12_houseAt 54 sX12_houseAt_54 := dc_n1 aX12_houseAt_53
theorem aX12_houseAt_56 : dc_at cX12_houseAt 56 sX12_houseAt_56 := dc_n2 aX12_houseAt_54
theorem aX12_houseAt_57 : dc_at cX12_houseAt 57 sX12_houseAt_57 := dc_n1 aX12_houseAt_56
theorem aX12_houseAt_60 : dc_at cX12_houseAt 60 sX12_houseAt_60 := dc_n3 aX12_houseAt_57
theorem aX12_houseAt_61 : dc_at cX12_houseAt 61 sX12_houseAt_61 := dc_n1 aX12_houseAt_60
theorem aX12_houseAt_64 : dc_at cX12_houseAt 64 sX12_houseAt_64 := dc_n3 aX12_houseAt_61
theorem aX12_houseAt_65 : dc_at cX12_houseAt 65 sX12_houseAt_65 := dc_n1 aX12_houseAt_64
theorem aX12_houseAt_67 : dc_at cX12_houseAt 67 sX12_houseAt_67 := dc_n2 aX12_houseAt_65
theorem aX12_houseAt_69 : dc_at cX12_houseAt 69 sX12_houseAt_69 := dc_n2 aX12_houseAt_67
theorem aX12_houseAt_72 : dc_at cX12_houseAt 72 sX12_houseAt_72 := dc_n3 aX12_houseAt_69
theorem aX12_houseAt_73 : dc_at cX12_houseAt 73 sX12_houseAt_73 := dc_n1 aX12_houseAt_72
theorem aX12_houseAt_74 : dc_at cX12_houseAt 74 sX12_houseAt_74 := dc_n1 aX12_houseAt_73
theorem aX12_houseAt_75 : dc_at cX12_houseAt 75 sX12_houseAt_75 := dc_n1 aX12_houseAt_74
theorem aX12_houseAt_78 : dc_at cX12_houseAt 78 sX12_houseAt_78 := dc_n3 aX12_houseAt_75
theorem aX12_houseAt_79 : dc_at cX12_houseAt 79 sX12_houseAt_79 := dc_n1 aX12_houseAt_78
theorem aX12_houseAt_82 : dc_at cX12_houseAt 82 sX12_houseAt_82 := dc_n3 aX12_houseAt_79
theorem aX12_houseAt_83 : dc_at cX12_houseAt 83 sX12_houseAt_83 := dc_n1 aX12_houseAt_82
theorem aX12_houseAt_85 : dc_at cX12_houseAt 85 sX12_houseAt_85 := dc_n2 aX12_houseAt_83
theorem aX12_houseAt_87 : dc_at cX12_houseAt 87 sX12_houseAt_87 := dc_n2 aX12_houseAt_85
theorem aX12_houseAt_88 : dc_at cX12_houseAt 88 sX12_houseAt_88 := dc_n1 aX12_houseAt_87
theorem aX12_houseAt_91 : dc_at cX12_houseAt 91 sX12_houseAt_91 := dc_n3 aX12_houseAt_88
theorem aX12_houseAt_93 : dc_at cX12_houseAt 93 sX12_houseAt_93 := dc_n2 aX12_houseAt_91
theorem aX12_houseAt_95 : dc_at cX12_houseAt 95 sX12_houseAt_95 := dc_n2 aX12_houseAt_93
theorem aX12_houseAt_98 : dc_at cX12_houseAt 98 sX12_houseAt_98 := dc_n3 aX12_houseAt_95
theorem aX12_houseAt_100 : dc_at cX12_houseAt 100 sX12_houseAt_100 := dc_n2 aX12_houseAt_98
theorem aX12_houseAt_101 : dc_at cX12_houseAt 101 sX12_houseAt_101 := dc_n1 aX12_houseAt_100
theorem aX12_houseAt_102 : dc_at cX12_houseAt 102 sX12_houseAt_102 := dc_n1 aX12_houseAt_101
theorem aX12_houseAt_104 : dc_at cX12_houseAt 104 sX12_houseAt_104 := dc_n2 aX12_houseAt_102
theorem aX12_houseAt_105 : dc_at cX12_houseAt 105 sX12_houseAt_105 := dc_n1 aX12_houseAt_104
theorem aX12_houseAt_106 : dc_at cX12_houseAt 106 sX12_houseAt_106 := dc_n1 aX12_houseAt_105
theorem aX12_houseAt_107 : dc_at cX12_houseAt 107 sX12_houseAt_107 := dc_n1 aX12_houseAt_106
theorem aX12_houseAt_110 : dc_at cX12_houseAt 110 sX12_houseAt_110 := dc_n3 aX12_houseAt_107
theorem aX12_houseAt_112 : dc_at cX12_houseAt 112 sX12_houseAt_112 := dc_n2 aX12_houseAt_110
theorem aX12_houseAt_114 : dc_at cX12_houseAt 114 sX12_houseAt_114 := dc_n2 aX12_houseAt_112
theorem aX12_houseAt_116 : dc_at cX12_houseAt 116 sX12_houseAt_116 := dc_n2 aX12_houseAt_114
theorem aX12_houseAt_117 : dc_at cX12_houseAt 117 sX12_houseAt_117 := dc_n1 aX12_houseAt_116
theorem aX12_houseAt_120 : dc_at cX12_houseAt 120 sX12_houseAt_120 := dc_n3 aX12_houseAt_117
theorem aX12_houseAt_121 : dc_at cX12_houseAt 121 sX12_houseAt_121 := dc_n1 aX12_houseAt_120
theorem aX12_houseAt_124 : dc_at cX12_houseAt 124 sX12_houseAt_124 := dc_n3 aX12_houseAt_121
theorem aX12_houseAt_126 : dc_at cX12_houseAt 126 sX12_houseAt_126 := dc_n2 aX12_houseAt_124
theorem aX12_houseAt_128 : dc_at cX12_houseAt 128 sX12_houseAt_128 := dc_n2 aX12_houseAt_126
theorem aX12_houseAt_131 : dc_at cX12_houseAt 131 sX12_houseAt_131 := dc_n3 aX12_houseAt_128
theorem aX12_houseAt_133 : dc_at cX12_houseAt 133 sX12_houseAt_133 := dc_n2 aX12_houseAt_131
theorem aX12_houseAt_136 : dc_at cX12_houseAt 136 sX12_houseAt_136 := dc_n3 aX12_houseAt_133
theorem aX12_houseAt_138 : dc_at cX12_houseAt 138 sX12_houseAt_138 := dc_n2 aX12_houseAt_136
theorem aX12_houseAt_140 : dc_at cX12_houseAt 140 sX12_houseAt_140 := dc_n2 aX12_houseAt_138
theorem aX12_houseAt_143 : dc_at cX12_houseAt 143 sX12_houseAt_143 := dc_n3 aX12_houseAt_140
theorem aX12_houseAt_145 : dc_at cX12_houseAt 145 sX12_houseAt_145 := dc_n2 aX12_houseAt_143
theorem aX12_houseAt_147 : dc_at cX12_houseAt 147 sX12_houseAt_147 := dc_n2 aX12_houseAt_145
theorem aX12_houseAt_148 : dc_at cX12_houseAt 148 sX12_houseAt_148 := dc_n1 aX12_houseAt_147
theorem aX12_houseAt_149 : dc_at cX12_houseAt 149 sX12_houseAt_149 := dc_n1 aX12_houseAt_148
theorem aX12_houseAt_150 : dc_at cX12_houseAt 150 sX12_houseAt_150 := dc_n1 aX12_houseAt_149
theorem aX12_houseAt_153 : dc_at cX12_houseAt 153 sX12_houseAt_153 := dc_n3 aX12_houseAt_150
theorem aX12_houseAt_155 : dc_at cX12_houseAt 155 sX12_houseAt_155 := dc_n2 aX12_houseAt_153
theorem aX12_houseAt_157 : dc_at cX12_houseAt 157 sX12_houseAt_157 := dc_n2 aX12_houseAt_155
theorem aX12_houseAt_160 : dc_at cX12_houseAt 160 sX12_houseAt_160 := dc_n3 aX12_houseAt_157
theorem aX12_houseAt_162 : dc_at cX12_houseAt 162 sX12_houseAt_162 := dc_n2 aX12_houseAt_160
theorem aX12_houseAt_163 : dc_at cX12_houseAt 163 sX12_houseAt_163 := dc_n1 aX12_houseAt_162
theorem aX12_houseAt_165 : dc_at cX12_houseAt 165 sX12_houseAt_165 := dc_n2 aX12_houseAt_163
theorem aX12_houseAt_166 : dc_at cX12_houseAt 166 sX12_houseAt_166 := dc_n1 aX12_houseAt_165
theorem aX12_houseAt_167 : dc_at cX12_houseAt 167 sX12_houseAt_167 := dc_n1 aX12_houseAt_166
theorem aX12_houseAt_168 : dc_at cX12_houseAt 168 sX12_houseAt_168 := dc_n1 aX12_houseAt_167
theorem aX12_houseAt_169 : dc_at cX12_houseAt 169 sX12_houseAt_169 := dc_n1 aX12_houseAt_168
theorem aX12_houseAt_172 : dc_at cX12_houseAt 172 sX12_houseAt_172 := dc_n3 aX12_houseAt_169
theorem aX12_houseAt_174 : dc_at cX12_houseAt 174 sX12_houseAt_174 := dc_n2 aX12_houseAt_172
theorem aX12_houseAt_175 : dc_at cX12_houseAt 175 sX12_houseAt_175 := dc_n1 aX12_houseAt_174
theorem aX12_houseAt_178 : dc_at cX12_houseAt 178 sX12_houseAt_178 := dc_n3 aX12_houseAt_175
theorem aX12_houseAt_179 : dc_at cX12_houseAt 179 sX12_houseAt_179 := dc_n1 aX12_houseAt_178
theorem aX12_houseAt_181 : dc_at cX12_houseAt 181 sX12_houseAt_181 := dc_n2 aX12_houseAt_179
theorem aX12_houseAt_182 : dc_at cX12_houseAt 182 sX12_houseAt_182 := dc_n1 aX12_houseAt_181
theorem aX12_houseAt_183 : dc_at cX12_houseAt 183 sX12_houseAt_183 := dc_n1 aX12_houseAt_182
theorem aX12_houseAt_184 : dc_at cX12_houseAt 184 sX12_houseAt_184 := dc_n1 aX12_houseAt_183
theorem aX12_houseAt_187 : dc_at cX12_houseAt 187 sX12_houseAt_187 := dc_n3 aX12_houseAt_184
theorem aX12_houseAt_188 : dc_at cX12_houseAt 188 sX12_houseAt_188 := dc_n1 aX12_houseAt_187
theorem aX12_houseAt_189 : dc_at cX12_houseAt 189 sX12_houseAt_189 := dc_n1 aX12_houseAt_188
theorem aX12_houseAt_191 : dc_at cX12_houseAt 191 sX12_houseAt_191 := dc_n2 aX12_houseAt_189
theorem aX12_houseAt_192 : dc_at cX12_houseAt 192 sX12_houseAt_192 := dc_n1 aX12_houseAt_191
theorem aX12_houseAt_193 : dc_at cX12_houseAt 193 sX12_houseAt_193 := dc_n1 aX12_houseAt_192
theorem aX12_houseAt_194 : dc_at cX12_houseAt 194 sX12_houseAt_194 := dc_n1 aX12_houseAt_193
theorem aX12_houseAt_195 : dc_at cX12_houseAt 195 sX12_houseAt_195 := dc_n1 aX12_houseAt_194
theorem aX12_houseAt_197 : dc_at cX12_houseAt 197 sX12_houseAt_197 := dc_n2 aX12_houseAt_195
theorem aX12_houseAt_199 : dc_at cX12_houseAt 199 sX12_houseAt_199 := dc_n2 aX12_houseAt_197
theorem aX12_houseAt_201 : dc_at cX12_houseAt 201 sX12_houseAt_201 := dc_n2 aX12_houseAt_199
theorem aX12_houseAt_204 : dc_at cX12_houseAt 204 sX12_houseAt_204 := dc_n3 aX12_houseAt_201
theorem aX12_houseAt_206 : dc_at cX12_houseAt 206 sX12_houseAt_206 := dc_n2 aX12_houseAt_204
theorem aX12_houseAt_209 : dc_at cX12_houseAt 209 sX12_houseAt_209 := dc_n3 aX12_houseAt_206
theorem aX12_houseAt_211 : dc_at cX12_houseAt 211 sX12_houseAt_211 := dc_n2 aX12_houseAt_209
theorem aX12_houseAt_214 : dc_at cX12_houseAt 214 sX12_houseAt_214 := dc_n3 aX12_houseAt_211
theorem aX12_houseAt_215 : dc_at cX12_houseAt 215 sX12_houseAt_215 := dc_n1 aX12_houseAt_214
theorem aX12_houseAt_218 : dc_at cX12_houseAt 218 sX12_houseAt_218 := dc_n3 aX12_houseAt_215
theorem aX12_houseAt_219 : dc_at cX12_houseAt 219 sX12_houseAt_219 := dc_n1 aX12_houseAt_218
theorem dX12_houseAt_0 : decode cX12_houseAt 0 = .ok (.iload_n 2, 1) := dc_28 aX12_houseAt_0
theorem dX12_houseAt_1 : decode cX12_houseAt 1 = .ok (.ifCond .ne 19, 3) := dc_154 (a0 := 0) (b0 := 19) aX12_houseAt_1 (by decide)
theorem dX12_houseAt_4 : decode cX12_houseAt 4 = .ok (.bipush 30, 2) := dc_16 (a0 := 30) aX12_houseAt_4 (by decide)
theorem dX12_houseAt_6 : decode cX12_houseAt 6 = .ok (.iload_n 1, 1) := dc_27 aX12_houseAt_6
theorem dX12_houseAt_7 : decode cX12_houseAt 7 = .ok (.bipush 30, 2) := dc_16 (a0 := 30) aX12_houseAt_7 (by decide)
theorem dX12_houseAt_9 : decode cX12_houseAt 9 = .ok (.idiv, 1) := dc_108 aX12_houseAt_9
theorem dX12_houseAt_10 : decode cX12_houseAt 10 = .ok (.iload 4, 2) := dc_21 (a0 := 4) aX12_houseAt_10
theorem dX12_houseAt_12 : decode cX12_houseAt 12 = .ok (.iadd, 1) := dc_96 aX12_houseAt_12
theorem dX12_houseAt_13 : decode cX12_houseAt 13 = .ok (.iconst 1, 1) := dc_4 aX12_houseAt_13
theorem dX12_houseAt_14 : decode cX12_houseAt 14 = .ok (.isub, 1) := dc_100 aX12_houseAt_14
theorem dX12_houseAt_15 : decode cX12_houseAt 15 = .ok (.bipush 12, 2) := dc_16 (a0 := 12) aX12_houseAt_15 (by decide)
theorem dX12_houseAt_17 : decode cX12_houseAt 17 = .ok (.irem, 1) := dc_112 aX12_houseAt_17
theorem dX12_houseAt_18 : decode cX12_houseAt 18 = .ok (.imul, 1) := dc_104 aX12_houseAt_18
theorem dX12_houseAt_19 : decode cX12_houseAt 19 = .ok (.ireturn, 1) := dc_172 aX12_houseAt_19
theorem dX12_houseAt_20 : decode cX12_houseAt 20 = .ok (.iload_n 2, 1) := dc_28 aX12_houseAt_20
theorem dX12_houseAt_21 : decode cX12_houseAt 21 = .ok (.iconst 1, 1) := dc_4 aX12_houseAt_21
theorem dX12_houseAt_22 : decode cX12_houseAt 22 = .ok (.if_icmp .ne 17, 3) := dc_160 (a0 := 0) (b0 := 17) aX12_houseAt_22 (by decide)
theorem dX12_houseAt_25 : decode cX12_houseAt 25 = .ok (.iload_n 1, 1) := dc_27 aX12_houseAt_25
theorem dX12_houseAt_26 : decode cX12_houseAt 26 = .ok (.bipush 30, 2) := dc_16 (a0 := 30) aX12_houseAt_26 (by decide)
theorem dX12_houseAt_28 : decode cX12_houseAt 28 = .ok (.iload 4, 2) := dc_21 (a0 := 4) aX12_houseAt_28
theorem dX12_houseAt_30 : decode cX12_houseAt 30 = .ok (.iconst 1, 1) := dc_4 aX12_houseAt_30
theorem dX12_houseAt_31 : decode cX12_houseAt 31 = .ok (.isub, 1) := dc_100 aX12_houseAt_31
theorem dX12_houseAt_32 : decode cX12_houseAt 32 = .ok (.imul, 1) := dc_104 aX12_houseAt_32
theorem dX12_houseAt_33 : decode cX12_houseAt 33 = .ok (.iadd, 1) := dc_96 aX12_houseAt_33
theorem dX12_houseAt_34 : decode cX12_houseAt 34 = .ok (.sipush 360, 3) := dc_17 (a0 := 1) (b0 := 104) aX12_houseAt_34 (by decide)
theorem dX12_houseAt_37 : decode cX12_houseAt 37 = .ok (.irem, 1) := dc_112 aX12_houseAt_37
theorem dX12_houseAt_38 : decode cX12_houseAt 38 = .ok (.ireturn, 1) := dc_172 aX12_houseAt_38
theorem dX12_houseAt_39 : decode cX12_houseAt 39 = .ok (.aload_n 0, 1) := dc_42 aX12_houseAt_39
theorem dX12_houseAt_40 : decode cX12_houseAt 40 = .ok (.iload_n 3, 1) := dc_29 aX12_houseAt_40
theorem dX12_houseAt_41 : decode cX12_houseAt 41 = .ok (.bipush 60, 2) := dc_16 (a0 := 60) aX12_houseAt_41 (by decide)
theorem dX12_houseAt_43 : decode cX12_houseAt 43 = .ok (.iload_n 1, 1) := dc_27 aX12_houseAt_43
theorem dX12_houseAt_44 : decode cX12_houseAt 44 = .ok (.imul, 1) := dc_104 aX12_houseAt_44
theorem dX12_houseAt_45 : decode cX12_houseAt 45 = .ok (.invokevirtual 317, 3) := dc_182 (a0 := 1) (b0 := 61) aX12_houseAt_45
theorem dX12_houseAt_48 : decode cX12_houseAt 48 = .ok (.bipush 60, 2) := dc_16 (a0 := 60) aX12_houseAt_48 (by decide)
theorem dX12_houseAt_50 : decode cX12_houseAt 50 = .ok (.idiv, 1) := dc_108 aX12_houseAt_50
theorem dX12_houseAt_51 : decode cX12_houseAt 51 = .ok (.istore 5, 2) := dc_54 (a0 := 5) aX12_houseAt_51
theorem dX12_houseAt_53 : decode cX12_houseAt 53 = .ok (.iload_n 1, 1) := dc_27 aX12_houseAt_53
theorem dX12_houseAt_54 : decode cX12_houseAt 54 = .ok (.iload 5, 2) := dc_21 (a0 := 5) aX12_houseAt_54
theorem dX12_houseAt_56 : decode cX12_houseAt 56 = .ok (.isub, 1) := dc_100 aX12_houseAt_56
theorem dX12_houseAt_57 : decode cX12_houseAt 57 = .ok (.sipush 360, 3) := dc_17 (a0 := 1) (b0 := 104) aX12_houseAt_57 (by decide)
theorem dX12_houseAt_60 : decode cX12_houseAt 60 = .ok (.iadd, 1) := dc_96 aX12_houseAt_60
theorem dX12_houseAt_61 : decode cX12_houseAt 61 = .ok (.sipush 360, 3) := dc_17 (a0 := 1) (b0 := 104) aX12_houseAt_61 (by decide)
theorem dX12_houseAt_64 : decode cX12_houseAt 64 = .ok (.irem, 1) := dc_112 aX12_houseAt_64
theorem dX12_houseAt_65 : decode cX12_houseAt 65 = .ok (.istore 6, 2) := dc_54 (a0 := 6) aX12_houseAt_65
theorem dX12_houseAt_67 : decode cX12_houseAt 67 = .ok (.iload 5, 2) := dc_21 (a0 := 5) aX12_houseAt_67
theorem dX12_houseAt_69 : decode cX12_houseAt 69 = .ok (.sipush 180, 3) := dc_17 (a0 := 0) (b0 := 180) aX12_houseAt_69 (by decide)
theorem dX12_houseAt_72 : decode cX12_houseAt 72 = .ok (.iadd, 1) := dc_96 aX12_houseAt_72
theorem dX12_houseAt_73 : decode cX12_houseAt 73 = .ok (.iload_n 1, 1) := dc_27 aX12_houseAt_73
theorem dX12_houseAt_74 : decode cX12_houseAt 74 = .ok (.isub, 1) := dc_100 aX12_houseAt_74
theorem dX12_houseAt_75 : decode cX12_houseAt 75 = .ok (.sipush 360, 3) := dc_17 (a0 := 1) (b0 := 104) aX12_houseAt_75 (by decide)
theorem dX12_houseAt_78 : decode cX12_houseAt 78 = .ok (.iadd, 1) := dc_96 aX12_houseAt_78
theorem dX12_houseAt_79 : decode cX12_houseAt 79 = .ok (.sipush 360, 3) := dc_17 (a0 := 1) (b0 := 104) aX12_houseAt_79 (by decide)
theorem dX12_houseAt_82 : decode cX12_houseAt 82 = .ok (.irem, 1) := dc_112 aX12_houseAt_82
theorem dX12_houseAt_83 : decode cX12_houseAt 83 = .ok (.istore 7, 2) := dc_54 (a0 := 7) aX12_houseAt_83
theorem dX12_houseAt_85 : decode cX12_houseAt 85 = .ok (.iload 4, 2) := dc_21 (a0 := 4) aX12_houseAt_85
theorem dX12_houseAt_87 : decode cX12_houseAt 87 = .ok (.iconst 3, 1) := dc_6 aX12_houseAt_87
theorem dX12_houseAt_88 : decode cX12_houseAt 88 = .ok (.if_icmp .le 22, 3) := dc_164 (a0 := 0) (b0 := 22) aX12_houseAt_88 (by decide)
theorem dX12_houseAt_91 : decode cX12_houseAt 91 = .ok (.iload 4, 2) := dc_21 (a0 := 4) aX12_houseAt_91
theorem dX12_houseAt_93 : decode cX12_houseAt 93 = .ok (.bipush 10, 2) := dc_16 (a0 := 10) aX12_houseAt_93 (by decide)
theorem dX12_houseAt_95 : decode cX12_houseAt 95 = .ok (.if_icmp .ge 15, 3) := dc_162 (a0 := 0) (b0 := 15) aX12_houseAt_95 (by decide)
theorem dX12_houseAt_98 : decode cX12_houseAt 98 = .ok (.iload 4, 2) := dc_21 (a0 := 4) aX12_houseAt_98
theorem dX12_houseAt_100 : decode cX12_houseAt 100 = .ok (.iconst 5, 1) := dc_8 aX12_houseAt_100
theorem dX12_houseAt_101 : decode cX12_houseAt 101 = .ok (.iadd, 1) := dc_96 aX12_houseAt_101
theorem dX12_houseAt_102 : decode cX12_houseAt 102 = .ok (.bipush 12, 2) := dc_16 (a0 := 12) aX12_houseAt_102 (by decide)
theorem dX12_houseAt_104 : decode cX12_houseAt 104 = .ok (.irem, 1) := dc_112 aX12_houseAt_104
theorem dX12_houseAt_105 : decode cX12_houseAt 105 = .ok (.iconst 1, 1) := dc_4 aX12_houseAt_105
theorem dX12_houseAt_106 : decode cX12_houseAt 106 = .ok (.iadd, 1) := dc_96 aX12_houseAt_106
theorem dX12_houseAt_107 : decode cX12_houseAt 107 = .ok (.goto 5, 3) := dc_167 (a0 := 0) (b0 := 5) aX12_houseAt_107 (by decide)
theorem dX12_houseAt_110 : decode cX12_houseAt 110 = .ok (.iload 4, 2) := dc_21 (a0 := 4) aX12_houseAt_110
theorem dX12_houseAt_112 : decode cX12_houseAt 112 = .ok (.istore 8, 2) := dc_54 (a0 := 8) aX12_houseAt_112
theorem dX12_houseAt_114 : decode cX12_houseAt 114 = .ok (.iload 8, 2) := dc_21 (a0 := 8) aX12_houseAt_114
theorem dX12_houseAt_116 : decode cX12_houseAt 116 = .ok (.iconst 1, 1) := dc_4 aX12_houseAt_116
theorem dX12_houseAt_117 : decode cX12_houseAt 117 = .ok (.if_icmp .ne 7, 3) := dc_160 (a0 := 0) (b0 := 7) aX12_houseAt_117 (by decide)
theorem dX12_houseAt_120 : decode cX12_houseAt 120 = .ok (.iload_n 1, 1) := dc_27 aX12_houseAt_120
theorem dX12_houseAt_121 : decode cX12_houseAt 121 = .ok (.goto 74, 3) := dc_167 (a0 := 0) (b0 := 74) aX12_houseAt_121 (by decide)
theorem dX12_houseAt_124 : decode cX12_houseAt 124 = .ok (.iload 8, 2) := dc_21 (a0 := 8) aX12_houseAt_124
theorem dX12_houseAt_126 : decode cX12_houseAt 126 = .ok (.bipush 10, 2) := dc_16 (a0 := 10) aX12_houseAt_126 (by decide)
theorem dX12_houseAt_128 : decode cX12_houseAt 128 = .ok (.if_icmp .ne 8, 3) := dc_160 (a0 := 0) (b0 := 8) aX12_houseAt_128 (by decide)
theorem dX12_houseAt_131 : decode cX12_houseAt 131 = .ok (.iload 5, 2) := dc_21 (a0 := 5) aX12_houseAt_131
theorem dX12_houseAt_133 : decode cX12_houseAt 133 = .ok (.goto 62, 3) := dc_167 (a0 := 0) (b0 := 62) aX12_houseAt_133 (by decide)
theorem dX12_houseAt_136 : decode cX12_houseAt 136 = .ok (.iload 8, 2) := dc_21 (a0 := 8) aX12_houseAt_136
theorem dX12_houseAt_138 : decode cX12_houseAt 138 = .ok (.bipush 11, 2) := dc_16 (a0 := 11) aX12_houseAt_138 (by decide)
theorem dX12_houseAt_140 : decode cX12_houseAt 140 = .ok (.if_icmp .ne 13, 3) := dc_160 (a0 := 0) (b0 := 13) aX12_houseAt_140 (by decide)
theorem dX12_houseAt_143 : decode cX12_houseAt 143 = .ok (.iload 5, 2) := dc_21 (a0 := 5) aX12_houseAt_143
theorem dX12_houseAt_145 : decode cX12_houseAt 145 = .ok (.iload 6, 2) := dc_21 (a0 := 6) aX12_houseAt_145
theorem dX12_houseAt_147 : decode cX12_houseAt 147 = .ok (.iconst 3, 1) := dc_6 aX12_houseAt_147
theorem dX12_houseAt_148 : decode cX12_houseAt 148 = .ok (.idiv, 1) := dc_108 aX12_houseAt_148
theorem dX12_houseAt_149 : decode cX12_houseAt 149 = .ok (.iadd, 1) := dc_96 aX12_houseAt_149
theorem dX12_houseAt_150 : decode cX12_houseAt 150 = .ok (.goto 45, 3) := dc_167 (a0 := 0) (b0 := 45) aX12_houseAt_150 (by decide)
theorem dX12_houseAt_153 : decode cX12_houseAt 153 = .ok (.iload 8, 2) := dc_21 (a0 := 8) aX12_houseAt_153
theorem dX12_houseAt_155 : decode cX12_houseAt 155 = .ok (.bipush 12, 2) := dc_16 (a0 := 12) aX12_houseAt_155 (by decide)
theorem dX12_houseAt_157 : decode cX12_houseAt 157 = .ok (.if_icmp .ne 15, 3) := dc_160 (a0 := 0) (b0 := 15) aX12_houseAt_157 (by decide)
theorem dX12_houseAt_160 : decode cX12_houseAt 160 = .ok (.iload 5, 2) := dc_21 (a0 := 5) aX12_houseAt_160
theorem dX12_houseAt_162 : decode cX12_houseAt 162 = .ok (.iconst 2, 1) := dc_5 aX12_houseAt_162
theorem dX12_houseAt_163 : decode cX12_houseAt 163 = .ok (.iload 6, 2) := dc_21 (a0 := 6) aX12_houseAt_163
theorem dX12_houseAt_165 : decode cX12_houseAt 165 = .ok (.imul, 1) := dc_104 aX12_houseAt_165
theorem dX12_houseAt_166 : decode cX12_houseAt 166 = .ok (.iconst 3, 1) := dc_6 aX12_houseAt_166
theorem dX12_houseAt_167 : decode cX12_houseAt 167 = .ok (.idiv, 1) := dc_108 aX12_houseAt_167
theorem dX12_houseAt_168 : decode cX12_houseAt 168 = .ok (.iadd, 1) := dc_96 aX12_houseAt_168
theorem dX12_houseAt_169 : decode cX12_houseAt 169 = .ok (.goto 26, 3) := dc_167 (a0 := 0) (b0 := 26) aX12_houseAt_169 (by decide)
theorem dX12_houseAt_172 : decode cX12_houseAt 172 = .ok (.iload 8, 2) := dc_21 (a0 := 8) aX12_houseAt_172
theorem dX12_houseAt_174 : decode cX12_houseAt 174 = .ok (.iconst 2, 1) := dc_5 aX12_houseAt_174
theorem dX12_houseAt_175 : decode cX12_houseAt 175 = .ok (.if_icmp .ne 12, 3) := dc_160 (a0 := 0) (b0 := 12) aX12_houseAt_175 (by decide)
theorem dX12_houseAt_178 : decode cX12_houseAt 178 = .ok (.iload_n 1, 1) := dc_27 aX12_houseAt_178
theorem dX12_houseAt_179 : decode cX12_houseAt 179 = .ok (.iload 7, 2) := dc_21 (a0 := 7) aX12_houseAt_179
theorem dX12_houseAt_181 : decode cX12_houseAt 181 = .ok (.iconst 3, 1) := dc_6 aX12_houseAt_181
theorem dX12_houseAt_182 : decode cX12_houseAt 182 = .ok (.idiv, 1) := dc_108 aX12_houseAt_182
theorem dX12_houseAt_183 : decode cX12_houseAt 183 = .ok (.iadd, 1) := dc_96 aX12_houseAt_183
theorem dX12_houseAt_184 : decode cX12_houseAt 184 = .ok (.goto 11, 3) := dc_167 (a0 := 0) (b0 := 11) aX12_houseAt_184 (by decide)
theorem dX12_houseAt_187 : decode cX12_houseAt 187 = .ok (.iload_n 1, 1) := dc_27 aX12_houseAt_187
theorem dX12_houseAt_188 : decode cX12_houseAt 188 = .ok (.iconst 2, 1) := dc_5 aX12_houseAt_188
theorem dX12_houseAt_189 : decode cX12_houseAt 189 = .ok (.iload 7, 2) := dc_21 (a0 := 7) aX12_houseAt_189
theorem dX12_houseAt_191 : decode cX12_houseAt 191 = .ok (.imul, 1) := dc_104 aX12_houseAt_191
theorem dX12_houseAt_192 : decode cX12_houseAt 192 = .ok (.iconst 3, 1) := dc_6 aX12_houseAt_192
theorem dX12_houseAt_193 : decode cX12_houseAt 193 = .ok (.idiv, 1) := dc_108 aX12_houseAt_193
theorem dX12_houseAt_194 : decode cX12_houseAt 194 = .ok (.iadd, 1) := dc_96 aX12_houseAt_194
theorem dX12_houseAt_195 : decode cX12_houseAt 195 = .ok (.istore 9, 2) := dc_54 (a0 := 9) aX12_houseAt_195
theorem dX12_houseAt_197 : decode cX12_houseAt 197 = .ok (.iload 8, 2) := dc_21 (a0 := 8) aX12_houseAt_197
theorem dX12_houseAt_199 : decode cX12_houseAt 199 = .ok (.iload 4, 2) := dc_21 (a0 := 4) aX12_houseAt_199
theorem dX12_houseAt_201 : decode cX12_houseAt 201 = .ok (.if_icmp .ne 8, 3) := dc_160 (a0 := 0) (b0 := 8) aX12_houseAt_201 (by decide)
theorem dX12_houseAt_204 : decode cX12_houseAt 204 = .ok (.iload 9, 2) := dc_21 (a0 := 9) aX12_houseAt_204
theorem dX12_houseAt_206 : decode cX12_houseAt 206 = .ok (.goto 9, 3) := dc_167 (a0 := 0) (b0 := 9) aX12_houseAt_206 (by decide)
theorem dX12_houseAt_209 : decode cX12_houseAt 209 = .ok (.iload 9, 2) := dc_21 (a0 := 9) aX12_houseAt_209
theorem dX12_houseAt_211 : decode cX12_houseAt 211 = .ok (.sipush 180, 3) := dc_17 (a0 := 0) (b0 := 180) aX12_houseAt_211 (by decide)
theorem dX12_houseAt_214 : decode cX12_houseAt 214 = .ok (.iadd, 1) := dc_96 aX12_houseAt_214
theorem dX12_houseAt_215 : decode cX12_houseAt 215 = .ok (.sipush 360, 3) := dc_17 (a0 := 1) (b0 := 104) aX12_houseAt_215 (by decide)
theorem dX12_houseAt_218 : decode cX12_houseAt 218 = .ok (.irem, 1) := dc_112 aX12_houseAt_218
theorem dX12_houseAt_219 : decode cX12_houseAt 219 = .ok (.ireturn, 1) := dc_172 aX12_houseAt_219
set_option maxRecDepth 20000 in
theorem ggX12_isWay_X12_within : GoodIn wsX12_isWay wsX12_within := goodIn_k _ [[5]] (by rfl) (by decide +kernel)
set_option maxRecDepth 20000 in
theorem gX12_isWay_X12_within : GoodIn wsX12_isWay (va_wsS RX12 270 yX12_within wsX12_within) := goodIn_app (goodIn_of _ (by decide +kernel)) ggX12_isWay_X12_within
set_option maxRecDepth 20000 in
theorem ggX12_isWay_X12_right : GoodIn wsX12_isWay wsX12_right := goodIn_k _ [[9, 0, 0, 0, 0, 0, 0, 0, 0, 0, 0, 0, 0, 0, 0, 0, 0, 0, 0, 0, 0, 0, 0, 0, 0, 0, 0, 0, 0, 0, 0, 0, 0, 0, 0, 0, 0, 0, 0, 0, 0, 0, 0, 0, 0, 0, 0, 0, 0, 0, 0, 0, 0, 0, 0, 0, 0, 0, 0, 0]] (by rfl) (by decide +kernel)
set_option maxRecDepth 20000 in
theorem gX12_isWay_X12_right : GoodIn wsX12_isWay (wsV RX12 209 RX12 yX12_right wsX12_right) := goodIn_app (goodIn_of _ (by decide +kernel)) ggX12_isWay_X12_right
noncomputable def sX12_isWay_36 : List Nat := 172 :: []
noncomputable def sX12_isWay_33 : List Nat := 182 :: 0 :: 209 :: sX12_isWay_36
noncomputable def sX12_isWay_32 : List Nat := 4 :: sX12_isWay_33
noncomputable def sX12_isWay_31 : List Nat := 3 :: sX12_isWay_32
noncomputable def sX12_isWay_28 : List Nat := 167 :: 0 :: 4 :: sX12_isWay_31
noncomputable def sX12_isWay_27 : List Nat := 4 :: sX12_isWay_28
noncomputable def sX12_isWay_24 : List Nat := 162 :: 0 :: 7 :: sX12_isWay_27
noncomputable def sX12_isWay_21 : List Nat := 180 :: 0 :: 228 :: sX12_isWay_24
noncomputable def sX12_isWay_20 : List Nat := 42 :: sX12_isWay_21
noncomputable def sX12_isWay_19 : List Nat := 28 :: sX12_isWay_20
noncomputable def sX12_isWay_16 : List Nat := 155 :: 0 :: 15 :: sX12_isWay_19
noncomputable def sX12_isWay_15 : List Nat := 28 :: sX12_isWay_16
noncomputable def sX12_isWay_12 : List Nat := 161 :: 0 :: 15 :: sX12_isWay_15
noncomputable def sX12_isWay_11 : List Nat := 5 :: sX12_isWay_12
noncomputable def sX12_isWay_10 : List Nat := 27 :: sX12_isWay_11
noncomputable def sX12_isWay_7 : List Nat := 153 :: 0 :: 24 :: sX12_isWay_10
noncomputable def sX12_isWay_4 : List Nat := 184 :: 1 :: 14 :: sX12_isWay_7
noncomputable def sX12_isWay_3 : List Nat := 5 :: sX12_isWay_4
noncomputable def sX12_isWay_2 : List Nat := 3 :: sX12_isWay_3
noncomputable def sX12_isWay_1 : List Nat := 27 :: sX12_isWay_2
noncomputable def sX12_isWay_0 : List Nat := 42 :: sX12_isWay_1
theorem aX12_isWay_0 : dc_at cX12_isWay 0 sX12_isWay_0 := dc_base (by decide +kernel)
theorem aX12_isWay_1 : dc_at cX12_isWay 1 sX12_isWay_1 := dc_n1 aX12_isWay_0
theorem aX12_isWay_2 : dc_at cX12_isWay 2 sX12_isWay_2 := dc_n1 aX12_isWay_1
theorem aX12_isWay_3 : dc_at cX12_isWay 3 sX12_isWay_3 := dc_n1 aX12_isWay_2
theorem aX12_isWay_4 : dc_at cX12_isWay 4 sX12_isWay_4 := dc_n1 aX12_isWay_3
theorem aX12_isWay_7 : dc_at cX12_isWay 7 sX12_isWay_7 := dc_n3 aX12_isWay_4
theorem aX12_isWay_10 : dc_at cX12_isWay 10 sX12_isWay_10 := dc_n3 aX12_isWay_7
theorem aX12_isWay_11 : dc_at cX12_isWay 11 sX12_isWay_11 := dc_n1 aX12_isWay_10
theorem aX12_isWay_12 : dc_at cX12_isWay 12 sX12_isWay_12 := dc_n1 aX12_isWay_11
theorem aX12_isWay_15 : dc_at cX12_isWay 15 sX12_isWay_15 := dc_n3 aX12_isWay_12
theorem aX12_isWay_16 : dc_at cX12_isWay 16 sX12_isWay_16 := dc_n1 aX12_isWay_15
theorem aX12_isWay_19 : dc_at cX12_isWay 19 sX12_isWay_19 := dc_n3 aX12_isWay_16
theorem aX12_isWay_20 : dc_at cX12_isWay 20 sX12_isWay_20 := dc_n1 aX12_isWay_19
theorem aX12_isWay_21 : dc_at cX12_isWay 21 sX12_isWay_21 := dc_n1 aX12_isWay_20
theorem aX12_isWay_24 : dc_at cX12_isWay 24 sX12_isWay_24 := dc_n3 aX12_isWay_21
theorem aX12_isWay_27 : dc_at cX12_isWay 27 sX12_isWay_27 := dc_n3 aX12_isWay_24
theorem aX12_isWay_28 : dc_at cX12_isWay 28 sX12_isWay_28 := dc_n1 aX12_isWay_27
theorem aX12_isWay_31 : dc_at cX12_isWay 31 sX12_isWay_31 := dc_n3 aX12_isWay_28
theorem aX12_isWay_32 : dc_at cX12_isWay 32 sX12_isWay_32 := dc_n1 aX12_isWay_31
theorem aX12_isWay_33 : dc_at cX12_isWay 33 sX12_isWay_33 := dc_n1 aX12_isWay_32
theorem aX12_isWay_36 : dc_at cX12_isWay 36 sX12_isWay_36 := dc_n3 aX12_isWay_33
theorem dX12_isWay_0 : decode cX12_isWay 0 = .ok (.aload_n 0, 1) := dc_42 aX12_isWay_0
theorem dX12_isWay_1 : decode cX12_isWay 1 = .ok (.iload_n 1, 1) := dc_27 aX12_isWay_1
theorem dX12_isWay_2 : decode cX12_isWay 2 = .ok (.iconst 0, 1) := dc_3 aX12_isWay_2
theorem dX12_isWay_3 : decode cX12_isWay 3 = .ok (.iconst 2, 1) := dc_5 aX12_isWay_3
theorem dX12_isWay_4 : decode cX12_isWay 4 = .ok (.invokestatic 270, 3) := dc_184 (a0 := 1) (b0 := 14) aX12_isWay_4
theorem dX12_isWay_7 : decode cX12_isWay 7 = .ok (.ifCond .eq 24, 3) := dc_153 (a0 := 0) (b0 := 24) aX12_isWay_7 (by decide)
theorem dX12_isWay_10 : decode cX12_isWay 10 = .ok (.iload_n 1, 1) := dc_27 aX12_isWay_10
theorem dX12_isWay_11 : decode cX12_isWay 11 = .ok (.iconst 2, 1) := dc_5 aX12_isWay_11
theorem dX12_isWay_12 : decode cX12_isWay 12 = .ok (.if_icmp .lt 15, 3) := dc_161 (a0 := 0) (b0 := 15) aX12_isWay_12 (by decide)
theorem dX12_isWay_15 : decode cX12_isWay 15 = .ok (.iload_n 2, 1) := dc_28 aX12_isWay_15
theorem dX12_isWay_16 : decode cX12_isWay 16 = .ok (.ifCond .lt 15, 3) := dc_155 (a0 := 0) (b0 := 15) aX12_isWay_16 (by decide)
theorem dX12_isWay_19 : decode cX12_isWay 19 = .ok (.iload_n 2, 1) := dc_28 aX12_isWay_19
theorem dX12_isWay_20 : decode cX12_isWay 20 = .ok (.aload_n 0, 1) := dc_42 aX12_isWay_20
theorem dX12_isWay_21 : decode cX12_isWay 21 = .ok (.getfield 228, 3) := dc_180 (a0 := 0) (b0 := 228) aX12_isWay_21
theorem dX12_isWay_24 : decode cX12_isWay 24 = .ok (.if_icmp .ge 7, 3) := dc_162 (a0 := 0) (b0 := 7) aX12_isWay_24 (by decide)
theorem dX12_isWay_27 : decode cX12_isWay 27 = .ok (.iconst 1, 1) := dc_4 aX12_isWay_27
theorem dX12_isWay_28 : decode cX12_isWay 28 = .ok (.goto 4, 3) := dc_167 (a0 := 0) (b0 := 4) aX12_isWay_28 (by decide)
theorem dX12_isWay_31 : decode cX12_isWay 31 = .ok (.iconst 0, 1) := dc_3 aX12_isWay_31
theorem dX12_isWay_32 : decode cX12_isWay 32 = .ok (.iconst 1, 1) := dc_4 aX12_isWay_32
theorem dX12_isWay_33 : decode cX12_isWay 33 = .ok (.invokevirtual 209, 3) := dc_182 (a0 := 0) (b0 := 209) aX12_isWay_33
theorem dX12_isWay_36 : decode cX12_isWay 36 = .ok (.ireturn, 1) := dc_172 aX12_isWay_36
set_option maxRecDepth 20000 in
theorem ggX12_houseOf_X12_within : GoodIn wsX12_houseOf wsX12_within := goodIn_k _ [[5]] (by rfl) (by decide +kernel)
set_option maxRecDepth 20000 in
theorem gX12_houseOf_X12_within : GoodIn wsX12_houseOf (va_wsS RX12 270 yX12_within wsX12_within) := goodIn_app (goodIn_of _ (by decide +kernel)) ggX12_houseOf_X12_within
set_option maxRecDepth 20000 in
theorem ggX12_houseOf_X12_right : GoodIn wsX12_houseOf wsX12_right := goodIn_k _ [[9], [1, 32, 0, 0, 0, 0, 0, 0, 0, 0, 0, 0, 0, 0, 0, 0, 0, 0, 0, 0, 0, 0, 0, 0, 0, 0, 0, 0, 0, 0, 0, 0, 0, 0, 0, 0, 0, 0, 0, 0, 0, 0, 0, 0, 0, 0, 0, 0, 0, 0, 0, 0, 0, 0, 0, 0, 0, 0, 0]] (by rfl) (by decide +kernel)
set_option maxRecDepth 20000 in
theorem gX12_houseOf_X12_right : GoodIn wsX12_houseOf (wsV RX12 209 RX12 yX12_right wsX12_right) := goodIn_app (goodIn_of _ (by decide +kernel)) ggX12_houseOf_X12_right
set_option maxRecDepth 20000 in
theorem ggX12_houseOf_X12_isWay : GoodIn wsX12_houseOf wsX12_isWay := goodIn_k _ [[13, 0], [2, 0, 0, 0, 0, 0, 0, 0], [1, 32, 0, 0, 0, 0, 0, 0, 0, 0, 0, 0, 0, 0, 0, 0, 0, 0, 0, 0, 0, 0, 0, 0, 0, 0, 0, 0, 0, 0, 0, 0, 0, 0, 0, 0, 0, 0, 0, 0, 0, 0, 0, 0, 0, 0, 0, 0, 0, 0, 0, 0, 0, 0, 0, 0, 0, 0, 0]] (by rfl) (by decide +kernel)
set_option maxRecDepth 20000 in
theorem gX12_houseOf_X12_isWay : GoodIn wsX12_houseOf (wsV RX12 323 RX12 yX12_isWay wsX12_isWay) := goodIn_app (goodIn_of _ (by decide +kernel)) ggX12_houseOf_X12_isWay
set_option maxRecDepth 20000 in
theorem ggX12_houseOf_X12_houseAt : GoodIn wsX12_houseOf wsX12_houseAt := goodIn_k _ [[18, 0, 0, 0], [4, 17, 0, 0, 0, 0, 0, 0, 0, 0, 0, 0, 0, 0, 0, 0, 0, 0, 0, 0, 0, 0, 0, 0, 0, 0, 0, 0, 0, 0, 0, 0, 0, 0, 0, 0, 0, 0, 0, 0, 0, 0, 0, 0, 0, 0, 0, 0, 0, 0, 0, 0, 0, 0, 0, 0, 0, 0, 0, 0, 0, 0, 0, 0, 0, 0, 0, 0, 0, 0, 0]] (by rfl) (by decide +kernel)
set_option maxRecDepth 20000 in
theorem gX12_houseOf_X12_houseAt : GoodIn wsX12_houseOf (wsV RX12 326 RX12 yX12_houseAt wsX12_houseAt) := goodIn_app (goodIn_of _ (by decide +kernel)) ggX12_houseOf_X12_houseAt
noncomputable def sX12_houseOf_60 : List Nat := 172 :: []
noncomputable def sX12_houseOf_57 : List Nat := 182 :: 1 :: 70 :: sX12_houseOf_60
noncomputable def sX12_houseOf_55 : List Nat := 21 :: 4 :: sX12_houseOf_57
noncomputable def sX12_houseOf_54 : List Nat := 29 :: sX12_houseOf_55
noncomputable def sX12_houseOf_53 : List Nat := 28 :: sX12_houseOf_54
noncomputable def sX12_houseOf_52 : List Nat := 27 :: sX12_houseOf_53
noncomputable def sX12_houseOf_51 : List Nat := 42 :: sX12_houseOf_52
noncomputable def sX12_houseOf_50 : List Nat := 172 :: sX12_houseOf_51
noncomputable def sX12_houseOf_49 : List Nat := 3 :: sX12_houseOf_50
noncomputable def sX12_houseOf_46 : List Nat := 154 :: 0 :: 5 :: sX12_houseOf_49
noncomputable def sX12_houseOf_43 : List Nat := 182 :: 1 :: 67 :: sX12_houseOf_46
noncomputable def sX12_houseOf_42 : List Nat := 29 :: sX12_houseOf_43
noncomputable def sX12_houseOf_41 : List Nat := 28 :: sX12_houseOf_42
noncomputable def sX12_houseOf_40 : List Nat := 42 :: sX12_houseOf_41
noncomputable def sX12_houseOf_37 : List Nat := 153 :: 0 :: 12 :: sX12_houseOf_40
noncomputable def sX12_houseOf_34 : List Nat := 182 :: 0 :: 209 :: sX12_houseOf_37
noncomputable def sX12_houseOf_33 : List Nat := 4 :: sX12_houseOf_34
noncomputable def sX12_houseOf_32 : List Nat := 3 :: sX12_houseOf_33
noncomputable def sX12_houseOf_29 : List Nat := 167 :: 0 :: 4 :: sX12_houseOf_32
noncomputable def sX12_houseOf_28 : List Nat := 4 :: sX12_houseOf_29
noncomputable def sX12_houseOf_25 : List Nat := 153 :: 0 :: 7 :: sX12_houseOf_28
noncomputable def sX12_houseOf_22 : List Nat := 184 :: 1 :: 14 :: sX12_houseOf_25
noncomputable def sX12_houseOf_20 : List Nat := 16 :: 12 :: sX12_houseOf_22
noncomputable def sX12_houseOf_19 : List Nat := 4 :: sX12_houseOf_20
noncomputable def sX12_houseOf_17 : List Nat := 21 :: 4 :: sX12_houseOf_19
noncomputable def sX12_houseOf_14 : List Nat := 153 :: 0 :: 18 :: sX12_houseOf_17
noncomputable def sX12_houseOf_11 : List Nat := 184 :: 1 :: 14 :: sX12_houseOf_14
noncomputable def sX12_houseOf_8 : List Nat := 17 :: 1 :: 103 :: sX12_houseOf_11
noncomputable def sX12_houseOf_7 : List Nat := 3 :: sX12_houseOf_8
noncomputable def sX12_houseOf_6 : List Nat := 27 :: sX12_houseOf_7
noncomputable def sX12_houseOf_5 : List Nat := 42 :: sX12_houseOf_6
noncomputable def sX12_houseOf_2 : List Nat := 181 :: 0 :: 129 :: sX12_houseOf_5
noncomputable def sX12_houseOf_1 : List Nat := 3 :: sX12_houseOf_2
noncomputable def sX12_houseOf_0 : List Nat := 42 :: sX12_houseOf_1
theorem aX12_houseOf_0 : dc_at cX12_houseOf 0 sX12_houseOf_0 := dc_base (by decide +kernel)
theorem aX12_houseOf_1 : dc_at cX12_houseOf 1 sX12_houseOf_1 := dc_n1 aX12_houseOf_0
theorem aX12_houseOf_2 : dc_at cX12_houseOf 2 sX12_houseOf_2 := dc_n1 aX12_houseOf_1
theorem aX12_houseOf_5 : dc_at cX12_houseOf 5 sX12_houseOf_5 := dc_n3 aX12_houseOf_2
theorem aX12_houseOf_6 : dc_at cX12_houseOf 6 sX12_houseOf_6 := dc_n1 aX12_houseOf_5
theorem aX12_houseOf_7 : dc_at cX12_houseOf 7 sX12_houseOf_7 := dc_n1 aX12_houseOf_6
theorem aX12_houseOf_8 : dc_at cX12_houseOf 8 sX12_houseOf_8 := dc_n1 aX12_houseOf_7
theorem aX12_houseOf_11 : dc_at cX12_houseOf 11 sX12_houseOf_11 := dc_n3 aX12_houseOf_8
theorem aX12_houseOf_14 : dc_at cX12_houseOf 14 sX12_houseOf_14 := dc_n3 aX12_houseOf_11
theorem aX12_houseOf_17 : dc_at cX12_houseOf 17 sX12_houseOf_17 := dc_n3 aX12_houseOf_14
theorem aX12_houseOf_19 : dc_at cX12_houseOf 19 sX12_houseOf_19 := dc_n2 aX12_houseOf_17
theorem aX12_houseOf_20 : dc_at cX12_houseOf 20 sX12_houseOf_20 := dc_n1 aX12_houseOf_19
theorem aX12_houseOf_22 : dc_at cX12_houseOf 22 sX12_houseOf_22 := dc_n2 aX12_houseOf_20
theorem aX12_houseOf_25 : dc_at cX12_houseOf 25 sX12_houseOf_25 := dc_n3 aX12_houseOf_22
theorem aX12_houseOf_28 : dc_at cX12_houseOf 28 sX12_houseOf_28 := dc_n3 aX12_houseOf_25
theorem aX12_houseOf_29 : dc_at cX12_houseOf 29 sX12_houseOf_29 := dc_n1 aX12_houseOf_28
theorem aX12_houseOf_32 : dc_at cX12_houseOf 32 sX12_houseOf_32 := dc_n3 aX12_houseOf_29
theorem aX12_houseOf_33 : dc_at cX12_houseOf 33 sX12_houseOf_33 := dc_n1 aX12_houseOf_32
theorem aX12_houseOf_34 : dc_at cX12_houseOf 34 sX12_houseOf_34 := dc_n1 aX12_houseOf_33
theorem aX12_houseOf_37 : dc_at cX12_houseOf 37 sX12_houseOf_37 := dc_n3 aX12_houseOf_34
theorem aX12_houseOf_40 : dc_at cX12_houseOf 40 sX12_houseOf_40 := dc_n3 aX12_houseOf_37
theorem aX12_houseOf_41 : dc_at cX12_houseOf 41 sX12_houseOf_41 := dc_n1 aX12_houseOf_40
theorem aX12_houseOf_42 : dc_at cX12_houseOf 42 sX12_houseOf_42 := dc_n1 aX12_houseOf_41
theorem aX12_houseOf_43 : dc_at cX12_houseOf 43 sX12_houseOf_43 := dc_n1 aX12_houseOf_42
theorem aX12_houseOf_46 : dc_at cX12_houseOf 46 sX12_houseOf_46 := dc_n3 aX12_houseOf_43
theorem aX12_houseOf_49 : dc_at cX12_houseOf 49 sX12_houseOf_49 := dc_n3 aX12_houseOf_46
theorem aX12_houseOf_50 : dc_at cX12_houseOf 50 sX12_houseOf_50 := dc_n1 aX12_houseOf_49
theorem aX12_houseOf_51 : dc_at cX12_houseOf 51 sX12_houseOf_51 := dc_n1 aX12_houseOf_50
theorem aX12_houseOf_52 : dc_at cX12_houseOf 52 sX12_houseOf_52 := dc_n1 aX12_houseOf_51
theorem aX12_houseOf_53 : dc_at cX12_houseOf 53 sX12_houseOf_53 := dc_n1 aX12_houseOf_52
theorem aX12_houseOf_54 : dc_at cX12_houseOf 54 sX12_houseOf_54 := dc_n1 aX12_houseOf_53
theorem aX12_houseOf_55 : dc_at cX12_houseOf 55 sX12_houseOf_55 := dc_n1 aX12_houseOf_54
theorem aX12_houseOf_57 : dc_at cX12_houseOf 57 sX12_houseOf_57 := dc_n2 aX12_houseOf_55
theorem aX12_houseOf_60 : dc_at cX12_houseOf 60 sX12_houseOf_60 := dc_n3 aX12_houseOf_57
theorem dX12_houseOf_0 : decode cX12_houseOf 0 = .ok (.aload_n 0, 1) := dc_42 aX12_houseOf_0
theorem dX12_houseOf_1 : decode cX12_houseOf 1 = .ok (.iconst 0, 1) := dc_3 aX12_houseOf_1
theorem dX12_houseOf_2 : decode cX12_houseOf 2 = .ok (.putfield 129, 3) := dc_181 (a0 := 0) (b0 := 129) aX12_houseOf_2
theorem dX12_houseOf_5 : decode cX12_houseOf 5 = .ok (.aload_n 0, 1) := dc_42 aX12_houseOf_5
theorem dX12_houseOf_6 : decode cX12_houseOf 6 = .ok (.iload_n 1, 1) := dc_27 aX12_houseOf_6
theorem dX12_houseOf_7 : decode cX12_houseOf 7 = .ok (.iconst 0, 1) := dc_3 aX12_houseOf_7
theorem dX12_houseOf_8 : decode cX12_houseOf 8 = .ok (.sipush 359, 3) := dc_17 (a0 := 1) (b0 := 103) aX12_houseOf_8 (by decide)
theorem dX12_houseOf_11 : decode cX12_houseOf 11 = .ok (.invokestatic 270, 3) := dc_184 (a0 := 1) (b0 := 14) aX12_houseOf_11
theorem dX12_houseOf_14 : decode cX12_houseOf 14 = .ok (.ifCond .eq 18, 3) := dc_153 (a0 := 0) (b0 := 18) aX12_houseOf_14 (by decide)
theorem dX12_houseOf_17 : decode cX12_houseOf 17 = .ok (.iload 4, 2) := dc_21 (a0 := 4) aX12_houseOf_17
theorem dX12_houseOf_19 : decode cX12_houseOf 19 = .ok (.iconst 1, 1) := dc_4 aX12_houseOf_19
theorem dX12_houseOf_20 : decode cX12_houseOf 20 = .ok (.bipush 12, 2) := dc_16 (a0 := 12) aX12_houseOf_20 (by decide)
theorem dX12_houseOf_22 : decode cX12_houseOf 22 = .ok (.invokestatic 270, 3) := dc_184 (a0 := 1) (b0 := 14) aX12_houseOf_22
theorem dX12_houseOf_25 : decode cX12_houseOf 25 = .ok (.ifCond .eq 7, 3) := dc_153 (a0 := 0) (b0 := 7) aX12_houseOf_25 (by decide)
theorem dX12_houseOf_28 : decode cX12_houseOf 28 = .ok (.iconst 1, 1) := dc_4 aX12_houseOf_28
theorem dX12_houseOf_29 : decode cX12_houseOf 29 = .ok (.goto 4, 3) := dc_167 (a0 := 0) (b0 := 4) aX12_houseOf_29 (by decide)
theorem dX12_houseOf_32 : decode cX12_houseOf 32 = .ok (.iconst 0, 1) := dc_3 aX12_houseOf_32
theorem dX12_houseOf_33 : decode cX12_houseOf 33 = .ok (.iconst 1, 1) := dc_4 aX12_houseOf_33
theorem dX12_houseOf_34 : decode cX12_houseOf 34 = .ok (.invokevirtual 209, 3) := dc_182 (a0 := 0) (b0 := 209) aX12_houseOf_34
theorem dX12_houseOf_37 : decode cX12_houseOf 37 = .ok (.ifCond .eq 12, 3) := dc_153 (a0 := 0) (b0 := 12) aX12_houseOf_37 (by decide)
theorem dX12_houseOf_40 : decode cX12_houseOf 40 = .ok (.aload_n 0, 1) := dc_42 aX12_houseOf_40
theorem dX12_houseOf_41 : decode cX12_houseOf 41 = .ok (.iload_n 2, 1) := dc_28 aX12_houseOf_41
theorem dX12_houseOf_42 : decode cX12_houseOf 42 = .ok (.iload_n 3, 1) := dc_29 aX12_houseOf_42
theorem dX12_houseOf_43 : decode cX12_houseOf 43 = .ok (.invokevirtual 323, 3) := dc_182 (a0 := 1) (b0 := 67) aX12_houseOf_43
theorem dX12_houseOf_46 : decode cX12_houseOf 46 = .ok (.ifCond .ne 5, 3) := dc_154 (a0 := 0) (b0 := 5) aX12_houseOf_46 (by decide)
theorem dX12_houseOf_49 : decode cX12_houseOf 49 = .ok (.iconst 0, 1) := dc_3 aX12_houseOf_49
theorem dX12_houseOf_50 : decode cX12_houseOf 50 = .ok (.ireturn, 1) := dc_172 aX12_houseOf_50
theorem dX12_houseOf_51 : decode cX12_houseOf 51 = .ok (.aload_n 0, 1) := dc_42 aX12_houseOf_51
theorem dX12_houseOf_52 : decode cX12_houseOf 52 = .ok (.iload_n 1, 1) := dc_27 aX12_houseOf_52
theorem dX12_houseOf_53 : decode cX12_houseOf 53 = .ok (.iload_n 2, 1) := dc_28 aX12_houseOf_53
theorem dX12_houseOf_54 : decode cX12_houseOf 54 = .ok (.iload_n 3, 1) := dc_29 aX12_houseOf_54
theorem dX12_houseOf_55 : decode cX12_houseOf 55 = .ok (.iload 4, 2) := dc_21 (a0 := 4) aX12_houseOf_55
theorem dX12_houseOf_57 : decode cX12_houseOf 57 = .ok (.invokevirtual 326, 3) := dc_182 (a0 := 1) (b0 := 70) aX12_houseOf_57
theorem dX12_houseOf_60 : decode cX12_houseOf 60 = .ok (.ireturn, 1) := dc_172 aX12_houseOf_60
set_option maxRecDepth 20000 in
theorem ggX12_agrees_X12_at : GoodIn wsX12_agrees wsX12_at := goodIn_k _ [[5, 0, 19, 0, 0, 0, 0, 0, 0, 0, 0, 0, 0, 0, 0, 0, 0, 0, 0, 0, 0, 0, 0, 0, 0, 0, 0, 0, 0, 0, 0, 0, 0, 0, 0, 0, 0, 0, 0, 0, 0, 0, 0, 0, 0, 0, 0, 0, 0, 0, 0, 0, 0, 0, 0, 0, 0, 0, 0, 0]] (by rfl) (by decide +kernel)
set_option maxRecDepth 20000 in
theorem gX12_agrees_X12_at : GoodIn wsX12_agrees (wsV RX12 254 RX12 yX12_at wsX12_at) := goodIn_app (goodIn_of _ (by decide +kernel)) ggX12_agrees_X12_at
set_option maxRecDepth 20000 in
theorem ggX12_agrees_X12_houseAt : GoodIn wsX12_agrees wsX12_houseAt := goodIn_k _ [[10, 0, 0, 0], [4, 9, 0, 0, 0, 0, 0, 0, 0, 0, 0, 0, 0, 0, 0, 0, 0, 0, 0, 0, 0, 0, 0, 0, 0, 0, 0, 0, 0, 0, 0, 0, 0, 0, 0, 0, 0, 0, 0, 0, 0, 0, 0, 0, 0, 0, 0, 0, 0, 0, 0, 0, 0, 0, 0, 0, 0, 0, 0, 0, 0, 0, 0, 0, 0, 0, 0, 0, 0, 0, 0]] (by rfl) (by decide +kernel)
set_option maxRecDepth 20000 in
theorem gX12_agrees_X12_houseAt : GoodIn wsX12_agrees (wsV RX12 326 RX12 yX12_houseAt wsX12_houseAt) := goodIn_app (goodIn_of _ (by decide +kernel)) ggX12_agrees_X12_houseAt
noncomputable def sX12_agrees_64 : List Nat := 172 :: []
noncomputable def sX12_agrees_62 : List Nat := 21 :: 4 :: sX12_agrees_64
noncomputable def sX12_agrees_59 : List Nat := 167 :: 255 :: 203 :: sX12_agrees_62
noncomputable def sX12_agrees_56 : List Nat := 132 :: 5 :: 1 :: sX12_agrees_59
noncomputable def sX12_agrees_53 : List Nat := 132 :: 4 :: 1 :: sX12_agrees_56
noncomputable def sX12_agrees_50 : List Nat := 160 :: 0 :: 6 :: sX12_agrees_53
noncomputable def sX12_agrees_47 : List Nat := 182 :: 1 :: 70 :: sX12_agrees_50
noncomputable def sX12_agrees_45 : List Nat := 21 :: 5 :: sX12_agrees_47
noncomputable def sX12_agrees_44 : List Nat := 29 :: sX12_agrees_45
noncomputable def sX12_agrees_43 : List Nat := 28 :: sX12_agrees_44
noncomputable def sX12_agrees_40 : List Nat := 182 :: 0 :: 254 :: sX12_agrees_43
noncomputable def sX12_agrees_38 : List Nat := 16 :: 7 :: sX12_agrees_40
noncomputable def sX12_agrees_37 : List Nat := 27 :: sX12_agrees_38
noncomputable def sX12_agrees_36 : List Nat := 42 :: sX12_agrees_37
noncomputable def sX12_agrees_35 : List Nat := 42 :: sX12_agrees_36
noncomputable def sX12_agrees_33 : List Nat := 21 :: 6 :: sX12_agrees_35
noncomputable def sX12_agrees_30 : List Nat := 159 :: 0 :: 26 :: sX12_agrees_33
noncomputable def sX12_agrees_29 : List Nat := 2 :: sX12_agrees_30
noncomputable def sX12_agrees_27 : List Nat := 21 :: 6 :: sX12_agrees_29
noncomputable def sX12_agrees_25 : List Nat := 54 :: 6 :: sX12_agrees_27
noncomputable def sX12_agrees_22 : List Nat := 182 :: 0 :: 254 :: sX12_agrees_25
noncomputable def sX12_agrees_21 : List Nat := 100 :: sX12_agrees_22
noncomputable def sX12_agrees_20 : List Nat := 4 :: sX12_agrees_21
noncomputable def sX12_agrees_19 : List Nat := 96 :: sX12_agrees_20
noncomputable def sX12_agrees_17 : List Nat := 21 :: 5 :: sX12_agrees_19
noncomputable def sX12_agrees_15 : List Nat := 16 :: 9 :: sX12_agrees_17
noncomputable def sX12_agrees_14 : List Nat := 27 :: sX12_agrees_15
noncomputable def sX12_agrees_13 : List Nat := 42 :: sX12_agrees_14
noncomputable def sX12_agrees_10 : List Nat := 163 :: 0 :: 52 :: sX12_agrees_13
noncomputable def sX12_agrees_8 : List Nat := 16 :: 12 :: sX12_agrees_10
noncomputable def sX12_agrees_6 : List Nat := 21 :: 5 :: sX12_agrees_8
noncomputable def sX12_agrees_4 : List Nat := 54 :: 5 :: sX12_agrees_6
noncomputable def sX12_agrees_3 : List Nat := 4 :: sX12_agrees_4
noncomputable def sX12_agrees_1 : List Nat := 54 :: 4 :: sX12_agrees_3
noncomputable def sX12_agrees_0 : List Nat := 3 :: sX12_agrees_1
theorem aX12_agrees_0 : dc_at cX12_agrees 0 sX12_agrees_0 := dc_base (by decide +kernel)
theorem aX12_agrees_1 : dc_at cX12_agrees 1 sX12_agrees_1 := dc_n1 aX12_agrees_0
theorem aX12_agrees_3 : dc_at cX12_agrees 3 sX12_agrees_3 := dc_n2 aX12_agrees_1
theorem aX12_agrees_4 : dc_at cX12_agrees 4 sX12_agrees_4 := dc_n1 aX12_agrees_3
theorem aX12_agrees_6 : dc_at cX12_agrees 6 sX12_agrees_6 := dc_n2 aX12_agrees_4
theorem aX12_agrees_8 : dc_at cX12_agrees 8 sX12_agrees_8 := dc_n2 aX12_agrees_6
theorem aX12_agrees_10 : dc_at cX12_agrees 10 sX12_agrees_10 := dc_n2 aX12_agrees_8
theorem aX12_agrees_13 : dc_at cX12_agrees 13 sX12_agrees_13 := dc_n3 aX12_agrees_10
theorem aX12_agrees_14 : dc_at cX12_agrees 14 sX12_agrees_14 := dc_n1 aX12_agrees_13
theorem aX12_agrees_15 : dc_at cX12_agrees 15 sX12_agrees_15 := dc_n1 aX12_agrees_14
theorem aX12_agrees_17 : dc_at cX12_agrees 17 sX12_agrees_17 := dc_n2 aX12_agrees_15
theorem aX12_agrees_19 : dc_at cX12_agrees 19 sX12_agrees_19 := dc_n2 aX12_agrees_17
theorem aX12_agrees_20 : dc_at cX12_agrees 20 sX12_agrees_20 := dc_n1 aX12_agrees_19
theorem aX12_agrees_21 : dc_at cX12_agrees 21 sX12_agrees_21 := dc_n1 aX12_agrees_20
theorem aX12_agrees_22 : dc_at cX12_agrees 22 sX12_agrees_22 := dc_n1 aX12_agrees_21
theorem aX12_agrees_25 : dc_at cX12_agrees 25 sX12_agrees_25 := dc_n3 aX12_agrees_22
theorem aX12_agrees_27 : dc_at cX12_agrees 27 sX12_agrees_27 := dc_n2 aX12_agrees_25
theorem aX12_agrees_29 : dc_at cX12_agrees 29 sX12_agrees_29 := dc_n2 aX12_agrees_27
theorem aX12_agrees_30 : dc_at cX12_agrees 30 sX12_agrees_30 := dc_n1 aX12_agrees_29
theorem aX12_agrees_33 : dc_at cX12_agrees 33 sX12_agrees_33 := dc_n3 aX12_agrees_30
theorem aX12_agrees_35 : dc_at cX12_agrees 35 sX12_agrees_35 := dc_n2 aX12_agrees_33
theorem aX12_agrees_36 : dc_at cX12_agrees 36 sX12_agrees_36 := dc_n1 aX12_agrees_35
theorem aX12_agrees_37 : dc_at cX12_agrees 37 sX12_agrees_37 := dc_n1 aX12_agrees_36
theorem aX12_agrees_38 : dc_at cX12_agrees 38 sX12_agrees_38 := dc_n1 aX12_agrees_37
theorem aX12_agrees_40 : dc_at cX12_agrees 40 sX12_agrees_40 := dc_n2 aX12_agrees_38
theorem aX12_agrees_43 : dc_at cX12_agrees 43 sX12_agrees_43 := dc_n3 aX12_agrees_40
theorem aX12_agrees_44 : dc_at cX12_agrees 44 sX12_agrees_44 := dc_n1 aX12_agrees_43
theorem aX12_agrees_45 : dc_at cX12_agrees 45 sX12_agrees_45 := dc_n1 aX12_agrees_44
theorem aX12_agrees_47 : dc_at cX12_agrees 47 sX12_agrees_47 := dc_n2 aX12_agrees_45
theorem aX12_agrees_50 : dc_at cX12_agrees 50 sX12_agrees_50 := dc_n3 aX12_agrees_47
theorem aX12_agrees_53 : dc_at cX12_agrees 53 sX12_agrees_53 := dc_n3 aX12_agrees_50
theorem aX12_agrees_56 : dc_at cX12_agrees 56 sX12_agrees_56 := dc_n3 aX12_agrees_53
theorem aX12_agrees_59 : dc_at cX12_agrees 59 sX12_agrees_59 := dc_n3 aX12_agrees_56
theorem aX12_agrees_62 : dc_at cX12_agrees 62 sX12_agrees_62 := dc_n3 aX12_agrees_59
theorem aX12_agrees_64 : dc_at cX12_agrees 64 sX12_agrees_64 := dc_n2 aX12_agrees_62
theorem dX12_agrees_0 : decode cX12_agrees 0 = .ok (.iconst 0, 1) := dc_3 aX12_agrees_0
theorem dX12_agrees_1 : decode cX12_agrees 1 = .ok (.istore 4, 2) := dc_54 (a0 := 4) aX12_agrees_1
theorem dX12_agrees_3 : decode cX12_agrees 3 = .ok (.iconst 1, 1) := dc_4 aX12_agrees_3
theorem dX12_agrees_4 : decode cX12_agrees 4 = .ok (.istore 5, 2) := dc_54 (a0 := 5) aX12_agrees_4
theorem dX12_agrees_6 : decode cX12_agrees 6 = .ok (.iload 5, 2) := dc_21 (a0 := 5) aX12_agrees_6
theorem dX12_agrees_8 : decode cX12_agrees 8 = .ok (.bipush 12, 2) := dc_16 (a0 := 12) aX12_agrees_8 (by decide)
theorem dX12_agrees_10 : decode cX12_agrees 10 = .ok (.if_icmp .gt 52, 3) := dc_163 (a0 := 0) (b0 := 52) aX12_agrees_10 (by decide)
theorem dX12_agrees_13 : decode cX12_agrees 13 = .ok (.aload_n 0, 1) := dc_42 aX12_agrees_13
theorem dX12_agrees_14 : decode cX12_agrees 14 = .ok (.iload_n 1, 1) := dc_27 aX12_agrees_14
theorem dX12_agrees_15 : decode cX12_agrees 15 = .ok (.bipush 9, 2) := dc_16 (a0 := 9) aX12_agrees_15 (by decide)
theorem dX12_agrees_17 : decode cX12_agrees 17 = .ok (.iload 5, 2) := dc_21 (a0 := 5) aX12_agrees_17
theorem dX12_agrees_19 : decode cX12_agrees 19 = .ok (.iadd, 1) := dc_96 aX12_agrees_19
theorem dX12_agrees_20 : decode cX12_agrees 20 = .ok (.iconst 1, 1) := dc_4 aX12_agrees_20
theorem dX12_agrees_21 : decode cX12_agrees 21 = .ok (.isub, 1) := dc_100 aX12_agrees_21
theorem dX12_agrees_22 : decode cX12_agrees 22 = .ok (.invokevirtual 254, 3) := dc_182 (a0 := 0) (b0 := 254) aX12_agrees_22
theorem dX12_agrees_25 : decode cX12_agrees 25 = .ok (.istore 6, 2) := dc_54 (a0 := 6) aX12_agrees_25
theorem dX12_agrees_27 : decode cX12_agrees 27 = .ok (.iload 6, 2) := dc_21 (a0 := 6) aX12_agrees_27
theorem dX12_agrees_29 : decode cX12_agrees 29 = .ok (.iconst (-1), 1) := dc_2 aX12_agrees_29
theorem dX12_agrees_30 : decode cX12_agrees 30 = .ok (.if_icmp .eq 26, 3) := dc_159 (a0 := 0) (b0 := 26) aX12_agrees_30 (by decide)
theorem dX12_agrees_33 : decode cX12_agrees 33 = .ok (.iload 6, 2) := dc_21 (a0 := 6) aX12_agrees_33
theorem dX12_agrees_35 : decode cX12_agrees 35 = .ok (.aload_n 0, 1) := dc_42 aX12_agrees_35
theorem dX12_agrees_36 : decode cX12_agrees 36 = .ok (.aload_n 0, 1) := dc_42 aX12_agrees_36
theorem dX12_agrees_37 : decode cX12_agrees 37 = .ok (.iload_n 1, 1) := dc_27 aX12_agrees_37
theorem dX12_agrees_38 : decode cX12_agrees 38 = .ok (.bipush 7, 2) := dc_16 (a0 := 7) aX12_agrees_38 (by decide)
theorem dX12_agrees_40 : decode cX12_agrees 40 = .ok (.invokevirtual 254, 3) := dc_182 (a0 := 0) (b0 := 254) aX12_agrees_40
theorem dX12_agrees_43 : decode cX12_agrees 43 = .ok (.iload_n 2, 1) := dc_28 aX12_agrees_43
theorem dX12_agrees_44 : decode cX12_agrees 44 = .ok (.iload_n 3, 1) := dc_29 aX12_agrees_44
theorem dX12_agrees_45 : decode cX12_agrees 45 = .ok (.iload 5, 2) := dc_21 (a0 := 5) aX12_agrees_45
theorem dX12_agrees_47 : decode cX12_agrees 47 = .ok (.invokevirtual 326, 3) := dc_182 (a0 := 1) (b0 := 70) aX12_agrees_47
theorem dX12_agrees_50 : decode cX12_agrees 50 = .ok (.if_icmp .ne 6, 3) := dc_160 (a0 := 0) (b0 := 6) aX12_agrees_50 (by decide)
theorem dX12_agrees_53 : decode cX12_agrees 53 = .ok (.iinc 4 1, 3) := dc_132 (a0 := 4) (a1 := 1) aX12_agrees_53 (by decide)
theorem dX12_agrees_56 : decode cX12_agrees 56 = .ok (.iinc 5 1, 3) := dc_132 (a0 := 5) (a1 := 1) aX12_agrees_56 (by decide)
theorem dX12_agrees_59 : decode cX12_agrees 59 = .ok (.goto (-53), 3) := dc_167 (a0 := 255) (b0 := 203) aX12_agrees_59 (by decide)
theorem dX12_agrees_62 : decode cX12_agrees 62 = .ok (.iload 4, 2) := dc_21 (a0 := 4) aX12_agrees_62
theorem dX12_agrees_64 : decode cX12_agrees 64 = .ok (.ireturn, 1) := dc_172 aX12_agrees_64
set_option maxRecDepth 20000 in
theorem ggX12_housesTold_X12_at : GoodIn wsX12_housesTold wsX12_at := goodIn_k _ [[5, 0, 0, 0, 0, 0, 0, 0, 0, 0, 0, 0, 0, 0, 0, 0, 0, 0, 0, 0, 0, 0, 0, 0, 0, 0, 0, 0, 0, 0, 0, 0, 0, 0, 0, 0, 0, 0, 0, 0, 0, 0, 0, 0, 0, 0, 0, 0, 0, 0, 0, 0, 0, 0, 0, 0, 0, 0, 0, 0]] (by rfl) (by decide +kernel)
set_option maxRecDepth 20000 in
theorem gX12_housesTold_X12_at : GoodIn wsX12_housesTold (wsV RX12 254 RX12 yX12_at wsX12_at) := goodIn_app (goodIn_of _ (by decide +kernel)) ggX12_housesTold_X12_at
noncomputable def sX12_housesTold_40 : List Nat := 172 :: []
noncomputable def sX12_housesTold_39 : List Nat := 28 :: sX12_housesTold_40
noncomputable def sX12_housesTold_36 : List Nat := 167 :: 255 :: 224 :: sX12_housesTold_39
noncomputable def sX12_housesTold_33 : List Nat := 132 :: 3 :: 1 :: sX12_housesTold_36
noncomputable def sX12_housesTold_32 : List Nat := 61 :: sX12_housesTold_33
noncomputable def sX12_housesTold_31 : List Nat := 96 :: sX12_housesTold_32
noncomputable def sX12_housesTold_30 : List Nat := 3 :: sX12_housesTold_31
noncomputable def sX12_housesTold_27 : List Nat := 167 :: 0 :: 4 :: sX12_housesTold_30
noncomputable def sX12_housesTold_26 : List Nat := 4 :: sX12_housesTold_27
noncomputable def sX12_housesTold_23 : List Nat := 159 :: 0 :: 7 :: sX12_housesTold_26
noncomputable def sX12_housesTold_22 : List Nat := 2 :: sX12_housesTold_23
noncomputable def sX12_housesTold_19 : List Nat := 182 :: 0 :: 254 :: sX12_housesTold_22
noncomputable def sX12_housesTold_18 : List Nat := 100 :: sX12_housesTold_19
noncomputable def sX12_housesTold_17 : List Nat := 4 :: sX12_housesTold_18
noncomputable def sX12_housesTold_16 : List Nat := 96 :: sX12_housesTold_17
noncomputable def sX12_housesTold_15 : List Nat := 29 :: sX12_housesTold_16
noncomputable def sX12_housesTold_13 : List Nat := 16 :: 9 :: sX12_housesTold_15
noncomputable def sX12_housesTold_12 : List Nat := 27 :: sX12_housesTold_13
noncomputable def sX12_housesTold_11 : List Nat := 42 :: sX12_housesTold_12
noncomputable def sX12_housesTold_10 : List Nat := 28 :: sX12_housesTold_11
noncomputable def sX12_housesTold_7 : List Nat := 163 :: 0 :: 32 :: sX12_housesTold_10
noncomputable def sX12_housesTold_5 : List Nat := 16 :: 12 :: sX12_housesTold_7
noncomputable def sX12_housesTold_4 : List Nat := 29 :: sX12_housesTold_5
noncomputable def sX12_housesTold_3 : List Nat := 62 :: sX12_housesTold_4
noncomputable def sX12_housesTold_2 : List Nat := 4 :: sX12_housesTold_3
noncomputable def sX12_housesTold_1 : List Nat := 61 :: sX12_housesTold_2
noncomputable def sX12_housesTold_0 : List Nat := 3 :: sX12_housesTold_1
theorem aX12_housesTold_0 : dc_at cX12_housesTold 0 sX12_housesTold_0 := dc_base (by decide +kernel)
theorem aX12_housesTold_1 : dc_at cX12_housesTold 1 sX12_housesTold_1 := dc_n1 aX12_housesTold_0
theorem aX12_housesTold_2 : dc_at cX12_housesTold 2 sX12_housesTold_2 := dc_n1 aX12_housesTold_1
theorem aX12_housesTold_3 : dc_at cX12_housesTold 3 sX12_housesTold_3 := dc_n1 aX12_housesTold_2
theorem aX12_housesTold_4 : dc_at cX12_housesTold 4 sX12_housesTold_4 := dc_n1 aX12_housesTold_3
theorem aX12_housesTold_5 : dc_at cX12_housesTold 5 sX12_housesTold_5 := dc_n1 aX12_housesTold_4
theorem aX12_housesTold_7 : dc_at cX12_housesTold 7 sX12_housesTold_7 := dc_n2 aX12_housesTold_5
theorem aX12_housesTold_10 : dc_at cX12_housesTold 10 sX12_housesTold_10 := dc_n3 aX12_housesTold_7
theorem aX12_housesTold_11 : dc_at cX12_housesTold 11 sX12_housesTold_11 := dc_n1 aX12_housesTold_10
theorem aX12_housesTold_12 : dc_at cX12_housesTold 12 sX12_housesTold_12 := dc_n1 aX12_housesTold_11
theorem aX12_housesTold_13 : dc_at cX12_housesTold 13 sX12_housesTold_13 := dc_n1 aX12_housesTold_12
theorem aX12_housesTold_15 : dc_at cX12_housesTold 15 sX12_housesTold_15 := dc_n2 aX12_housesTold_13
theorem aX12_housesTold_16 : dc_at cX12_housesTold 16 sX12_housesTold_16 := dc_n1 aX12_housesTold_15
theorem aX12_housesTold_17 : dc_at cX12_housesTold 17 sX12_housesTold_17 := dc_n1 aX12_housesTold_16
theorem aX12_housesTold_18 : dc_at cX12_housesTold 18 sX12_housesTold_18 := dc_n1 aX12_housesTold_17
theorem aX12_housesTold_19 : dc_at cX12_housesTold 19 sX12_housesTold_19 := dc_n1 aX12_housesTold_18
theorem aX12_housesTold_22 : dc_at cX12_housesTold 22 sX12_housesTold_22 := dc_n3 aX12_housesTold_19
theorem aX12_housesTold_23 : dc_at cX12_housesTold 23 sX12_housesTold_23 := dc_n1 aX12_housesTold_22
theorem aX12_housesTold_26 : dc_at cX12_housesTold 26 sX12_housesTold_26 := dc_n3 aX12_housesTold_23
theorem aX12_housesTold_27 : dc_at cX12_housesTold 27 sX12_housesTold_27 := dc_n1 aX12_housesTold_26
theorem aX12_housesTold_30 : dc_at cX12_housesTold 30 sX12_housesTold_30 := dc_n3 aX12_housesTold_27
theorem aX12_housesTold_31 : dc_at cX12_housesTold 31 sX12_housesTold_31 := dc_n1 aX12_housesTold_30
theorem aX12_housesTold_32 : dc_at cX12_housesTold 32 sX12_housesTold_32 := dc_n1 aX12_housesTold_31
theorem aX12_housesTold_33 : dc_at cX12_housesTold 33 sX12_housesTold_33 := dc_n1 aX12_housesTold_32
theorem aX12_housesTold_36 : dc_at cX12_housesTold 36 sX12_housesTold_36 := dc_n3 aX12_housesTold_33
theorem aX12_housesTold_39 : dc_at cX12_housesTold 39 sX12_housesTold_39 := dc_n3 aX12_housesTold_36
theorem aX12_housesTold_40 : dc_at cX12_housesTold 40 sX12_housesTold_40 := dc_n1 aX12_housesTold_39
theorem dX12_housesTold_0 : decode cX12_housesTold 0 = .ok (.iconst 0, 1) := dc_3 aX12_housesTold_0
theorem dX12_housesTold_1 : decode cX12_housesTold 1 = .ok (.istore_n 2, 1) := dc_61 aX12_housesTold_1
theorem dX12_housesTold_2 : decode cX12_housesTold 2 = .ok (.iconst 1, 1) := dc_4 aX12_housesTold_2
theorem dX12_housesTold_3 : decode cX12_housesTold 3 = .ok (.istore_n 3, 1) := dc_62 aX12_housesTold_3
theorem dX12_housesTold_4 : decode cX12_housesTold 4 = .ok (.iload_n 3, 1) := dc_29 aX12_housesTold_4
theorem dX12_housesTold_5 : decode cX12_housesTold 5 = .ok (.bipush 12, 2) := dc_16 (a0 := 12) aX12_housesTold_5 (by decide)
theorem dX12_housesTold_7 : decode cX12_housesTold 7 = .ok (.if_icmp .gt 32, 3) := dc_163 (a0 := 0) (b0 := 32) aX12_housesTold_7 (by decide)
theorem dX12_housesTold_10 : decode cX12_housesTold 10 = .ok (.iload_n 2, 1) := dc_28 aX12_housesTold_10
theorem dX12_housesTold_11 : decode cX12_housesTold 11 = .ok (.aload_n 0, 1) := dc_42 aX12_housesTold_11
theorem dX12_housesTold_12 : decode cX12_housesTold 12 = .ok (.iload_n 1, 1) := dc_27 aX12_housesTold_12
theorem dX12_housesTold_13 : decode cX12_housesTold 13 = .ok (.bipush 9, 2) := dc_16 (a0 := 9) aX12_housesTold_13 (by decide)
theorem dX12_housesTold_15 : decode cX12_housesTold 15 = .ok (.iload_n 3, 1) := dc_29 aX12_housesTold_15
theorem dX12_housesTold_16 : decode cX12_housesTold 16 = .ok (.iadd, 1) := dc_96 aX12_housesTold_16
theorem dX12_housesTold_17 : decode cX12_housesTold 17 = .ok (.iconst 1, 1) := dc_4 aX12_housesTold_17
theorem dX12_housesTold_18 : decode cX12_housesTold 18 = .ok (.isub, 1) := dc_100 aX12_housesTold_18
theorem dX12_housesTold_19 : decode cX12_housesTold 19 = .ok (.invokevirtual 254, 3) := dc_182 (a0 := 0) (b0 := 254) aX12_housesTold_19
theorem dX12_housesTold_22 : decode cX12_housesTold 22 = .ok (.iconst (-1), 1) := dc_2 aX12_housesTold_22
theorem dX12_housesTold_23 : decode cX12_housesTold 23 = .ok (.if_icmp .eq 7, 3) := dc_159 (a0 := 0) (b0 := 7) aX12_housesTold_23 (by decide)
theorem dX12_housesTold_26 : decode cX12_housesTold 26 = .ok (.iconst 1, 1) := dc_4 aX12_housesTold_26
theorem dX12_housesTold_27 : decode cX12_housesTold 27 = .ok (.goto 4, 3) := dc_167 (a0 := 0) (b0 := 4) aX12_housesTold_27 (by decide)
theorem dX12_housesTold_30 : decode cX12_housesTold 30 = .ok (.iconst 0, 1) := dc_3 aX12_housesTold_30
theorem dX12_housesTold_31 : decode cX12_housesTold 31 = .ok (.iadd, 1) := dc_96 aX12_housesTold_31
theorem dX12_housesTold_32 : decode cX12_housesTold 32 = .ok (.istore_n 2, 1) := dc_61 aX12_housesTold_32
theorem dX12_housesTold_33 : decode cX12_housesTold 33 = .ok (.iinc 3 1, 3) := dc_132 (a0 := 3) (a1 := 1) aX12_housesTold_33 (by decide)
theorem dX12_housesTold_36 : decode cX12_housesTold 36 = .ok (.goto (-32), 3) := dc_167 (a0 := 255) (b0 := 224) aX12_housesTold_36 (by decide)
theorem dX12_housesTold_39 : decode cX12_housesTold 39 = .ok (.iload_n 2, 1) := dc_28 aX12_housesTold_39
theorem dX12_housesTold_40 : decode cX12_housesTold 40 = .ok (.ireturn, 1) := dc_172 aX12_housesTold_40
set_option maxRecDepth 20000 in
theorem ggX12_agree_X12_isWheel : GoodIn wsX12_agree wsX12_isWheel := goodIn_k _ [[5, 0, 0, 0, 0], [4, 5, 36, 0, 0, 0, 0, 0, 0, 0, 0, 0, 0, 0, 0, 0, 0, 0, 0, 0, 0, 0, 0, 0, 0, 0, 0, 0, 0, 0, 0, 0, 0, 0, 0, 0, 0, 0, 0, 0, 0, 0, 0, 0, 0, 0, 0, 0, 0, 0, 0, 0, 0, 0, 0, 0, 0, 0, 0, 0]] (by rfl) (by decide +kernel)
set_option maxRecDepth 20000 in
theorem gX12_agree_X12_isWheel : GoodIn wsX12_agree (wsV RX12 247 RX12 yX12_isWheel wsX12_isWheel) := goodIn_app (goodIn_of _ (by decide +kernel)) ggX12_agree_X12_isWheel
set_option maxRecDepth 20000 in
theorem ggX12_agree_X12_isWay : GoodIn wsX12_agree wsX12_isWay := goodIn_k _ [[14, 0, 0, 0], [4, 13], [7, 0, 0, 0], [6, 40, 0, 0, 0, 0, 0, 0, 0, 0, 0, 0, 0, 0, 0, 0, 0, 0, 0, 0, 0, 0, 0, 0, 0, 0, 0, 0, 0, 0, 0, 0, 0, 0, 0, 0, 0, 0, 0, 0, 0, 0, 0, 0, 0, 0, 0, 0, 0, 0, 0, 0, 0, 0, 0, 0, 0, 0, 0]] (by rfl) (by decide +kernel)
set_option maxRecDepth 20000 in
theorem gX12_agree_X12_isWay : GoodIn wsX12_agree (wsV RX12 323 RX12 yX12_isWay wsX12_isWay) := goodIn_app (goodIn_of _ (by decide +kernel)) ggX12_agree_X12_isWay
set_option maxRecDepth 20000 in
theorem ggX12_agree_X12_at : GoodIn wsX12_agree wsX12_at := goodIn_k _ [[22, 0, 23, 0, 0, 0, 0, 0, 0, 0, 0, 0, 0, 0, 0, 0, 0, 0, 0, 0, 0, 0, 0, 0, 0, 0, 0, 0, 0, 0, 0, 0, 0, 0, 0, 0, 0, 0, 0, 0, 0, 0, 0, 0, 0, 0, 0, 0, 0, 0, 0, 0, 0, 0, 0, 0, 0, 0, 0, 0]] (by rfl) (by decide +kernel)
set_option maxRecDepth 20000 in
theorem gX12_agree_X12_at : GoodIn wsX12_agree (wsV RX12 254 RX12 yX12_at wsX12_at) := goodIn_app (goodIn_of _ (by decide +kernel)) ggX12_agree_X12_at
set_option maxRecDepth 20000 in
theorem ggX12_agree_X12_agrees : GoodIn wsX12_agree wsX12_agrees := goodIn_k _ [[27], [19, 0, 0], [4, 17, 0, 4, 0, 0, 0, 0, 0, 0, 0, 0, 0, 0, 0, 0, 0, 0, 0, 0, 0, 0, 0, 0, 0, 0, 0, 0, 0, 0, 0, 0, 0, 0, 0, 0, 0, 0, 0, 0, 0, 0, 0, 0, 0, 0, 0, 0, 0, 0, 0, 0, 0, 0, 0, 0, 0, 0, 0, 0, 0, 0, 0, 0, 0, 0, 0, 0, 0, 0, 0, 0, 0, 0, 0, 0, 0, 0, 0, 0]] (by rfl) (by decide +kernel)
set_option maxRecDepth 20000 in
theorem gX12_agree_X12_agrees : GoodIn wsX12_agree (wsV RX12 329 RX12 yX12_agrees wsX12_agrees) := goodIn_app (goodIn_of _ (by decide +kernel)) ggX12_agree_X12_agrees
noncomputable def sX12_agree_54 : List Nat := 172 :: []
noncomputable def sX12_agree_51 : List Nat := 182 :: 1 :: 73 :: sX12_agree_54
noncomputable def sX12_agree_49 : List Nat := 21 :: 4 :: sX12_agree_51
noncomputable def sX12_agree_48 : List Nat := 29 :: sX12_agree_49
noncomputable def sX12_agree_47 : List Nat := 96 :: sX12_agree_48
noncomputable def sX12_agree_46 : List Nat := 28 :: sX12_agree_47
noncomputable def sX12_agree_45 : List Nat := 104 :: sX12_agree_46
noncomputable def sX12_agree_44 : List Nat := 27 :: sX12_agree_45
noncomputable def sX12_agree_42 : List Nat := 16 :: 20 :: sX12_agree_44
noncomputable def sX12_agree_41 : List Nat := 42 :: sX12_agree_42
noncomputable def sX12_agree_38 : List Nat := 167 :: 0 :: 16 :: sX12_agree_41
noncomputable def sX12_agree_37 : List Nat := 2 :: sX12_agree_38
noncomputable def sX12_agree_34 : List Nat := 160 :: 0 :: 7 :: sX12_agree_37
noncomputable def sX12_agree_33 : List Nat := 2 :: sX12_agree_34
noncomputable def sX12_agree_30 : List Nat := 182 :: 0 :: 254 :: sX12_agree_33
noncomputable def sX12_agree_28 : List Nat := 16 :: 7 :: sX12_agree_30
noncomputable def sX12_agree_27 : List Nat := 96 :: sX12_agree_28
noncomputable def sX12_agree_26 : List Nat := 28 :: sX12_agree_27
noncomputable def sX12_agree_25 : List Nat := 104 :: sX12_agree_26
noncomputable def sX12_agree_24 : List Nat := 27 :: sX12_agree_25
noncomputable def sX12_agree_22 : List Nat := 16 :: 20 :: sX12_agree_24
noncomputable def sX12_agree_21 : List Nat := 42 :: sX12_agree_22
noncomputable def sX12_agree_20 : List Nat := 172 :: sX12_agree_21
noncomputable def sX12_agree_19 : List Nat := 3 :: sX12_agree_20
noncomputable def sX12_agree_16 : List Nat := 154 :: 0 :: 5 :: sX12_agree_19
noncomputable def sX12_agree_13 : List Nat := 182 :: 1 :: 67 :: sX12_agree_16
noncomputable def sX12_agree_11 : List Nat := 21 :: 4 :: sX12_agree_13
noncomputable def sX12_agree_10 : List Nat := 29 :: sX12_agree_11
noncomputable def sX12_agree_9 : List Nat := 42 :: sX12_agree_10
noncomputable def sX12_agree_6 : List Nat := 153 :: 0 :: 13 :: sX12_agree_9
noncomputable def sX12_agree_3 : List Nat := 182 :: 0 :: 247 :: sX12_agree_6
noncomputable def sX12_agree_2 : List Nat := 28 :: sX12_agree_3
noncomputable def sX12_agree_1 : List Nat := 27 :: sX12_agree_2
noncomputable def sX12_agree_0 : List Nat := 42 :: sX12_agree_1
theorem aX12_agree_0 : dc_at cX12_agree 0 sX12_agree_0 := dc_base (by decide +kernel)
theorem aX12_agree_1 : dc_at cX12_agree 1 sX12_agree_1 := dc_n1 aX12_agree_0
theorem aX12_agree_2 : dc_at cX12_agree 2 sX12_agree_2 := dc_n1 aX12_agree_1
theorem aX12_agree_3 : dc_at cX12_agree 3 sX12_agree_3 := dc_n1 aX12_agree_2
theorem aX12_agree_6 : dc_at cX12_agree 6 sX12_agree_6 := dc_n3 aX12_agree_3
theorem aX12_agree_9 : dc_at cX12_agree 9 sX12_agree_9 := dc_n3 aX12_agree_6
theorem aX12_agree_10 : dc_at cX12_agree 10 sX12_agree_10 := dc_n1 aX12_agree_9
theorem aX12_agree_11 : dc_at cX12_agree 11 sX12_agree_11 := dc_n1 aX12_agree_10
theorem aX12_agree_13 : dc_at cX12_agree 13 sX12_agree_13 := dc_n2 aX12_agree_11
theorem aX12_agree_16 : dc_at cX12_agree 16 sX12_agree_16 := dc_n3 aX12_agree_13
theorem aX12_agree_19 : dc_at cX12_agree 19 sX12_agree_19 := dc_n3 aX12_agree_16
theorem aX12_agree_20 : dc_at cX12_agree 20 sX12_agree_20 := dc_n1 aX12_agree_19
theorem aX12_agree_21 : dc_at cX12_agree 21 sX12_agree_21 := dc_n1 aX12_agree_20
theorem aX12_agree_22 : dc_at cX12_agree 22 sX12_agree_22 := dc_n1 aX12_agree_21
theorem aX12_agree_24 : dc_at cX12_agree 24 sX12_agree_24 := dc_n2 aX12_agree_22
theorem aX12_agree_25 : dc_at cX12_agree 25 sX12_agree_25 := dc_n1 aX12_agree_24
theorem aX12_agree_26 : dc_at cX12_agree 26 sX12_agree_26 := dc_n1 aX12_agree_25
theorem aX12_agree_27 : dc_at cX12_agree 27 sX12_agree_27 := dc_n1 aX12_agree_26
theorem aX12_agree_28 : dc_at cX12_agree 28 sX12_agree_28 := dc_n1 aX12_agree_27
theorem aX12_agree_30 : dc_at cX12_agree 30 sX12_agree_30 := dc_n2 aX12_agree_28
theorem aX12_agree_33 : dc_at cX12_agree 33 sX12_agree_33 := dc_n3 aX12_agree_30
theorem aX12_agree_34 : dc_at cX12_agree 34 sX12_agree_34 := dc_n1 aX12_agree_33
theorem aX12_agree_37 : dc_at cX12_agree 37 sX12_agree_37 := dc_n3 aX12_agree_34
theorem aX12_agree_38 : dc_at cX12_agree 38 sX12_agree_38 := dc_n1 aX12_agree_37
theorem aX12_agree_41 : dc_at cX12_agree 41 sX12_agree_41 := dc_n3 aX12_agree_38
theorem aX12_agree_42 : dc_at cX12_agree 42 sX12_agree_42 := dc_n1 aX12_agree_41
theorem aX12_agree_44 : dc_at cX12_agree 44 sX12_agree_44 := dc_n2 aX12_agree_42
theorem aX12_agree_45 : dc_at cX12_agree 45 sX12_agree_45 := dc_n1 aX12_agree_44
theorem aX12_agree_46 : dc_at cX12_agree 46 sX12_agree_46 := dc_n1 aX12_agree_45
theorem aX12_agree_47 : dc_at cX12_agree 47 sX12_agree_47 := dc_n1 aX12_agree_46
theorem aX12_agree_48 : dc_at cX12_agree 48 sX12_agree_48 := dc_n1 aX12_agree_47
theorem aX12_agree_49 : dc_at cX12_agree 49 sX12_agree_49 := dc_n1 aX12_agree_48
theorem aX12_agree_51 : dc_at cX12_agree 51 sX12_agree_51 := dc_n2 aX12_agree_49
theorem aX12_agree_54 : dc_at cX12_agree 54 sX12_agree_54 := dc_n3 aX12_agree_51
theorem dX12_agree_0 : decode cX12_agree 0 = .ok (.aload_n 0, 1) := dc_42 aX12_agree_0
theorem dX12_agree_1 : decode cX12_agree 1 = .ok (.iload_n 1, 1) := dc_27 aX12_agree_1
theorem dX12_agree_2 : decode cX12_agree 2 = .ok (.iload_n 2, 1) := dc_28 aX12_agree_2
theorem dX12_agree_3 : decode cX12_agree 3 = .ok (.invokevirtual 247, 3) := dc_182 (a0 := 0) (b0 := 247) aX12_agree_3
theorem dX12_agree_6 : decode cX12_agree 6 = .ok (.ifCond .eq 13, 3) := dc_153 (a0 := 0) (b0 := 13) aX12_agree_6 (by decide)
theorem dX12_agree_9 : decode cX12_agree 9 = .ok (.aload_n 0, 1) := dc_42 aX12_agree_9
theorem dX12_agree_10 : decode cX12_agree 10 = .ok (.iload_n 3, 1) := dc_29 aX12_agree_10
theorem dX12_agree_11 : decode cX12_agree 11 = .ok (.iload 4, 2) := dc_21 (a0 := 4) aX12_agree_11
theorem dX12_agree_13 : decode cX12_agree 13 = .ok (.invokevirtual 323, 3) := dc_182 (a0 := 1) (b0 := 67) aX12_agree_13
theorem dX12_agree_16 : decode cX12_agree 16 = .ok (.ifCond .ne 5, 3) := dc_154 (a0 := 0) (b0 := 5) aX12_agree_16 (by decide)
theorem dX12_agree_19 : decode cX12_agree 19 = .ok (.iconst 0, 1) := dc_3 aX12_agree_19
theorem dX12_agree_20 : decode cX12_agree 20 = .ok (.ireturn, 1) := dc_172 aX12_agree_20
theorem dX12_agree_21 : decode cX12_agree 21 = .ok (.aload_n 0, 1) := dc_42 aX12_agree_21
theorem dX12_agree_22 : decode cX12_agree 22 = .ok (.bipush 20, 2) := dc_16 (a0 := 20) aX12_agree_22 (by decide)
theorem dX12_agree_24 : decode cX12_agree 24 = .ok (.iload_n 1, 1) := dc_27 aX12_agree_24
theorem dX12_agree_25 : decode cX12_agree 25 = .ok (.imul, 1) := dc_104 aX12_agree_25
theorem dX12_agree_26 : decode cX12_agree 26 = .ok (.iload_n 2, 1) := dc_28 aX12_agree_26
theorem dX12_agree_27 : decode cX12_agree 27 = .ok (.iadd, 1) := dc_96 aX12_agree_27
theorem dX12_agree_28 : decode cX12_agree 28 = .ok (.bipush 7, 2) := dc_16 (a0 := 7) aX12_agree_28 (by decide)
theorem dX12_agree_30 : decode cX12_agree 30 = .ok (.invokevirtual 254, 3) := dc_182 (a0 := 0) (b0 := 254) aX12_agree_30
theorem dX12_agree_33 : decode cX12_agree 33 = .ok (.iconst (-1), 1) := dc_2 aX12_agree_33
theorem dX12_agree_34 : decode cX12_agree 34 = .ok (.if_icmp .ne 7, 3) := dc_160 (a0 := 0) (b0 := 7) aX12_agree_34 (by decide)
theorem dX12_agree_37 : decode cX12_agree 37 = .ok (.iconst (-1), 1) := dc_2 aX12_agree_37
theorem dX12_agree_38 : decode cX12_agree 38 = .ok (.goto 16, 3) := dc_167 (a0 := 0) (b0 := 16) aX12_agree_38 (by decide)
theorem dX12_agree_41 : decode cX12_agree 41 = .ok (.aload_n 0, 1) := dc_42 aX12_agree_41
theorem dX12_agree_42 : decode cX12_agree 42 = .ok (.bipush 20, 2) := dc_16 (a0 := 20) aX12_agree_42 (by decide)
theorem dX12_agree_44 : decode cX12_agree 44 = .ok (.iload_n 1, 1) := dc_27 aX12_agree_44
theorem dX12_agree_45 : decode cX12_agree 45 = .ok (.imul, 1) := dc_104 aX12_agree_45
theorem dX12_agree_46 : decode cX12_agree 46 = .ok (.iload_n 2, 1) := dc_28 aX12_agree_46
theorem dX12_agree_47 : decode cX12_agree 47 = .ok (.iadd, 1) := dc_96 aX12_agree_47
theorem dX12_agree_48 : decode cX12_agree 48 = .ok (.iload_n 3, 1) := dc_29 aX12_agree_48
theorem dX12_agree_49 : decode cX12_agree 49 = .ok (.iload 4, 2) := dc_21 (a0 := 4) aX12_agree_49
theorem dX12_agree_51 : decode cX12_agree 51 = .ok (.invokevirtual 329, 3) := dc_182 (a0 := 1) (b0 := 73) aX12_agree_51
theorem dX12_agree_54 : decode cX12_agree 54 = .ok (.ireturn, 1) := dc_172 aX12_agree_54
set_option maxRecDepth 20000 in
theorem ggX12_possible_X12_isWheel : GoodIn wsX12_possible wsX12_isWheel := goodIn_k _ [[6, 0, 0, 0, 0], [5, 5, 40, 0, 0, 0, 0, 0, 0, 0, 0, 0, 0, 0, 0, 0, 0, 0, 0, 0, 0, 0, 0, 0, 0, 0, 0, 0, 0, 0, 0, 0, 0, 0, 0, 0, 0, 0, 0, 0, 0, 0, 0, 0, 0, 0, 0, 0, 0, 0, 0, 0, 0, 0, 0, 0, 0, 0, 0, 0]] (by rfl) (by decide +kernel)
set_option maxRecDepth 20000 in
theorem gX12_possible_X12_isWheel : GoodIn wsX12_possible (wsV RX12 247 RX12 yX12_isWheel wsX12_isWheel) := goodIn_app (goodIn_of _ (by decide +kernel)) ggX12_possible_X12_isWheel
set_option maxRecDepth 20000 in
theorem ggX12_possible_X12_right : GoodIn wsX12_possible wsX12_right := goodIn_k _ [[11], [7, 44, 0, 0, 0, 0, 0, 0, 0, 0, 0, 0, 0, 0, 0, 0, 0, 0, 0, 0, 0, 0, 0, 0, 0, 0, 0, 0, 0, 0, 0, 0, 0, 0, 0, 0, 0, 0, 0, 0, 0, 0, 0, 0, 0, 0, 0, 0, 0, 0, 0, 0, 0, 0, 0, 0, 0, 0, 0]] (by rfl) (by decide +kernel)
set_option maxRecDepth 20000 in
theorem gX12_possible_X12_right : GoodIn wsX12_possible (wsV RX12 209 RX12 yX12_right wsX12_right) := goodIn_app (goodIn_of _ (by decide +kernel)) ggX12_possible_X12_right
set_option maxRecDepth 20000 in
theorem ggX12_possible_X12_at : GoodIn wsX12_possible wsX12_at := goodIn_k _ [[15, 0, 35, 0, 0, 0, 0, 0, 0, 0, 0, 0, 0, 0, 0, 0, 0, 0, 0, 0, 0, 0, 0, 0, 0, 0, 0, 0, 0, 0, 0, 0, 0, 0, 0, 0, 0, 0, 0, 0, 0, 0, 0, 0, 0, 0, 0, 0, 0, 0, 0, 0, 0, 0, 0, 0, 0, 0, 0, 0]] (by rfl) (by decide +kernel)
set_option maxRecDepth 20000 in
theorem gX12_possible_X12_at : GoodIn wsX12_possible (wsV RX12 254 RX12 yX12_at wsX12_at) := goodIn_app (goodIn_of _ (by decide +kernel)) ggX12_possible_X12_at
set_option maxRecDepth 20000 in
theorem ggX12_possible_X12_housesTold : GoodIn wsX12_possible wsX12_housesTold := goodIn_k _ [[20], [12, 0, 0], [5, 9, 0, 35, 0, 0, 0, 0, 0, 0, 0, 0, 0, 0, 0, 0, 0, 0, 0, 0, 0, 0, 0, 0, 0, 0, 0, 0, 0, 0, 0, 0, 0, 0, 0, 0, 0, 0, 0, 0, 0, 0, 0, 0, 0, 0, 0, 0, 0, 0, 0, 0, 0, 0, 0, 0, 0, 0, 0, 0, 0]] (by rfl) (by decide +kernel)
set_option maxRecDepth 20000 in
theorem gX12_possible_X12_housesTold : GoodIn wsX12_possible (wsV RX12 332 RX12 yX12_housesTold wsX12_housesTold) := goodIn_app (goodIn_of _ (by decide +kernel)) ggX12_possible_X12_housesTold
set_option maxRecDepth 20000 in
theorem ggX12_possible_X12_agrees : GoodIn wsX12_possible wsX12_agrees := goodIn_k _ [[24], [12, 0, 0], [5, 9, 0, 8, 0, 0, 0, 0, 0, 0, 0, 0, 0, 0, 0, 0, 0, 0, 0, 0, 0, 0, 8, 0, 0, 0, 0, 0, 0, 0, 0, 0, 0, 0, 0, 0, 0, 0, 0, 0, 0, 0, 0, 0, 0, 0, 0, 0, 0, 0, 0, 0, 0, 0, 0, 0, 0, 0, 0, 0, 0, 0, 0, 0, 0, 0, 0, 0, 0, 0, 0, 0, 0, 0, 0, 0, 0, 0, 0, 0]] (by rfl) (by decide +kernel)
set_option maxRecDepth 20000 in
theorem gX12_possible_X12_agrees : GoodIn wsX12_possible (wsV RX12 329 RX12 yX12_agrees wsX12_agrees) := goodIn_app (goodIn_of _ (by decide +kernel)) ggX12_possible_X12_agrees
set_option maxRecDepth 20000 in
theorem ggX12_possible_X12_isHour : GoodIn wsX12_possible wsX12_isHour := goodIn_k _ [[47], [12, 0, 0], [5, 9, 0, 31, 0, 0, 0], [33, 1, 0, 0, 0, 0, 0, 0, 0, 0, 8, 0, 0, 0, 0, 0, 0, 0, 0, 0, 0, 0, 0, 0, 0, 0, 0, 0, 0, 0, 0, 0, 0, 0, 0, 0, 0, 0, 0, 0, 0, 0, 0, 0, 0, 0, 0, 0, 0, 0, 0, 0, 0, 0, 0, 0, 0, 0, 0, 0, 0, 0, 0, 0, 0, 0, 0, 0]] (by rfl) (by decide +kernel)
set_option maxRecDepth 20000 in
theorem gX12_possible_X12_isHour : GoodIn wsX12_possible (wsV RX12 320 RX12 yX12_isHour wsX12_isHour) := goodIn_app (goodIn_of _ (by decide +kernel)) ggX12_possible_X12_isHour
noncomputable def sX12_possible_239 : List Nat := 172 :: []
noncomputable def sX12_possible_237 : List Nat := 21 :: 7 :: sX12_possible_239
noncomputable def sX12_possible_234 : List Nat := 167 :: 0 :: 5 :: sX12_possible_237
noncomputable def sX12_possible_232 : List Nat := 21 :: 6 :: sX12_possible_234
noncomputable def sX12_possible_229 : List Nat := 154 :: 0 :: 8 :: sX12_possible_232
noncomputable def sX12_possible_228 : List Nat := 29 :: sX12_possible_229
noncomputable def sX12_possible_225 : List Nat := 167 :: 255 :: 157 :: sX12_possible_228
noncomputable def sX12_possible_222 : List Nat := 132 :: 8 :: 1 :: sX12_possible_225
noncomputable def sX12_possible_220 : List Nat := 54 :: 7 :: sX12_possible_222
noncomputable def sX12_possible_219 : List Nat := 128 :: sX12_possible_220
noncomputable def sX12_possible_218 : List Nat := 120 :: sX12_possible_219
noncomputable def sX12_possible_216 : List Nat := 21 :: 8 :: sX12_possible_218
noncomputable def sX12_possible_215 : List Nat := 4 :: sX12_possible_216
noncomputable def sX12_possible_213 : List Nat := 21 :: 7 :: sX12_possible_215
noncomputable def sX12_possible_210 : List Nat := 153 :: 0 :: 12 :: sX12_possible_213
noncomputable def sX12_possible_208 : List Nat := 21 :: 9 :: sX12_possible_210
noncomputable def sX12_possible_205 : List Nat := 167 :: 255 :: 215 :: sX12_possible_208
noncomputable def sX12_possible_202 : List Nat := 132 :: 10 :: 1 :: sX12_possible_205
noncomputable def sX12_possible_200 : List Nat := 54 :: 9 :: sX12_possible_202
noncomputable def sX12_possible_199 : List Nat := 3 :: sX12_possible_200
noncomputable def sX12_possible_196 : List Nat := 167 :: 0 :: 4 :: sX12_possible_199
noncomputable def sX12_possible_195 : List Nat := 4 :: sX12_possible_196
noncomputable def sX12_possible_192 : List Nat := 153 :: 0 :: 7 :: sX12_possible_195
noncomputable def sX12_possible_189 : List Nat := 182 :: 1 :: 64 :: sX12_possible_192
noncomputable def sX12_possible_187 : List Nat := 21 :: 10 :: sX12_possible_189
noncomputable def sX12_possible_185 : List Nat := 21 :: 8 :: sX12_possible_187
noncomputable def sX12_possible_183 : List Nat := 21 :: 4 :: sX12_possible_185
noncomputable def sX12_possible_182 : List Nat := 42 :: sX12_possible_183
noncomputable def sX12_possible_179 : List Nat := 154 :: 0 :: 16 :: sX12_possible_182
noncomputable def sX12_possible_177 : List Nat := 21 :: 9 :: sX12_possible_179
noncomputable def sX12_possible_174 : List Nat := 160 :: 0 :: 34 :: sX12_possible_177
noncomputable def sX12_possible_173 : List Nat := 4 :: sX12_possible_174
noncomputable def sX12_possible_172 : List Nat := 29 :: sX12_possible_173
noncomputable def sX12_possible_169 : List Nat := 162 :: 0 :: 39 :: sX12_possible_172
noncomputable def sX12_possible_166 : List Nat := 17 :: 1 :: 104 :: sX12_possible_169
noncomputable def sX12_possible_164 : List Nat := 21 :: 10 :: sX12_possible_166
noncomputable def sX12_possible_162 : List Nat := 54 :: 10 :: sX12_possible_164
noncomputable def sX12_possible_161 : List Nat := 3 :: sX12_possible_162
noncomputable def sX12_possible_159 : List Nat := 54 :: 9 :: sX12_possible_161
noncomputable def sX12_possible_158 : List Nat := 3 :: sX12_possible_159
noncomputable def sX12_possible_156 : List Nat := 54 :: 6 :: sX12_possible_158
noncomputable def sX12_possible_155 : List Nat := 128 :: sX12_possible_156
noncomputable def sX12_possible_154 : List Nat := 7 :: sX12_possible_155
noncomputable def sX12_possible_152 : List Nat := 21 :: 6 :: sX12_possible_154
noncomputable def sX12_possible_149 : List Nat := 167 :: 0 :: 73 :: sX12_possible_152
noncomputable def sX12_possible_146 : List Nat := 159 :: 0 :: 6 :: sX12_possible_149
noncomputable def sX12_possible_144 : List Nat := 21 :: 5 :: sX12_possible_146
noncomputable def sX12_possible_141 : List Nat := 182 :: 1 :: 73 :: sX12_possible_144
noncomputable def sX12_possible_139 : List Nat := 21 :: 8 :: sX12_possible_141
noncomputable def sX12_possible_138 : List Nat := 5 :: sX12_possible_139
noncomputable def sX12_possible_136 : List Nat := 21 :: 4 :: sX12_possible_138
noncomputable def sX12_possible_135 : List Nat := 42 :: sX12_possible_136
noncomputable def sX12_possible_132 : List Nat := 162 :: 0 :: 96 :: sX12_possible_135
noncomputable def sX12_possible_129 : List Nat := 180 :: 0 :: 228 :: sX12_possible_132
noncomputable def sX12_possible_128 : List Nat := 42 :: sX12_possible_129
noncomputable def sX12_possible_126 : List Nat := 21 :: 8 :: sX12_possible_128
noncomputable def sX12_possible_124 : List Nat := 54 :: 8 :: sX12_possible_126
noncomputable def sX12_possible_123 : List Nat := 3 :: sX12_possible_124
noncomputable def sX12_possible_120 : List Nat := 167 :: 255 :: 224 :: sX12_possible_123
noncomputable def sX12_possible_117 : List Nat := 132 :: 8 :: 1 :: sX12_possible_120
noncomputable def sX12_possible_115 : List Nat := 54 :: 6 :: sX12_possible_117
noncomputable def sX12_possible_114 : List Nat := 128 :: sX12_possible_115
noncomputable def sX12_possible_113 : List Nat := 120 :: sX12_possible_114
noncomputable def sX12_possible_111 : List Nat := 21 :: 8 :: sX12_possible_113
noncomputable def sX12_possible_110 : List Nat := 4 :: sX12_possible_111
noncomputable def sX12_possible_108 : List Nat := 21 :: 6 :: sX12_possible_110
noncomputable def sX12_possible_105 : List Nat := 160 :: 0 :: 12 :: sX12_possible_108
noncomputable def sX12_possible_103 : List Nat := 21 :: 5 :: sX12_possible_105
noncomputable def sX12_possible_100 : List Nat := 182 :: 1 :: 73 :: sX12_possible_103
noncomputable def sX12_possible_99 : List Nat := 3 :: sX12_possible_100
noncomputable def sX12_possible_97 : List Nat := 21 :: 8 :: sX12_possible_99
noncomputable def sX12_possible_95 : List Nat := 21 :: 4 :: sX12_possible_97
noncomputable def sX12_possible_94 : List Nat := 42 :: sX12_possible_95
noncomputable def sX12_possible_91 : List Nat := 162 :: 0 :: 32 :: sX12_possible_94
noncomputable def sX12_possible_90 : List Nat := 5 :: sX12_possible_91
noncomputable def sX12_possible_88 : List Nat := 21 :: 8 :: sX12_possible_90
noncomputable def sX12_possible_86 : List Nat := 54 :: 8 :: sX12_possible_88
noncomputable def sX12_possible_85 : List Nat := 3 :: sX12_possible_86
noncomputable def sX12_possible_83 : List Nat := 54 :: 7 :: sX12_possible_85
noncomputable def sX12_possible_82 : List Nat := 3 :: sX12_possible_83
noncomputable def sX12_possible_80 : List Nat := 54 :: 6 :: sX12_possible_82
noncomputable def sX12_possible_79 : List Nat := 3 :: sX12_possible_80
noncomputable def sX12_possible_77 : List Nat := 54 :: 5 :: sX12_possible_79
noncomputable def sX12_possible_74 : List Nat := 182 :: 1 :: 76 :: sX12_possible_77
noncomputable def sX12_possible_72 : List Nat := 21 :: 4 :: sX12_possible_74
noncomputable def sX12_possible_71 : List Nat := 42 :: sX12_possible_72
noncomputable def sX12_possible_70 : List Nat := 172 :: sX12_possible_71
noncomputable def sX12_possible_69 : List Nat := 2 :: sX12_possible_70
noncomputable def sX12_possible_66 : List Nat := 160 :: 0 :: 5 :: sX12_possible_69
noncomputable def sX12_possible_65 : List Nat := 2 :: sX12_possible_66
noncomputable def sX12_possible_62 : List Nat := 182 :: 0 :: 254 :: sX12_possible_65
noncomputable def sX12_possible_61 : List Nat := 3 :: sX12_possible_62
noncomputable def sX12_possible_59 : List Nat := 21 :: 4 :: sX12_possible_61
noncomputable def sX12_possible_58 : List Nat := 42 :: sX12_possible_59
noncomputable def sX12_possible_55 : List Nat := 160 :: 0 :: 16 :: sX12_possible_58
noncomputable def sX12_possible_54 : List Nat := 4 :: sX12_possible_55
noncomputable def sX12_possible_53 : List Nat := 29 :: sX12_possible_54
noncomputable def sX12_possible_50 : List Nat := 159 :: 0 :: 19 :: sX12_possible_53
noncomputable def sX12_possible_49 : List Nat := 2 :: sX12_possible_50
noncomputable def sX12_possible_46 : List Nat := 182 :: 0 :: 254 :: sX12_possible_49
noncomputable def sX12_possible_44 : List Nat := 16 :: 7 :: sX12_possible_46
noncomputable def sX12_possible_42 : List Nat := 21 :: 4 :: sX12_possible_44
noncomputable def sX12_possible_41 : List Nat := 42 :: sX12_possible_42
noncomputable def sX12_possible_39 : List Nat := 54 :: 4 :: sX12_possible_41
noncomputable def sX12_possible_38 : List Nat := 96 :: sX12_possible_39
noncomputable def sX12_possible_37 : List Nat := 28 :: sX12_possible_38
noncomputable def sX12_possible_36 : List Nat := 104 :: sX12_possible_37
noncomputable def sX12_possible_35 : List Nat := 27 :: sX12_possible_36
noncomputable def sX12_possible_33 : List Nat := 16 :: 20 :: sX12_possible_35
noncomputable def sX12_possible_32 : List Nat := 172 :: sX12_possible_33
noncomputable def sX12_possible_31 : List Nat := 3 :: sX12_possible_32
noncomputable def sX12_possible_28 : List Nat := 154 :: 0 :: 5 :: sX12_possible_31
noncomputable def sX12_possible_25 : List Nat := 182 :: 0 :: 209 :: sX12_possible_28
noncomputable def sX12_possible_24 : List Nat := 4 :: sX12_possible_25
noncomputable def sX12_possible_23 : List Nat := 3 :: sX12_possible_24
noncomputable def sX12_possible_20 : List Nat := 167 :: 0 :: 4 :: sX12_possible_23
noncomputable def sX12_possible_19 : List Nat := 4 :: sX12_possible_20
noncomputable def sX12_possible_16 : List Nat := 160 :: 0 :: 7 :: sX12_possible_19
noncomputable def sX12_possible_15 : List Nat := 4 :: sX12_possible_16
noncomputable def sX12_possible_14 : List Nat := 29 :: sX12_possible_15
noncomputable def sX12_possible_11 : List Nat := 153 :: 0 :: 8 :: sX12_possible_14
noncomputable def sX12_possible_10 : List Nat := 29 :: sX12_possible_11
noncomputable def sX12_possible_9 : List Nat := 42 :: sX12_possible_10
noncomputable def sX12_possible_6 : List Nat := 153 :: 0 :: 25 :: sX12_possible_9
noncomputable def sX12_possible_3 : List Nat := 182 :: 0 :: 247 :: sX12_possible_6
noncomputable def sX12_possible_2 : List Nat := 28 :: sX12_possible_3
noncomputable def sX12_possible_1 : List Nat := 27 :: sX12_possible_2
noncomputable def sX12_possible_0 : List Nat := 42 :: sX12_possible_1
theorem aX12_possible_0 : dc_at cX12_possible 0 sX12_possible_0 := dc_base (by decide +kernel)
theorem aX12_possible_1 : dc_at cX12_possible 1 sX12_possible_1 := dc_n1 aX12_possible_0
theorem aX12_possible_2 : dc_at cX12_possible 2 sX12_possible_2 := dc_n1 aX12_possible_1
theorem aX12_possible_3 : dc_at cX12_possible 3 sX12_possible_3 := dc_n1 aX12_possible_2
theorem aX12_possible_6 : dc_at cX12_possible 6 sX12_possible_6 := dc_n3 aX12_possible_3
theorem aX12_possible_9 : dc_at cX12_possible 9 sX12_possible_9 := dc_n3 aX12_possible_6
theorem aX12_possible_10 : dc_at cX12_possible 10 sX12_possible_10 := dc_n1 aX12_possible_9
theorem aX12_possible_11 : dc_at cX12_possible 11 sX12_possible_11 := dc_n1 aX12_possible_10
theorem aX12_possible_14 : dc_at cX12_possible 14 sX12_possible_14 := dc_n3 aX12_possible_11
theorem aX12_possible_15 : dc_at cX12_possible 15 sX12_possible_15 := dc_n1 aX12_possible_14
theorem aX12_possible_16 : dc_at cX12_possible 16 sX12_possible_16 := dc_n1 aX12_possible_15
theorem aX12_possible_19 : dc_at cX12_possible 19 sX12_possible_19 := dc_n3 aX12_possible_16
theorem aX12_possible_20 : dc_at cX12_possible 20 sX12_possible_20 := dc_n1 aX12_possible_19
theorem aX12_possible_23 : dc_at cX12_possible 23 sX12_possible_23 := dc_n3 aX12_possible_20
theorem aX12_possible_24 : dc_at cX12_possible 24 sX12_possible_24 := dc_n1 aX12_possible_23
theorem aX12_possible_25 : dc_at cX12_possible 25 sX12_possible_25 := dc_n1 aX12_possible_24
theorem aX12_possible_28 : dc_at cX12_possible 28 sX12_possible_28 := dc_n3 aX12_possible_25
theorem aX12_possible_31 : dc_at cX12_possible 31 sX12_possible_31 := dc_n3 aX12_possible_28
theorem aX12_possible_32 : dc_at cX12_possible 32 sX12_possible_32 := dc_n1 aX12_possible_31
theorem aX12_possible_33 : dc_at cX12_possible 33 sX12_possible_33 := dc_n1 aX12_possible_32
theorem aX12_possible_35 : dc_at cX12_possible 35 sX12_possible_35 := dc_n2 aX12_possible_33
theorem aX12_possible_36 : dc_at cX12_possible 36 sX12_possible_36 := dc_n1 aX12_possible_35
theorem aX12_possible_37 : dc_at cX12_possible 37 sX12_possible_37 := dc_n1 aX12_possible_36
theorem aX12_possible_38 : dc_at cX12_possible 38 sX12_possible_38 := dc_n1 aX12_possible_37
theorem aX12_possible_39 : dc_at cX12_possible 39 sX12_possible_39 := dc_n1 aX12_possible_38
theorem aX12_possible_41 : dc_at cX12_possible 41 sX12_possible_41 := dc_n2 aX12_possible_39
theorem aX12_possible_42 : dc_at cX12_possible 42 sX12_possible_42 := dc_n1 aX12_possible_41
theorem aX12_possible_44 : dc_at cX12_possible 44 sX12_possible_44 := dc_n2 aX12_possible_42
theorem aX12_possible_46 : dc_at cX12_possible 46 sX12_possible_46 := dc_n2 aX12_possible_44
theorem aX12_possible_49 : dc_at cX12_possible 49 sX12_possible_49 := dc_n3 aX12_possible_46
theorem aX12_possible_50 : dc_at cX12_possible 50 sX12_possible_50 := dc_n1 aX12_possible_49
theorem aX12_possible_53 : dc_at cX12_possible 53 sX12_possible_53 := dc_n3 aX12_possible_50
theorem aX12_possible_54 : dc_at cX12_possible 54 sX12_possible_54 := dc_n1 aX12_possible_53
theorem aX12_possible_55 : dc_at cX12_possible 55 sX12_possible_55 := dc_n1 aX12_possible_54
theorem aX12_possible_58 : dc_at cX12_possible 58 sX12_possible_58 := dc_n3 aX12_possible_55
theorem aX12_possible_59 : dc_at cX12_possible 59 sX12_possible_59 := dc_n1 aX12_possible_58
theorem aX12_possible_61 : dc_at cX12_possible 61 sX12_possible_61 := dc_n2 aX12_possible_59
theorem aX12_possible_62 : dc_at cX12_possible 62 sX12_possible_62 := dc_n1 aX12_possible_61
theorem aX12_possible_65 : dc_at cX12_possible 65 sX12_possible_65 := dc_n3 aX12_possible_62
theorem aX12_possible_66 : dc_at cX12_possible 66 sX12_possible_66 := dc_n1 aX12_possible_65
theorem aX12_possible_69 : dc_at cX12_possible 69 sX12_possible_69 := dc_n3 aX12_possible_66
theorem aX12_possible_70 : dc_at cX12_possible 70 sX12_possible_70 := dc_n1 aX12_possible_69
theorem aX12_possible_71 : dc_at cX12_possible 71 sX12_possible_71 := dc_n1 aX12_possible_70
theorem aX12_possible_72 : dc_at cX12_possible 72 sX12_possible_72 := dc_n1 aX12_possible_71
theorem aX12_possible_74 : dc_at cX12_possible 74 sX12_possible_74 := dc_n2 aX12_possible_72
theorem aX12_possible_77 : dc_at cX12_possible 77 sX12_possible_77 := dc_n3 aX12_possible_74
theorem aX12_possible_79 : dc_at cX12_possible 79 sX12_possible_79 := dc_n2 aX12_possible_77
theorem aX12_possible_80 : dc_at cX12_possible 80 sX12_possible_80 := dc_n1 aX12_possible_79
theorem aX12_possible_82 : dc_at cX12_possible 82 sX12_possible_82 := dc_n2 aX12_possible_80
theorem aX12_possible_83 : dc_at cX12_possible 83 sX12_possible_83 := dc_n1 aX12_possible_82
theorem aX12_possible_85 : dc_at cX12_possible 85 sX12_possible_85 := dc_n2 aX12_possible_83
theorem aX12_possible_86 : dc_at cX12_possible 86 sX12_possible_86 := dc_n1 aX12_possible_85
theorem aX12_possible_88 : dc_at cX12_possible 88 sX12_possible_88 := dc_n2 aX12_possible_86
theorem aX12_possible_90 : dc_at cX12_possible 90 sX12_possible_90 := dc_n2 aX12_possible_88
theorem aX12_possible_91 : dc_at cX12_possible 91 sX12_possible_91 := dc_n1 aX12_possible_90
theorem aX12_possible_94 : dc_at cX12_possible 94 sX12_possible_94 := dc_n3 aX12_possible_91
theorem aX12_possible_95 : dc_at cX12_possible 95 sX12_possible_95 := dc_n1 aX12_possible_94
theorem aX12_possible_97 : dc_at cX12_possible 97 sX12_possible_97 := dc_n2 aX12_possible_95
theorem aX12_possible_99 : dc_at cX12_possible 99 sX12_possible_99 := dc_n2 aX12_possible_97
theorem aX12_possible_100 : dc_at cX12_possible 100 sX12_possible_100 := dc_n1 aX12_possible_99
theorem aX12_possible_103 : dc_at cX12_possible 103 sX12_possible_103 := dc_n3 aX12_possible_100
theorem aX12_possible_105 : dc_at cX12_possible 105 sX12_possible_105 := dc_n2 aX12_possible_103
theorem aX12_possible_108 : dc_at cX12_possible 108 sX12_possible_108 := dc_n3 aX12_possible_105
theorem aX12_possible_110 : dc_at cX12_possible 110 sX12_possible_110 := dc_n2 aX12_possible_108
theorem aX12_possible_111 : dc_at cX12_possible 111 sX12_possible_111 := dc_n1 aX12_possible_110
theorem aX12_possible_113 : dc_at cX12_possible 113 sX12_possible_113 := dc_n2 aX12_possible_111
theorem aX12_possible_114 : dc_at cX12_possible 114 sX12_possible_114 := dc_n1 aX12_possible_113
theorem aX12_possible_115 : dc_at cX12_possible 115 sX12_possible_115 := dc_n1 aX12_possible_114
theorem aX12_possible_117 : dc_at cX12_possible 117 sX12_possible_117 := dc_n2 aX12_possible_115
theorem aX12_possible_120 : dc_at cX12_possible 120 sX12_possible_120 := dc_n3 aX12_possible_117
theorem aX12_possible_123 : dc_at cX12_possible 123 sX12_possible_123 := dc_n3 aX12_possible_120
theorem aX12_possible_124 : dc_at cX12_possible 124 sX12_possible_124 := dc_n1 aX12_possible_123
theorem aX12_possible_126 : dc_at cX12_possible 126 sX12_possible_126 := dc_n2 aX12_possible_124
theorem aX12_possible_128 : dc_at cX12_possible 128 sX12_possible_128 := dc_n2 aX12_possible_126
theorem aX12_possible_129 : dc_at cX12_possible 129 sX12_possible_129 := dc_n1 aX12_possible_128
theorem aX12_possible_132 : dc_at cX12_possible 132 sX12_possible_132 := dc_n3 aX12_possible_129
theorem aX12_possible_135 : dc_at cX12_possible 135 sX12_possible_135 := dc_n3 aX12_possible_132
theorem aX12_possible_136 : dc_at cX12_possible 136 sX12_possible_136 := dc_n1 aX12_possible_135
theorem aX12_possible_138 : dc_at cX12_possible 138 sX12_possible_138 := dc_n2 aX12_possible_136
theorem aX12_possible_139 : dc_at cX12_possible 139 sX12_possible_139 := dc_n1 aX12_possible_138
theorem aX12_possible_141 : dc_at cX12_possible 141 sX12_possible_141 := dc_n2 aX12_possible_139
theorem aX12_possible_144 : dc_at cX12_possible 144 sX12_possible_144 := dc_n3 aX12_possible_141
theorem aX12_possible_146 : dc_at cX12_possible 146 sX12_possible_146 := dc_n2 aX12_possible_144
theorem aX12_possible_149 : dc_at cX12_possible 149 sX12_possible_149 := dc_n3 aX12_possible_146
theorem aX12_possible_152 : dc_at cX12_possible 152 sX12_possible_152 := dc_n3 aX12_possible_149
theorem aX12_possible_154 : dc_at cX12_possible 154 sX12_possible_154 := dc_n2 aX12_possible_152
theorem aX12_possible_155 : dc_at cX12_possible 155 sX12_possible_155 := dc_n1 aX12_possible_154
theorem aX12_possible_156 : dc_at cX12_possible 156 sX12_possible_156 := dc_n1 aX12_possible_155
theorem aX12_possible_158 : dc_at cX12_possible 158 sX12_possible_158 := dc_n2 aX12_possible_156
theorem aX12_possible_159 : dc_at cX12_possible 159 sX12_possible_159 := dc_n1 aX12_possible_158
theorem aX12_possible_161 : dc_at cX12_possible 161 sX12_possible_161 := dc_n2 aX12_possible_159
theorem aX12_possible_162 : dc_at cX12_possible 162 sX12_possible_162 := dc_n1 aX12_possible_161
theorem aX12_possible_164 : dc_at cX12_possible 164 sX12_possible_164 := dc_n2 aX12_possible_162
theorem aX12_possible_166 : dc_at cX12_possible 166 sX12_possible_166 := dc_n2 aX12_possible_164
theorem aX12_possible_169 : dc_at cX12_possible 169 sX12_possible_169 := dc_n3 aX12_possible_166
theorem aX12_possible_172 : dc_at cX12_possible 172 sX12_possible_172 := dc_n3 aX12_possible_169
theorem aX12_possible_173 : dc_at cX12_possible 173 sX12_possible_173 := dc_n1 aX12_possible_172
theorem aX12_possible_174 : dc_at cX12_possible 174 sX12_possible_174 := dc_n1 aX12_possible_173
theorem aX12_possible_177 : dc_at cX12_possible 177 sX12_possible_177 := dc_n3 aX12_possible_174
theorem aX12_possible_179 : dc_at cX12_possible 179 sX12_possible_179 := dc_n2 aX12_possible_177
theorem aX12_possible_182 : dc_at cX12_possible 182 sX12_possible_182 := dc_n3 aX12_possible_179
theorem aX12_possible_183 : dc_at cX12_possible 183 sX12_possible_183 := dc_n1 aX12_possible_182
theorem aX12_possible_185 : dc_at cX12_possible 185 sX12_possible_185 := dc_n2 aX12_possible_183
theorem aX12_possible_187 : dc_at cX12_possible 187 sX12_possible_187 := dc_n2 aX12_possible_185
theorem aX12_possible_189 : dc_at cX12_possible 189 sX12_possible_189 := dc_n2 aX12_possible_187
theorem aX12_possible_192 : dc_at cX12_possible 192 sX12_possible_192 := dc_n3 aX12_possible_189
theorem aX12_possible_195 : dc_at cX12_possible 195 sX12_possible_195 := dc_n3 aX12_possible_192
theorem aX12_possible_196 : dc_at cX12_possible 196 sX12_possible_196 := dc_n1 aX12_possible_195
theorem aX12_possible_199 : dc_at cX12_possible 199 sX12_possible_199 := dc_n3 aX12_possible_196
theorem aX12_possible_200 : dc_at cX12_possible 200 sX12_possible_200 := dc_n1 aX12_possible_199
theorem aX12_possible_202 : dc_at cX12_possible 202 sX12_possible_202 := dc_n2 aX12_possible_200
theorem aX12_possible_205 : dc_at cX12_possible 205 sX12_possible_205 := dc_n3 aX12_possible_202
theorem aX12_possible_208 : dc_at cX12_possible 208 sX12_possible_208 := dc_n3 aX12_possible_205
theorem aX12_possible_210 : dc_at cX12_possible 210 sX12_possible_210 := dc_n2 aX12_possible_208
theorem aX12_possible_213 : dc_at cX12_possible 213 sX12_possible_213 := dc_n3 aX12_possible_210
theorem aX12_possible_215 : dc_at cX12_possible 215 sX12_possible_215 := dc_n2 aX12_possible_213
theorem aX12_possible_216 : dc_at cX12_possible 216 sX12_possible_216 := dc_n1 aX12_possible_215
theorem aX12_possible_218 : dc_at cX12_possible 218 sX12_possible_218 := dc_n2 aX12_possible_216
theorem aX12_possible_219 : dc_at cX12_possible 219 sX12_possible_219 := dc_n1 aX12_possible_218
theorem aX12_possible_220 : dc_at cX12_possible 220 sX12_possible_220 := dc_n1 aX12_possible_219
theorem aX12_possible_222 : dc_at cX12_possible 222 sX12_possible_222 := dc_n2 aX12_possible_220
theorem aX12_possible_225 : dc_at cX12_possible 225 sX12_possible_225 := dc_n3 aX12_possible_222
theorem aX12_possible_228 : dc_at cX12_possible 228 sX12_possible_228 := dc_n3 aX12_possible_225
theorem aX12_possible_229 : dc_at cX12_possible 229 sX12_possible_229 := dc_n1 aX12_possible_228
theorem aX12_possible_232 : dc_at cX12_possible 232 sX12_possible_232 := dc_n3 aX12_possible_229
theorem aX12_possible_234 : dc_at cX12_possible 234 sX12_possible_234 := dc_n2 aX12_possible_232
theorem aX12_possible_237 : dc_at cX12_possible 237 sX12_possible_237 := dc_n3 aX12_possible_234
theorem aX12_possible_239 : dc_at cX12_possible 239 sX12_possible_239 := dc_n2 aX12_possible_237
theorem dX12_possible_0 : decode cX12_possible 0 = .ok (.aload_n 0, 1) := dc_42 aX12_possible_0
theorem dX12_possible_1 : decode cX12_possible 1 = .ok (.iload_n 1, 1) := dc_27 aX12_possible_1
theorem dX12_possible_2 : decode cX12_possible 2 = .ok (.iload_n 2, 1) := dc_28 aX12_possible_2
theorem dX12_possible_3 : decode cX12_possible 3 = .ok (.invokevirtual 247, 3) := dc_182 (a0 := 0) (b0 := 247) aX12_possible_3
theorem dX12_possible_6 : decode cX12_possible 6 = .ok (.ifCond .eq 25, 3) := dc_153 (a0 := 0) (b0 := 25) aX12_possible_6 (by decide)
theorem dX12_possible_9 : decode cX12_possible 9 = .ok (.aload_n 0, 1) := dc_42 aX12_possible_9
theorem dX12_possible_10 : decode cX12_possible 10 = .ok (.iload_n 3, 1) := dc_29 aX12_possible_10
theorem dX12_possible_11 : decode cX12_possible 11 = .ok (.ifCond .eq 8, 3) := dc_153 (a0 := 0) (b0 := 8) aX12_possible_11 (by decide)
theorem dX12_possible_14 : decode cX12_possible 14 = .ok (.iload_n 3, 1) := dc_29 aX12_possible_14
theorem dX12_possible_15 : decode cX12_possible 15 = .ok (.iconst 1, 1) := dc_4 aX12_possible_15
theorem dX12_possible_16 : decode cX12_possible 16 = .ok (.if_icmp .ne 7, 3) := dc_160 (a0 := 0) (b0 := 7) aX12_possible_16 (by decide)
theorem dX12_possible_19 : decode cX12_possible 19 = .ok (.iconst 1, 1) := dc_4 aX12_possible_19
theorem dX12_possible_20 : decode cX12_possible 20 = .ok (.goto 4, 3) := dc_167 (a0 := 0) (b0 := 4) aX12_possible_20 (by decide)
theorem dX12_possible_23 : decode cX12_possible 23 = .ok (.iconst 0, 1) := dc_3 aX12_possible_23
theorem dX12_possible_24 : decode cX12_possible 24 = .ok (.iconst 1, 1) := dc_4 aX12_possible_24
theorem dX12_possible_25 : decode cX12_possible 25 = .ok (.invokevirtual 209, 3) := dc_182 (a0 := 0) (b0 := 209) aX12_possible_25
theorem dX12_possible_28 : decode cX12_possible 28 = .ok (.ifCond .ne 5, 3) := dc_154 (a0 := 0) (b0 := 5) aX12_possible_28 (by decide)
theorem dX12_possible_31 : decode cX12_possible 31 = .ok (.iconst 0, 1) := dc_3 aX12_possible_31
theorem dX12_possible_32 : decode cX12_possible 32 = .ok (.ireturn, 1) := dc_172 aX12_possible_32
theorem dX12_possible_33 : decode cX12_possible 33 = .ok (.bipush 20, 2) := dc_16 (a0 := 20) aX12_possible_33 (by decide)
theorem dX12_possible_35 : decode cX12_possible 35 = .ok (.iload_n 1, 1) := dc_27 aX12_possible_35
theorem dX12_possible_36 : decode cX12_possible 36 = .ok (.imul, 1) := dc_104 aX12_possible_36
theorem dX12_possible_37 : decode cX12_possible 37 = .ok (.iload_n 2, 1) := dc_28 aX12_possible_37
theorem dX12_possible_38 : decode cX12_possible 38 = .ok (.iadd, 1) := dc_96 aX12_possible_38
theorem dX12_possible_39 : decode cX12_possible 39 = .ok (.istore 4, 2) := dc_54 (a0 := 4) aX12_possible_39
theorem dX12_possible_41 : decode cX12_possible 41 = .ok (.aload_n 0, 1) := dc_42 aX12_possible_41
theorem dX12_possible_42 : decode cX12_possible 42 = .ok (.iload 4, 2) := dc_21 (a0 := 4) aX12_possible_42
theorem dX12_possible_44 : decode cX12_possible 44 = .ok (.bipush 7, 2) := dc_16 (a0 := 7) aX12_possible_44 (by decide)
theorem dX12_possible_46 : decode cX12_possible 46 = .ok (.invokevirtual 254, 3) := dc_182 (a0 := 0) (b0 := 254) aX12_possible_46
theorem dX12_possible_49 : decode cX12_possible 49 = .ok (.iconst (-1), 1) := dc_2 aX12_possible_49
theorem dX12_possible_50 : decode cX12_possible 50 = .ok (.if_icmp .eq 19, 3) := dc_159 (a0 := 0) (b0 := 19) aX12_possible_50 (by decide)
theorem dX12_possible_53 : decode cX12_possible 53 = .ok (.iload_n 3, 1) := dc_29 aX12_possible_53
theorem dX12_possible_54 : decode cX12_possible 54 = .ok (.iconst 1, 1) := dc_4 aX12_possible_54
theorem dX12_possible_55 : decode cX12_possible 55 = .ok (.if_icmp .ne 16, 3) := dc_160 (a0 := 0) (b0 := 16) aX12_possible_55 (by decide)
theorem dX12_possible_58 : decode cX12_possible 58 = .ok (.aload_n 0, 1) := dc_42 aX12_possible_58
theorem dX12_possible_59 : decode cX12_possible 59 = .ok (.iload 4, 2) := dc_21 (a0 := 4) aX12_possible_59
theorem dX12_possible_61 : decode cX12_possible 61 = .ok (.iconst 0, 1) := dc_3 aX12_possible_61
theorem dX12_possible_62 : decode cX12_possible 62 = .ok (.invokevirtual 254, 3) := dc_182 (a0 := 0) (b0 := 254) aX12_possible_62
theorem dX12_possible_65 : decode cX12_possible 65 = .ok (.iconst (-1), 1) := dc_2 aX12_possible_65
theorem dX12_possible_66 : decode cX12_possible 66 = .ok (.if_icmp .ne 5, 3) := dc_160 (a0 := 0) (b0 := 5) aX12_possible_66 (by decide)
theorem dX12_possible_69 : decode cX12_possible 69 = .ok (.iconst (-1), 1) := dc_2 aX12_possible_69
theorem dX12_possible_70 : decode cX12_possible 70 = .ok (.ireturn, 1) := dc_172 aX12_possible_70
theorem dX12_possible_71 : decode cX12_possible 71 = .ok (.aload_n 0, 1) := dc_42 aX12_possible_71
theorem dX12_possible_72 : decode cX12_possible 72 = .ok (.iload 4, 2) := dc_21 (a0 := 4) aX12_possible_72
theorem dX12_possible_74 : decode cX12_possible 74 = .ok (.invokevirtual 332, 3) := dc_182 (a0 := 1) (b0 := 76) aX12_possible_74
theorem dX12_possible_77 : decode cX12_possible 77 = .ok (.istore 5, 2) := dc_54 (a0 := 5) aX12_possible_77
theorem dX12_possible_79 : decode cX12_possible 79 = .ok (.iconst 0, 1) := dc_3 aX12_possible_79
theorem dX12_possible_80 : decode cX12_possible 80 = .ok (.istore 6, 2) := dc_54 (a0 := 6) aX12_possible_80
theorem dX12_possible_82 : decode cX12_possible 82 = .ok (.iconst 0, 1) := dc_3 aX12_possible_82
theorem dX12_possible_83 : decode cX12_possible 83 = .ok (.istore 7, 2) := dc_54 (a0 := 7) aX12_possible_83
theorem dX12_possible_85 : decode cX12_possible 85 = .ok (.iconst 0, 1) := dc_3 aX12_possible_85
theorem dX12_possible_86 : decode cX12_possible 86 = .ok (.istore 8, 2) := dc_54 (a0 := 8) aX12_possible_86
theorem dX12_possible_88 : decode cX12_possible 88 = .ok (.iload 8, 2) := dc_21 (a0 := 8) aX12_possible_88
theorem dX12_possible_90 : decode cX12_possible 90 = .ok (.iconst 2, 1) := dc_5 aX12_possible_90
theorem dX12_possible_91 : decode cX12_possible 91 = .ok (.if_icmp .ge 32, 3) := dc_162 (a0 := 0) (b0 := 32) aX12_possible_91 (by decide)
theorem dX12_possible_94 : decode cX12_possible 94 = .ok (.aload_n 0, 1) := dc_42 aX12_possible_94
theorem dX12_possible_95 : decode cX12_possible 95 = .ok (.iload 4, 2) := dc_21 (a0 := 4) aX12_possible_95
theorem dX12_possible_97 : decode cX12_possible 97 = .ok (.iload 8, 2) := dc_21 (a0 := 8) aX12_possible_97
theorem dX12_possible_99 : decode cX12_possible 99 = .ok (.iconst 0, 1) := dc_3 aX12_possible_99
theorem dX12_possible_100 : decode cX12_possible 100 = .ok (.invokevirtual 329, 3) := dc_182 (a0 := 1) (b0 := 73) aX12_possible_100
theorem dX12_possible_103 : decode cX12_possible 103 = .ok (.iload 5, 2) := dc_21 (a0 := 5) aX12_possible_103
theorem dX12_possible_105 : decode cX12_possible 105 = .ok (.if_icmp .ne 12, 3) := dc_160 (a0 := 0) (b0 := 12) aX12_possible_105 (by decide)
theorem dX12_possible_108 : decode cX12_possible 108 = .ok (.iload 6, 2) := dc_21 (a0 := 6) aX12_possible_108
theorem dX12_possible_110 : decode cX12_possible 110 = .ok (.iconst 1, 1) := dc_4 aX12_possible_110
theorem dX12_possible_111 : decode cX12_possible 111 = .ok (.iload 8, 2) := dc_21 (a0 := 8) aX12_possible_111
theorem dX12_possible_113 : decode cX12_possible 113 = .ok (.ishl, 1) := dc_120 aX12_possible_113
theorem dX12_possible_114 : decode cX12_possible 114 = .ok (.ior, 1) := dc_128 aX12_possible_114
theorem dX12_possible_115 : decode cX12_possible 115 = .ok (.istore 6, 2) := dc_54 (a0 := 6) aX12_possible_115
theorem dX12_possible_117 : decode cX12_possible 117 = .ok (.iinc 8 1, 3) := dc_132 (a0 := 8) (a1 := 1) aX12_possible_117 (by decide)
theorem dX12_possible_120 : decode cX12_possible 120 = .ok (.goto (-32), 3) := dc_167 (a0 := 255) (b0 := 224) aX12_possible_120 (by decide)
theorem dX12_possible_123 : decode cX12_possible 123 = .ok (.iconst 0, 1) := dc_3 aX12_possible_123
theorem dX12_possible_124 : decode cX12_possible 124 = .ok (.istore 8, 2) := dc_54 (a0 := 8) aX12_possible_124
theorem dX12_possible_126 : decode cX12_possible 126 = .ok (.iload 8, 2) := dc_21 (a0 := 8) aX12_possible_126
theorem dX12_possible_128 : decode cX12_possible 128 = .ok (.aload_n 0, 1) := dc_42 aX12_possible_128
theorem dX12_possible_129 : decode cX12_possible 129 = .ok (.getfield 228, 3) := dc_180 (a0 := 0) (b0 := 228) aX12_possible_129
theorem dX12_possible_132 : decode cX12_possible 132 = .ok (.if_icmp .ge 96, 3) := dc_162 (a0 := 0) (b0 := 96) aX12_possible_132 (by decide)
theorem dX12_possible_135 : decode cX12_possible 135 = .ok (.aload_n 0, 1) := dc_42 aX12_possible_135
theorem dX12_possible_136 : decode cX12_possible 136 = .ok (.iload 4, 2) := dc_21 (a0 := 4) aX12_possible_136
theorem dX12_possible_138 : decode cX12_possible 138 = .ok (.iconst 2, 1) := dc_5 aX12_possible_138
theorem dX12_possible_139 : decode cX12_possible 139 = .ok (.iload 8, 2) := dc_21 (a0 := 8) aX12_possible_139
theorem dX12_possible_141 : decode cX12_possible 141 = .ok (.invokevirtual 329, 3) := dc_182 (a0 := 1) (b0 := 73) aX12_possible_141
theorem dX12_possible_144 : decode cX12_possible 144 = .ok (.iload 5, 2) := dc_21 (a0 := 5) aX12_possible_144
theorem dX12_possible_146 : decode cX12_possible 146 = .ok (.if_icmp .eq 6, 3) := dc_159 (a0 := 0) (b0 := 6) aX12_possible_146 (by decide)
theorem dX12_possible_149 : decode cX12_possible 149 = .ok (.goto 73, 3) := dc_167 (a0 := 0) (b0 := 73) aX12_possible_149 (by decide)
theorem dX12_possible_152 : decode cX12_possible 152 = .ok (.iload 6, 2) := dc_21 (a0 := 6) aX12_possible_152
theorem dX12_possible_154 : decode cX12_possible 154 = .ok (.iconst 4, 1) := dc_7 aX12_possible_154
theorem dX12_possible_155 : decode cX12_possible 155 = .ok (.ior, 1) := dc_128 aX12_possible_155
theorem dX12_possible_156 : decode cX12_possible 156 = .ok (.istore 6, 2) := dc_54 (a0 := 6) aX12_possible_156
theorem dX12_possible_158 : decode cX12_possible 158 = .ok (.iconst 0, 1) := dc_3 aX12_possible_158
theorem dX12_possible_159 : decode cX12_possible 159 = .ok (.istore 9, 2) := dc_54 (a0 := 9) aX12_possible_159
theorem dX12_possible_161 : decode cX12_possible 161 = .ok (.iconst 0, 1) := dc_3 aX12_possible_161
theorem dX12_possible_162 : decode cX12_possible 162 = .ok (.istore 10, 2) := dc_54 (a0 := 10) aX12_possible_162
theorem dX12_possible_164 : decode cX12_possible 164 = .ok (.iload 10, 2) := dc_21 (a0 := 10) aX12_possible_164
theorem dX12_possible_166 : decode cX12_possible 166 = .ok (.sipush 360, 3) := dc_17 (a0 := 1) (b0 := 104) aX12_possible_166 (by decide)
theorem dX12_possible_169 : decode cX12_possible 169 = .ok (.if_icmp .ge 39, 3) := dc_162 (a0 := 0) (b0 := 39) aX12_possible_169 (by decide)
theorem dX12_possible_172 : decode cX12_possible 172 = .ok (.iload_n 3, 1) := dc_29 aX12_possible_172
theorem dX12_possible_173 : decode cX12_possible 173 = .ok (.iconst 1, 1) := dc_4 aX12_possible_173
theorem dX12_possible_174 : decode cX12_possible 174 = .ok (.if_icmp .ne 34, 3) := dc_160 (a0 := 0) (b0 := 34) aX12_possible_174 (by decide)
theorem dX12_possible_177 : decode cX12_possible 177 = .ok (.iload 9, 2) := dc_21 (a0 := 9) aX12_possible_177
theorem dX12_possible_179 : decode cX12_possible 179 = .ok (.ifCond .ne 16, 3) := dc_154 (a0 := 0) (b0 := 16) aX12_possible_179 (by decide)
theorem dX12_possible_182 : decode cX12_possible 182 = .ok (.aload_n 0, 1) := dc_42 aX12_possible_182
theorem dX12_possible_183 : decode cX12_possible 183 = .ok (.iload 4, 2) := dc_21 (a0 := 4) aX12_possible_183
theorem dX12_possible_185 : decode cX12_possible 185 = .ok (.iload 8, 2) := dc_21 (a0 := 8) aX12_possible_185
theorem dX12_possible_187 : decode cX12_possible 187 = .ok (.iload 10, 2) := dc_21 (a0 := 10) aX12_possible_187
theorem dX12_possible_189 : decode cX12_possible 189 = .ok (.invokevirtual 320, 3) := dc_182 (a0 := 1) (b0 := 64) aX12_possible_189
theorem dX12_possible_192 : decode cX12_possible 192 = .ok (.ifCond .eq 7, 3) := dc_153 (a0 := 0) (b0 := 7) aX12_possible_192 (by decide)
theorem dX12_possible_195 : decode cX12_possible 195 = .ok (.iconst 1, 1) := dc_4 aX12_possible_195
theorem dX12_possible_196 : decode cX12_possible 196 = .ok (.goto 4, 3) := dc_167 (a0 := 0) (b0 := 4) aX12_possible_196 (by decide)
theorem dX12_possible_199 : decode cX12_possible 199 = .ok (.iconst 0, 1) := dc_3 aX12_possible_199
theorem dX12_possible_200 : decode cX12_possible 200 = .ok (.istore 9, 2) := dc_54 (a0 := 9) aX12_possible_200
theorem dX12_possible_202 : decode cX12_possible 202 = .ok (.iinc 10 1, 3) := dc_132 (a0 := 10) (a1 := 1) aX12_possible_202 (by decide)
theorem dX12_possible_205 : decode cX12_possible 205 = .ok (.goto (-41), 3) := dc_167 (a0 := 255) (b0 := 215) aX12_possible_205 (by decide)
theorem dX12_possible_208 : decode cX12_possible 208 = .ok (.iload 9, 2) := dc_21 (a0 := 9) aX12_possible_208
theorem dX12_possible_210 : decode cX12_possible 210 = .ok (.ifCond .eq 12, 3) := dc_153 (a0 := 0) (b0 := 12) aX12_possible_210 (by decide)
theorem dX12_possible_213 : decode cX12_possible 213 = .ok (.iload 7, 2) := dc_21 (a0 := 7) aX12_possible_213
theorem dX12_possible_215 : decode cX12_possible 215 = .ok (.iconst 1, 1) := dc_4 aX12_possible_215
theorem dX12_possible_216 : decode cX12_possible 216 = .ok (.iload 8, 2) := dc_21 (a0 := 8) aX12_possible_216
theorem dX12_possible_218 : decode cX12_possible 218 = .ok (.ishl, 1) := dc_120 aX12_possible_218
theorem dX12_possible_219 : decode cX12_possible 219 = .ok (.ior, 1) := dc_128 aX12_possible_219
theorem dX12_possible_220 : decode cX12_possible 220 = .ok (.istore 7, 2) := dc_54 (a0 := 7) aX12_possible_220
theorem dX12_possible_222 : decode cX12_possible 222 = .ok (.iinc 8 1, 3) := dc_132 (a0 := 8) (a1 := 1) aX12_possible_222 (by decide)
theorem dX12_possible_225 : decode cX12_possible 225 = .ok (.goto (-99), 3) := dc_167 (a0 := 255) (b0 := 157) aX12_possible_225 (by decide)
theorem dX12_possible_228 : decode cX12_possible 228 = .ok (.iload_n 3, 1) := dc_29 aX12_possible_228
theorem dX12_possible_229 : decode cX12_possible 229 = .ok (.ifCond .ne 8, 3) := dc_154 (a0 := 0) (b0 := 8) aX12_possible_229 (by decide)
theorem dX12_possible_232 : decode cX12_possible 232 = .ok (.iload 6, 2) := dc_21 (a0 := 6) aX12_possible_232
theorem dX12_possible_234 : decode cX12_possible 234 = .ok (.goto 5, 3) := dc_167 (a0 := 0) (b0 := 5) aX12_possible_234 (by decide)
theorem dX12_possible_237 : decode cX12_possible 237 = .ok (.iload 7, 2) := dc_21 (a0 := 7) aX12_possible_237
theorem dX12_possible_239 : decode cX12_possible 239 = .ok (.ireturn, 1) := dc_172 aX12_possible_239
set_option maxRecDepth 20000 in
theorem ggX12_lot_X12_isWheel : GoodIn wsX12_lot wsX12_isWheel := goodIn_k _ [[5, 0, 0, 0, 0], [4, 5, 20, 0, 0, 0, 0, 0, 0, 0, 0, 0, 0, 0, 0, 0, 0, 0, 0, 0, 0, 0, 0, 0, 0, 0, 0, 0, 0, 0, 0, 0, 0, 0, 0, 0, 0, 0, 0, 0, 0, 0, 0, 0, 0, 0, 0, 0, 0, 0, 0, 0, 0, 0, 0, 0, 0, 0, 0, 0]] (by rfl) (by decide +kernel)
set_option maxRecDepth 20000 in
theorem gX12_lot_X12_isWheel : GoodIn wsX12_lot (wsV RX12 247 RX12 yX12_isWheel wsX12_isWheel) := goodIn_app (goodIn_of _ (by decide +kernel)) ggX12_lot_X12_isWheel
set_option maxRecDepth 20000 in
theorem ggX12_lot_X12_right : GoodIn wsX12_lot wsX12_right := goodIn_k _ [[10], [6, 24, 0, 0, 0, 0, 0, 0, 0, 0, 0, 0, 0, 0, 0, 0, 0, 0, 0, 0, 0, 0, 0, 0, 0, 0, 0, 0, 0, 0, 0, 0, 0, 0, 0, 0, 0, 0, 0, 0, 0, 0, 0, 0, 0, 0, 0, 0, 0, 0, 0, 0, 0, 0, 0, 0, 0, 0, 0]] (by rfl) (by decide +kernel)
set_option maxRecDepth 20000 in
theorem gX12_lot_X12_right : GoodIn wsX12_lot (wsV RX12 209 RX12 yX12_right wsX12_right) := goodIn_app (goodIn_of _ (by decide +kernel)) ggX12_lot_X12_right
set_option maxRecDepth 20000 in
theorem ggX12_lot_X12_at : GoodIn wsX12_lot wsX12_at := goodIn_k _ [[14, 0, 15, 0, 0, 0, 0, 0, 0, 0, 0, 0, 0, 0, 0, 0, 0, 0, 0, 0, 0, 0, 0, 0, 0, 0, 0, 0, 0, 0, 0, 0, 0, 0, 0, 0, 0, 0, 0, 0, 0, 0, 0, 0, 0, 0, 0, 0, 0, 0, 0, 0, 0, 0, 0, 0, 0, 0, 0, 0]] (by rfl) (by decide +kernel)
set_option maxRecDepth 20000 in
theorem gX12_lot_X12_at : GoodIn wsX12_lot (wsV RX12 254 RX12 yX12_at wsX12_at) := goodIn_app (goodIn_of _ (by decide +kernel)) ggX12_lot_X12_at
set_option maxRecDepth 20000 in
theorem ggX12_lot_X12_costOf : GoodIn wsX12_lot wsX12_costOf := goodIn_k _ [[19, 0, 0, 0], [4, 18, 0, 0, 0, 0, 0, 0, 0, 0, 0, 0, 0, 0, 0, 0, 0, 0, 0, 0, 0, 0, 0, 0, 0, 0, 0, 0, 0, 0, 0, 0, 0, 0, 0, 0, 0, 0, 0, 0, 0, 0, 0, 0, 0, 0, 0, 0, 0, 0, 0, 0, 0, 0, 0, 0, 0, 0, 0, 0, 0, 0, 0, 0, 0, 0, 0]] (by rfl) (by decide +kernel)
set_option maxRecDepth 20000 in
theorem gX12_lot_X12_costOf : GoodIn wsX12_lot (wsV RX12 283 RX12 yX12_costOf wsX12_costOf) := goodIn_app (goodIn_of _ (by decide +kernel)) ggX12_lot_X12_costOf
noncomputable def sX12_lot_190 : List Nat := 172 :: []
noncomputable def sX12_lot_187 : List Nat := 182 :: 1 :: 27 :: sX12_lot_190
noncomputable def sX12_lot_185 : List Nat := 21 :: 9 :: sX12_lot_187
noncomputable def sX12_lot_182 : List Nat := 182 :: 0 :: 254 :: sX12_lot_185
noncomputable def sX12_lot_180 : List Nat := 16 :: 8 :: sX12_lot_182
noncomputable def sX12_lot_178 : List Nat := 21 :: 4 :: sX12_lot_180
noncomputable def sX12_lot_177 : List Nat := 42 :: sX12_lot_178
noncomputable def sX12_lot_176 : List Nat := 42 :: sX12_lot_177
noncomputable def sX12_lot_173 : List Nat := 167 :: 0 :: 17 :: sX12_lot_176
noncomputable def sX12_lot_171 : List Nat := 21 :: 9 :: sX12_lot_173
noncomputable def sX12_lot_168 : List Nat := 154 :: 0 :: 8 :: sX12_lot_171
noncomputable def sX12_lot_167 : List Nat := 29 :: sX12_lot_168
noncomputable def sX12_lot_165 : List Nat := 54 :: 9 :: sX12_lot_167
noncomputable def sX12_lot_164 : List Nat := 112 :: sX12_lot_165
noncomputable def sX12_lot_161 : List Nat := 17 :: 1 :: 104 :: sX12_lot_164
noncomputable def sX12_lot_160 : List Nat := 96 :: sX12_lot_161
noncomputable def sX12_lot_157 : List Nat := 17 :: 1 :: 104 :: sX12_lot_160
noncomputable def sX12_lot_156 : List Nat := 100 :: sX12_lot_157
noncomputable def sX12_lot_154 : List Nat := 21 :: 8 :: sX12_lot_156
noncomputable def sX12_lot_152 : List Nat := 21 :: 7 :: sX12_lot_154
noncomputable def sX12_lot_149 : List Nat := 167 :: 0 :: 16 :: sX12_lot_152
noncomputable def sX12_lot_148 : List Nat := 112 :: sX12_lot_149
noncomputable def sX12_lot_145 : List Nat := 17 :: 1 :: 104 :: sX12_lot_148
noncomputable def sX12_lot_144 : List Nat := 96 :: sX12_lot_145
noncomputable def sX12_lot_142 : List Nat := 21 :: 8 :: sX12_lot_144
noncomputable def sX12_lot_140 : List Nat := 21 :: 7 :: sX12_lot_142
noncomputable def sX12_lot_137 : List Nat := 162 :: 0 :: 15 :: sX12_lot_140
noncomputable def sX12_lot_134 : List Nat := 17 :: 0 :: 180 :: sX12_lot_137
noncomputable def sX12_lot_133 : List Nat := 112 :: sX12_lot_134
noncomputable def sX12_lot_130 : List Nat := 17 :: 1 :: 104 :: sX12_lot_133
noncomputable def sX12_lot_129 : List Nat := 96 :: sX12_lot_130
noncomputable def sX12_lot_126 : List Nat := 17 :: 1 :: 104 :: sX12_lot_129
noncomputable def sX12_lot_125 : List Nat := 100 :: sX12_lot_126
noncomputable def sX12_lot_123 : List Nat := 21 :: 5 :: sX12_lot_125
noncomputable def sX12_lot_121 : List Nat := 21 :: 7 :: sX12_lot_123
noncomputable def sX12_lot_119 : List Nat := 54 :: 8 :: sX12_lot_121
noncomputable def sX12_lot_118 : List Nat := 112 :: sX12_lot_119
noncomputable def sX12_lot_115 : List Nat := 17 :: 1 :: 104 :: sX12_lot_118
noncomputable def sX12_lot_114 : List Nat := 96 :: sX12_lot_115
noncomputable def sX12_lot_111 : List Nat := 17 :: 1 :: 104 :: sX12_lot_114
noncomputable def sX12_lot_110 : List Nat := 100 :: sX12_lot_111
noncomputable def sX12_lot_108 : List Nat := 21 :: 5 :: sX12_lot_110
noncomputable def sX12_lot_106 : List Nat := 21 :: 6 :: sX12_lot_108
noncomputable def sX12_lot_105 : List Nat := 172 :: sX12_lot_106
noncomputable def sX12_lot_104 : List Nat := 2 :: sX12_lot_105
noncomputable def sX12_lot_101 : List Nat := 160 :: 0 :: 5 :: sX12_lot_104
noncomputable def sX12_lot_100 : List Nat := 2 :: sX12_lot_101
noncomputable def sX12_lot_97 : List Nat := 182 :: 0 :: 254 :: sX12_lot_100
noncomputable def sX12_lot_95 : List Nat := 16 :: 8 :: sX12_lot_97
noncomputable def sX12_lot_93 : List Nat := 21 :: 4 :: sX12_lot_95
noncomputable def sX12_lot_92 : List Nat := 42 :: sX12_lot_93
noncomputable def sX12_lot_89 : List Nat := 160 :: 0 :: 17 :: sX12_lot_92
noncomputable def sX12_lot_88 : List Nat := 4 :: sX12_lot_89
noncomputable def sX12_lot_87 : List Nat := 29 :: sX12_lot_88
noncomputable def sX12_lot_84 : List Nat := 159 :: 0 :: 20 :: sX12_lot_87
noncomputable def sX12_lot_83 : List Nat := 2 :: sX12_lot_84
noncomputable def sX12_lot_81 : List Nat := 21 :: 7 :: sX12_lot_83
noncomputable def sX12_lot_78 : List Nat := 159 :: 0 :: 26 :: sX12_lot_81
noncomputable def sX12_lot_77 : List Nat := 2 :: sX12_lot_78
noncomputable def sX12_lot_75 : List Nat := 21 :: 6 :: sX12_lot_77
noncomputable def sX12_lot_72 : List Nat := 159 :: 0 :: 32 :: sX12_lot_75
noncomputable def sX12_lot_71 : List Nat := 2 :: sX12_lot_72
noncomputable def sX12_lot_69 : List Nat := 21 :: 5 :: sX12_lot_71
noncomputable def sX12_lot_67 : List Nat := 54 :: 7 :: sX12_lot_69
noncomputable def sX12_lot_64 : List Nat := 182 :: 0 :: 254 :: sX12_lot_67
noncomputable def sX12_lot_62 : List Nat := 16 :: 7 :: sX12_lot_64
noncomputable def sX12_lot_60 : List Nat := 21 :: 4 :: sX12_lot_62
noncomputable def sX12_lot_59 : List Nat := 42 :: sX12_lot_60
noncomputable def sX12_lot_57 : List Nat := 54 :: 6 :: sX12_lot_59
noncomputable def sX12_lot_54 : List Nat := 182 :: 0 :: 254 :: sX12_lot_57
noncomputable def sX12_lot_53 : List Nat := 4 :: sX12_lot_54
noncomputable def sX12_lot_51 : List Nat := 21 :: 4 :: sX12_lot_53
noncomputable def sX12_lot_50 : List Nat := 42 :: sX12_lot_51
noncomputable def sX12_lot_48 : List Nat := 54 :: 5 :: sX12_lot_50
noncomputable def sX12_lot_45 : List Nat := 182 :: 0 :: 254 :: sX12_lot_48
noncomputable def sX12_lot_44 : List Nat := 3 :: sX12_lot_45
noncomputable def sX12_lot_42 : List Nat := 21 :: 4 :: sX12_lot_44
noncomputable def sX12_lot_41 : List Nat := 42 :: sX12_lot_42
noncomputable def sX12_lot_39 : List Nat := 54 :: 4 :: sX12_lot_41
noncomputable def sX12_lot_38 : List Nat := 96 :: sX12_lot_39
noncomputable def sX12_lot_37 : List Nat := 28 :: sX12_lot_38
noncomputable def sX12_lot_36 : List Nat := 104 :: sX12_lot_37
noncomputable def sX12_lot_35 : List Nat := 27 :: sX12_lot_36
noncomputable def sX12_lot_33 : List Nat := 16 :: 20 :: sX12_lot_35
noncomputable def sX12_lot_32 : List Nat := 172 :: sX12_lot_33
noncomputable def sX12_lot_31 : List Nat := 3 :: sX12_lot_32
noncomputable def sX12_lot_28 : List Nat := 154 :: 0 :: 5 :: sX12_lot_31
noncomputable def sX12_lot_25 : List Nat := 182 :: 0 :: 209 :: sX12_lot_28
noncomputable def sX12_lot_24 : List Nat := 4 :: sX12_lot_25
noncomputable def sX12_lot_23 : List Nat := 3 :: sX12_lot_24
noncomputable def sX12_lot_20 : List Nat := 167 :: 0 :: 4 :: sX12_lot_23
noncomputable def sX12_lot_19 : List Nat := 4 :: sX12_lot_20
noncomputable def sX12_lot_16 : List Nat := 160 :: 0 :: 7 :: sX12_lot_19
noncomputable def sX12_lot_15 : List Nat := 4 :: sX12_lot_16
noncomputable def sX12_lot_14 : List Nat := 29 :: sX12_lot_15
noncomputable def sX12_lot_11 : List Nat := 153 :: 0 :: 8 :: sX12_lot_14
noncomputable def sX12_lot_10 : List Nat := 29 :: sX12_lot_11
noncomputable def sX12_lot_9 : List Nat := 42 :: sX12_lot_10
noncomputable def sX12_lot_6 : List Nat := 153 :: 0 :: 25 :: sX12_lot_9
noncomputable def sX12_lot_3 : List Nat := 182 :: 0 :: 247 :: sX12_lot_6
noncomputable def sX12_lot_2 : List Nat := 28 :: sX12_lot_3
noncomputable def sX12_lot_1 : List Nat := 27 :: sX12_lot_2
noncomputable def sX12_lot_0 : List Nat := 42 :: sX12_lot_1
theorem aX12_lot_0 : dc_at cX12_lot 0 sX12_lot_0 := dc_base (by decide +kernel)
theorem aX12_lot_1 : dc_at cX12_lot 1 sX12_lot_1 := dc_n1 aX12_lot_0
theorem aX12_lot_2 : dc_at cX12_lot 2 sX12_lot_2 := dc_n1 aX12_lot_1
theorem aX12_lot_3 : dc_at cX12_lot 3 sX12_lot_3 := dc_n1 aX12_lot_2
theorem aX12_lot_6 : dc_at cX12_lot 6 sX12_lot_6 := dc_n3 aX12_lot_3
theorem aX12_lot_9 : dc_at cX12_lot 9 sX12_lot_9 := dc_n3 aX12_lot_6
theorem aX12_lot_10 : dc_at cX12_lot 10 sX12_lot_10 := dc_n1 aX12_lot_9
theorem aX12_lot_11 : dc_at cX12_lot 11 sX12_lot_11 := dc_n1 aX12_lot_10
theorem aX12_lot_14 : dc_at cX12_lot 14 sX12_lot_14 := dc_n3 aX12_lot_11
theorem aX12_lot_15 : dc_at cX12_lot 15 sX12_lot_15 := dc_n1 aX12_lot_14
theorem aX12_lot_16 : dc_at cX12_lot 16 sX12_lot_16 := dc_n1 aX12_lot_15
theorem aX12_lot_19 : dc_at cX12_lot 19 sX12_lot_19 := dc_n3 aX12_lot_16
theorem aX12_lot_20 : dc_at cX12_lot 20 sX12_lot_20 := dc_n1 aX12_lot_19
theorem aX12_lot_23 : dc_at cX12_lot 23 sX12_lot_23 := dc_n3 aX12_lot_20
theorem aX12_lot_24 : dc_at cX12_lot 24 sX12_lot_24 := dc_n1 aX12_lot_23
theorem aX12_lot_25 : dc_at cX12_lot 25 sX12_lot_25 := dc_n1 aX12_lot_24
theorem aX12_lot_28 : dc_at cX12_lot 28 sX12_lot_28 := dc_n3 aX12_lot_25
theorem aX12_lot_31 : dc_at cX12_lot 31 sX12_lot_31 := dc_n3 aX12_lot_28
theorem aX12_lot_32 : dc_at cX12_lot 32 sX12_lot_32 := dc_n1 aX12_lot_31
theorem aX12_lot_33 : dc_at cX12_lot 33 sX12_lot_33 := dc_n1 aX12_lot_32
theorem aX12_lot_35 : dc_at cX12_lot 35 sX12_lot_35 := dc_n2 aX12_lot_33
theorem aX12_lot_36 : dc_at cX12_lot 36 sX12_lot_36 := dc_n1 aX12_lot_35
theorem aX12_lot_37 : dc_at cX12_lot 37 sX12_lot_37 := dc_n1 aX12_lot_36
theorem aX12_lot_38 : dc_at cX12_lot 38 sX12_lot_38 := dc_n1 aX12_lot_37
theorem aX12_lot_39 : dc_at cX12_lot 39 sX12_lot_39 := dc_n1 aX12_lot_38
theorem aX12_lot_41 : dc_at cX12_lot 41 sX12_lot_41 := dc_n2 aX12_lot_39
theorem aX12_lot_42 : dc_at cX12_lot 42 sX12_lot_42 := dc_n1 aX12_lot_41
theorem aX12_lot_44 : dc_at cX12_lot 44 sX12_lot_44 := dc_n2 aX12_lot_42
theorem aX12_lot_45 : dc_at cX12_lot 45 sX12_lot_45 := dc_n1 aX12_lot_44
theorem aX12_lot_48 : dc_at cX12_lot 48 sX12_lot_48 := dc_n3 aX12_lot_45
theorem aX12_lot_50 : dc_at cX12_lot 50 sX12_lot_50 := dc_n2 aX12_lot_48
theorem aX12_lot_51 : dc_at cX12_lot 51 sX12_lot_51 := dc_n1 aX12_lot_50
theorem aX12_lot_53 : dc_at cX12_lot 53 sX12_lot_53 := dc_n2 aX12_lot_51
theorem aX12_lot_54 : dc_at cX12_lot 54 sX12_lot_54 := dc_n1 aX12_lot_53
theorem aX12_lot_57 : dc_at cX12_lot 57 sX12_lot_57 := dc_n3 aX12_lot_54
theorem aX12_lot_59 : dc_at cX12_lot 59 sX12_lot_59 := dc_n2 aX12_lot_57
theorem aX12_lot_60 : dc_at cX12_lot 60 sX12_lot_60 := dc_n1 aX12_lot_59
theorem aX12_lot_62 : dc_at cX12_lot 62 sX12_lot_62 := dc_n2 aX12_lot_60
theorem aX12_lot_64 : dc_at cX12_lot 64 sX12_lot_64 := dc_n2 aX12_lot_62
theorem aX12_lot_67 : dc_at cX12_lot 67 sX12_lot_67 := dc_n3 aX12_lot_64
theorem aX12_lot_69 : dc_at cX12_lot 69 sX12_lot_69 := dc_n2 aX12_lot_67
theorem aX12_lot_71 : dc_at cX12_lot 71 sX12_lot_71 := dc_n2 aX12_lot_69
theorem aX12_lot_72 : dc_at cX12_lot 72 sX12_lot_72 := dc_n1 aX12_lot_71
theorem aX12_lot_75 : dc_at cX12_lot 75 sX12_lot_75 := dc_n3 aX12_lot_72
theorem aX12_lot_77 : dc_at cX12_lot 77 sX12_lot_77 := dc_n2 aX12_lot_75
theorem aX12_lot_78 : dc_at cX12_lot 78 sX12_lot_78 := dc_n1 aX12_lot_77
theorem aX12_lot_81 : dc_at cX12_lot 81 sX12_lot_81 := dc_n3 aX12_lot_78
theorem aX12_lot_83 : dc_at cX12_lot 83 sX12_lot_83 := dc_n2 aX12_lot_81
theorem aX12_lot_84 : dc_at cX12_lot 84 sX12_lot_84 := dc_n1 aX12_lot_83
theorem aX12_lot_87 : dc_at cX12_lot 87 sX12_lot_87 := dc_n3 aX12_lot_84
theorem aX12_lot_88 : dc_at cX12_lot 88 sX12_lot_88 := dc_n1 aX12_lot_87
theorem aX12_lot_89 : dc_at cX12_lot 89 sX12_lot_89 := dc_n1 aX12_lot_88
theorem aX12_lot_92 : dc_at cX12_lot 92 sX12_lot_92 := dc_n3 aX12_lot_89
theorem aX12_lot_93 : dc_at cX12_lot 93 sX12_lot_93 := dc_n1 aX12_lot_92
theorem aX12_lot_95 : dc_at cX12_lot 95 sX12_lot_95 := dc_n2 aX12_lot_93
theorem aX12_lot_97 : dc_at cX12_lot 97 sX12_lot_97 := dc_n2 aX12_lot_95
theorem aX12_lot_100 : dc_at cX12_lot 100 sX12_lot_100 := dc_n3 aX12_lot_97
theorem aX12_lot_101 : dc_at cX12_lot 101 sX12_lot_101 := dc_n1 aX12_lot_100
theorem aX12_lot_104 : dc_at cX12_lot 104 sX12_lot_104 := dc_n3 aX12_lot_101
theorem aX12_lot_105 : dc_at cX12_lot 105 sX12_lot_105 := dc_n1 aX12_lot_104
theorem aX12_lot_106 : dc_at cX12_lot 106 sX12_lot_106 := dc_n1 aX12_lot_105
theorem aX12_lot_108 : dc_at cX12_lot 108 sX12_lot_108 := dc_n2 aX12_lot_106
theorem aX12_lot_110 : dc_at cX12_lot 110 sX12_lot_110 := dc_n2 aX12_lot_108
theorem aX12_lot_111 : dc_at cX12_lot 111 sX12_lot_111 := dc_n1 aX12_lot_110
theorem aX12_lot_114 : dc_at cX12_lot 114 sX12_lot_114 := dc_n3 aX12_lot_111
theorem aX12_lot_115 : dc_at cX12_lot 115 sX12_lot_115 := dc_n1 aX12_lot_114
theorem aX12_lot_118 : dc_at cX12_lot 118 sX12_lot_118 := dc_n3 aX12_lot_115
theorem aX12_lot_119 : dc_at cX12_lot 119 sX12_lot_119 := dc_n1 aX12_lot_118
theorem aX12_lot_121 : dc_at cX12_lot 121 sX12_lot_121 := dc_n2 aX12_lot_119
theorem aX12_lot_123 : dc_at cX12_lot 123 sX12_lot_123 := dc_n2 aX12_lot_121
theorem aX12_lot_125 : dc_at cX12_lot 125 sX12_lot_125 := dc_n2 aX12_lot_123
theorem aX12_lot_126 : dc_at cX12_lot 126 sX12_lot_126 := dc_n1 aX12_lot_125
theorem aX12_lot_129 : dc_at cX12_lot 129 sX12_lot_129 := dc_n3 aX12_lot_126
theorem aX12_lot_130 : dc_at cX12_lot 130 sX12_lot_130 := dc_n1 aX12_lot_129
theorem aX12_lot_133 : dc_at cX12_lot 133 sX12_lot_133 := dc_n3 aX12_lot_130
theorem aX12_lot_134 : dc_at cX12_lot 134 sX12_lot_134 := dc_n1 aX12_lot_133
theorem aX12_lot_137 : dc_at cX12_lot 137 sX12_lot_137 := dc_n3 aX12_lot_134
theorem aX12_lot_140 : dc_at cX12_lot 140 sX12_lot_140 := dc_n3 aX12_lot_137
theorem aX12_lot_142 : dc_at cX12_lot 142 sX12_lot_142 := dc_n2 aX12_lot_140
theorem aX12_lot_144 : dc_at cX12_lot 144 sX12_lot_144 := dc_n2 aX12_lot_142
theorem aX12_lot_145 : dc_at cX12_lot 145 sX12_lot_145 := dc_n1 aX12_lot_144
theorem aX12_lot_148 : dc_at cX12_lot 148 sX12_lot_148 := dc_n3 aX12_lot_145
theorem aX12_lot_149 : dc_at cX12_lot 149 sX12_lot_149 := dc_n1 aX12_lot_148
theorem aX12_lot_152 : dc_at cX12_lot 152 sX12_lot_152 := dc_n3 aX12_lot_149
theorem aX12_lot_154 : dc_at cX12_lot 154 sX12_lot_154 := dc_n2 aX12_lot_152
theorem aX12_lot_156 : dc_at cX12_lot 156 sX12_lot_156 := dc_n2 aX12_lot_154
theorem aX12_lot_157 : dc_at cX12_lot 157 sX12_lot_157 := dc_n1 aX12_lot_156
theorem aX12_lot_160 : dc_at cX12_lot 160 sX12_lot_160 := dc_n3 aX12_lot_157
theorem aX12_lot_161 : dc_at cX12_lot 161 sX12_lot_161 := dc_n1 aX12_lot_160
theorem aX12_lot_164 : dc_at cX12_lot 164 sX12_lot_164 := dc_n3 aX12_lot_161
theorem aX12_lot_165 : dc_at cX12_lot 165 sX12_lot_165 := dc_n1 aX12_lot_164
theorem aX12_lot_167 : dc_at cX12_lot 167 sX12_lot_167 := dc_n2 aX12_lot_165
theorem aX12_lot_168 : dc_at cX12_lot 168 sX12_lot_168 := dc_n1 aX12_lot_167
theorem aX12_lot_171 : dc_at cX12_lot 171 sX12_lot_171 := dc_n3 aX12_lot_168
theorem aX12_lot_173 : dc_at cX12_lot 173 sX12_lot_173 := dc_n2 aX12_lot_171
theorem aX12_lot_176 : dc_at cX12_lot 176 sX12_lot_176 := dc_n3 aX12_lot_173
theorem aX12_lot_177 : dc_at cX12_lot 177 sX12_lot_177 := dc_n1 aX12_lot_176
theorem aX12_lot_178 : dc_at cX12_lot 178 sX12_lot_178 := dc_n1 aX12_lot_177
theorem aX12_lot_180 : dc_at cX12_lot 180 sX12_lot_180 := dc_n2 aX12_lot_178
theorem aX12_lot_182 : dc_at cX12_lot 182 sX12_lot_182 := dc_n2 aX12_lot_180
theorem aX12_lot_185 : dc_at cX12_lot 185 sX12_lot_185 := dc_n3 aX12_lot_182
theorem aX12_lot_187 : dc_at cX12_lot 187 sX12_lot_187 := dc_n2 aX12_lot_185
theorem aX12_lot_190 : dc_at cX12_lot 190 sX12_lot_190 := dc_n3 aX12_lot_187
theorem dX12_lot_0 : decode cX12_lot 0 = .ok (.aload_n 0, 1) := dc_42 aX12_lot_0
theorem dX12_lot_1 : decode cX12_lot 1 = .ok (.iload_n 1, 1) := dc_27 aX12_lot_1
theorem dX12_lot_2 : decode cX12_lot 2 = .ok (.iload_n 2, 1) := dc_28 aX12_lot_2
theorem dX12_lot_3 : decode cX12_lot 3 = .ok (.invokevirtual 247, 3) := dc_182 (a0 := 0) (b0 := 247) aX12_lot_3
theorem dX12_lot_6 : decode cX12_lot 6 = .ok (.ifCond .eq 25, 3) := dc_153 (a0 := 0) (b0 := 25) aX12_lot_6 (by decide)
theorem dX12_lot_9 : decode cX12_lot 9 = .ok (.aload_n 0, 1) := dc_42 aX12_lot_9
theorem dX12_lot_10 : decode cX12_lot 10 = .ok (.iload_n 3, 1) := dc_29 aX12_lot_10
theorem dX12_lot_11 : decode cX12_lot 11 = .ok (.ifCond .eq 8, 3) := dc_153 (a0 := 0) (b0 := 8) aX12_lot_11 (by decide)
theorem dX12_lot_14 : decode cX12_lot 14 = .ok (.iload_n 3, 1) := dc_29 aX12_lot_14
theorem dX12_lot_15 : decode cX12_lot 15 = .ok (.iconst 1, 1) := dc_4 aX12_lot_15
theorem dX12_lot_16 : decode cX12_lot 16 = .ok (.if_icmp .ne 7, 3) := dc_160 (a0 := 0) (b0 := 7) aX12_lot_16 (by decide)
theorem dX12_lot_19 : decode cX12_lot 19 = .ok (.iconst 1, 1) := dc_4 aX12_lot_19
theorem dX12_lot_20 : decode cX12_lot 20 = .ok (.goto 4, 3) := dc_167 (a0 := 0) (b0 := 4) aX12_lot_20 (by decide)
theorem dX12_lot_23 : decode cX12_lot 23 = .ok (.iconst 0, 1) := dc_3 aX12_lot_23
theorem dX12_lot_24 : decode cX12_lot 24 = .ok (.iconst 1, 1) := dc_4 aX12_lot_24
theorem dX12_lot_25 : decode cX12_lot 25 = .ok (.invokevirtual 209, 3) := dc_182 (a0 := 0) (b0 := 209) aX12_lot_25
theorem dX12_lot_28 : decode cX12_lot 28 = .ok (.ifCond .ne 5, 3) := dc_154 (a0 := 0) (b0 := 5) aX12_lot_28 (by decide)
theorem dX12_lot_31 : decode cX12_lot 31 = .ok (.iconst 0, 1) := dc_3 aX12_lot_31
theorem dX12_lot_32 : decode cX12_lot 32 = .ok (.ireturn, 1) := dc_172 aX12_lot_32
theorem dX12_lot_33 : decode cX12_lot 33 = .ok (.bipush 20, 2) := dc_16 (a0 := 20) aX12_lot_33 (by decide)
theorem dX12_lot_35 : decode cX12_lot 35 = .ok (.iload_n 1, 1) := dc_27 aX12_lot_35
theorem dX12_lot_36 : decode cX12_lot 36 = .ok (.imul, 1) := dc_104 aX12_lot_36
theorem dX12_lot_37 : decode cX12_lot 37 = .ok (.iload_n 2, 1) := dc_28 aX12_lot_37
theorem dX12_lot_38 : decode cX12_lot 38 = .ok (.iadd, 1) := dc_96 aX12_lot_38
theorem dX12_lot_39 : decode cX12_lot 39 = .ok (.istore 4, 2) := dc_54 (a0 := 4) aX12_lot_39
theorem dX12_lot_41 : decode cX12_lot 41 = .ok (.aload_n 0, 1) := dc_42 aX12_lot_41
theorem dX12_lot_42 : decode cX12_lot 42 = .ok (.iload 4, 2) := dc_21 (a0 := 4) aX12_lot_42
theorem dX12_lot_44 : decode cX12_lot 44 = .ok (.iconst 0, 1) := dc_3 aX12_lot_44
theorem dX12_lot_45 : decode cX12_lot 45 = .ok (.invokevirtual 254, 3) := dc_182 (a0 := 0) (b0 := 254) aX12_lot_45
theorem dX12_lot_48 : decode cX12_lot 48 = .ok (.istore 5, 2) := dc_54 (a0 := 5) aX12_lot_48
theorem dX12_lot_50 : decode cX12_lot 50 = .ok (.aload_n 0, 1) := dc_42 aX12_lot_50
theorem dX12_lot_51 : decode cX12_lot 51 = .ok (.iload 4, 2) := dc_21 (a0 := 4) aX12_lot_51
theorem dX12_lot_53 : decode cX12_lot 53 = .ok (.iconst 1, 1) := dc_4 aX12_lot_53
theorem dX12_lot_54 : decode cX12_lot 54 = .ok (.invokevirtual 254, 3) := dc_182 (a0 := 0) (b0 := 254) aX12_lot_54
theorem dX12_lot_57 : decode cX12_lot 57 = .ok (.istore 6, 2) := dc_54 (a0 := 6) aX12_lot_57
theorem dX12_lot_59 : decode cX12_lot 59 = .ok (.aload_n 0, 1) := dc_42 aX12_lot_59
theorem dX12_lot_60 : decode cX12_lot 60 = .ok (.iload 4, 2) := dc_21 (a0 := 4) aX12_lot_60
theorem dX12_lot_62 : decode cX12_lot 62 = .ok (.bipush 7, 2) := dc_16 (a0 := 7) aX12_lot_62 (by decide)
theorem dX12_lot_64 : decode cX12_lot 64 = .ok (.invokevirtual 254, 3) := dc_182 (a0 := 0) (b0 := 254) aX12_lot_64
theorem dX12_lot_67 : decode cX12_lot 67 = .ok (.istore 7, 2) := dc_54 (a0 := 7) aX12_lot_67
theorem dX12_lot_69 : decode cX12_lot 69 = .ok (.iload 5, 2) := dc_21 (a0 := 5) aX12_lot_69
theorem dX12_lot_71 : decode cX12_lot 71 = .ok (.iconst (-1), 1) := dc_2 aX12_lot_71
theorem dX12_lot_72 : decode cX12_lot 72 = .ok (.if_icmp .eq 32, 3) := dc_159 (a0 := 0) (b0 := 32) aX12_lot_72 (by decide)
theorem dX12_lot_75 : decode cX12_lot 75 = .ok (.iload 6, 2) := dc_21 (a0 := 6) aX12_lot_75
theorem dX12_lot_77 : decode cX12_lot 77 = .ok (.iconst (-1), 1) := dc_2 aX12_lot_77
theorem dX12_lot_78 : decode cX12_lot 78 = .ok (.if_icmp .eq 26, 3) := dc_159 (a0 := 0) (b0 := 26) aX12_lot_78 (by decide)
theorem dX12_lot_81 : decode cX12_lot 81 = .ok (.iload 7, 2) := dc_21 (a0 := 7) aX12_lot_81
theorem dX12_lot_83 : decode cX12_lot 83 = .ok (.iconst (-1), 1) := dc_2 aX12_lot_83
theorem dX12_lot_84 : decode cX12_lot 84 = .ok (.if_icmp .eq 20, 3) := dc_159 (a0 := 0) (b0 := 20) aX12_lot_84 (by decide)
theorem dX12_lot_87 : decode cX12_lot 87 = .ok (.iload_n 3, 1) := dc_29 aX12_lot_87
theorem dX12_lot_88 : decode cX12_lot 88 = .ok (.iconst 1, 1) := dc_4 aX12_lot_88
theorem dX12_lot_89 : decode cX12_lot 89 = .ok (.if_icmp .ne 17, 3) := dc_160 (a0 := 0) (b0 := 17) aX12_lot_89 (by decide)
theorem dX12_lot_92 : decode cX12_lot 92 = .ok (.aload_n 0, 1) := dc_42 aX12_lot_92
theorem dX12_lot_93 : decode cX12_lot 93 = .ok (.iload 4, 2) := dc_21 (a0 := 4) aX12_lot_93
theorem dX12_lot_95 : decode cX12_lot 95 = .ok (.bipush 8, 2) := dc_16 (a0 := 8) aX12_lot_95 (by decide)
theorem dX12_lot_97 : decode cX12_lot 97 = .ok (.invokevirtual 254, 3) := dc_182 (a0 := 0) (b0 := 254) aX12_lot_97
theorem dX12_lot_100 : decode cX12_lot 100 = .ok (.iconst (-1), 1) := dc_2 aX12_lot_100
theorem dX12_lot_101 : decode cX12_lot 101 = .ok (.if_icmp .ne 5, 3) := dc_160 (a0 := 0) (b0 := 5) aX12_lot_101 (by decide)
theorem dX12_lot_104 : decode cX12_lot 104 = .ok (.iconst (-1), 1) := dc_2 aX12_lot_104
theorem dX12_lot_105 : decode cX12_lot 105 = .ok (.ireturn, 1) := dc_172 aX12_lot_105
theorem dX12_lot_106 : decode cX12_lot 106 = .ok (.iload 6, 2) := dc_21 (a0 := 6) aX12_lot_106
theorem dX12_lot_108 : decode cX12_lot 108 = .ok (.iload 5, 2) := dc_21 (a0 := 5) aX12_lot_108
theorem dX12_lot_110 : decode cX12_lot 110 = .ok (.isub, 1) := dc_100 aX12_lot_110
theorem dX12_lot_111 : decode cX12_lot 111 = .ok (.sipush 360, 3) := dc_17 (a0 := 1) (b0 := 104) aX12_lot_111 (by decide)
theorem dX12_lot_114 : decode cX12_lot 114 = .ok (.iadd, 1) := dc_96 aX12_lot_114
theorem dX12_lot_115 : decode cX12_lot 115 = .ok (.sipush 360, 3) := dc_17 (a0 := 1) (b0 := 104) aX12_lot_115 (by decide)
theorem dX12_lot_118 : decode cX12_lot 118 = .ok (.irem, 1) := dc_112 aX12_lot_118
theorem dX12_lot_119 : decode cX12_lot 119 = .ok (.istore 8, 2) := dc_54 (a0 := 8) aX12_lot_119
theorem dX12_lot_121 : decode cX12_lot 121 = .ok (.iload 7, 2) := dc_21 (a0 := 7) aX12_lot_121
theorem dX12_lot_123 : decode cX12_lot 123 = .ok (.iload 5, 2) := dc_21 (a0 := 5) aX12_lot_123
theorem dX12_lot_125 : decode cX12_lot 125 = .ok (.isub, 1) := dc_100 aX12_lot_125
theorem dX12_lot_126 : decode cX12_lot 126 = .ok (.sipush 360, 3) := dc_17 (a0 := 1) (b0 := 104) aX12_lot_126 (by decide)
theorem dX12_lot_129 : decode cX12_lot 129 = .ok (.iadd, 1) := dc_96 aX12_lot_129
theorem dX12_lot_130 : decode cX12_lot 130 = .ok (.sipush 360, 3) := dc_17 (a0 := 1) (b0 := 104) aX12_lot_130 (by decide)
theorem dX12_lot_133 : decode cX12_lot 133 = .ok (.irem, 1) := dc_112 aX12_lot_133
theorem dX12_lot_134 : decode cX12_lot 134 = .ok (.sipush 180, 3) := dc_17 (a0 := 0) (b0 := 180) aX12_lot_134 (by decide)
theorem dX12_lot_137 : decode cX12_lot 137 = .ok (.if_icmp .ge 15, 3) := dc_162 (a0 := 0) (b0 := 15) aX12_lot_137 (by decide)
theorem dX12_lot_140 : decode cX12_lot 140 = .ok (.iload 7, 2) := dc_21 (a0 := 7) aX12_lot_140
theorem dX12_lot_142 : decode cX12_lot 142 = .ok (.iload 8, 2) := dc_21 (a0 := 8) aX12_lot_142
theorem dX12_lot_144 : decode cX12_lot 144 = .ok (.iadd, 1) := dc_96 aX12_lot_144
theorem dX12_lot_145 : decode cX12_lot 145 = .ok (.sipush 360, 3) := dc_17 (a0 := 1) (b0 := 104) aX12_lot_145 (by decide)
theorem dX12_lot_148 : decode cX12_lot 148 = .ok (.irem, 1) := dc_112 aX12_lot_148
theorem dX12_lot_149 : decode cX12_lot 149 = .ok (.goto 16, 3) := dc_167 (a0 := 0) (b0 := 16) aX12_lot_149 (by decide)
theorem dX12_lot_152 : decode cX12_lot 152 = .ok (.iload 7, 2) := dc_21 (a0 := 7) aX12_lot_152
theorem dX12_lot_154 : decode cX12_lot 154 = .ok (.iload 8, 2) := dc_21 (a0 := 8) aX12_lot_154
theorem dX12_lot_156 : decode cX12_lot 156 = .ok (.isub, 1) := dc_100 aX12_lot_156
theorem dX12_lot_157 : decode cX12_lot 157 = .ok (.sipush 360, 3) := dc_17 (a0 := 1) (b0 := 104) aX12_lot_157 (by decide)
theorem dX12_lot_160 : decode cX12_lot 160 = .ok (.iadd, 1) := dc_96 aX12_lot_160
theorem dX12_lot_161 : decode cX12_lot 161 = .ok (.sipush 360, 3) := dc_17 (a0 := 1) (b0 := 104) aX12_lot_161 (by decide)
theorem dX12_lot_164 : decode cX12_lot 164 = .ok (.irem, 1) := dc_112 aX12_lot_164
theorem dX12_lot_165 : decode cX12_lot 165 = .ok (.istore 9, 2) := dc_54 (a0 := 9) aX12_lot_165
theorem dX12_lot_167 : decode cX12_lot 167 = .ok (.iload_n 3, 1) := dc_29 aX12_lot_167
theorem dX12_lot_168 : decode cX12_lot 168 = .ok (.ifCond .ne 8, 3) := dc_154 (a0 := 0) (b0 := 8) aX12_lot_168 (by decide)
theorem dX12_lot_171 : decode cX12_lot 171 = .ok (.iload 9, 2) := dc_21 (a0 := 9) aX12_lot_171
theorem dX12_lot_173 : decode cX12_lot 173 = .ok (.goto 17, 3) := dc_167 (a0 := 0) (b0 := 17) aX12_lot_173 (by decide)
theorem dX12_lot_176 : decode cX12_lot 176 = .ok (.aload_n 0, 1) := dc_42 aX12_lot_176
theorem dX12_lot_177 : decode cX12_lot 177 = .ok (.aload_n 0, 1) := dc_42 aX12_lot_177
theorem dX12_lot_178 : decode cX12_lot 178 = .ok (.iload 4, 2) := dc_21 (a0 := 4) aX12_lot_178
theorem dX12_lot_180 : decode cX12_lot 180 = .ok (.bipush 8, 2) := dc_16 (a0 := 8) aX12_lot_180 (by decide)
theorem dX12_lot_182 : decode cX12_lot 182 = .ok (.invokevirtual 254, 3) := dc_182 (a0 := 0) (b0 := 254) aX12_lot_182
theorem dX12_lot_185 : decode cX12_lot 185 = .ok (.iload 9, 2) := dc_21 (a0 := 9) aX12_lot_185
theorem dX12_lot_187 : decode cX12_lot 187 = .ok (.invokevirtual 283, 3) := dc_182 (a0 := 1) (b0 := 27) aX12_lot_187
theorem dX12_lot_190 : decode cX12_lot 190 = .ok (.ireturn, 1) := dc_172 aX12_lot_190
set_option maxRecDepth 20000 in
theorem ggX12_priceOf_X12_costOf : GoodIn wsX12_priceOf wsX12_costOf := goodIn_k _ [[5, 0, 0, 0], [4, 4, 0, 0, 0, 0, 0, 0, 0, 0, 0, 0, 0, 0, 0, 0, 0, 0, 0, 0, 0, 0, 0, 0, 0, 0, 0, 0, 0, 0, 0, 0, 0, 0, 0, 0, 0, 0, 0, 0, 0, 0, 0, 0, 0, 0, 0, 0, 0, 0, 0, 0, 0, 0, 0, 0, 0, 0, 0, 0, 0, 0, 0, 0, 0, 0, 0]] (by rfl) (by decide +kernel)
set_option maxRecDepth 20000 in
theorem gX12_priceOf_X12_costOf : GoodIn wsX12_priceOf (wsV RX12 283 RX12 yX12_costOf wsX12_costOf) := goodIn_app (goodIn_of _ (by decide +kernel)) ggX12_priceOf_X12_costOf
