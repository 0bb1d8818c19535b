theorem dX12_mixed_6 : decode cX12_mixed 6 = .ok (.ifCond .eq 13, 3) := dc_153 (a0 := 0) (b0 := 13) (dc_nn (k := 6) aX12_mixed_0 rfl) (by decide)
theorem dX12_mixed_9 : decode cX12_mixed 9 = .ok (.aload_n 0, 1) := dc_42 (dc_nn (k := 9) aX12_mixed_0 rfl)
theorem dX12_mixed_10 : decode cX12_mixed 10 = .ok (.iload_n 3, 1) := dc_29 (dc_nn (k := 10) aX12_mixed_0 rfl)
theorem dX12_mixed_11 : decode cX12_mixed 11 = .ok (.iload 4, 2) := dc_21 (a0 := 4) (dc_nn (k := 11) aX12_mixed_0 rfl)
theorem dX12_mixed_13 : decode cX12_mixed 13 = .ok (.invokevirtual 291, 3) := dc_182 (a0 := 1) (b0 := 35) (dc_nn (k := 13) aX12_mixed_0 rfl)
theorem dX12_mixed_16 : decode cX12_mixed 16 = .ok (.ifCond .ne 5, 3) := dc_154 (a0 := 0) (b0 := 5) (dc_nn (k := 16) aX12_mixed_0 rfl) (by decide)
theorem dX12_mixed_19 : decode cX12_mixed 19 = .ok (.iconst 0, 1) := dc_3 (dc_nn (k := 19) aX12_mixed_0 rfl)
theorem dX12_mixed_20 : decode cX12_mixed 20 = .ok (.ireturn, 1) := dc_172 (dc_nn (k := 20) aX12_mixed_0 rfl)
theorem dX12_mixed_21 : decode cX12_mixed 21 = .ok (.iconst 0, 1) := dc_3 (dc_nn (k := 21) aX12_mixed_0 rfl)
theorem dX12_mixed_22 : decode cX12_mixed 22 = .ok (.istore 5, 2) := dc_54 (a0 := 5) (dc_nn (k := 22) aX12_mixed_0 rfl)
theorem dX12_mixed_24 : decode cX12_mixed 24 = .ok (.iload_n 3, 1) := dc_29 (dc_nn (k := 24) aX12_mixed_0 rfl)
theorem dX12_mixed_25 : decode cX12_mixed 25 = .ok (.istore 6, 2) := dc_54 (a0 := 6) (dc_nn (k := 25) aX12_mixed_0 rfl)
theorem dX12_mixed_27 : decode cX12_mixed 27 = .ok (.iload 6, 2) := dc_21 (a0 := 6) (dc_nn (k := 27) aX12_mixed_0 rfl)
theorem dX12_mixed_29 : decode cX12_mixed 29 = .ok (.iload_n 3, 1) := dc_29 (dc_nn (k := 29) aX12_mixed_0 rfl)
theorem dX12_mixed_30 : decode cX12_mixed 30 = .ok (.iload 4, 2) := dc_21 (a0 := 4) (dc_nn (k := 30) aX12_mixed_0 rfl)
theorem dX12_mixed_32 : decode cX12_mixed 32 = .ok (.iadd, 1) := dc_96 (dc_nn (k := 32) aX12_mixed_0 rfl)
theorem dX12_mixed_33 : decode cX12_mixed 33 = .ok (.if_icmp .gt 27, 3) := dc_163 (a0 := 0) (b0 := 27) (dc_nn (k := 33) aX12_mixed_0 rfl) (by decide)
theorem dX12_mixed_36 : decode cX12_mixed 36 = .ok (.aload_n 0, 1) := dc_42 (dc_nn (k := 36) aX12_mixed_0 rfl)
theorem dX12_mixed_37 : decode cX12_mixed 37 = .ok (.bipush 20, 2) := dc_16 (a0 := 20) (dc_nn (k := 37) aX12_mixed_0 rfl) (by decide)
theorem dX12_mixed_39 : decode cX12_mixed 39 = .ok (.iload_n 1, 1) := dc_27 (dc_nn (k := 39) aX12_mixed_0 rfl)
theorem dX12_mixed_40 : decode cX12_mixed 40 = .ok (.imul, 1) := dc_104 aX12_mixed_40
theorem dX12_mixed_41 : decode cX12_mixed 41 = .ok (.iload_n 2, 1) := dc_28 (dc_nn (k := 1) aX12_mixed_40 rfl)
theorem dX12_mixed_42 : decode cX12_mixed 42 = .ok (.iadd, 1) := dc_96 (dc_nn (k := 2) aX12_mixed_40 rfl)
theorem dX12_mixed_43 : decode cX12_mixed 43 = .ok (.iload 6, 2) := dc_21 (a0 := 6) (dc_nn (k := 3) aX12_mixed_40 rfl)
theorem dX12_mixed_45 : decode cX12_mixed 45 = .ok (.invokevirtual 294, 3) := dc_182 (a0 := 1) (b0 := 38) (dc_nn (k := 5) aX12_mixed_40 rfl)
theorem dX12_mixed_48 : decode cX12_mixed 48 = .ok (.ifCond .eq 6, 3) := dc_153 (a0 := 0) (b0 := 6) (dc_nn (k := 8) aX12_mixed_40 rfl) (by decide)
theorem dX12_mixed_51 : decode cX12_mixed 51 = .ok (.iinc 5 1, 3) := dc_132 (a0 := 5) (a1 := 1) (dc_nn (k := 11) aX12_mixed_40 rfl) (by decide)
theorem dX12_mixed_54 : decode cX12_mixed 54 = .ok (.iinc 6 1, 3) := dc_132 (a0 := 6) (a1 := 1) (dc_nn (k := 14) aX12_mixed_40 rfl) (by decide)
theorem dX12_mixed_57 : decode cX12_mixed 57 = .ok (.goto (-30), 3) := dc_167 (a0 := 255) (b0 := 226) (dc_nn (k := 17) aX12_mixed_40 rfl) (by decide)
theorem dX12_mixed_60 : decode cX12_mixed 60 = .ok (.iload 5, 2) := dc_21 (a0 := 5) (dc_nn (k := 20) aX12_mixed_40 rfl)
theorem dX12_mixed_62 : decode cX12_mixed 62 = .ok (.ireturn, 1) := dc_172 (dc_nn (k := 22) aX12_mixed_40 rfl)
set_option maxRecDepth 20000 in
theorem ggX12_isMixed_X12_at : GoodIn wsX12_isMixed wsX12_at := goodIn_k _ [[5, 0, 14, 0, 0, 0, 0, 0, 0, 0, 0, 0, 0, 0, 0, 0, 0, 0, 0, 0, 0, 0, 0, 0, 0, 0, 0, 0, 0, 0, 0, 0, 0, 0, 0, 0, 0, 0, 0, 0, 0, 0, 0, 0, 0, 0, 0, 0, 0, 0, 0, 0, 0, 0, 0, 0, 0, 0, 0, 0]] (by rfl) (by decide +kernel)
set_option maxRecDepth 20000 in
theorem gX12_isMixed_X12_at : GoodIn wsX12_isMixed (wsV RX12 254 RX12 yX12_at wsX12_at) := goodIn_app (goodIn_k _ [[1, 0, 0, 0]] (by rfl) (gw_V _ _ _ _)) ggX12_isMixed_X12_at
set_option maxRecDepth 20000 in
theorem ggX12_isMixed_X12_placeOn : GoodIn wsX12_isMixed wsX12_placeOn := goodIn_k _ [[10, 0, 0, 0, 0, 0, 0, 0, 0, 0], [4, 15, 0, 0, 0, 0, 0, 0, 0, 0, 0, 0, 0, 0, 0, 0, 0, 0, 0, 0, 0, 0, 0, 0, 0, 0, 0, 0, 0, 0, 0, 0, 0, 0, 0, 0, 0, 0, 0, 0, 0, 0, 0, 0, 0, 0, 0, 0, 0, 0, 0, 0, 0, 0, 0, 0, 0, 0, 0, 0]] (by rfl) (by decide +kernel)
set_option maxRecDepth 20000 in
theorem gX12_isMixed_X12_placeOn : GoodIn wsX12_isMixed (wsV RX12 274 RX12 yX12_placeOn wsX12_placeOn) := goodIn_app (goodIn_k _ [[7, 0, 0], [4]] (by rfl) (gw_V _ _ _ _)) ggX12_isMixed_X12_placeOn
noncomputable def sX12_isMixed_121 : List Nat := 172 :: []
noncomputable def sX12_isMixed_81 : List Nat := 167 :: 255 :: 216 :: 29 :: 21 :: 6 :: 126 :: 62 :: 21 :: 6 :: 153 :: 0 :: 7 :: 4 :: 167 :: 0 :: 4 :: 3 :: 54 :: 4 :: 132 :: 5 :: 1 :: 167 :: 255 :: 161 :: 21 :: 4 :: 153 :: 0 :: 11 :: 29 :: 154 :: 0 :: 7 :: 4 :: 167 :: 0 :: 4 :: 3 :: sX12_isMixed_121
noncomputable def sX12_isMixed_41 : List Nat := 21 :: 7 :: 7 :: 162 :: 0 :: 40 :: 42 :: 21 :: 7 :: 21 :: 5 :: 28 :: 182 :: 1 :: 18 :: 16 :: 60 :: 108 :: 42 :: 27 :: 21 :: 5 :: 182 :: 0 :: 254 :: 160 :: 0 :: 12 :: 21 :: 6 :: 4 :: 21 :: 7 :: 120 :: 128 :: 54 :: 6 :: 132 :: 7 :: 1 :: sX12_isMixed_81
noncomputable def sX12_isMixed_0 : List Nat := 16 :: 15 :: 62 :: 4 :: 54 :: 4 :: 3 :: 54 :: 5 :: 21 :: 5 :: 16 :: 7 :: 162 :: 0 :: 94 :: 21 :: 4 :: 153 :: 0 :: 89 :: 42 :: 27 :: 21 :: 5 :: 182 :: 0 :: 254 :: 2 :: 160 :: 0 :: 6 :: 167 :: 0 :: 69 :: 3 :: 54 :: 6 :: 3 :: 54 :: 7 :: sX12_isMixed_41
theorem aX12_isMixed_0 : dc_at cX12_isMixed 0 sX12_isMixed_0 := dc_base (by decide +kernel)
theorem aX12_isMixed_41 : dc_at cX12_isMixed 41 sX12_isMixed_41 := dc_nn (k := 41) aX12_isMixed_0 rfl
theorem aX12_isMixed_81 : dc_at cX12_isMixed 81 sX12_isMixed_81 := dc_nn (k := 40) aX12_isMixed_41 rfl
theorem aX12_isMixed_121 : dc_at cX12_isMixed 121 sX12_isMixed_121 := dc_nn (k := 40) aX12_isMixed_81 rfl
theorem dX12_isMixed_0 : decode cX12_isMixed 0 = .ok (.bipush 15, 2) := dc_16 (a0 := 15) aX12_isMixed_0 (by decide)
theorem dX12_isMixed_2 : decode cX12_isMixed 2 = .ok (.istore_n 3, 1) := dc_62 (dc_nn (k := 2) aX12_isMixed_0 rfl)
theorem dX12_isMixed_3 : decode cX12_isMixed 3 = .ok (.iconst 1, 1) := dc_4 (dc_nn (k := 3) aX12_isMixed_0 rfl)
theorem dX12_isMixed_4 : decode cX12_isMixed 4 = .ok (.istore 4, 2) := dc_54 (a0 := 4) (dc_nn (k := 4) aX12_isMixed_0 rfl)
theorem dX12_isMixed_6 : decode cX12_isMixed 6 = .ok (.iconst 0, 1) := dc_3 (dc_nn (k := 6) aX12_isMixed_0 rfl)
theorem dX12_isMixed_7 : decode cX12_isMixed 7 = .ok (.istore 5, 2) := dc_54 (a0 := 5) (dc_nn (k := 7) aX12_isMixed_0 rfl)
theorem dX12_isMixed_9 : decode cX12_isMixed 9 = .ok (.iload 5, 2) := dc_21 (a0 := 5) (dc_nn (k := 9) aX12_isMixed_0 rfl)
theorem dX12_isMixed_11 : decode cX12_isMixed 11 = .ok (.bipush 7, 2) := dc_16 (a0 := 7) (dc_nn (k := 11) aX12_isMixed_0 rfl) (by decide)
theorem dX12_isMixed_13 : decode cX12_isMixed 13 = .ok (.if_icmp .ge 94, 3) := dc_162 (a0 := 0) (b0 := 94) (dc_nn (k := 13) aX12_isMixed_0 rfl) (by decide)
theorem dX12_isMixed_16 : decode cX12_isMixed 16 = .ok (.iload 4, 2) := dc_21 (a0 := 4) (dc_nn (k := 16) aX12_isMixed_0 rfl)
theorem dX12_isMixed_18 : decode cX12_isMixed 18 = .ok (.ifCond .eq 89, 3) := dc_153 (a0 := 0) (b0 := 89) (dc_nn (k := 18) aX12_isMixed_0 rfl) (by decide)
theorem dX12_isMixed_21 : decode cX12_isMixed 21 = .ok (.aload_n 0, 1) := dc_42 (dc_nn (k := 21) aX12_isMixed_0 rfl)
theorem dX12_isMixed_22 : decode cX12_isMixed 22 = .ok (.iload_n 1, 1) := dc_27 (dc_nn (k := 22) aX12_isMixed_0 rfl)
theorem dX12_isMixed_23 : decode cX12_isMixed 23 = .ok (.iload 5, 2) := dc_21 (a0 := 5) (dc_nn (k := 23) aX12_isMixed_0 rfl)
theorem dX12_isMixed_25 : decode cX12_isMixed 25 = .ok (.invokevirtual 254, 3) := dc_182 (a0 := 0) (b0 := 254) (dc_nn (k := 25) aX12_isMixed_0 rfl)
theorem dX12_isMixed_28 : decode cX12_isMixed 28 = .ok (.iconst (-1), 1) := dc_2 (dc_nn (k := 28) aX12_isMixed_0 rfl)
theorem dX12_isMixed_29 : decode cX12_isMixed 29 = .ok (.if_icmp .ne 6, 3) := dc_160 (a0 := 0) (b0 := 6) (dc_nn (k := 29) aX12_isMixed_0 rfl) (by decide)
theorem dX12_isMixed_32 : decode cX12_isMixed 32 = .ok (.goto 69, 3) := dc_167 (a0 := 0) (b0 := 69) (dc_nn (k := 32) aX12_isMixed_0 rfl) (by decide)
theorem dX12_isMixed_35 : decode cX12_isMixed 35 = .ok (.iconst 0, 1) := dc_3 (dc_nn (k := 35) aX12_isMixed_0 rfl)
theorem dX12_isMixed_36 : decode cX12_isMixed 36 = .ok (.istore 6, 2) := dc_54 (a0 := 6) (dc_nn (k := 36) aX12_isMixed_0 rfl)
theorem dX12_isMixed_38 : decode cX12_isMixed 38 = .ok (.iconst 0, 1) := dc_3 (dc_nn (k := 38) aX12_isMixed_0 rfl)
theorem dX12_isMixed_39 : decode cX12_isMixed 39 = .ok (.istore 7, 2) := dc_54 (a0 := 7) (dc_nn (k := 39) aX12_isMixed_0 rfl)
theorem dX12_isMixed_41 : decode cX12_isMixed 41 = .ok (.iload 7, 2) := dc_21 (a0 := 7) aX12_isMixed_41
theorem dX12_isMixed_43 : decode cX12_isMixed 43 = .ok (.iconst 4, 1) := dc_7 (dc_nn (k := 2) aX12_isMixed_41 rfl)
theorem dX12_isMixed_44 : decode cX12_isMixed 44 = .ok (.if_icmp .ge 40, 3) := dc_162 (a0 := 0) (b0 := 40) (dc_nn (k := 3) aX12_isMixed_41 rfl) (by decide)
theorem dX12_isMixed_47 : decode cX12_isMixed 47 = .ok (.aload_n 0, 1) := dc_42 (dc_nn (k := 6) aX12_isMixed_41 rfl)
theorem dX12_isMixed_48 : decode cX12_isMixed 48 = .ok (.iload 7, 2) := dc_21 (a0 := 7) (dc_nn (k := 7) aX12_isMixed_41 rfl)
theorem dX12_isMixed_50 : decode cX12_isMixed 50 = .ok (.iload 5, 2) := dc_21 (a0 := 5) (dc_nn (k := 9) aX12_isMixed_41 rfl)
theorem dX12_isMixed_52 : decode cX12_isMixed 52 = .ok (.iload_n 2, 1) := dc_28 (dc_nn (k := 11) aX12_isMixed_41 rfl)
theorem dX12_isMixed_53 : decode cX12_isMixed 53 = .ok (.invokevirtual 274, 3) := dc_182 (a0 := 1) (b0 := 18) (dc_nn (k := 12) aX12_isMixed_41 rfl)
theorem dX12_isMixed_56 : decode cX12_isMixed 56 = .ok (.bipush 60, 2) := dc_16 (a0 := 60) (dc_nn (k := 15) aX12_isMixed_41 rfl) (by decide)
theorem dX12_isMixed_58 : decode cX12_isMixed 58 = .ok (.idiv, 1) := dc_108 (dc_nn (k := 17) aX12_isMixed_41 rfl)
theorem dX12_isMixed_59 : decode cX12_isMixed 59 = .ok (.aload_n 0, 1) := dc_42 (dc_nn (k := 18) aX12_isMixed_41 rfl)
theorem dX12_isMixed_60 : decode cX12_isMixed 60 = .ok (.iload_n 1, 1) := dc_27 (dc_nn (k := 19) aX12_isMixed_41 rfl)
theorem dX12_isMixed_61 : decode cX12_isMixed 61 = .ok (.iload 5, 2) := dc_21 (a0 := 5) (dc_nn (k := 20) aX12_isMixed_41 rfl)
theorem dX12_isMixed_63 : decode cX12_isMixed 63 = .ok (.invokevirtual 254, 3) := dc_182 (a0 := 0) (b0 := 254) (dc_nn (k := 22) aX12_isMixed_41 rfl)
theorem dX12_isMixed_66 : decode cX12_isMixed 66 = .ok (.if_icmp .ne 12, 3) := dc_160 (a0 := 0) (b0 := 12) (dc_nn (k := 25) aX12_isMixed_41 rfl) (by decide)
theorem dX12_isMixed_69 : decode cX12_isMixed 69 = .ok (.iload 6, 2) := dc_21 (a0 := 6) (dc_nn (k := 28) aX12_isMixed_41 rfl)
theorem dX12_isMixed_71 : decode cX12_isMixed 71 = .ok (.iconst 1, 1) := dc_4 (dc_nn (k := 30) aX12_isMixed_41 rfl)
theorem dX12_isMixed_72 : decode cX12_isMixed 72 = .ok (.iload 7, 2) := dc_21 (a0 := 7) (dc_nn (k := 31) aX12_isMixed_41 rfl)
theorem dX12_isMixed_74 : decode cX12_isMixed 74 = .ok (.ishl, 1) := dc_120 (dc_nn (k := 33) aX12_isMixed_41 rfl)
theorem dX12_isMixed_75 : decode cX12_isMixed 75 = .ok (.ior, 1) := dc_128 (dc_nn (k := 34) aX12_isMixed_41 rfl)
theorem dX12_isMixed_76 : decode cX12_isMixed 76 = .ok (.istore 6, 2) := dc_54 (a0 := 6) (dc_nn (k := 35) aX12_isMixed_41 rfl)
theorem dX12_isMixed_78 : decode cX12_isMixed 78 = .ok (.iinc 7 1, 3) := dc_132 (a0 := 7) (a1 := 1) (dc_nn (k := 37) aX12_isMixed_41 rfl) (by decide)
theorem dX12_isMixed_81 : decode cX12_isMixed 81 = .ok (.goto (-40), 3) := dc_167 (a0 := 255) (b0 := 216) aX12_isMixed_81 (by decide)
theorem dX12_isMixed_84 : decode cX12_isMixed 84 = .ok (.iload_n 3, 1) := dc_29 (dc_nn (k := 3) aX12_isMixed_81 rfl)
theorem dX12_isMixed_85 : decode cX12_isMixed 85 = .ok (.iload 6, 2) := dc_21 (a0 := 6) (dc_nn (k := 4) aX12_isMixed_81 rfl)
theorem dX12_isMixed_87 : decode cX12_isMixed 87 = .ok (.iand, 1) := dc_126 (dc_nn (k := 6) aX12_isMixed_81 rfl)
theorem dX12_isMixed_88 : decode cX12_isMixed 88 = .ok (.istore_n 3, 1) := dc_62 (dc_nn (k := 7) aX12_isMixed_81 rfl)
theorem dX12_isMixed_89 : decode cX12_isMixed 89 = .ok (.iload 6, 2) := dc_21 (a0 := 6) (dc_nn (k := 8) aX12_isMixed_81 rfl)
theorem dX12_isMixed_91 : decode cX12_isMixed 91 = .ok (.ifCond .eq 7, 3) := dc_153 (a0 := 0) (b0 := 7) (dc_nn (k := 10) aX12_isMixed_81 rfl) (by decide)
theorem dX12_isMixed_94 : decode cX12_isMixed 94 = .ok (.iconst 1, 1) := dc_4 (dc_nn (k := 13) aX12_isMixed_81 rfl)
theorem dX12_isMixed_95 : decode cX12_isMixed 95 = .ok (.goto 4, 3) := dc_167 (a0 := 0) (b0 := 4) (dc_nn (k := 14) aX12_isMixed_81 rfl) (by decide)
theorem dX12_isMixed_98 : decode cX12_isMixed 98 = .ok (.iconst 0, 1) := dc_3 (dc_nn (k := 17) aX12_isMixed_81 rfl)
theorem dX12_isMixed_99 : decode cX12_isMixed 99 = .ok (.istore 4, 2) := dc_54 (a0 := 4) (dc_nn (k := 18) aX12_isMixed_81 rfl)
theorem dX12_isMixed_101 : decode cX12_isMixed 101 = .ok (.iinc 5 1, 3) := dc_132 (a0 := 5) (a1 := 1) (dc_nn (k := 20) aX12_isMixed_81 rfl) (by decide)
theorem dX12_isMixed_104 : decode cX12_isMixed 104 = .ok (.goto (-95), 3) := dc_167 (a0 := 255) (b0 := 161) (dc_nn (k := 23) aX12_isMixed_81 rfl) (by decide)
theorem dX12_isMixed_107 : decode cX12_isMixed 107 = .ok (.iload 4, 2) := dc_21 (a0 := 4) (dc_nn (k := 26) aX12_isMixed_81 rfl)
theorem dX12_isMixed_109 : decode cX12_isMixed 109 = .ok (.ifCond .eq 11, 3) := dc_153 (a0 := 0) (b0 := 11) (dc_nn (k := 28) aX12_isMixed_81 rfl) (by decide)
theorem dX12_isMixed_112 : decode cX12_isMixed 112 = .ok (.iload_n 3, 1) := dc_29 (dc_nn (k := 31) aX12_isMixed_81 rfl)
theorem dX12_isMixed_113 : decode cX12_isMixed 113 = .ok (.ifCond .ne 7, 3) := dc_154 (a0 := 0) (b0 := 7) (dc_nn (k := 32) aX12_isMixed_81 rfl) (by decide)
theorem dX12_isMixed_116 : decode cX12_isMixed 116 = .ok (.iconst 1, 1) := dc_4 (dc_nn (k := 35) aX12_isMixed_81 rfl)
theorem dX12_isMixed_117 : decode cX12_isMixed 117 = .ok (.goto 4, 3) := dc_167 (a0 := 0) (b0 := 4) (dc_nn (k := 36) aX12_isMixed_81 rfl) (by decide)
theorem dX12_isMixed_120 : decode cX12_isMixed 120 = .ok (.iconst 0, 1) := dc_3 (dc_nn (k := 39) aX12_isMixed_81 rfl)
theorem dX12_isMixed_121 : decode cX12_isMixed 121 = .ok (.ireturn, 1) := dc_172 aX12_isMixed_121
set_option maxRecDepth 20000 in
theorem ggX12_seek_X12_isWheel : GoodIn wsX12_seek wsX12_isWheel := goodIn_k _ [[8, 0, 0, 0, 0], [7, 5, 3, 0, 0, 0, 0, 0, 0, 0, 0, 0, 0, 0, 0, 0, 0, 0, 0, 0, 0, 0, 0, 0, 0, 0, 0, 0, 0, 0, 0, 0, 0, 0, 0, 0, 0, 0, 0, 0, 0, 0, 0, 0, 0, 0, 0, 0, 0, 0, 0, 0, 0, 0, 0, 0, 0, 0, 0, 0]] (by rfl) (by decide +kernel)
set_option maxRecDepth 20000 in
theorem gX12_seek_X12_isWheel : GoodIn wsX12_seek (wsV RX12 247 RX12 yX12_isWheel wsX12_isWheel) := goodIn_app (goodIn_k _ [[4, 0, 0, 0]] (by rfl) (gw_V _ _ _ _)) ggX12_seek_X12_isWheel
set_option maxRecDepth 20000 in
theorem ggX12_seek_X12_within : GoodIn wsX12_seek wsX12_within := goodIn_k _ [[16]] (by rfl) (by decide +kernel)
set_option maxRecDepth 20000 in
theorem gX12_seek_X12_within : GoodIn wsX12_seek (va_wsS RX12 270 yX12_within wsX12_within) := goodIn_app (goodIn_k _ [[14, 0], [7]] (by rfl) (gw_S _ _ _ _)) ggX12_seek_X12_within
set_option maxRecDepth 20000 in
theorem ggX12_seek_X12_right : GoodIn wsX12_seek wsX12_right := goodIn_k _ [[13], [9, 7, 0, 0, 0, 0, 0, 0, 0, 0, 0, 0, 0, 0, 0, 0, 0, 0, 0, 0, 0, 0, 0, 0, 0, 0, 0, 0, 0, 0, 0, 0, 0, 0, 0, 0, 0, 0, 0, 0, 0, 0, 0, 0, 0, 0, 0, 0, 0, 0, 0, 0, 0, 0, 0, 0, 0, 0, 0]] (by rfl) (by decide +kernel)
set_option maxRecDepth 20000 in
theorem gX12_seek_X12_right : GoodIn wsX12_seek (wsV RX12 209 RX12 yX12_right wsX12_right) := goodIn_app (goodIn_k _ [[10, 0, 0], [7]] (by rfl) (gw_V _ _ _ _)) ggX12_seek_X12_right
noncomputable def sX12_seek_82 : List Nat := 42 :: 180 :: 0 :: 71 :: 7 :: 3 :: 79 :: 42 :: 180 :: 0 :: 71 :: 8 :: 2 :: 79 :: 42 :: 180 :: 0 :: 71 :: 16 :: 6 :: 2 :: 79 :: 177 :: []
noncomputable def sX12_seek_42 : List Nat := 177 :: 42 :: 4 :: 181 :: 1 :: 41 :: 42 :: 180 :: 0 :: 71 :: 3 :: 16 :: 20 :: 27 :: 104 :: 28 :: 96 :: 79 :: 42 :: 180 :: 0 :: 71 :: 4 :: 29 :: 79 :: 42 :: 180 :: 0 :: 71 :: 5 :: 21 :: 4 :: 79 :: 42 :: 180 :: 0 :: 71 :: 6 :: 2 :: 79 :: sX12_seek_82
noncomputable def sX12_seek_0 : List Nat := 42 :: 27 :: 28 :: 182 :: 0 :: 247 :: 153 :: 0 :: 36 :: 42 :: 29 :: 3 :: 6 :: 184 :: 1 :: 14 :: 153 :: 0 :: 18 :: 21 :: 4 :: 3 :: 18 :: 218 :: 184 :: 1 :: 14 :: 153 :: 0 :: 7 :: 4 :: 167 :: 0 :: 4 :: 3 :: 4 :: 182 :: 0 :: 209 :: 154 :: 0 :: 4 :: sX12_seek_42
theorem aX12_seek_0 : dc_at cX12_seek 0 sX12_seek_0 := dc_base (by decide +kernel)
theorem aX12_seek_42 : dc_at cX12_seek 42 sX12_seek_42 := dc_nn (k := 42) aX12_seek_0 rfl
theorem aX12_seek_82 : dc_at cX12_seek 82 sX12_seek_82 := dc_nn (k := 40) aX12_seek_42 rfl
theorem dX12_seek_0 : decode cX12_seek 0 = .ok (.aload_n 0, 1) := dc_42 aX12_seek_0
theorem dX12_seek_1 : decode cX12_seek 1 = .ok (.iload_n 1, 1) := dc_27 (dc_nn (k := 1) aX12_seek_0 rfl)
theorem dX12_seek_2 : decode cX12_seek 2 = .ok (.iload_n 2, 1) := dc_28 (dc_nn (k := 2) aX12_seek_0 rfl)
theorem dX12_seek_3 : decode cX12_seek 3 = .ok (.invokevirtual 247, 3) := dc_182 (a0 := 0) (b0 := 247) (dc_nn (k := 3) aX12_seek_0 rfl)
theorem dX12_seek_6 : decode cX12_seek 6 = .ok (.ifCond .eq 36, 3) := dc_153 (a0 := 0) (b0 := 36) (dc_nn (k := 6) aX12_seek_0 rfl) (by decide)
theorem dX12_seek_9 : decode cX12_seek 9 = .ok (.aload_n 0, 1) := dc_42 (dc_nn (k := 9) aX12_seek_0 rfl)
theorem dX12_seek_10 : decode cX12_seek 10 = .ok (.iload_n 3, 1) := dc_29 (dc_nn (k := 10) aX12_seek_0 rfl)
theorem dX12_seek_11 : decode cX12_seek 11 = .ok (.iconst 0, 1) := dc_3 (dc_nn (k := 11) aX12_seek_0 rfl)
theorem dX12_seek_12 : decode cX12_seek 12 = .ok (.iconst 3, 1) := dc_6 (dc_nn (k := 12) aX12_seek_0 rfl)
theorem dX12_seek_13 : decode cX12_seek 13 = .ok (.invokestatic 270, 3) := dc_184 (a0 := 1) (b0 := 14) (dc_nn (k := 13) aX12_seek_0 rfl)
theorem dX12_seek_16 : decode cX12_seek 16 = .ok (.ifCond .eq 18, 3) := dc_153 (a0 := 0) (b0 := 18) (dc_nn (k := 16) aX12_seek_0 rfl) (by decide)
theorem dX12_seek_19 : decode cX12_seek 19 = .ok (.iload 4, 2) := dc_21 (a0 := 4) (dc_nn (k := 19) aX12_seek_0 rfl)
theorem dX12_seek_21 : decode cX12_seek 21 = .ok (.iconst 0, 1) := dc_3 (dc_nn (k := 21) aX12_seek_0 rfl)
theorem dX12_seek_22 : decode cX12_seek 22 = .ok (.ldc 218, 2) := dc_18 (a0 := 218) (dc_nn (k := 22) aX12_seek_0 rfl)
theorem dX12_seek_24 : decode cX12_seek 24 = .ok (.invokestatic 270, 3) := dc_184 (a0 := 1) (b0 := 14) (dc_nn (k := 24) aX12_seek_0 rfl)
theorem dX12_seek_27 : decode cX12_seek 27 = .ok (.ifCond .eq 7, 3) := dc_153 (a0 := 0) (b0 := 7) (dc_nn (k := 27) aX12_seek_0 rfl) (by decide)
theorem dX12_seek_30 : decode cX12_seek 30 = .ok (.iconst 1, 1) := dc_4 (dc_nn (k := 30) aX12_seek_0 rfl)
theorem dX12_seek_31 : decode cX12_seek 31 = .ok (.goto 4, 3) := dc_167 (a0 := 0) (b0 := 4) (dc_nn (k := 31) aX12_seek_0 rfl) (by decide)
theorem dX12_seek_34 : decode cX12_seek 34 = .ok (.iconst 0, 1) := dc_3 (dc_nn (k := 34) aX12_seek_0 rfl)
theorem dX12_seek_35 : decode cX12_seek 35 = .ok (.iconst 1, 1) := dc_4 (dc_nn (k := 35) aX12_seek_0 rfl)
theorem dX12_seek_36 : decode cX12_seek 36 = .ok (.invokevirtual 209, 3) := dc_182 (a0 := 0) (b0 := 209) (dc_nn (k := 36) aX12_seek_0 rfl)
theorem dX12_seek_39 : decode cX12_seek 39 = .ok (.ifCond .ne 4, 3) := dc_154 (a0 := 0) (b0 := 4) (dc_nn (k := 39) aX12_seek_0 rfl) (by decide)
theorem dX12_seek_42 : decode cX12_seek 42 = .ok (.return_, 1) := dc_177 aX12_seek_42
theorem dX12_seek_43 : decode cX12_seek 43 = .ok (.aload_n 0, 1) := dc_42 (dc_nn (k := 1) aX12_seek_42 rfl)
theorem dX12_seek_44 : decode cX12_seek 44 = .ok (.iconst 1, 1) := dc_4 (dc_nn (k := 2) aX12_seek_42 rfl)
theorem dX12_seek_45 : decode cX12_seek 45 = .ok (.putfield 297, 3) := dc_181 (a0 := 1) (b0 := 41) (dc_nn (k := 3) aX12_seek_42 rfl)
theorem dX12_seek_48 : decode cX12_seek 48 = .ok (.aload_n 0, 1) := dc_42 (dc_nn (k := 6) aX12_seek_42 rfl)
theorem dX12_seek_49 : decode cX12_seek 49 = .ok (.getfield 71, 3) := dc_180 (a0 := 0) (b0 := 71) (dc_nn (k := 7) aX12_seek_42 rfl)
theorem dX12_seek_52 : decode cX12_seek 52 = .ok (.iconst 0, 1) := dc_3 (dc_nn (k := 10) aX12_seek_42 rfl)
theorem dX12_seek_53 : decode cX12_seek 53 = .ok (.bipush 20, 2) := dc_16 (a0 := 20) (dc_nn (k := 11) aX12_seek_42 rfl) (by decide)
theorem dX12_seek_55 : decode cX12_seek 55 = .ok (.iload_n 1, 1) := dc_27 (dc_nn (k := 13) aX12_seek_42 rfl)
theorem dX12_seek_56 : decode cX12_seek 56 = .ok (.imul, 1) := dc_104 (dc_nn (k := 14) aX12_seek_42 rfl)
theorem dX12_seek_57 : decode cX12_seek 57 = .ok (.iload_n 2, 1) := dc_28 (dc_nn (k := 15) aX12_seek_42 rfl)
theorem dX12_seek_58 : decode cX12_seek 58 = .ok (.iadd, 1) := dc_96 (dc_nn (k := 16) aX12_seek_42 rfl)
theorem dX12_seek_59 : decode cX12_seek 59 = .ok (.iastore, 1) := dc_79 (dc_nn (k := 17) aX12_seek_42 rfl)
theorem dX12_seek_60 : decode cX12_seek 60 = .ok (.aload_n 0, 1) := dc_42 (dc_nn (k := 18) aX12_seek_42 rfl)
theorem dX12_seek_61 : decode cX12_seek 61 = .ok (.getfield 71, 3) := dc_180 (a0 := 0) (b0 := 71) (dc_nn (k := 19) aX12_seek_42 rfl)
theorem dX12_seek_64 : decode cX12_seek 64 = .ok (.iconst 1, 1) := dc_4 (dc_nn (k := 22) aX12_seek_42 rfl)
theorem dX12_seek_65 : decode cX12_seek 65 = .ok (.iload_n 3, 1) := dc_29 (dc_nn (k := 23) aX12_seek_42 rfl)
theorem dX12_seek_66 : decode cX12_seek 66 = .ok (.iastore, 1) := dc_79 (dc_nn (k := 24) aX12_seek_42 rfl)
theorem dX12_seek_67 : decode cX12_seek 67 = .ok (.aload_n 0, 1) := dc_42 (dc_nn (k := 25) aX12_seek_42 rfl)
theorem dX12_seek_68 : decode cX12_seek 68 = .ok (.getfield 71, 3) := dc_180 (a0 := 0) (b0 := 71) (dc_nn (k := 26) aX12_seek_42 rfl)
theorem dX12_seek_71 : decode cX12_seek 71 = .ok (.iconst 2, 1) := dc_5 (dc_nn (k := 29) aX12_seek_42 rfl)
theorem dX12_seek_72 : decode cX12_seek 72 = .ok (.iload 4, 2) := dc_21 (a0 := 4) (dc_nn (k := 30) aX12_seek_42 rfl)
theorem dX12_seek_74 : decode cX12_seek 74 = .ok (.iastore, 1) := dc_79 (dc_nn (k := 32) aX12_seek_42 rfl)
theorem dX12_seek_75 : decode cX12_seek 75 = .ok (.aload_n 0, 1) := dc_42 (dc_nn (k := 33) aX12_seek_42 rfl)
theorem dX12_seek_76 : decode cX12_seek 76 = .ok (.getfield 71, 3) := dc_180 (a0 := 0) (b0 := 71) (dc_nn (k := 34) aX12_seek_42 rfl)
theorem dX12_seek_79 : decode cX12_seek 79 = .ok (.iconst 3, 1) := dc_6 (dc_nn (k := 37) aX12_seek_42 rfl)
theorem dX12_seek_80 : decode cX12_seek 80 = .ok (.iconst (-1), 1) := dc_2 (dc_nn (k := 38) aX12_seek_42 rfl)
theorem dX12_seek_81 : decode cX12_seek 81 = .ok (.iastore, 1) := dc_79 (dc_nn (k := 39) aX12_seek_42 rfl)
theorem dX12_seek_82 : decode cX12_seek 82 = .ok (.aload_n 0, 1) := dc_42 aX12_seek_82
theorem dX12_seek_83 : decode cX12_seek 83 = .ok (.getfield 71, 3) := dc_180 (a0 := 0) (b0 := 71) (dc_nn (k := 1) aX12_seek_82 rfl)
theorem dX12_seek_86 : decode cX12_seek 86 = .ok (.iconst 4, 1) := dc_7 (dc_nn (k := 4) aX12_seek_82 rfl)
theorem dX12_seek_87 : decode cX12_seek 87 = .ok (.iconst 0, 1) := dc_3 (dc_nn (k := 5) aX12_seek_82 rfl)
theorem dX12_seek_88 : decode cX12_seek 88 = .ok (.iastore, 1) := dc_79 (dc_nn (k := 6) aX12_seek_82 rfl)
theorem dX12_seek_89 : decode cX12_seek 89 = .ok (.aload_n 0, 1) := dc_42 (dc_nn (k := 7) aX12_seek_82 rfl)
theorem dX12_seek_90 : decode cX12_seek 90 = .ok (.getfield 71, 3) := dc_180 (a0 := 0) (b0 := 71) (dc_nn (k := 8) aX12_seek_82 rfl)
theorem dX12_seek_93 : decode cX12_seek 93 = .ok (.iconst 5, 1) := dc_8 (dc_nn (k := 11) aX12_seek_82 rfl)
theorem dX12_seek_94 : decode cX12_seek 94 = .ok (.iconst (-1), 1) := dc_2 (dc_nn (k := 12) aX12_seek_82 rfl)
theorem dX12_seek_95 : decode cX12_seek 95 = .ok (.iastore, 1) := dc_79 (dc_nn (k := 13) aX12_seek_82 rfl)
theorem dX12_seek_96 : decode cX12_seek 96 = .ok (.aload_n 0, 1) := dc_42 (dc_nn (k := 14) aX12_seek_82 rfl)
theorem dX12_seek_97 : decode cX12_seek 97 = .ok (.getfield 71, 3) := dc_180 (a0 := 0) (b0 := 71) (dc_nn (k := 15) aX12_seek_82 rfl)
theorem dX12_seek_100 : decode cX12_seek 100 = .ok (.bipush 6, 2) := dc_16 (a0 := 6) (dc_nn (k := 18) aX12_seek_82 rfl) (by decide)
theorem dX12_seek_102 : decode cX12_seek 102 = .ok (.iconst (-1), 1) := dc_2 (dc_nn (k := 20) aX12_seek_82 rfl)
theorem dX12_seek_103 : decode cX12_seek 103 = .ok (.iastore, 1) := dc_79 (dc_nn (k := 21) aX12_seek_82 rfl)
theorem dX12_seek_104 : decode cX12_seek 104 = .ok (.return_, 1) := dc_177 (dc_nn (k := 22) aX12_seek_82 rfl)
set_option maxRecDepth 20000 in
theorem ggX12_on_X12_right : GoodIn wsX12_on wsX12_right := goodIn_k _ [[10], [1, 50, 0, 0, 0, 0, 0, 0, 0, 0, 0, 0, 0, 0, 0, 0, 0, 0, 0, 0, 0, 0, 0, 0, 0, 0, 0, 0, 0, 0, 0, 0, 0, 0, 0, 0, 0, 0, 0, 0, 0, 0, 0, 0, 0, 0, 0, 0, 0, 0, 0, 0, 0, 0, 0, 0, 0, 0, 0]] (by rfl) (by decide +kernel)
set_option maxRecDepth 20000 in
theorem gX12_on_X12_right : GoodIn wsX12_on (wsV RX12 209 RX12 yX12_right wsX12_right) := goodIn_app (goodIn_k _ [[6, 0, 0, 0]] (by rfl) (gw_V _ _ _ _)) ggX12_on_X12_right
set_option maxRecDepth 20000 in
theorem ggX12_on_X12_within : GoodIn wsX12_on wsX12_within := goodIn_k _ [[13]] (by rfl) (by decide +kernel)
set_option maxRecDepth 20000 in
theorem gX12_on_X12_within : GoodIn wsX12_on (va_wsS RX12 270 yX12_within wsX12_within) := goodIn_app (goodIn_k _ [[11, 0], [9]] (by rfl) (gw_S _ _ _ _)) ggX12_on_X12_within
set_option maxRecDepth 20000 in
theorem ggX12_on_X12_costOn : GoodIn wsX12_on wsX12_costOn := goodIn_k _ [[17, 0, 0, 0], [9, 11, 0, 0, 0, 0, 0, 0, 0, 0, 0, 0, 0, 0, 0, 0, 0, 0, 0, 0, 0, 0, 0, 0, 0, 0, 0, 0, 0, 0, 0, 0, 0, 0, 0, 0, 0, 0, 0, 0, 0, 0, 0, 0, 0, 0, 0, 0, 0, 0, 0, 0, 0, 0, 0, 0, 0, 0, 0, 0, 0, 0, 0, 0, 0, 0, 0, 0, 0, 0, 0, 0, 0, 0, 0, 0, 0, 0, 0, 0, 0, 0, 0, 0, 0, 0, 0, 0, 0, 0]] (by rfl) (by decide +kernel)
set_option maxRecDepth 20000 in
theorem gX12_on_X12_costOn : GoodIn wsX12_on (wsV RX12 286 RX12 yX12_costOn wsX12_costOn) := goodIn_app (goodIn_k _ [[14, 0, 0], [9]] (by rfl) (gw_V _ _ _ _)) ggX12_on_X12_costOn
noncomputable def sX12_on_166 : List Nat := 180 :: 0 :: 71 :: 16 :: 6 :: 29 :: 79 :: 42 :: 180 :: 0 :: 71 :: 5 :: 92 :: 46 :: 4 :: 96 :: 79 :: 132 :: 2 :: 1 :: 167 :: 255 :: 107 :: 28 :: 172 :: []
noncomputable def sX12_on_126 : List Nat := 6 :: 21 :: 4 :: 79 :: 42 :: 180 :: 0 :: 71 :: 7 :: 3 :: 79 :: 42 :: 180 :: 0 :: 71 :: 8 :: 29 :: 79 :: 21 :: 4 :: 42 :: 180 :: 0 :: 71 :: 6 :: 46 :: 160 :: 0 :: 21 :: 42 :: 180 :: 0 :: 71 :: 7 :: 92 :: 46 :: 4 :: 96 :: 79 :: 42 :: sX12_on_166
noncomputable def sX12_on_84 : List Nat := 17 :: 3 :: 231 :: 167 :: 0 :: 9 :: 42 :: 180 :: 0 :: 71 :: 6 :: 46 :: 182 :: 1 :: 30 :: 54 :: 4 :: 42 :: 180 :: 0 :: 71 :: 6 :: 46 :: 2 :: 159 :: 0 :: 14 :: 21 :: 4 :: 42 :: 180 :: 0 :: 71 :: 6 :: 46 :: 162 :: 0 :: 25 :: 42 :: 180 :: 0 :: 71 :: sX12_on_126
noncomputable def sX12_on_42 : List Nat := 42 :: 180 :: 0 :: 71 :: 5 :: 46 :: 18 :: 218 :: 163 :: 0 :: 139 :: 42 :: 180 :: 0 :: 71 :: 5 :: 46 :: 62 :: 42 :: 42 :: 180 :: 0 :: 71 :: 3 :: 46 :: 42 :: 180 :: 0 :: 71 :: 4 :: 46 :: 29 :: 42 :: 180 :: 0 :: 71 :: 6 :: 46 :: 2 :: 160 :: 0 :: 9 :: sX12_on_84
noncomputable def sX12_on_0 : List Nat := 42 :: 3 :: 181 :: 0 :: 129 :: 42 :: 42 :: 180 :: 1 :: 41 :: 4 :: 182 :: 0 :: 209 :: 153 :: 0 :: 19 :: 42 :: 27 :: 3 :: 19 :: 1 :: 34 :: 184 :: 1 :: 14 :: 5 :: 182 :: 0 :: 209 :: 154 :: 0 :: 5 :: 3 :: 172 :: 3 :: 61 :: 28 :: 27 :: 162 :: 0 :: 150 :: sX12_on_42
theorem aX12_on_0 : dc_at cX12_on 0 sX12_on_0 := dc_base (by decide +kernel)
theorem aX12_on_42 : dc_at cX12_on 42 sX12_on_42 := dc_nn (k := 42) aX12_on_0 rfl
theorem aX12_on_84 : dc_at cX12_on 84 sX12_on_84 := dc_nn (k := 42) aX12_on_42 rfl
theorem aX12_on_126 : dc_at cX12_on 126 sX12_on_126 := dc_nn (k := 42) aX12_on_84 rfl
theorem aX12_on_166 : dc_at cX12_on 166 sX12_on_166 := dc_nn (k := 40) aX12_on_126 rfl
theorem dX12_on_0 : decode cX12_on 0 = .ok (.aload_n 0, 1) := dc_42 aX12_on_0
theorem dX12_on_1 : decode cX12_on 1 = .ok (.iconst 0, 1) := dc_3 (dc_nn (k := 1) aX12_on_0 rfl)
theorem dX12_on_2 : decode cX12_on 2 = .ok (.putfield 129, 3) := dc_181 (a0 := 0) (b0 := 129) (dc_nn (k := 2) aX12_on_0 rfl)
theorem dX12_on_5 : decode cX12_on 5 = .ok (.aload_n 0, 1) := dc_42 (dc_nn (k := 5) aX12_on_0 rfl)
theorem dX12_on_6 : decode cX12_on 6 = .ok (.aload_n 0, 1) := dc_42 (dc_nn (k := 6) aX12_on_0 rfl)
theorem dX12_on_7 : decode cX12_on 7 = .ok (.getfield 297, 3) := dc_180 (a0 := 1) (b0 := 41) (dc_nn (k := 7) aX12_on_0 rfl)
theorem dX12_on_10 : decode cX12_on 10 = .ok (.iconst 1, 1) := dc_4 (dc_nn (k := 10) aX12_on_0 rfl)
theorem dX12_on_11 : decode cX12_on 11 = .ok (.invokevirtual 209, 3) := dc_182 (a0 := 0) (b0 := 209) (dc_nn (k := 11) aX12_on_0 rfl)
theorem dX12_on_14 : decode cX12_on 14 = .ok (.ifCond .eq 19, 3) := dc_153 (a0 := 0) (b0 := 19) (dc_nn (k := 14) aX12_on_0 rfl) (by decide)
theorem dX12_on_17 : decode cX12_on 17 = .ok (.aload_n 0, 1) := dc_42 (dc_nn (k := 17) aX12_on_0 rfl)
theorem dX12_on_18 : decode cX12_on 18 = .ok (.iload_n 1, 1) := dc_27 (dc_nn (k := 18) aX12_on_0 rfl)
theorem dX12_on_19 : decode cX12_on 19 = .ok (.iconst 0, 1) := dc_3 (dc_nn (k := 19) aX12_on_0 rfl)
theorem dX12_on_20 : decode cX12_on 20 = .ok (.ldc_w 290, 3) := dc_19 (a0 := 1) (b0 := 34) (dc_nn (k := 20) aX12_on_0 rfl)
theorem dX12_on_23 : decode cX12_on 23 = .ok (.invokestatic 270, 3) := dc_184 (a0 := 1) (b0 := 14) (dc_nn (k := 23) aX12_on_0 rfl)
theorem dX12_on_26 : decode cX12_on 26 = .ok (.iconst 2, 1) := dc_5 (dc_nn (k := 26) aX12_on_0 rfl)
theorem dX12_on_27 : decode cX12_on 27 = .ok (.invokevirtual 209, 3) := dc_182 (a0 := 0) (b0 := 209) (dc_nn (k := 27) aX12_on_0 rfl)
theorem dX12_on_30 : decode cX12_on 30 = .ok (.ifCond .ne 5, 3) := dc_154 (a0 := 0) (b0 := 5) (dc_nn (k := 30) aX12_on_0 rfl) (by decide)
theorem dX12_on_33 : decode cX12_on 33 = .ok (.iconst 0, 1) := dc_3 (dc_nn (k := 33) aX12_on_0 rfl)
theorem dX12_on_34 : decode cX12_on 34 = .ok (.ireturn, 1) := dc_172 (dc_nn (k := 34) aX12_on_0 rfl)
theorem dX12_on_35 : decode cX12_on 35 = .ok (.iconst 0, 1) := dc_3 (dc_nn (k := 35) aX12_on_0 rfl)
theorem dX12_on_36 : decode cX12_on 36 = .ok (.istore_n 2, 1) := dc_61 (dc_nn (k := 36) aX12_on_0 rfl)
theorem dX12_on_37 : decode cX12_on 37 = .ok (.iload_n 2, 1) := dc_28 (dc_nn (k := 37) aX12_on_0 rfl)
theorem dX12_on_38 : decode cX12_on 38 = .ok (.iload_n 1, 1) := dc_27 (dc_nn (k := 38) aX12_on_0 rfl)
theorem dX12_on_39 : decode cX12_on 39 = .ok (.if_icmp .ge 150, 3) := dc_162 (a0 := 0) (b0 := 150) (dc_nn (k := 39) aX12_on_0 rfl) (by decide)
theorem dX12_on_42 : decode cX12_on 42 = .ok (.aload_n 0, 1) := dc_42 aX12_on_42
theorem dX12_on_43 : decode cX12_on 43 = .ok (.getfield 71, 3) := dc_180 (a0 := 0) (b0 := 71) (dc_nn (k := 1) aX12_on_42 rfl)
theorem dX12_on_46 : decode cX12_on 46 = .ok (.iconst 2, 1) := dc_5 (dc_nn (k := 4) aX12_on_42 rfl)
theorem dX12_on_47 : decode cX12_on 47 = .ok (.iaload, 1) := dc_46 (dc_nn (k := 5) aX12_on_42 rfl)
theorem dX12_on_48 : decode cX12_on 48 = .ok (.ldc 218, 2) := dc_18 (a0 := 218) (dc_nn (k := 6) aX12_on_42 rfl)
theorem dX12_on_50 : decode cX12_on 50 = .ok (.if_icmp .gt 139, 3) := dc_163 (a0 := 0) (b0 := 139) (dc_nn (k := 8) aX12_on_42 rfl) (by decide)
theorem dX12_on_53 : decode cX12_on 53 = .ok (.aload_n 0, 1) := dc_42 (dc_nn (k := 11) aX12_on_42 rfl)
theorem dX12_on_54 : decode cX12_on 54 = .ok (.getfield 71, 3) := dc_180 (a0 := 0) (b0 := 71) (dc_nn (k := 12) aX12_on_42 rfl)
theorem dX12_on_57 : decode cX12_on 57 = .ok (.iconst 2, 1) := dc_5 (dc_nn (k := 15) aX12_on_42 rfl)
theorem dX12_on_58 : decode cX12_on 58 = .ok (.iaload, 1) := dc_46 (dc_nn (k := 16) aX12_on_42 rfl)
theorem dX12_on_59 : decode cX12_on 59 = .ok (.istore_n 3, 1) := dc_62 (dc_nn (k := 17) aX12_on_42 rfl)
theorem dX12_on_60 : decode cX12_on 60 = .ok (.aload_n 0, 1) := dc_42 (dc_nn (k := 18) aX12_on_42 rfl)
theorem dX12_on_61 : decode cX12_on 61 = .ok (.aload_n 0, 1) := dc_42 (dc_nn (k := 19) aX12_on_42 rfl)
theorem dX12_on_62 : decode cX12_on 62 = .ok (.getfield 71, 3) := dc_180 (a0 := 0) (b0 := 71) (dc_nn (k := 20) aX12_on_42 rfl)
theorem dX12_on_65 : decode cX12_on 65 = .ok (.iconst 0, 1) := dc_3 (dc_nn (k := 23) aX12_on_42 rfl)
theorem dX12_on_66 : decode cX12_on 66 = .ok (.iaload, 1) := dc_46 (dc_nn (k := 24) aX12_on_42 rfl)
theorem dX12_on_67 : decode cX12_on 67 = .ok (.aload_n 0, 1) := dc_42 (dc_nn (k := 25) aX12_on_42 rfl)
theorem dX12_on_68 : decode cX12_on 68 = .ok (.getfield 71, 3) := dc_180 (a0 := 0) (b0 := 71) (dc_nn (k := 26) aX12_on_42 rfl)
theorem dX12_on_71 : decode cX12_on 71 = .ok (.iconst 1, 1) := dc_4 (dc_nn (k := 29) aX12_on_42 rfl)
theorem dX12_on_72 : decode cX12_on 72 = .ok (.iaload, 1) := dc_46 (dc_nn (k := 30) aX12_on_42 rfl)
theorem dX12_on_73 : decode cX12_on 73 = .ok (.iload_n 3, 1) := dc_29 (dc_nn (k := 31) aX12_on_42 rfl)
theorem dX12_on_74 : decode cX12_on 74 = .ok (.aload_n 0, 1) := dc_42 (dc_nn (k := 32) aX12_on_42 rfl)
theorem dX12_on_75 : decode cX12_on 75 = .ok (.getfield 71, 3) := dc_180 (a0 := 0) (b0 := 71) (dc_nn (k := 33) aX12_on_42 rfl)
theorem dX12_on_78 : decode cX12_on 78 = .ok (.iconst 3, 1) := dc_6 (dc_nn (k := 36) aX12_on_42 rfl)
theorem dX12_on_79 : decode cX12_on 79 = .ok (.iaload, 1) := dc_46 (dc_nn (k := 37) aX12_on_42 rfl)
theorem dX12_on_80 : decode cX12_on 80 = .ok (.iconst (-1), 1) := dc_2 (dc_nn (k := 38) aX12_on_42 rfl)
theorem dX12_on_81 : decode cX12_on 81 = .ok (.if_icmp .ne 9, 3) := dc_160 (a0 := 0) (b0 := 9) (dc_nn (k := 39) aX12_on_42 rfl) (by decide)
theorem dX12_on_84 : decode cX12_on 84 = .ok (.sipush 999, 3) := dc_17 (a0 := 3) (b0 := 231) aX12_on_84 (by decide)
theorem dX12_on_87 : decode cX12_on 87 = .ok (.goto 9, 3) := dc_167 (a0 := 0) (b0 := 9) (dc_nn (k := 3) aX12_on_84 rfl) (by decide)
theorem dX12_on_90 : decode cX12_on 90 = .ok (.aload_n 0, 1) := dc_42 (dc_nn (k := 6) aX12_on_84 rfl)
theorem dX12_on_91 : decode cX12_on 91 = .ok (.getfield 71, 3) := dc_180 (a0 := 0) (b0 := 71) (dc_nn (k := 7) aX12_on_84 rfl)
theorem dX12_on_94 : decode cX12_on 94 = .ok (.iconst 3, 1) := dc_6 (dc_nn (k := 10) aX12_on_84 rfl)
theorem dX12_on_95 : decode cX12_on 95 = .ok (.iaload, 1) := dc_46 (dc_nn (k := 11) aX12_on_84 rfl)
theorem dX12_on_96 : decode cX12_on 96 = .ok (.invokevirtual 286, 3) := dc_182 (a0 := 1) (b0 := 30) (dc_nn (k := 12) aX12_on_84 rfl)
theorem dX12_on_99 : decode cX12_on 99 = .ok (.istore 4, 2) := dc_54 (a0 := 4) (dc_nn (k := 15) aX12_on_84 rfl)
theorem dX12_on_101 : decode cX12_on 101 = .ok (.aload_n 0, 1) := dc_42 (dc_nn (k := 17) aX12_on_84 rfl)
theorem dX12_on_102 : decode cX12_on 102 = .ok (.getfield 71, 3) := dc_180 (a0 := 0) (b0 := 71) (dc_nn (k := 18) aX12_on_84 rfl)
theorem dX12_on_105 : decode cX12_on 105 = .ok (.iconst 3, 1) := dc_6 (dc_nn (k := 21) aX12_on_84 rfl)
theorem dX12_on_106 : decode cX12_on 106 = .ok (.iaload, 1) := dc_46 (dc_nn (k := 22) aX12_on_84 rfl)
theorem dX12_on_107 : decode cX12_on 107 = .ok (.iconst (-1), 1) := dc_2 (dc_nn (k := 23) aX12_on_84 rfl)
theorem dX12_on_108 : decode cX12_on 108 = .ok (.if_icmp .eq 14, 3) := dc_159 (a0 := 0) (b0 := 14) (dc_nn (k := 24) aX12_on_84 rfl) (by decide)
theorem dX12_on_111 : decode cX12_on 111 = .ok (.iload 4, 2) := dc_21 (a0 := 4) (dc_nn (k := 27) aX12_on_84 rfl)
theorem dX12_on_113 : decode cX12_on 113 = .ok (.aload_n 0, 1) := dc_42 (dc_nn (k := 29) aX12_on_84 rfl)
theorem dX12_on_114 : decode cX12_on 114 = .ok (.getfield 71, 3) := dc_180 (a0 := 0) (b0 := 71) (dc_nn (k := 30) aX12_on_84 rfl)
theorem dX12_on_117 : decode cX12_on 117 = .ok (.iconst 3, 1) := dc_6 (dc_nn (k := 33) aX12_on_84 rfl)
theorem dX12_on_118 : decode cX12_on 118 = .ok (.iaload, 1) := dc_46 (dc_nn (k := 34) aX12_on_84 rfl)
theorem dX12_on_119 : decode cX12_on 119 = .ok (.if_icmp .ge 25, 3) := dc_162 (a0 := 0) (b0 := 25) (dc_nn (k := 35) aX12_on_84 rfl) (by decide)
theorem dX12_on_122 : decode cX12_on 122 = .ok (.aload_n 0, 1) := dc_42 (dc_nn (k := 38) aX12_on_84 rfl)
theorem dX12_on_123 : decode cX12_on 123 = .ok (.getfield 71, 3) := dc_180 (a0 := 0) (b0 := 71) (dc_nn (k := 39) aX12_on_84 rfl)
theorem dX12_on_126 : decode cX12_on 126 = .ok (.iconst 3, 1) := dc_6 aX12_on_126
theorem dX12_on_127 : decode cX12_on 127 = .ok (.iload 4, 2) := dc_21 (a0 := 4) (dc_nn (k := 1) aX12_on_126 rfl)
theorem dX12_on_129 : decode cX12_on 129 = .ok (.iastore, 1) := dc_79 (dc_nn (k := 3) aX12_on_126 rfl)
theorem dX12_on_130 : decode cX12_on 130 = .ok (.aload_n 0, 1) := dc_42 (dc_nn (k := 4) aX12_on_126 rfl)
theorem dX12_on_131 : decode cX12_on 131 = .ok (.getfield 71, 3) := dc_180 (a0 := 0) (b0 := 71) (dc_nn (k := 5) aX12_on_126 rfl)
theorem dX12_on_134 : decode cX12_on 134 = .ok (.iconst 4, 1) := dc_7 (dc_nn (k := 8) aX12_on_126 rfl)
theorem dX12_on_135 : decode cX12_on 135 = .ok (.iconst 0, 1) := dc_3 (dc_nn (k := 9) aX12_on_126 rfl)
theorem dX12_on_136 : decode cX12_on 136 = .ok (.iastore, 1) := dc_79 (dc_nn (k := 10) aX12_on_126 rfl)
theorem dX12_on_137 : decode cX12_on 137 = .ok (.aload_n 0, 1) := dc_42 (dc_nn (k := 11) aX12_on_126 rfl)
theorem dX12_on_138 : decode cX12_on 138 = .ok (.getfield 71, 3) := dc_180 (a0 := 0) (b0 := 71) (dc_nn (k := 12) aX12_on_126 rfl)
theorem dX12_on_141 : decode cX12_on 141 = .ok (.iconst 5, 1) := dc_8 (dc_nn (k := 15) aX12_on_126 rfl)
theorem dX12_on_142 : decode cX12_on 142 = .ok (.iload_n 3, 1) := dc_29 (dc_nn (k := 16) aX12_on_126 rfl)
theorem dX12_on_143 : decode cX12_on 143 = .ok (.iastore, 1) := dc_79 (dc_nn (k := 17) aX12_on_126 rfl)
theorem dX12_on_144 : decode cX12_on 144 = .ok (.iload 4, 2) := dc_21 (a0 := 4) (dc_nn (k := 18) aX12_on_126 rfl)
theorem dX12_on_146 : decode cX12_on 146 = .ok (.aload_n 0, 1) := dc_42 (dc_nn (k := 20) aX12_on_126 rfl)
theorem dX12_on_147 : decode cX12_on 147 = .ok (.getfield 71, 3) := dc_180 (a0 := 0) (b0 := 71) (dc_nn (k := 21) aX12_on_126 rfl)
theorem dX12_on_150 : decode cX12_on 150 = .ok (.iconst 3, 1) := dc_6 (dc_nn (k := 24) aX12_on_126 rfl)
theorem dX12_on_151 : decode cX12_on 151 = .ok (.iaload, 1) := dc_46 (dc_nn (k := 25) aX12_on_126 rfl)
theorem dX12_on_152 : decode cX12_on 152 = .ok (.if_icmp .ne 21, 3) := dc_160 (a0 := 0) (b0 := 21) (dc_nn (k := 26) aX12_on_126 rfl) (by decide)
theorem dX12_on_155 : decode cX12_on 155 = .ok (.aload_n 0, 1) := dc_42 (dc_nn (k := 29) aX12_on_126 rfl)
theorem dX12_on_156 : decode cX12_on 156 = .ok (.getfield 71, 3) := dc_180 (a0 := 0) (b0 := 71) (dc_nn (k := 30) aX12_on_126 rfl)
theorem dX12_on_159 : decode cX12_on 159 = .ok (.iconst 4, 1) := dc_7 (dc_nn (k := 33) aX12_on_126 rfl)
theorem dX12_on_160 : decode cX12_on 160 = .ok (.dup2, 1) := dc_92 (dc_nn (k := 34) aX12_on_126 rfl)
theorem dX12_on_161 : decode cX12_on 161 = .ok (.iaload, 1) := dc_46 (dc_nn (k := 35) aX12_on_126 rfl)
theorem dX12_on_162 : decode cX12_on 162 = .ok (.iconst 1, 1) := dc_4 (dc_nn (k := 36) aX12_on_126 rfl)
theorem dX12_on_163 : decode cX12_on 163 = .ok (.iadd, 1) := dc_96 (dc_nn (k := 37) aX12_on_126 rfl)
theorem dX12_on_164 : decode cX12_on 164 = .ok (.iastore, 1) := dc_79 (dc_nn (k := 38) aX12_on_126 rfl)
theorem dX12_on_165 : decode cX12_on 165 = .ok (.aload_n 0, 1) := dc_42 (dc_nn (k := 39) aX12_on_126 rfl)
theorem dX12_on_166 : decode cX12_on 166 = .ok (.getfield 71, 3) := dc_180 (a0 := 0) (b0 := 71) aX12_on_166
theorem dX12_on_169 : decode cX12_on 169 = .ok (.bipush 6, 2) := dc_16 (a0 := 6) (dc_nn (k := 3) aX12_on_166 rfl) (by decide)
theorem dX12_on_171 : decode cX12_on 171 = .ok (.iload_n 3, 1) := dc_29 (dc_nn (k := 5) aX12_on_166 rfl)
theorem dX12_on_172 : decode cX12_on 172 = .ok (.iastore, 1) := dc_79 (dc_nn (k := 6) aX12_on_166 rfl)
theorem dX12_on_173 : decode cX12_on 173 = .ok (.aload_n 0, 1) := dc_42 (dc_nn (k := 7) aX12_on_166 rfl)
theorem dX12_on_174 : decode cX12_on 174 = .ok (.getfield 71, 3) := dc_180 (a0 := 0) (b0 := 71) (dc_nn (k := 8) aX12_on_166 rfl)
theorem dX12_on_177 : decode cX12_on 177 = .ok (.iconst 2, 1) := dc_5 (dc_nn (k := 11) aX12_on_166 rfl)
theorem dX12_on_178 : decode cX12_on 178 = .ok (.dup2, 1) := dc_92 (dc_nn (k := 12) aX12_on_166 rfl)
theorem dX12_on_179 : decode cX12_on 179 = .ok (.iaload, 1) := dc_46 (dc_nn (k := 13) aX12_on_166 rfl)
theorem dX12_on_180 : decode cX12_on 180 = .ok (.iconst 1, 1) := dc_4 (dc_nn (k := 14) aX12_on_166 rfl)
theorem dX12_on_181 : decode cX12_on 181 = .ok (.iadd, 1) := dc_96 (dc_nn (k := 15) aX12_on_166 rfl)
theorem dX12_on_182 : decode cX12_on 182 = .ok (.iastore, 1) := dc_79 (dc_nn (k := 16) aX12_on_166 rfl)
theorem dX12_on_183 : decode cX12_on 183 = .ok (.iinc 2 1, 3) := dc_132 (a0 := 2) (a1 := 1) (dc_nn (k := 17) aX12_on_166 rfl) (by decide)
theorem dX12_on_186 : decode cX12_on 186 = .ok (.goto (-149), 3) := dc_167 (a0 := 255) (b0 := 107) (dc_nn (k := 20) aX12_on_166 rfl) (by decide)
theorem dX12_on_189 : decode cX12_on 189 = .ok (.iload_n 2, 1) := dc_28 (dc_nn (k := 23) aX12_on_166 rfl)
theorem dX12_on_190 : decode cX12_on 190 = .ok (.ireturn, 1) := dc_172 (dc_nn (k := 24) aX12_on_166 rfl)
set_option maxRecDepth 20000 in
theorem ggX12_held_X12_within : GoodIn wsX12_held wsX12_within := goodIn_k _ [[7]] (by rfl) (by decide +kernel)
set_option maxRecDepth 20000 in
theorem gX12_held_X12_within : GoodIn wsX12_held (va_wsS RX12 270 yX12_within wsX12_within) := goodIn_app (goodIn_k _ [[4, 0, 0]] (by rfl) (gw_S _ _ _ _)) ggX12_held_X12_within
set_option maxRecDepth 20000 in
theorem ggX12_held_X12_right : GoodIn wsX12_held wsX12_right := goodIn_k _ [[11], [1, 10, 0, 0, 0, 0, 0, 0, 0, 0, 0, 0, 0, 0, 0, 0, 0, 0, 0, 0, 0, 0, 0, 0, 0, 0, 0, 0, 0, 0, 0, 0, 0, 0, 0, 0, 0, 0, 0, 0, 0, 0, 0, 0, 0, 0, 0, 0, 0, 0, 0, 0, 0, 0, 0, 0, 0, 0, 0]] (by rfl) (by decide +kernel)
set_option maxRecDepth 20000 in
theorem gX12_held_X12_right : GoodIn wsX12_held (wsV RX12 209 RX12 yX12_right wsX12_right) := goodIn_app (goodIn_k _ [[8, 0, 0], [6]] (by rfl) (gw_V _ _ _ _)) ggX12_held_X12_right
noncomputable def sX12_held_40 : List Nat := 96 :: 46 :: 167 :: 0 :: 4 :: 3 :: 172 :: []
noncomputable def sX12_held_0 : List Nat := 42 :: 3 :: 181 :: 0 :: 129 :: 42 :: 42 :: 180 :: 1 :: 41 :: 153 :: 0 :: 16 :: 27 :: 3 :: 7 :: 184 :: 1 :: 14 :: 153 :: 0 :: 7 :: 4 :: 167 :: 0 :: 4 :: 3 :: 4 :: 182 :: 0 :: 209 :: 153 :: 0 :: 14 :: 42 :: 180 :: 0 :: 71 :: 5 :: 27 :: sX12_held_40
theorem aX12_held_0 : dc_at cX12_held 0 sX12_held_0 := dc_base (by decide +kernel)
theorem aX12_held_40 : dc_at cX12_held 40 sX12_held_40 := dc_nn (k := 40) aX12_held_0 rfl
theorem dX12_held_0 : decode cX12_held 0 = .ok (.aload_n 0, 1) := dc_42 aX12_held_0
theorem dX12_held_1 : decode cX12_held 1 = .ok (.iconst 0, 1) := dc_3 (dc_nn (k := 1) aX12_held_0 rfl)
theorem dX12_held_2 : decode cX12_held 2 = .ok (.putfield 129, 3) := dc_181 (a0 := 0) (b0 := 129) (dc_nn (k := 2) aX12_held_0 rfl)
theorem dX12_held_5 : decode cX12_held 5 = .ok (.aload_n 0, 1) := dc_42 (dc_nn (k := 5) aX12_held_0 rfl)
theorem dX12_held_6 : decode cX12_held 6 = .ok (.aload_n 0, 1) := dc_42 (dc_nn (k := 6) aX12_held_0 rfl)
theorem dX12_held_7 : decode cX12_held 7 = .ok (.getfield 297, 3) := dc_180 (a0 := 1) (b0 := 41) (dc_nn (k := 7) aX12_held_0 rfl)
theorem dX12_held_10 : decode cX12_held 10 = .ok (.ifCond .eq 16, 3) := dc_153 (a0 := 0) (b0 := 16) (dc_nn (k := 10) aX12_held_0 rfl) (by decide)
theorem dX12_held_13 : decode cX12_held 13 = .ok (.iload_n 1, 1) := dc_27 (dc_nn (k := 13) aX12_held_0 rfl)
theorem dX12_held_14 : decode cX12_held 14 = .ok (.iconst 0, 1) := dc_3 (dc_nn (k := 14) aX12_held_0 rfl)
theorem dX12_held_15 : decode cX12_held 15 = .ok (.iconst 4, 1) := dc_7 (dc_nn (k := 15) aX12_held_0 rfl)
theorem dX12_held_16 : decode cX12_held 16 = .ok (.invokestatic 270, 3) := dc_184 (a0 := 1) (b0 := 14) (dc_nn (k := 16) aX12_held_0 rfl)
theorem dX12_held_19 : decode cX12_held 19 = .ok (.ifCond .eq 7, 3) := dc_153 (a0 := 0) (b0 := 7) (dc_nn (k := 19) aX12_held_0 rfl) (by decide)
theorem dX12_held_22 : decode cX12_held 22 = .ok (.iconst 1, 1) := dc_4 (dc_nn (k := 22) aX12_held_0 rfl)
theorem dX12_held_23 : decode cX12_held 23 = .ok (.goto 4, 3) := dc_167 (a0 := 0) (b0 := 4) (dc_nn (k := 23) aX12_held_0 rfl) (by decide)
theorem dX12_held_26 : decode cX12_held 26 = .ok (.iconst 0, 1) := dc_3 (dc_nn (k := 26) aX12_held_0 rfl)
theorem dX12_held_27 : decode cX12_held 27 = .ok (.iconst 1, 1) := dc_4 (dc_nn (k := 27) aX12_held_0 rfl)
theorem dX12_held_28 : decode cX12_held 28 = .ok (.invokevirtual 209, 3) := dc_182 (a0 := 0) (b0 := 209) (dc_nn (k := 28) aX12_held_0 rfl)
theorem dX12_held_31 : decode cX12_held 31 = .ok (.ifCond .eq 14, 3) := dc_153 (a0 := 0) (b0 := 14) (dc_nn (k := 31) aX12_held_0 rfl) (by decide)
theorem dX12_held_34 : decode cX12_held 34 = .ok (.aload_n 0, 1) := dc_42 (dc_nn (k := 34) aX12_held_0 rfl)
theorem dX12_held_35 : decode cX12_held 35 = .ok (.getfield 71, 3) := dc_180 (a0 := 0) (b0 := 71) (dc_nn (k := 35) aX12_held_0 rfl)
theorem dX12_held_38 : decode cX12_held 38 = .ok (.iconst 2, 1) := dc_5 (dc_nn (k := 38) aX12_held_0 rfl)
theorem dX12_held_39 : decode cX12_held 39 = .ok (.iload_n 1, 1) := dc_27 (dc_nn (k := 39) aX12_held_0 rfl)
theorem dX12_held_40 : decode cX12_held 40 = .ok (.iadd, 1) := dc_96 aX12_held_40
theorem dX12_held_41 : decode cX12_held 41 = .ok (.iaload, 1) := dc_46 (dc_nn (k := 1) aX12_held_40 rfl)
theorem dX12_held_42 : decode cX12_held 42 = .ok (.goto 4, 3) := dc_167 (a0 := 0) (b0 := 4) (dc_nn (k := 2) aX12_held_40 rfl) (by decide)
theorem dX12_held_45 : decode cX12_held 45 = .ok (.iconst 0, 1) := dc_3 (dc_nn (k := 5) aX12_held_40 rfl)
theorem dX12_held_46 : decode cX12_held 46 = .ok (.ireturn, 1) := dc_172 (dc_nn (k := 6) aX12_held_40 rfl)
set_option maxRecDepth 20000 in
theorem ggX12_image_X12_copies : GoodIn wsX12_image wsX12_copies := goodIn_k _ [[10]] (by rfl) (by decide +kernel)
set_option maxRecDepth 20000 in
theorem gX12_image_X12_copies : GoodIn wsX12_image (wsV RX12 234 RX12 yX12_copies wsX12_copies) := goodIn_app (goodIn_k _ [[6, 0, 0, 0]] (by rfl) (gw_V _ _ _ _)) ggX12_image_X12_copies
noncomputable def sX12_image_0 : List Nat := 42 :: 3 :: 181 :: 0 :: 129 :: 42 :: 180 :: 1 :: 41 :: 154 :: 0 :: 5 :: 3 :: 172 :: 42 :: 4 :: 181 :: 1 :: 44 :: 42 :: 42 :: 180 :: 0 :: 71 :: 42 :: 180 :: 0 :: 74 :: 182 :: 0 :: 234 :: 4 :: 172 :: []
theorem aX12_image_0 : dc_at cX12_image 0 sX12_image_0 := dc_base (by decide +kernel)
theorem dX12_image_0 : decode cX12_image 0 = .ok (.aload_n 0, 1) := dc_42 aX12_image_0
theorem dX12_image_1 : decode cX12_image 1 = .ok (.iconst 0, 1) := dc_3 (dc_nn (k := 1) aX12_image_0 rfl)
theorem dX12_image_2 : decode cX12_image 2 = .ok (.putfield 129, 3) := dc_181 (a0 := 0) (b0 := 129) (dc_nn (k := 2) aX12_image_0 rfl)
theorem dX12_image_5 : decode cX12_image 5 = .ok (.aload_n 0, 1) := dc_42 (dc_nn (k := 5) aX12_image_0 rfl)
theorem dX12_image_6 : decode cX12_image 6 = .ok (.getfield 297, 3) := dc_180 (a0 := 1) (b0 := 41) (dc_nn (k := 6) aX12_image_0 rfl)
theorem dX12_image_9 : decode cX12_image 9 = .ok (.ifCond .ne 5, 3) := dc_154 (a0 := 0) (b0 := 5) (dc_nn (k := 9) aX12_image_0 rfl) (by decide)
theorem dX12_image_12 : decode cX12_image 12 = .ok (.iconst 0, 1) := dc_3 (dc_nn (k := 12) aX12_image_0 rfl)
theorem dX12_image_13 : decode cX12_image 13 = .ok (.ireturn, 1) := dc_172 (dc_nn (k := 13) aX12_image_0 rfl)
theorem dX12_image_14 : decode cX12_image 14 = .ok (.aload_n 0, 1) := dc_42 (dc_nn (k := 14) aX12_image_0 rfl)
theorem dX12_image_15 : decode cX12_image 15 = .ok (.iconst 1, 1) := dc_4 (dc_nn (k := 15) aX12_image_0 rfl)
theorem dX12_image_16 : decode cX12_image 16 = .ok (.putfield 300, 3) := dc_181 (a0 := 1) (b0 := 44) (dc_nn (k := 16) aX12_image_0 rfl)
theorem dX12_image_19 : decode cX12_image 19 = .ok (.aload_n 0, 1) := dc_42 (dc_nn (k := 19) aX12_image_0 rfl)
theorem dX12_image_20 : decode cX12_image 20 = .ok (.aload_n 0, 1) := dc_42 (dc_nn (k := 20) aX12_image_0 rfl)
theorem dX12_image_21 : decode cX12_image 21 = .ok (.getfield 71, 3) := dc_180 (a0 := 0) (b0 := 71) (dc_nn (k := 21) aX12_image_0 rfl)
theorem dX12_image_24 : decode cX12_image 24 = .ok (.aload_n 0, 1) := dc_42 (dc_nn (k := 24) aX12_image_0 rfl)
theorem dX12_image_25 : decode cX12_image 25 = .ok (.getfield 74, 3) := dc_180 (a0 := 0) (b0 := 74) (dc_nn (k := 25) aX12_image_0 rfl)
theorem dX12_image_28 : decode cX12_image 28 = .ok (.invokevirtual 234, 3) := dc_182 (a0 := 0) (b0 := 234) (dc_nn (k := 28) aX12_image_0 rfl)
theorem dX12_image_31 : decode cX12_image 31 = .ok (.iconst 1, 1) := dc_4 (dc_nn (k := 31) aX12_image_0 rfl)
theorem dX12_image_32 : decode cX12_image 32 = .ok (.ireturn, 1) := dc_172 (dc_nn (k := 32) aX12_image_0 rfl)
set_option maxRecDepth 20000 in
theorem ggX12_restore_X12_copies : GoodIn wsX12_restore wsX12_copies := goodIn_k _ [[10]] (by rfl) (by decide +kernel)
set_option maxRecDepth 20000 in
theorem gX12_restore_X12_copies : GoodIn wsX12_restore (wsV RX12 234 RX12 yX12_copies wsX12_copies) := goodIn_app (goodIn_k _ [[6, 0, 0, 0]] (by rfl) (gw_V _ _ _ _)) ggX12_restore_X12_copies
noncomputable def sX12_restore_0 : List Nat := 42 :: 3 :: 181 :: 0 :: 129 :: 42 :: 180 :: 1 :: 44 :: 154 :: 0 :: 5 :: 3 :: 172 :: 42 :: 4 :: 181 :: 1 :: 41 :: 42 :: 42 :: 180 :: 0 :: 74 :: 42 :: 180 :: 0 :: 71 :: 182 :: 0 :: 234 :: 4 :: 172 :: []
theorem aX12_restore_0 : dc_at cX12_restore 0 sX12_restore_0 := dc_base (by decide +kernel)
theorem dX12_restore_0 : decode cX12_restore 0 = .ok (.aload_n 0, 1) := dc_42 aX12_restore_0
theorem dX12_restore_1 : decode cX12_restore 1 = .ok (.iconst 0, 1) := dc_3 (dc_nn (k := 1) aX12_restore_0 rfl)
theorem dX12_restore_2 : decode cX12_restore 2 = .ok (.putfield 129, 3) := dc_181 (a0 := 0) (b0 := 129) (dc_nn (k := 2) aX12_restore_0 rfl)
theorem dX12_restore_5 : decode cX12_restore 5 = .ok (.aload_n 0, 1) := dc_42 (dc_nn (k := 5) aX12_restore_0 rfl)
theorem dX12_restore_6 : decode cX12_restore 6 = .ok (.getfield 300, 3) := dc_180 (a0 := 1) (b0 := 44) (dc_nn (k := 6) aX12_restore_0 rfl)
theorem dX12_restore_9 : decode cX12_restore 9 = .ok (.ifCond .ne 5, 3) := dc_154 (a0 := 0) (b0 := 5) (dc_nn (k := 9) aX12_restore_0 rfl) (by decide)
theorem dX12_restore_12 : decode cX12_restore 12 = .ok (.iconst 0, 1) := dc_3 (dc_nn (k := 12) aX12_restore_0 rfl)
theorem dX12_restore_13 : decode cX12_restore 13 = .ok (.ireturn, 1) := dc_172 (dc_nn (k := 13) aX12_restore_0 rfl)
theorem dX12_restore_14 : decode cX12_restore 14 = .ok (.aload_n 0, 1) := dc_42 (dc_nn (k := 14) aX12_restore_0 rfl)
theorem dX12_restore_15 : decode cX12_restore 15 = .ok (.iconst 1, 1) := dc_4 (dc_nn (k := 15) aX12_restore_0 rfl)
theorem dX12_restore_16 : decode cX12_restore 16 = .ok (.putfield 297, 3) := dc_181 (a0 := 1) (b0 := 41) (dc_nn (k := 16) aX12_restore_0 rfl)
theorem dX12_restore_19 : decode cX12_restore 19 = .ok (.aload_n 0, 1) := dc_42 (dc_nn (k := 19) aX12_restore_0 rfl)
theorem dX12_restore_20 : decode cX12_restore 20 = .ok (.aload_n 0, 1) := dc_42 (dc_nn (k := 20) aX12_restore_0 rfl)
theorem dX12_restore_21 : decode cX12_restore 21 = .ok (.getfield 74, 3) := dc_180 (a0 := 0) (b0 := 74) (dc_nn (k := 21) aX12_restore_0 rfl)
theorem dX12_restore_24 : decode cX12_restore 24 = .ok (.aload_n 0, 1) := dc_42 (dc_nn (k := 24) aX12_restore_0 rfl)
theorem dX12_restore_25 : decode cX12_restore 25 = .ok (.getfield 71, 3) := dc_180 (a0 := 0) (b0 := 71) (dc_nn (k := 25) aX12_restore_0 rfl)
theorem dX12_restore_28 : decode cX12_restore 28 = .ok (.invokevirtual 234, 3) := dc_182 (a0 := 0) (b0 := 234) (dc_nn (k := 28) aX12_restore_0 rfl)
theorem dX12_restore_31 : decode cX12_restore 31 = .ok (.iconst 1, 1) := dc_4 (dc_nn (k := 31) aX12_restore_0 rfl)
theorem dX12_restore_32 : decode cX12_restore 32 = .ok (.ireturn, 1) := dc_172 (dc_nn (k := 32) aX12_restore_0 rfl)
set_option maxRecDepth 20000 in
theorem ggX12_misread_X12_isWheel : GoodIn wsX12_misread wsX12_isWheel := goodIn_k _ [[6, 0, 0, 0, 0], [5, 5, 33, 0, 0, 0, 0, 0, 0, 0, 0, 0, 0, 0, 0, 0, 0, 0, 0, 0, 0, 0, 0, 0, 0, 0, 0, 0, 0, 0, 0, 0, 0, 0, 0, 0, 0, 0, 0, 0, 0, 0, 0, 0, 0, 0, 0, 0, 0, 0, 0, 0, 0, 0, 0, 0, 0, 0, 0, 0]] (by rfl) (by decide +kernel)
set_option maxRecDepth 20000 in
theorem gX12_misread_X12_isWheel : GoodIn wsX12_misread (wsV RX12 247 RX12 yX12_isWheel wsX12_isWheel) := goodIn_app (goodIn_k _ [[2, 0, 0, 0]] (by rfl) (gw_V _ _ _ _)) ggX12_misread_X12_isWheel
set_option maxRecDepth 20000 in
theorem ggX12_misread_X12_within : GoodIn wsX12_misread wsX12_within := goodIn_k _ [[14]] (by rfl) (by decide +kernel)
set_option maxRecDepth 20000 in
theorem gX12_misread_X12_within : GoodIn wsX12_misread (va_wsS RX12 270 yX12_within wsX12_within) := goodIn_app (goodIn_k _ [[12, 0], [5]] (by rfl) (gw_S _ _ _ _)) ggX12_misread_X12_within
set_option maxRecDepth 20000 in
theorem ggX12_misread_X12_right : GoodIn wsX12_misread wsX12_right := goodIn_k _ [[11], [7, 37, 0, 0, 0, 0, 0, 0, 0, 0, 0, 0, 0, 0, 0, 0, 0, 0, 0, 0, 0, 0, 0, 0, 0, 0, 0, 0, 0, 0, 0, 0, 0, 0, 0, 0, 0, 0, 0, 0, 0, 0, 0, 0, 0, 0, 0, 0, 0, 0, 0, 0, 0, 0, 0, 0, 0, 0, 0]] (by rfl) (by decide +kernel)
set_option maxRecDepth 20000 in
theorem gX12_misread_X12_right : GoodIn wsX12_misread (wsV RX12 209 RX12 yX12_right wsX12_right) := goodIn_app (goodIn_k _ [[8, 0, 0], [5]] (by rfl) (gw_V _ _ _ _)) ggX12_misread_X12_right
set_option maxRecDepth 20000 in
theorem ggX12_misread_X12_at : GoodIn wsX12_misread wsX12_at := goodIn_k _ [[18, 0, 25, 0, 0, 0, 0, 0, 0, 0, 0, 0, 0, 0, 0, 0, 0, 0, 0, 0, 0, 0, 0, 0, 0, 0, 0, 0, 0, 0, 0, 0, 0, 0, 0, 0, 0, 0, 0, 0, 0, 0, 0, 0, 0, 0, 0, 0, 0, 0, 0, 0, 0, 0, 0, 0, 0, 0, 0, 0]] (by rfl) (by decide +kernel)
set_option maxRecDepth 20000 in
theorem gX12_misread_X12_at : GoodIn wsX12_misread (wsV RX12 254 RX12 yX12_at wsX12_at) := goodIn_app (goodIn_k _ [[15, 0, 0], [5]] (by rfl) (gw_V _ _ _ _)) ggX12_misread_X12_at
set_option maxRecDepth 20000 in
theorem ggX12_misread_X12_placeOn : GoodIn wsX12_misread wsX12_placeOn := goodIn_k _ [[23, 0, 0, 0, 0, 0, 0, 0, 0, 0], [5, 27, 11, 0, 0, 0, 0, 0, 0, 0, 0, 0, 0, 0, 0, 0, 0, 0, 0, 0, 0, 0, 0, 0, 0, 0, 0, 0, 0, 0, 0, 0, 0, 0, 0, 0, 0, 0, 0, 0, 0, 0, 0, 0, 0, 0, 0, 0, 0, 0, 0, 0, 0, 0, 0, 0, 0, 0, 0, 0]] (by rfl) (by decide +kernel)
set_option maxRecDepth 20000 in
theorem gX12_misread_X12_placeOn : GoodIn wsX12_misread (wsV RX12 274 RX12 yX12_placeOn wsX12_placeOn) := goodIn_app (goodIn_k _ [[20, 0, 0], [5]] (by rfl) (gw_V _ _ _ _)) ggX12_misread_X12_placeOn
set_option maxRecDepth 20000 in
theorem ggX12_misread_X12_beside : GoodIn wsX12_misread wsX12_beside := goodIn_k _ [[37, 0, 0, 0], [5, 35, 0, 0, 0, 0, 0, 0, 0, 0, 0, 0, 0, 0, 0, 0, 0, 0, 0, 0, 0, 0, 0, 0, 0, 0, 0, 0, 0, 0, 0, 0, 0, 0, 0, 0, 0, 0, 0, 0, 0, 0, 0, 0, 0, 0, 0, 0, 0, 0, 0, 0, 0, 0, 0, 0, 0, 0, 0, 0, 0, 0, 0]] (by rfl) (by decide +kernel)
set_option maxRecDepth 20000 in
theorem gX12_misread_X12_beside : GoodIn wsX12_misread (wsV RX12 280 RX12 yX12_beside wsX12_beside) := goodIn_app (goodIn_k _ [[34, 0, 0], [5]] (by rfl) (gw_V _ _ _ _)) ggX12_misread_X12_beside
noncomputable def sX12_misread_82 : List Nat := 42 :: 29 :: 21 :: 5 :: 21 :: 4 :: 182 :: 1 :: 18 :: 16 :: 60 :: 108 :: 182 :: 1 :: 24 :: 172 :: []
noncomputable def sX12_misread_41 : List Nat := 4 :: 167 :: 0 :: 4 :: 3 :: 4 :: 182 :: 0 :: 209 :: 154 :: 0 :: 5 :: 3 :: 172 :: 42 :: 16 :: 20 :: 27 :: 104 :: 28 :: 96 :: 21 :: 5 :: 182 :: 0 :: 254 :: 54 :: 6 :: 21 :: 6 :: 2 :: 160 :: 0 :: 7 :: 2 :: 167 :: 0 :: 21 :: 42 :: 21 :: 6 :: sX12_misread_82
noncomputable def sX12_misread_0 : List Nat := 42 :: 27 :: 28 :: 182 :: 0 :: 247 :: 153 :: 0 :: 47 :: 42 :: 29 :: 3 :: 6 :: 184 :: 1 :: 14 :: 153 :: 0 :: 29 :: 21 :: 4 :: 3 :: 18 :: 218 :: 184 :: 1 :: 14 :: 153 :: 0 :: 18 :: 21 :: 5 :: 3 :: 16 :: 6 :: 184 :: 1 :: 14 :: 153 :: 0 :: 7 :: sX12_misread_41
theorem aX12_misread_0 : dc_at cX12_misread 0 sX12_misread_0 := dc_base (by decide +kernel)
theorem aX12_misread_41 : dc_at cX12_misread 41 sX12_misread_41 := dc_nn (k := 41) aX12_misread_0 rfl
theorem aX12_misread_82 : dc_at cX12_misread 82 sX12_misread_82 := dc_nn (k := 41) aX12_misread_41 rfl
theorem dX12_misread_0 : decode cX12_misread 0 = .ok (.aload_n 0, 1) := dc_42 aX12_misread_0
theorem dX12_misread_1 : decode cX12_misread 1 = .ok (.iload_n 1, 1) := dc_27 (dc_nn (k := 1) aX12_misread_0 rfl)
theorem dX12_misread_2 : decode cX12_misread 2 = .ok (.iload_n 2, 1) := dc_28 (dc_nn (k := 2) aX12_misread_0 rfl)
theorem dX12_misread_3 : decode cX12_misread 3 = .ok (.invokevirtual 247, 3) := dc_182 (a0 := 0) (b0 := 247) (dc_nn (k := 3) aX12_misread_0 rfl)
theorem dX12_misread_6 : decode cX12_misread 6 = .ok (.ifCond .eq 47, 3) := dc_153 (a0 := 0) (b0 := 47) (dc_nn (k := 6) aX12_misread_0 rfl) (by decide)
theorem dX12_misread_9 : decode cX12_misread 9 = .ok (.aload_n 0, 1) := dc_42 (dc_nn (k := 9) aX12_misread_0 rfl)
theorem dX12_misread_10 : decode cX12_misread 10 = .ok (.iload_n 3, 1) := dc_29 (dc_nn (k := 10) aX12_misread_0 rfl)
theorem dX12_misread_11 : decode cX12_misread 11 = .ok (.iconst 0, 1) := dc_3 (dc_nn (k := 11) aX12_misread_0 rfl)
theorem dX12_misread_12 : decode cX12_misread 12 = .ok (.iconst 3, 1) := dc_6 (dc_nn (k := 12) aX12_misread_0 rfl)
theorem dX12_misread_13 : decode cX12_misread 13 = .ok (.invokestatic 270, 3) := dc_184 (a0 := 1) (b0 := 14) (dc_nn (k := 13) aX12_misread_0 rfl)
theorem dX12_misread_16 : decode cX12_misread 16 = .ok (.ifCond .eq 29, 3) := dc_153 (a0 := 0) (b0 := 29) (dc_nn (k := 16) aX12_misread_0 rfl) (by decide)
theorem dX12_misread_19 : decode cX12_misread 19 = .ok (.iload 4, 2) := dc_21 (a0 := 4) (dc_nn (k := 19) aX12_misread_0 rfl)
theorem dX12_misread_21 : decode cX12_misread 21 = .ok (.iconst 0, 1) := dc_3 (dc_nn (k := 21) aX12_misread_0 rfl)
theorem dX12_misread_22 : decode cX12_misread 22 = .ok (.ldc 218, 2) := dc_18 (a0 := 218) (dc_nn (k := 22) aX12_misread_0 rfl)
theorem dX12_misread_24 : decode cX12_misread 24 = .ok (.invokestatic 270, 3) := dc_184 (a0 := 1) (b0 := 14) (dc_nn (k := 24) aX12_misread_0 rfl)
theorem dX12_misread_27 : decode cX12_misread 27 = .ok (.ifCond .eq 18, 3) := dc_153 (a0 := 0) (b0 := 18) (dc_nn (k := 27) aX12_misread_0 rfl) (by decide)
theorem dX12_misread_30 : decode cX12_misread 30 = .ok (.iload 5, 2) := dc_21 (a0 := 5) (dc_nn (k := 30) aX12_misread_0 rfl)
theorem dX12_misread_32 : decode cX12_misread 32 = .ok (.iconst 0, 1) := dc_3 (dc_nn (k := 32) aX12_misread_0 rfl)
theorem dX12_misread_33 : decode cX12_misread 33 = .ok (.bipush 6, 2) := dc_16 (a0 := 6) (dc_nn (k := 33) aX12_misread_0 rfl) (by decide)
theorem dX12_misread_35 : decode cX12_misread 35 = .ok (.invokestatic 270, 3) := dc_184 (a0 := 1) (b0 := 14) (dc_nn (k := 35) aX12_misread_0 rfl)
theorem dX12_misread_38 : decode cX12_misread 38 = .ok (.ifCond .eq 7, 3) := dc_153 (a0 := 0) (b0 := 7) (dc_nn (k := 38) aX12_misread_0 rfl) (by decide)
theorem dX12_misread_41 : decode cX12_misread 41 = .ok (.iconst 1, 1) := dc_4 aX12_misread_41
theorem dX12_misread_42 : decode cX12_misread 42 = .ok (.goto 4, 3) := dc_167 (a0 := 0) (b0 := 4) (dc_nn (k := 1) aX12_misread_41 rfl) (by decide)
theorem dX12_misread_45 : decode cX12_misread 45 = .ok (.iconst 0, 1) := dc_3 (dc_nn (k := 4) aX12_misread_41 rfl)
theorem dX12_misread_46 : decode cX12_misread 46 = .ok (.iconst 1, 1) := dc_4 (dc_nn (k := 5) aX12_misread_41 rfl)
theorem dX12_misread_47 : decode cX12_misread 47 = .ok (.invokevirtual 209, 3) := dc_182 (a0 := 0) (b0 := 209) (dc_nn (k := 6) aX12_misread_41 rfl)
theorem dX12_misread_50 : decode cX12_misread 50 = .ok (.ifCond .ne 5, 3) := dc_154 (a0 := 0) (b0 := 5) (dc_nn (k := 9) aX12_misread_41 rfl) (by decide)
theorem dX12_misread_53 : decode cX12_misread 53 = .ok (.iconst 0, 1) := dc_3 (dc_nn (k := 12) aX12_misread_41 rfl)
theorem dX12_misread_54 : decode cX12_misread 54 = .ok (.ireturn, 1) := dc_172 (dc_nn (k := 13) aX12_misread_41 rfl)
theorem dX12_misread_55 : decode cX12_misread 55 = .ok (.aload_n 0, 1) := dc_42 (dc_nn (k := 14) aX12_misread_41 rfl)
theorem dX12_misread_56 : decode cX12_misread 56 = .ok (.bipush 20, 2) := dc_16 (a0 := 20) (dc_nn (k := 15) aX12_misread_41 rfl) (by decide)
theorem dX12_misread_58 : decode cX12_misread 58 = .ok (.iload_n 1, 1) := dc_27 (dc_nn (k := 17) aX12_misread_41 rfl)
theorem dX12_misread_59 : decode cX12_misread 59 = .ok (.imul, 1) := dc_104 (dc_nn (k := 18) aX12_misread_41 rfl)
theorem dX12_misread_60 : decode cX12_misread 60 = .ok (.iload_n 2, 1) := dc_28 (dc_nn (k := 19) aX12_misread_41 rfl)
theorem dX12_misread_61 : decode cX12_misread 61 = .ok (.iadd, 1) := dc_96 (dc_nn (k := 20) aX12_misread_41 rfl)
theorem dX12_misread_62 : decode cX12_misread 62 = .ok (.iload 5, 2) := dc_21 (a0 := 5) (dc_nn (k := 21) aX12_misread_41 rfl)
theorem dX12_misread_64 : decode cX12_misread 64 = .ok (.invokevirtual 254, 3) := dc_182 (a0 := 0) (b0 := 254) (dc_nn (k := 23) aX12_misread_41 rfl)
theorem dX12_misread_67 : decode cX12_misread 67 = .ok (.istore 6, 2) := dc_54 (a0 := 6) (dc_nn (k := 26) aX12_misread_41 rfl)
theorem dX12_misread_69 : decode cX12_misread 69 = .ok (.iload 6, 2) := dc_21 (a0 := 6) (dc_nn (k := 28) aX12_misread_41 rfl)
theorem dX12_misread_71 : decode cX12_misread 71 = .ok (.iconst (-1), 1) := dc_2 (dc_nn (k := 30) aX12_misread_41 rfl)
theorem dX12_misread_72 : decode cX12_misread 72 = .ok (.if_icmp .ne 7, 3) := dc_160 (a0 := 0) (b0 := 7) (dc_nn (k := 31) aX12_misread_41 rfl) (by decide)
theorem dX12_misread_75 : decode cX12_misread 75 = .ok (.iconst (-1), 1) := dc_2 (dc_nn (k := 34) aX12_misread_41 rfl)
theorem dX12_misread_76 : decode cX12_misread 76 = .ok (.goto 21, 3) := dc_167 (a0 := 0) (b0 := 21) (dc_nn (k := 35) aX12_misread_41 rfl) (by decide)
theorem dX12_misread_79 : decode cX12_misread 79 = .ok (.aload_n 0, 1) := dc_42 (dc_nn (k := 38) aX12_misread_41 rfl)
theorem dX12_misread_80 : decode cX12_misread 80 = .ok (.iload 6, 2) := dc_21 (a0 := 6) (dc_nn (k := 39) aX12_misread_41 rfl)
theorem dX12_misread_82 : decode cX12_misread 82 = .ok (.aload_n 0, 1) := dc_42 aX12_misread_82
theorem dX12_misread_83 : decode cX12_misread 83 = .ok (.iload_n 3, 1) := dc_29 (dc_nn (k := 1) aX12_misread_82 rfl)
theorem dX12_misread_84 : decode cX12_misread 84 = .ok (.iload 5, 2) := dc_21 (a0 := 5) (dc_nn (k := 2) aX12_misread_82 rfl)
theorem dX12_misread_86 : decode cX12_misread 86 = .ok (.iload 4, 2) := dc_21 (a0 := 4) (dc_nn (k := 4) aX12_misread_82 rfl)
theorem dX12_misread_88 : decode cX12_misread 88 = .ok (.invokevirtual 274, 3) := dc_182 (a0 := 1) (b0 := 18) (dc_nn (k := 6) aX12_misread_82 rfl)
theorem dX12_misread_91 : decode cX12_misread 91 = .ok (.bipush 60, 2) := dc_16 (a0 := 60) (dc_nn (k := 9) aX12_misread_82 rfl) (by decide)
theorem dX12_misread_93 : decode cX12_misread 93 = .ok (.idiv, 1) := dc_108 (dc_nn (k := 11) aX12_misread_82 rfl)
theorem dX12_misread_94 : decode cX12_misread 94 = .ok (.invokevirtual 280, 3) := dc_182 (a0 := 1) (b0 := 24) (dc_nn (k := 12) aX12_misread_82 rfl)
theorem dX12_misread_97 : decode cX12_misread 97 = .ok (.ireturn, 1) := dc_172 (dc_nn (k := 15) aX12_misread_82 rfl)
set_option maxRecDepth 20000 in
theorem ggX12_errors_X12_isWheel : GoodIn wsX12_errors wsX12_isWheel := goodIn_k _ [[9, 0, 0, 0, 0], [8, 5, 22, 0, 0, 0, 0, 0, 0, 0, 0, 0, 0, 0, 0, 0, 0, 0, 0, 0, 0, 0, 0, 0, 0, 0, 0, 0, 0, 0, 0, 0, 0, 0, 0, 0, 0, 0, 0, 0, 0, 0, 0, 0, 0, 0, 0, 0, 0, 0, 0, 0, 0, 0, 0, 0, 0, 0, 0, 0]] (by rfl) (by decide +kernel)
set_option maxRecDepth 20000 in
theorem gX12_errors_X12_isWheel : GoodIn wsX12_errors (wsV RX12 247 RX12 yX12_isWheel wsX12_isWheel) := goodIn_app (goodIn_k _ [[5, 0, 0, 0]] (by rfl) (gw_V _ _ _ _)) ggX12_errors_X12_isWheel
set_option maxRecDepth 20000 in
theorem ggX12_errors_X12_within : GoodIn wsX12_errors wsX12_within := goodIn_k _ [[17]] (by rfl) (by decide +kernel)
set_option maxRecDepth 20000 in
theorem gX12_errors_X12_within : GoodIn wsX12_errors (va_wsS RX12 270 yX12_within wsX12_within) := goodIn_app (goodIn_k _ [[15, 0], [8]] (by rfl) (gw_S _ _ _ _)) ggX12_errors_X12_within
set_option maxRecDepth 20000 in
theorem ggX12_errors_X12_right : GoodIn wsX12_errors wsX12_right := goodIn_k _ [[14], [10, 26, 0, 0, 0, 0, 0, 0, 0, 0, 0, 0, 0, 0, 0, 0, 0, 0, 0, 0, 0, 0, 0, 0, 0, 0, 0, 0, 0, 0, 0, 0, 0, 0, 0, 0, 0, 0, 0, 0, 0, 0, 0, 0, 0, 0, 0, 0, 0, 0, 0, 0, 0, 0, 0, 0, 0, 0, 0]] (by rfl) (by decide +kernel)
set_option maxRecDepth 20000 in
theorem gX12_errors_X12_right : GoodIn wsX12_errors (wsV RX12 209 RX12 yX12_right wsX12_right) := goodIn_app (goodIn_k _ [[11, 0, 0], [8]] (by rfl) (gw_V _ _ _ _)) ggX12_errors_X12_right
set_option maxRecDepth 20000 in
theorem ggX12_errors_X12_at : GoodIn wsX12_errors wsX12_at := goodIn_k _ [[21, 0, 14, 0, 0, 0, 0, 0, 0, 0, 0, 0, 0, 0, 0, 0, 0, 0, 0, 0, 0, 0, 0, 0, 0, 0, 0, 0, 0, 0, 0, 0, 0, 0, 0, 0, 0, 0, 0, 0, 0, 0, 0, 0, 0, 0, 0, 0, 0, 0, 0, 0, 0, 0, 0, 0, 0, 0, 0, 0]] (by rfl) (by decide +kernel)
set_option maxRecDepth 20000 in
theorem gX12_errors_X12_at : GoodIn wsX12_errors (wsV RX12 254 RX12 yX12_at wsX12_at) := goodIn_app (goodIn_k _ [[18, 0, 0], [8]] (by rfl) (gw_V _ _ _ _)) ggX12_errors_X12_at
set_option maxRecDepth 20000 in
theorem ggX12_errors_X12_placeOn : GoodIn wsX12_errors wsX12_placeOn := goodIn_k _ [[26, 0, 0, 0, 0, 0, 0, 0, 0, 0], [8, 27, 0, 0, 0, 0, 0, 0, 0, 0, 0, 0, 0, 0, 0, 0, 0, 0, 0, 0, 0, 0, 0, 0, 0, 0, 0, 0, 0, 0, 0, 0, 0, 0, 0, 0, 0, 0, 0, 0, 0, 0, 0, 0, 0, 0, 0, 0, 0, 0, 0, 0, 0, 0, 0, 0, 0, 0, 0, 0]] (by rfl) (by decide +kernel)
set_option maxRecDepth 20000 in
theorem gX12_errors_X12_placeOn : GoodIn wsX12_errors (wsV RX12 274 RX12 yX12_placeOn wsX12_placeOn) := goodIn_app (goodIn_k _ [[23, 0, 0], [8]] (by rfl) (gw_V _ _ _ _)) ggX12_errors_X12_placeOn
noncomputable def sX12_errors_363 : List Nat := 21 :: 7 :: 167 :: 0 :: 5 :: 21 :: 6 :: 54 :: 6 :: 132 :: 7 :: 1 :: 167 :: 255 :: 221 :: 42 :: 180 :: 0 :: 83 :: 21 :: 6 :: 46 :: 154 :: 0 :: 7 :: 2 :: 167 :: 0 :: 5 :: 21 :: 6 :: 172 :: []
noncomputable def sX12_errors_323 : List Nat := 42 :: 180 :: 0 :: 83 :: 21 :: 4 :: 16 :: 7 :: 100 :: 46 :: 172 :: 4 :: 54 :: 6 :: 5 :: 54 :: 7 :: 21 :: 7 :: 7 :: 162 :: 0 :: 35 :: 42 :: 180 :: 0 :: 83 :: 21 :: 7 :: 46 :: 42 :: 180 :: 0 :: 83 :: 21 :: 6 :: 46 :: 164 :: 0 :: 8 :: sX12_errors_363
noncomputable def sX12_errors_282 : List Nat := 4 :: 164 :: 0 :: 51 :: 21 :: 4 :: 8 :: 162 :: 0 :: 15 :: 42 :: 180 :: 0 :: 77 :: 21 :: 4 :: 4 :: 100 :: 46 :: 167 :: 0 :: 32 :: 21 :: 4 :: 16 :: 8 :: 162 :: 0 :: 15 :: 42 :: 180 :: 0 :: 80 :: 21 :: 4 :: 7 :: 100 :: 46 :: 167 :: 0 :: 13 :: sX12_errors_323
noncomputable def sX12_errors_242 : List Nat := 3 :: 96 :: 79 :: 42 :: 180 :: 0 :: 83 :: 21 :: 9 :: 92 :: 46 :: 16 :: 6 :: 21 :: 8 :: 108 :: 96 :: 79 :: 132 :: 9 :: 1 :: 167 :: 255 :: 180 :: 132 :: 6 :: 1 :: 167 :: 255 :: 77 :: 21 :: 4 :: 154 :: 0 :: 6 :: 21 :: 5 :: 172 :: 21 :: 4 :: sX12_errors_282
noncomputable def sX12_errors_202 : List Nat := 16 :: 60 :: 108 :: 21 :: 7 :: 159 :: 0 :: 6 :: 167 :: 0 :: 50 :: 42 :: 180 :: 0 :: 77 :: 21 :: 9 :: 92 :: 46 :: 4 :: 96 :: 79 :: 42 :: 180 :: 0 :: 80 :: 21 :: 9 :: 92 :: 46 :: 21 :: 8 :: 4 :: 160 :: 0 :: 7 :: 4 :: 167 :: 0 :: 4 :: sX12_errors_242
noncomputable def sX12_errors_162 : List Nat := 16 :: 60 :: 108 :: 21 :: 7 :: 160 :: 0 :: 7 :: 4 :: 167 :: 0 :: 4 :: 3 :: 96 :: 54 :: 8 :: 132 :: 9 :: 1 :: 167 :: 255 :: 220 :: 4 :: 54 :: 9 :: 21 :: 9 :: 7 :: 162 :: 0 :: 76 :: 42 :: 21 :: 9 :: 21 :: 6 :: 29 :: 182 :: 1 :: 18 :: sX12_errors_202
noncomputable def sX12_errors_121 : List Nat := 29 :: 182 :: 1 :: 18 :: 16 :: 60 :: 108 :: 21 :: 7 :: 160 :: 0 :: 6 :: 167 :: 0 :: 133 :: 132 :: 5 :: 1 :: 3 :: 54 :: 8 :: 4 :: 54 :: 9 :: 21 :: 9 :: 7 :: 162 :: 0 :: 36 :: 21 :: 8 :: 42 :: 21 :: 9 :: 21 :: 6 :: 29 :: 182 :: 1 :: 18 :: sX12_errors_162
noncomputable def sX12_errors_80 : List Nat := 79 :: 132 :: 6 :: 1 :: 167 :: 255 :: 223 :: 3 :: 54 :: 6 :: 21 :: 6 :: 16 :: 7 :: 162 :: 0 :: 178 :: 42 :: 16 :: 20 :: 27 :: 104 :: 28 :: 96 :: 21 :: 6 :: 182 :: 0 :: 254 :: 54 :: 7 :: 21 :: 7 :: 2 :: 159 :: 0 :: 152 :: 42 :: 3 :: 21 :: 6 :: sX12_errors_121
noncomputable def sX12_errors_40 : List Nat := 154 :: 0 :: 5 :: 3 :: 172 :: 3 :: 54 :: 5 :: 4 :: 54 :: 6 :: 21 :: 6 :: 7 :: 162 :: 0 :: 33 :: 42 :: 180 :: 0 :: 77 :: 21 :: 6 :: 3 :: 79 :: 42 :: 180 :: 0 :: 80 :: 21 :: 6 :: 3 :: 79 :: 42 :: 180 :: 0 :: 83 :: 21 :: 6 :: 3 :: sX12_errors_80
noncomputable def sX12_errors_0 : List Nat := 42 :: 27 :: 28 :: 182 :: 0 :: 247 :: 153 :: 0 :: 37 :: 42 :: 29 :: 3 :: 18 :: 218 :: 184 :: 1 :: 14 :: 153 :: 0 :: 18 :: 21 :: 4 :: 3 :: 16 :: 10 :: 184 :: 1 :: 14 :: 153 :: 0 :: 7 :: 4 :: 167 :: 0 :: 4 :: 3 :: 4 :: 182 :: 0 :: 209 :: sX12_errors_40
theorem aX12_errors_0 : dc_at cX12_errors 0 sX12_errors_0 := dc_base (by decide +kernel)
theorem aX12_errors_40 : dc_at cX12_errors 40 sX12_errors_40 := dc_nn (k := 40) aX12_errors_0 rfl
theorem aX12_errors_80 : dc_at cX12_errors 80 sX12_errors_80 := dc_nn (k := 40) aX12_errors_40 rfl
theorem aX12_errors_121 : dc_at cX12_errors 121 sX12_errors_121 := dc_nn (k := 41) aX12_errors_80 rfl
theorem aX12_errors_162 : dc_at cX12_errors 162 sX12_errors_162 := dc_nn (k := 41) aX12_errors_121 rfl
theorem aX12_errors_202 : dc_at cX12_errors 202 sX12_errors_202 := dc_nn (k := 40) aX12_errors_162 rfl
theorem aX12_errors_242 : dc_at cX12_errors 242 sX12_errors_242 := dc_nn (k := 40) aX12_errors_202 rfl
theorem aX12_errors_282 : dc_at cX12_errors 282 sX12_errors_282 := dc_nn (k := 40) aX12_errors_242 rfl
theorem aX12_errors_323 : dc_at cX12_errors 323 sX12_errors_323 := dc_nn (k := 41) aX12_errors_282 rfl
theorem aX12_errors_363 : dc_at cX12_errors 363 sX12_errors_363 := dc_nn (k := 40) aX12_errors_323 rfl
theorem dX12_errors_0 : decode cX12_errors 0 = .ok (.aload_n 0, 1) := dc_42 aX12_errors_0
theorem dX12_errors_1 : decode cX12_errors 1 = .ok (.iload_n 1, 1) := dc_27 (dc_nn (k := 1) aX12_errors_0 rfl)
theorem dX12_errors_2 : decode cX12_errors 2 = .ok (.iload_n 2, 1) := dc_28 (dc_nn (k := 2) aX12_errors_0 rfl)
theorem dX12_errors_3 : decode cX12_errors 3 = .ok (.invokevirtual 247, 3) := dc_182 (a0 := 0) (b0 := 247) (dc_nn (k := 3) aX12_errors_0 rfl)
theorem dX12_errors_6 : decode cX12_errors 6 = .ok (.ifCond .eq 37, 3) := dc_153 (a0 := 0) (b0 := 37) (dc_nn (k := 6) aX12_errors_0 rfl) (by decide)
theorem dX12_errors_9 : decode cX12_errors 9 = .ok (.aload_n 0, 1) := dc_42 (dc_nn (k := 9) aX12_errors_0 rfl)
theorem dX12_errors_10 : decode cX12_errors 10 = .ok (.iload_n 3, 1) := dc_29 (dc_nn (k := 10) aX12_errors_0 rfl)
theorem dX12_errors_11 : decode cX12_errors 11 = .ok (.iconst 0, 1) := dc_3 (dc_nn (k := 11) aX12_errors_0 rfl)
theorem dX12_errors_12 : decode cX12_errors 12 = .ok (.ldc 218, 2) := dc_18 (a0 := 218) (dc_nn (k := 12) aX12_errors_0 rfl)
theorem dX12_errors_14 : decode cX12_errors 14 = .ok (.invokestatic 270, 3) := dc_184 (a0 := 1) (b0 := 14) (dc_nn (k := 14) aX12_errors_0 rfl)
theorem dX12_errors_17 : decode cX12_errors 17 = .ok (.ifCond .eq 18, 3) := dc_153 (a0 := 0) (b0 := 18) (dc_nn (k := 17) aX12_errors_0 rfl) (by decide)
theorem dX12_errors_20 : decode cX12_errors 20 = .ok (.iload 4, 2) := dc_21 (a0 := 4) (dc_nn (k := 20) aX12_errors_0 rfl)
theorem dX12_errors_22 : decode cX12_errors 22 = .ok (.iconst 0, 1) := dc_3 (dc_nn (k := 22) aX12_errors_0 rfl)
theorem dX12_errors_23 : decode cX12_errors 23 = .ok (.bipush 10, 2) := dc_16 (a0 := 10) (dc_nn (k := 23) aX12_errors_0 rfl) (by decide)
theorem dX12_errors_25 : decode cX12_errors 25 = .ok (.invokestatic 270, 3) := dc_184 (a0 := 1) (b0 := 14) (dc_nn (k := 25) aX12_errors_0 rfl)
theorem dX12_errors_28 : decode cX12_errors 28 = .ok (.ifCond .eq 7, 3) := dc_153 (a0 := 0) (b0 := 7) (dc_nn (k := 28) aX12_errors_0 rfl) (by decide)
theorem dX12_errors_31 : decode cX12_errors 31 = .ok (.iconst 1, 1) := dc_4 (dc_nn (k := 31) aX12_errors_0 rfl)
theorem dX12_errors_32 : decode cX12_errors 32 = .ok (.goto 4, 3) := dc_167 (a0 := 0) (b0 := 4) (dc_nn (k := 32) aX12_errors_0 rfl) (by decide)
theorem dX12_errors_35 : decode cX12_errors 35 = .ok (.iconst 0, 1) := dc_3 (dc_nn (k := 35) aX12_errors_0 rfl)
theorem dX12_errors_36 : decode cX12_errors 36 = .ok (.iconst 1, 1) := dc_4 (dc_nn (k := 36) aX12_errors_0 rfl)
theorem dX12_errors_37 : decode cX12_errors 37 = .ok (.invokevirtual 209, 3) := dc_182 (a0 := 0) (b0 := 209) (dc_nn (k := 37) aX12_errors_0 rfl)
theorem dX12_errors_40 : decode cX12_errors 40 = .ok (.ifCond .ne 5, 3) := dc_154 (a0 := 0) (b0 := 5) aX12_errors_40 (by decide)
theorem dX12_errors_43 : decode cX12_errors 43 = .ok (.iconst 0, 1) := dc_3 (dc_nn (k := 3) aX12_errors_40 rfl)
theorem dX12_errors_44 : decode cX12_errors 44 = .ok (.ireturn, 1) := dc_172 (dc_nn (k := 4) aX12_errors_40 rfl)
theorem dX12_errors_45 : decode cX12_errors 45 = .ok (.iconst 0, 1) := dc_3 (dc_nn (k := 5) aX12_errors_40 rfl)
theorem dX12_errors_46 : decode cX12_errors 46 = .ok (.istore 5, 2) := dc_54 (a0 := 5) (dc_nn (k := 6) aX12_errors_40 rfl)
theorem dX12_errors_48 : decode cX12_errors 48 = .ok (.iconst 1, 1) := dc_4 (dc_nn (k := 8) aX12_errors_40 rfl)
theorem dX12_errors_49 : decode cX12_errors 49 = .ok (.istore 6, 2) := dc_54 (a0 := 6) (dc_nn (k := 9) aX12_errors_40 rfl)
theorem dX12_errors_51 : decode cX12_errors 51 = .ok (.iload 6, 2) := dc_21 (a0 := 6) (dc_nn (k := 11) aX12_errors_40 rfl)
theorem dX12_errors_53 : decode cX12_errors 53 = .ok (.iconst 4, 1) := dc_7 (dc_nn (k := 13) aX12_errors_40 rfl)
theorem dX12_errors_54 : decode cX12_errors 54 = .ok (.if_icmp .ge 33, 3) := dc_162 (a0 := 0) (b0 := 33) (dc_nn (k := 14) aX12_errors_40 rfl) (by decide)
theorem dX12_errors_57 : decode cX12_errors 57 = .ok (.aload_n 0, 1) := dc_42 (dc_nn (k := 17) aX12_errors_40 rfl)
theorem dX12_errors_58 : decode cX12_errors 58 = .ok (.getfield 77, 3) := dc_180 (a0 := 0) (b0 := 77) (dc_nn (k := 18) aX12_errors_40 rfl)
theorem dX12_errors_61 : decode cX12_errors 61 = .ok (.iload 6, 2) := dc_21 (a0 := 6) (dc_nn (k := 21) aX12_errors_40 rfl)
theorem dX12_errors_63 : decode cX12_errors 63 = .ok (.iconst 0, 1) := dc_3 (dc_nn (k := 23) aX12_errors_40 rfl)
theorem dX12_errors_64 : decode cX12_errors 64 = .ok (.iastore, 1) := dc_79 (dc_nn (k := 24) aX12_errors_40 rfl)
theorem dX12_errors_65 : decode cX12_errors 65 = .ok (.aload_n 0, 1) := dc_42 (dc_nn (k := 25) aX12_errors_40 rfl)
theorem dX12_errors_66 : decode cX12_errors 66 = .ok (.getfield 80, 3) := dc_180 (a0 := 0) (b0 := 80) (dc_nn (k := 26) aX12_errors_40 rfl)
theorem dX12_errors_69 : decode cX12_errors 69 = .ok (.iload 6, 2) := dc_21 (a0 := 6) (dc_nn (k := 29) aX12_errors_40 rfl)
theorem dX12_errors_71 : decode cX12_errors 71 = .ok (.iconst 0, 1) := dc_3 (dc_nn (k := 31) aX12_errors_40 rfl)
theorem dX12_errors_72 : decode cX12_errors 72 = .ok (.iastore, 1) := dc_79 (dc_nn (k := 32) aX12_errors_40 rfl)
theorem dX12_errors_73 : decode cX12_errors 73 = .ok (.aload_n 0, 1) := dc_42 (dc_nn (k := 33) aX12_errors_40 rfl)
theorem dX12_errors_74 : decode cX12_errors 74 = .ok (.getfield 83, 3) := dc_180 (a0 := 0) (b0 := 83) (dc_nn (k := 34) aX12_errors_40 rfl)
theorem dX12_errors_77 : decode cX12_errors 77 = .ok (.iload 6, 2) := dc_21 (a0 := 6) (dc_nn (k := 37) aX12_errors_40 rfl)
theorem dX12_errors_79 : decode cX12_errors 79 = .ok (.iconst 0, 1) := dc_3 (dc_nn (k := 39) aX12_errors_40 rfl)
theorem dX12_errors_80 : decode cX12_errors 80 = .ok (.iastore, 1) := dc_79 aX12_errors_80
theorem dX12_errors_81 : decode cX12_errors 81 = .ok (.iinc 6 1, 3) := dc_132 (a0 := 6) (a1 := 1) (dc_nn (k := 1) aX12_errors_80 rfl) (by decide)
theorem dX12_errors_84 : decode cX12_errors 84 = .ok (.goto (-33), 3) := dc_167 (a0 := 255) (b0 := 223) (dc_nn (k := 4) aX12_errors_80 rfl) (by decide)
theorem dX12_errors_87 : decode cX12_errors 87 = .ok (.iconst 0, 1) := dc_3 (dc_nn (k := 7) aX12_errors_80 rfl)
theorem dX12_errors_88 : decode cX12_errors 88 = .ok (.istore 6, 2) := dc_54 (a0 := 6) (dc_nn (k := 8) aX12_errors_80 rfl)
theorem dX12_errors_90 : decode cX12_errors 90 = .ok (.iload 6, 2) := dc_21 (a0 := 6) (dc_nn (k := 10) aX12_errors_80 rfl)
theorem dX12_errors_92 : decode cX12_errors 92 = .ok (.bipush 7, 2) := dc_16 (a0 := 7) (dc_nn (k := 12) aX12_errors_80 rfl) (by decide)
theorem dX12_errors_94 : decode cX12_errors 94 = .ok (.if_icmp .ge 178, 3) := dc_162 (a0 := 0) (b0 := 178) (dc_nn (k := 14) aX12_errors_80 rfl) (by decide)
theorem dX12_errors_97 : decode cX12_errors 97 = .ok (.aload_n 0, 1) := dc_42 (dc_nn (k := 17) aX12_errors_80 rfl)
theorem dX12_errors_98 : decode cX12_errors 98 = .ok (.bipush 20, 2) := dc_16 (a0 := 20) (dc_nn (k := 18) aX12_errors_80 rfl) (by decide)
theorem dX12_errors_100 : decode cX12_errors 100 = .ok (.iload_n 1, 1) := dc_27 (dc_nn (k := 20) aX12_errors_80 rfl)
theorem dX12_errors_101 : decode cX12_errors 101 = .ok (.imul, 1) := dc_104 (dc_nn (k := 21) aX12_errors_80 rfl)
theorem dX12_errors_102 : decode cX12_errors 102 = .ok (.iload_n 2, 1) := dc_28 (dc_nn (k := 22) aX12_errors_80 rfl)
theorem dX12_errors_103 : decode cX12_errors 103 = .ok (.iadd, 1) := dc_96 (dc_nn (k := 23) aX12_errors_80 rfl)
theorem dX12_errors_104 : decode cX12_errors 104 = .ok (.iload 6, 2) := dc_21 (a0 := 6) (dc_nn (k := 24) aX12_errors_80 rfl)
theorem dX12_errors_106 : decode cX12_errors 106 = .ok (.invokevirtual 254, 3) := dc_182 (a0 := 0) (b0 := 254) (dc_nn (k := 26) aX12_errors_80 rfl)
theorem dX12_errors_109 : decode cX12_errors 109 = .ok (.istore 7, 2) := dc_54 (a0 := 7) (dc_nn (k := 29) aX12_errors_80 rfl)
theorem dX12_errors_111 : decode cX12_errors 111 = .ok (.iload 7, 2) := dc_21 (a0 := 7) (dc_nn (k := 31) aX12_errors_80 rfl)
theorem dX12_errors_113 : decode cX12_errors 113 = .ok (.iconst (-1), 1) := dc_2 (dc_nn (k := 33) aX12_errors_80 rfl)
theorem dX12_errors_114 : decode cX12_errors 114 = .ok (.if_icmp .eq 152, 3) := dc_159 (a0 := 0) (b0 := 152) (dc_nn (k := 34) aX12_errors_80 rfl) (by decide)
theorem dX12_errors_117 : decode cX12_errors 117 = .ok (.aload_n 0, 1) := dc_42 (dc_nn (k := 37) aX12_errors_80 rfl)
theorem dX12_errors_118 : decode cX12_errors 118 = .ok (.iconst 0, 1) := dc_3 (dc_nn (k := 38) aX12_errors_80 rfl)
theorem dX12_errors_119 : decode cX12_errors 119 = .ok (.iload 6, 2) := dc_21 (a0 := 6) (dc_nn (k := 39) aX12_errors_80 rfl)
theorem dX12_errors_121 : decode cX12_errors 121 = .ok (.iload_n 3, 1) := dc_29 aX12_errors_121
theorem dX12_errors_122 : decode cX12_errors 122 = .ok (.invokevirtual 274, 3) := dc_182 (a0 := 1) (b0 := 18) (dc_nn (k := 1) aX12_errors_121 rfl)
theorem dX12_errors_125 : decode cX12_errors 125 = .ok (.bipush 60, 2) := dc_16 (a0 := 60) (dc_nn (k := 4) aX12_errors_121 rfl) (by decide)
theorem dX12_errors_127 : decode cX12_errors 127 = .ok (.idiv, 1) := dc_108 (dc_nn (k := 6) aX12_errors_121 rfl)
theorem dX12_errors_128 : decode cX12_errors 128 = .ok (.iload 7, 2) := dc_21 (a0 := 7) (dc_nn (k := 7) aX12_errors_121 rfl)
theorem dX12_errors_130 : decode cX12_errors 130 = .ok (.if_icmp .ne 6, 3) := dc_160 (a0 := 0) (b0 := 6) (dc_nn (k := 9) aX12_errors_121 rfl) (by decide)
theorem dX12_errors_133 : decode cX12_errors 133 = .ok (.goto 133, 3) := dc_167 (a0 := 0) (b0 := 133) (dc_nn (k := 12) aX12_errors_121 rfl) (by decide)
theorem dX12_errors_136 : decode cX12_errors 136 = .ok (.iinc 5 1, 3) := dc_132 (a0 := 5) (a1 := 1) (dc_nn (k := 15) aX12_errors_121 rfl) (by decide)
theorem dX12_errors_139 : decode cX12_errors 139 = .ok (.iconst 0, 1) := dc_3 (dc_nn (k := 18) aX12_errors_121 rfl)
theorem dX12_errors_140 : decode cX12_errors 140 = .ok (.istore 8, 2) := dc_54 (a0 := 8) (dc_nn (k := 19) aX12_errors_121 rfl)
theorem dX12_errors_142 : decode cX12_errors 142 = .ok (.iconst 1, 1) := dc_4 (dc_nn (k := 21) aX12_errors_121 rfl)
theorem dX12_errors_143 : decode cX12_errors 143 = .ok (.istore 9, 2) := dc_54 (a0 := 9) (dc_nn (k := 22) aX12_errors_121 rfl)
theorem dX12_errors_145 : decode cX12_errors 145 = .ok (.iload 9, 2) := dc_21 (a0 := 9) (dc_nn (k := 24) aX12_errors_121 rfl)
theorem dX12_errors_147 : decode cX12_errors 147 = .ok (.iconst 4, 1) := dc_7 (dc_nn (k := 26) aX12_errors_121 rfl)
theorem dX12_errors_148 : decode cX12_errors 148 = .ok (.if_icmp .ge 36, 3) := dc_162 (a0 := 0) (b0 := 36) (dc_nn (k := 27) aX12_errors_121 rfl) (by decide)
theorem dX12_errors_151 : decode cX12_errors 151 = .ok (.iload 8, 2) := dc_21 (a0 := 8) (dc_nn (k := 30) aX12_errors_121 rfl)
theorem dX12_errors_153 : decode cX12_errors 153 = .ok (.aload_n 0, 1) := dc_42 (dc_nn (k := 32) aX12_errors_121 rfl)
theorem dX12_errors_154 : decode cX12_errors 154 = .ok (.iload 9, 2) := dc_21 (a0 := 9) (dc_nn (k := 33) aX12_errors_121 rfl)
theorem dX12_errors_156 : decode cX12_errors 156 = .ok (.iload 6, 2) := dc_21 (a0 := 6) (dc_nn (k := 35) aX12_errors_121 rfl)
theorem dX12_errors_158 : decode cX12_errors 158 = .ok (.iload_n 3, 1) := dc_29 (dc_nn (k := 37) aX12_errors_121 rfl)
theorem dX12_errors_159 : decode cX12_errors 159 = .ok (.invokevirtual 274, 3) := dc_182 (a0 := 1) (b0 := 18) (dc_nn (k := 38) aX12_errors_121 rfl)
theorem dX12_errors_162 : decode cX12_errors 162 = .ok (.bipush 60, 2) := dc_16 (a0 := 60) aX12_errors_162 (by decide)
theorem dX12_errors_164 : decode cX12_errors 164 = .ok (.idiv, 1) := dc_108 (dc_nn (k := 2) aX12_errors_162 rfl)
theorem dX12_errors_165 : decode cX12_errors 165 = .ok (.iload 7, 2) := dc_21 (a0 := 7) (dc_nn (k := 3) aX12_errors_162 rfl)
theorem dX12_errors_167 : decode cX12_errors 167 = .ok (.if_icmp .ne 7, 3) := dc_160 (a0 := 0) (b0 := 7) (dc_nn (k := 5) aX12_errors_162 rfl) (by decide)
theorem dX12_errors_170 : decode cX12_errors 170 = .ok (.iconst 1, 1) := dc_4 (dc_nn (k := 8) aX12_errors_162 rfl)
theorem dX12_errors_171 : decode cX12_errors 171 = .ok (.goto 4, 3) := dc_167 (a0 := 0) (b0 := 4) (dc_nn (k := 9) aX12_errors_162 rfl) (by decide)
theorem dX12_errors_174 : decode cX12_errors 174 = .ok (.iconst 0, 1) := dc_3 (dc_nn (k := 12) aX12_errors_162 rfl)
theorem dX12_errors_175 : decode cX12_errors 175 = .ok (.iadd, 1) := dc_96 (dc_nn (k := 13) aX12_errors_162 rfl)
theorem dX12_errors_176 : decode cX12_errors 176 = .ok (.istore 8, 2) := dc_54 (a0 := 8) (dc_nn (k := 14) aX12_errors_162 rfl)
theorem dX12_errors_178 : decode cX12_errors 178 = .ok (.iinc 9 1, 3) := dc_132 (a0 := 9) (a1 := 1) (dc_nn (k := 16) aX12_errors_162 rfl) (by decide)
theorem dX12_errors_181 : decode cX12_errors 181 = .ok (.goto (-36), 3) := dc_167 (a0 := 255) (b0 := 220) (dc_nn (k := 19) aX12_errors_162 rfl) (by decide)
theorem dX12_errors_184 : decode cX12_errors 184 = .ok (.iconst 1, 1) := dc_4 (dc_nn (k := 22) aX12_errors_162 rfl)
theorem dX12_errors_185 : decode cX12_errors 185 = .ok (.istore 9, 2) := dc_54 (a0 := 9) (dc_nn (k := 23) aX12_errors_162 rfl)
theorem dX12_errors_187 : decode cX12_errors 187 = .ok (.iload 9, 2) := dc_21 (a0 := 9) (dc_nn (k := 25) aX12_errors_162 rfl)
theorem dX12_errors_189 : decode cX12_errors 189 = .ok (.iconst 4, 1) := dc_7 (dc_nn (k := 27) aX12_errors_162 rfl)
theorem dX12_errors_190 : decode cX12_errors 190 = .ok (.if_icmp .ge 76, 3) := dc_162 (a0 := 0) (b0 := 76) (dc_nn (k := 28) aX12_errors_162 rfl) (by decide)
theorem dX12_errors_193 : decode cX12_errors 193 = .ok (.aload_n 0, 1) := dc_42 (dc_nn (k := 31) aX12_errors_162 rfl)
theorem dX12_errors_194 : decode cX12_errors 194 = .ok (.iload 9, 2) := dc_21 (a0 := 9) (dc_nn (k := 32) aX12_errors_162 rfl)
theorem dX12_errors_196 : decode cX12_errors 196 = .ok (.iload 6, 2) := dc_21 (a0 := 6) (dc_nn (k := 34) aX12_errors_162 rfl)
theorem dX12_errors_198 : decode cX12_errors 198 = .ok (.iload_n 3, 1) := dc_29 (dc_nn (k := 36) aX12_errors_162 rfl)
theorem dX12_errors_199 : decode cX12_errors 199 = .ok (.invokevirtual 274, 3) := dc_182 (a0 := 1) (b0 := 18) (dc_nn (k := 37) aX12_errors_162 rfl)
theorem dX12_errors_202 : decode cX12_errors 202 = .ok (.bipush 60, 2) := dc_16 (a0 := 60) aX12_errors_202 (by decide)
theorem dX12_errors_204 : decode cX12_errors 204 = .ok (.idiv, 1) := dc_108 (dc_nn (k := 2) aX12_errors_202 rfl)
theorem dX12_errors_205 : decode cX12_errors 205 = .ok (.iload 7, 2) := dc_21 (a0 := 7) (dc_nn (k := 3) aX12_errors_202 rfl)
theorem dX12_errors_207 : decode cX12_errors 207 = .ok (.if_icmp .eq 6, 3) := dc_159 (a0 := 0) (b0 := 6) (dc_nn (k := 5) aX12_errors_202 rfl) (by decide)
theorem dX12_errors_210 : decode cX12_errors 210 = .ok (.goto 50, 3) := dc_167 (a0 := 0) (b0 := 50) (dc_nn (k := 8) aX12_errors_202 rfl) (by decide)
theorem dX12_errors_213 : decode cX12_errors 213 = .ok (.aload_n 0, 1) := dc_42 (dc_nn (k := 11) aX12_errors_202 rfl)
theorem dX12_errors_214 : decode cX12_errors 214 = .ok (.getfield 77, 3) := dc_180 (a0 := 0) (b0 := 77) (dc_nn (k := 12) aX12_errors_202 rfl)
theorem dX12_errors_217 : decode cX12_errors 217 = .ok (.iload 9, 2) := dc_21 (a0 := 9) (dc_nn (k := 15) aX12_errors_202 rfl)
theorem dX12_errors_219 : decode cX12_errors 219 = .ok (.dup2, 1) := dc_92 (dc_nn (k := 17) aX12_errors_202 rfl)
theorem dX12_errors_220 : decode cX12_errors 220 = .ok (.iaload, 1) := dc_46 (dc_nn (k := 18) aX12_errors_202 rfl)
theorem dX12_errors_221 : decode cX12_errors 221 = .ok (.iconst 1, 1) := dc_4 (dc_nn (k := 19) aX12_errors_202 rfl)
theorem dX12_errors_222 : decode cX12_errors 222 = .ok (.iadd, 1) := dc_96 (dc_nn (k := 20) aX12_errors_202 rfl)
theorem dX12_errors_223 : decode cX12_errors 223 = .ok (.iastore, 1) := dc_79 (dc_nn (k := 21) aX12_errors_202 rfl)
theorem dX12_errors_224 : decode cX12_errors 224 = .ok (.aload_n 0, 1) := dc_42 (dc_nn (k := 22) aX12_errors_202 rfl)
theorem dX12_errors_225 : decode cX12_errors 225 = .ok (.getfield 80, 3) := dc_180 (a0 := 0) (b0 := 80) (dc_nn (k := 23) aX12_errors_202 rfl)
theorem dX12_errors_228 : decode cX12_errors 228 = .ok (.iload 9, 2) := dc_21 (a0 := 9) (dc_nn (k := 26) aX12_errors_202 rfl)
theorem dX12_errors_230 : decode cX12_errors 230 = .ok (.dup2, 1) := dc_92 (dc_nn (k := 28) aX12_errors_202 rfl)
theorem dX12_errors_231 : decode cX12_errors 231 = .ok (.iaload, 1) := dc_46 (dc_nn (k := 29) aX12_errors_202 rfl)
theorem dX12_errors_232 : decode cX12_errors 232 = .ok (.iload 8, 2) := dc_21 (a0 := 8) (dc_nn (k := 30) aX12_errors_202 rfl)
theorem dX12_errors_234 : decode cX12_errors 234 = .ok (.iconst 1, 1) := dc_4 (dc_nn (k := 32) aX12_errors_202 rfl)
theorem dX12_errors_235 : decode cX12_errors 235 = .ok (.if_icmp .ne 7, 3) := dc_160 (a0 := 0) (b0 := 7) (dc_nn (k := 33) aX12_errors_202 rfl) (by decide)
theorem dX12_errors_238 : decode cX12_errors 238 = .ok (.iconst 1, 1) := dc_4 (dc_nn (k := 36) aX12_errors_202 rfl)
theorem dX12_errors_239 : decode cX12_errors 239 = .ok (.goto 4, 3) := dc_167 (a0 := 0) (b0 := 4) (dc_nn (k := 37) aX12_errors_202 rfl) (by decide)
theorem dX12_errors_242 : decode cX12_errors 242 = .ok (.iconst 0, 1) := dc_3 aX12_errors_242
theorem dX12_errors_243 : decode cX12_errors 243 = .ok (.iadd, 1) := dc_96 (dc_nn (k := 1) aX12_errors_242 rfl)
theorem dX12_errors_244 : decode cX12_errors 244 = .ok (.iastore, 1) := dc_79 (dc_nn (k := 2) aX12_errors_242 rfl)
theorem dX12_errors_245 : decode cX12_errors 245 = .ok (.aload_n 0, 1) := dc_42 (dc_nn (k := 3) aX12_errors_242 rfl)
theorem dX12_errors_246 : decode cX12_errors 246 = .ok (.getfield 83, 3) := dc_180 (a0 := 0) (b0 := 83) (dc_nn (k := 4) aX12_errors_242 rfl)
theorem dX12_errors_249 : decode cX12_errors 249 = .ok (.iload 9, 2) := dc_21 (a0 := 9) (dc_nn (k := 7) aX12_errors_242 rfl)
theorem dX12_errors_251 : decode cX12_errors 251 = .ok (.dup2, 1) := dc_92 (dc_nn (k := 9) aX12_errors_242 rfl)
theorem dX12_errors_252 : decode cX12_errors 252 = .ok (.iaload, 1) := dc_46 (dc_nn (k := 10) aX12_errors_242 rfl)
theorem dX12_errors_253 : decode cX12_errors 253 = .ok (.bipush 6, 2) := dc_16 (a0 := 6) (dc_nn (k := 11) aX12_errors_242 rfl) (by decide)
theorem dX12_errors_255 : decode cX12_errors 255 = .ok (.iload 8, 2) := dc_21 (a0 := 8) (dc_nn (k := 13) aX12_errors_242 rfl)
theorem dX12_errors_257 : decode cX12_errors 257 = .ok (.idiv, 1) := dc_108 (dc_nn (k := 15) aX12_errors_242 rfl)
theorem dX12_errors_258 : decode cX12_errors 258 = .ok (.iadd, 1) := dc_96 (dc_nn (k := 16) aX12_errors_242 rfl)
theorem dX12_errors_259 : decode cX12_errors 259 = .ok (.iastore, 1) := dc_79 (dc_nn (k := 17) aX12_errors_242 rfl)
theorem dX12_errors_260 : decode cX12_errors 260 = .ok (.iinc 9 1, 3) := dc_132 (a0 := 9) (a1 := 1) (dc_nn (k := 18) aX12_errors_242 rfl) (by decide)
theorem dX12_errors_263 : decode cX12_errors 263 = .ok (.goto (-76), 3) := dc_167 (a0 := 255) (b0 := 180) (dc_nn (k := 21) aX12_errors_242 rfl) (by decide)
theorem dX12_errors_266 : decode cX12_errors 266 = .ok (.iinc 6 1, 3) := dc_132 (a0 := 6) (a1 := 1) (dc_nn (k := 24) aX12_errors_242 rfl) (by decide)
theorem dX12_errors_269 : decode cX12_errors 269 = .ok (.goto (-179), 3) := dc_167 (a0 := 255) (b0 := 77) (dc_nn (k := 27) aX12_errors_242 rfl) (by decide)
theorem dX12_errors_272 : decode cX12_errors 272 = .ok (.iload 4, 2) := dc_21 (a0 := 4) (dc_nn (k := 30) aX12_errors_242 rfl)
theorem dX12_errors_274 : decode cX12_errors 274 = .ok (.ifCond .ne 6, 3) := dc_154 (a0 := 0) (b0 := 6) (dc_nn (k := 32) aX12_errors_242 rfl) (by decide)
theorem dX12_errors_277 : decode cX12_errors 277 = .ok (.iload 5, 2) := dc_21 (a0 := 5) (dc_nn (k := 35) aX12_errors_242 rfl)
theorem dX12_errors_279 : decode cX12_errors 279 = .ok (.ireturn, 1) := dc_172 (dc_nn (k := 37) aX12_errors_242 rfl)
theorem dX12_errors_280 : decode cX12_errors 280 = .ok (.iload 4, 2) := dc_21 (a0 := 4) (dc_nn (k := 38) aX12_errors_242 rfl)
theorem dX12_errors_282 : decode cX12_errors 282 = .ok (.iconst 1, 1) := dc_4 aX12_errors_282
theorem dX12_errors_283 : decode cX12_errors 283 = .ok (.if_icmp .le 51, 3) := dc_164 (a0 := 0) (b0 := 51) (dc_nn (k := 1) aX12_errors_282 rfl) (by decide)
theorem dX12_errors_286 : decode cX12_errors 286 = .ok (.iload 4, 2) := dc_21 (a0 := 4) (dc_nn (k := 4) aX12_errors_282 rfl)
theorem dX12_errors_288 : decode cX12_errors 288 = .ok (.iconst 5, 1) := dc_8 (dc_nn (k := 6) aX12_errors_282 rfl)
theorem dX12_errors_289 : decode cX12_errors 289 = .ok (.if_icmp .ge 15, 3) := dc_162 (a0 := 0) (b0 := 15) (dc_nn (k := 7) aX12_errors_282 rfl) (by decide)
theorem dX12_errors_292 : decode cX12_errors 292 = .ok (.aload_n 0, 1) := dc_42 (dc_nn (k := 10) aX12_errors_282 rfl)
theorem dX12_errors_293 : decode cX12_errors 293 = .ok (.getfield 77, 3) := dc_180 (a0 := 0) (b0 := 77) (dc_nn (k := 11) aX12_errors_282 rfl)
theorem dX12_errors_296 : decode cX12_errors 296 = .ok (.iload 4, 2) := dc_21 (a0 := 4) (dc_nn (k := 14) aX12_errors_282 rfl)
theorem dX12_errors_298 : decode cX12_errors 298 = .ok (.iconst 1, 1) := dc_4 (dc_nn (k := 16) aX12_errors_282 rfl)
theorem dX12_errors_299 : decode cX12_errors 299 = .ok (.isub, 1) := dc_100 (dc_nn (k := 17) aX12_errors_282 rfl)
theorem dX12_errors_300 : decode cX12_errors 300 = .ok (.iaload, 1) := dc_46 (dc_nn (k := 18) aX12_errors_282 rfl)
theorem dX12_errors_301 : decode cX12_errors 301 = .ok (.goto 32, 3) := dc_167 (a0 := 0) (b0 := 32) (dc_nn (k := 19) aX12_errors_282 rfl) (by decide)
theorem dX12_errors_304 : decode cX12_errors 304 = .ok (.iload 4, 2) := dc_21 (a0 := 4) (dc_nn (k := 22) aX12_errors_282 rfl)
theorem dX12_errors_306 : decode cX12_errors 306 = .ok (.bipush 8, 2) := dc_16 (a0 := 8) (dc_nn (k := 24) aX12_errors_282 rfl) (by decide)
theorem dX12_errors_308 : decode cX12_errors 308 = .ok (.if_icmp .ge 15, 3) := dc_162 (a0 := 0) (b0 := 15) (dc_nn (k := 26) aX12_errors_282 rfl) (by decide)
theorem dX12_errors_311 : decode cX12_errors 311 = .ok (.aload_n 0, 1) := dc_42 (dc_nn (k := 29) aX12_errors_282 rfl)
theorem dX12_errors_312 : decode cX12_errors 312 = .ok (.getfield 80, 3) := dc_180 (a0 := 0) (b0 := 80) (dc_nn (k := 30) aX12_errors_282 rfl)
theorem dX12_errors_315 : decode cX12_errors 315 = .ok (.iload 4, 2) := dc_21 (a0 := 4) (dc_nn (k := 33) aX12_errors_282 rfl)
theorem dX12_errors_317 : decode cX12_errors 317 = .ok (.iconst 4, 1) := dc_7 (dc_nn (k := 35) aX12_errors_282 rfl)
theorem dX12_errors_318 : decode cX12_errors 318 = .ok (.isub, 1) := dc_100 (dc_nn (k := 36) aX12_errors_282 rfl)
theorem dX12_errors_319 : decode cX12_errors 319 = .ok (.iaload, 1) := dc_46 (dc_nn (k := 37) aX12_errors_282 rfl)
theorem dX12_errors_320 : decode cX12_errors 320 = .ok (.goto 13, 3) := dc_167 (a0 := 0) (b0 := 13) (dc_nn (k := 38) aX12_errors_282 rfl) (by decide)
theorem dX12_errors_323 : decode cX12_errors 323 = .ok (.aload_n 0, 1) := dc_42 aX12_errors_323
theorem dX12_errors_324 : decode cX12_errors 324 = .ok (.getfield 83, 3) := dc_180 (a0 := 0) (b0 := 83) (dc_nn (k := 1) aX12_errors_323 rfl)
theorem dX12_errors_327 : decode cX12_errors 327 = .ok (.iload 4, 2) := dc_21 (a0 := 4) (dc_nn (k := 4) aX12_errors_323 rfl)
theorem dX12_errors_329 : decode cX12_errors 329 = .ok (.bipush 7, 2) := dc_16 (a0 := 7) (dc_nn (k := 6) aX12_errors_323 rfl) (by decide)
theorem dX12_errors_331 : decode cX12_errors 331 = .ok (.isub, 1) := dc_100 (dc_nn (k := 8) aX12_errors_323 rfl)
theorem dX12_errors_332 : decode cX12_errors 332 = .ok (.iaload, 1) := dc_46 (dc_nn (k := 9) aX12_errors_323 rfl)
theorem dX12_errors_333 : decode cX12_errors 333 = .ok (.ireturn, 1) := dc_172 (dc_nn (k := 10) aX12_errors_323 rfl)
theorem dX12_errors_334 : decode cX12_errors 334 = .ok (.iconst 1, 1) := dc_4 (dc_nn (k := 11) aX12_errors_323 rfl)
theorem dX12_errors_335 : decode cX12_errors 335 = .ok (.istore 6, 2) := dc_54 (a0 := 6) (dc_nn (k := 12) aX12_errors_323 rfl)
theorem dX12_errors_337 : decode cX12_errors 337 = .ok (.iconst 2, 1) := dc_5 (dc_nn (k := 14) aX12_errors_323 rfl)
theorem dX12_errors_338 : decode cX12_errors 338 = .ok (.istore 7, 2) := dc_54 (a0 := 7) (dc_nn (k := 15) aX12_errors_323 rfl)
theorem dX12_errors_340 : decode cX12_errors 340 = .ok (.iload 7, 2) := dc_21 (a0 := 7) (dc_nn (k := 17) aX12_errors_323 rfl)
theorem dX12_errors_342 : decode cX12_errors 342 = .ok (.iconst 4, 1) := dc_7 (dc_nn (k := 19) aX12_errors_323 rfl)
theorem dX12_errors_343 : decode cX12_errors 343 = .ok (.if_icmp .ge 35, 3) := dc_162 (a0 := 0) (b0 := 35) (dc_nn (k := 20) aX12_errors_323 rfl) (by decide)
theorem dX12_errors_346 : decode cX12_errors 346 = .ok (.aload_n 0, 1) := dc_42 (dc_nn (k := 23) aX12_errors_323 rfl)
theorem dX12_errors_347 : decode cX12_errors 347 = .ok (.getfield 83, 3) := dc_180 (a0 := 0) (b0 := 83) (dc_nn (k := 24) aX12_errors_323 rfl)
theorem dX12_errors_350 : decode cX12_errors 350 = .ok (.iload 7, 2) := dc_21 (a0 := 7) (dc_nn (k := 27) aX12_errors_323 rfl)
theorem dX12_errors_352 : decode cX12_errors 352 = .ok (.iaload, 1) := dc_46 (dc_nn (k := 29) aX12_errors_323 rfl)
theorem dX12_errors_353 : decode cX12_errors 353 = .ok (.aload_n 0, 1) := dc_42 (dc_nn (k := 30) aX12_errors_323 rfl)
theorem dX12_errors_354 : decode cX12_errors 354 = .ok (.getfield 83, 3) := dc_180 (a0 := 0) (b0 := 83) (dc_nn (k := 31) aX12_errors_323 rfl)
theorem dX12_errors_357 : decode cX12_errors 357 = .ok (.iload 6, 2) := dc_21 (a0 := 6) (dc_nn (k := 34) aX12_errors_323 rfl)
theorem dX12_errors_359 : decode cX12_errors 359 = .ok (.iaload, 1) := dc_46 (dc_nn (k := 36) aX12_errors_323 rfl)
theorem dX12_errors_360 : decode cX12_errors 360 = .ok (.if_icmp .le 8, 3) := dc_164 (a0 := 0) (b0 := 8) (dc_nn (k := 37) aX12_errors_323 rfl) (by decide)
theorem dX12_errors_363 : decode cX12_errors 363 = .ok (.iload 7, 2) := dc_21 (a0 := 7) aX12_errors_363
theorem dX12_errors_365 : decode cX12_errors 365 = .ok (.goto 5, 3) := dc_167 (a0 := 0) (b0 := 5) (dc_nn (k := 2) aX12_errors_363 rfl) (by decide)
theorem dX12_errors_368 : decode cX12_errors 368 = .ok (.iload 6, 2) := dc_21 (a0 := 6) (dc_nn (k := 5) aX12_errors_363 rfl)
theorem dX12_errors_370 : decode cX12_errors 370 = .ok (.istore 6, 2) := dc_54 (a0 := 6) (dc_nn (k := 7) aX12_errors_363 rfl)
theorem dX12_errors_372 : decode cX12_errors 372 = .ok (.iinc 7 1, 3) := dc_132 (a0 := 7) (a1 := 1) (dc_nn (k := 9) aX12_errors_363 rfl) (by decide)
theorem dX12_errors_375 : decode cX12_errors 375 = .ok (.goto (-35), 3) := dc_167 (a0 := 255) (b0 := 221) (dc_nn (k := 12) aX12_errors_363 rfl) (by decide)
theorem dX12_errors_378 : decode cX12_errors 378 = .ok (.aload_n 0, 1) := dc_42 (dc_nn (k := 15) aX12_errors_363 rfl)
theorem dX12_errors_379 : decode cX12_errors 379 = .ok (.getfield 83, 3) := dc_180 (a0 := 0) (b0 := 83) (dc_nn (k := 16) aX12_errors_363 rfl)
theorem dX12_errors_382 : decode cX12_errors 382 = .ok (.iload 6, 2) := dc_21 (a0 := 6) (dc_nn (k := 19) aX12_errors_363 rfl)
theorem dX12_errors_384 : decode cX12_errors 384 = .ok (.iaload, 1) := dc_46 (dc_nn (k := 21) aX12_errors_363 rfl)
theorem dX12_errors_385 : decode cX12_errors 385 = .ok (.ifCond .ne 7, 3) := dc_154 (a0 := 0) (b0 := 7) (dc_nn (k := 22) aX12_errors_363 rfl) (by decide)
theorem dX12_errors_388 : decode cX12_errors 388 = .ok (.iconst (-1), 1) := dc_2 (dc_nn (k := 25) aX12_errors_363 rfl)
theorem dX12_errors_389 : decode cX12_errors 389 = .ok (.goto 5, 3) := dc_167 (a0 := 0) (b0 := 5) (dc_nn (k := 26) aX12_errors_363 rfl) (by decide)
theorem dX12_errors_392 : decode cX12_errors 392 = .ok (.iload 6, 2) := dc_21 (a0 := 6) (dc_nn (k := 29) aX12_errors_363 rfl)
theorem dX12_errors_394 : decode cX12_errors 394 = .ok (.ireturn, 1) := dc_172 (dc_nn (k := 31) aX12_errors_363 rfl)
noncomputable def sX12_climbOf_40 : List Nat := 29 :: 42 :: 180 :: 0 :: 22 :: 16 :: 12 :: 27 :: 104 :: 28 :: 17 :: 7 :: 8 :: 108 :: 96 :: 46 :: 28 :: 17 :: 7 :: 8 :: 112 :: 104 :: 96 :: 172 :: []
noncomputable def sX12_climbOf_0 : List Nat := 3 :: 62 :: 3 :: 54 :: 4 :: 21 :: 4 :: 28 :: 17 :: 7 :: 8 :: 108 :: 162 :: 0 :: 28 :: 29 :: 17 :: 7 :: 8 :: 42 :: 180 :: 0 :: 22 :: 16 :: 12 :: 27 :: 104 :: 21 :: 4 :: 96 :: 46 :: 104 :: 96 :: 62 :: 132 :: 4 :: 1 :: 167 :: 255 :: 224 :: sX12_climbOf_40
theorem aX12_climbOf_0 : dc_at cX12_climbOf 0 sX12_climbOf_0 := dc_base (by decide +kernel)
theorem aX12_climbOf_40 : dc_at cX12_climbOf 40 sX12_climbOf_40 := dc_nn (k := 40) aX12_climbOf_0 rfl
theorem dX12_climbOf_0 : decode cX12_climbOf 0 = .ok (.iconst 0, 1) := dc_3 aX12_climbOf_0
theorem dX12_climbOf_1 : decode cX12_climbOf 1 = .ok (.istore_n 3, 1) := dc_62 (dc_nn (k := 1) aX12_climbOf_0 rfl)
theorem dX12_climbOf_2 : decode cX12_climbOf 2 = .ok (.iconst 0, 1) := dc_3 (dc_nn (k := 2) aX12_climbOf_0 rfl)
theorem dX12_climbOf_3 : decode cX12_climbOf 3 = .ok (.istore 4, 2) := dc_54 (a0 := 4) (dc_nn (k := 3) aX12_climbOf_0 rfl)
theorem dX12_climbOf_5 : decode cX12_climbOf 5 = .ok (.iload 4, 2) := dc_21 (a0 := 4) (dc_nn (k := 5) aX12_climbOf_0 rfl)
theorem dX12_climbOf_7 : decode cX12_climbOf 7 = .ok (.iload_n 2, 1) := dc_28 (dc_nn (k := 7) aX12_climbOf_0 rfl)
theorem dX12_climbOf_8 : decode cX12_climbOf 8 = .ok (.sipush 1800, 3) := dc_17 (a0 := 7) (b0 := 8) (dc_nn (k := 8) aX12_climbOf_0 rfl) (by decide)
theorem dX12_climbOf_11 : decode cX12_climbOf 11 = .ok (.idiv, 1) := dc_108 (dc_nn (k := 11) aX12_climbOf_0 rfl)
theorem dX12_climbOf_12 : decode cX12_climbOf 12 = .ok (.if_icmp .ge 28, 3) := dc_162 (a0 := 0) (b0 := 28) (dc_nn (k := 12) aX12_climbOf_0 rfl) (by decide)
theorem dX12_climbOf_15 : decode cX12_climbOf 15 = .ok (.iload_n 3, 1) := dc_29 (dc_nn (k := 15) aX12_climbOf_0 rfl)
theorem dX12_climbOf_16 : decode cX12_climbOf 16 = .ok (.sipush 1800, 3) := dc_17 (a0 := 7) (b0 := 8) (dc_nn (k := 16) aX12_climbOf_0 rfl) (by decide)
theorem dX12_climbOf_19 : decode cX12_climbOf 19 = .ok (.aload_n 0, 1) := dc_42 (dc_nn (k := 19) aX12_climbOf_0 rfl)
theorem dX12_climbOf_20 : decode cX12_climbOf 20 = .ok (.getfield 22, 3) := dc_180 (a0 := 0) (b0 := 22) (dc_nn (k := 20) aX12_climbOf_0 rfl)
theorem dX12_climbOf_23 : decode cX12_climbOf 23 = .ok (.bipush 12, 2) := dc_16 (a0 := 12) (dc_nn (k := 23) aX12_climbOf_0 rfl) (by decide)
theorem dX12_climbOf_25 : decode cX12_climbOf 25 = .ok (.iload_n 1, 1) := dc_27 (dc_nn (k := 25) aX12_climbOf_0 rfl)
theorem dX12_climbOf_26 : decode cX12_climbOf 26 = .ok (.imul, 1) := dc_104 (dc_nn (k := 26) aX12_climbOf_0 rfl)
theorem dX12_climbOf_27 : decode cX12_climbOf 27 = .ok (.iload 4, 2) := dc_21 (a0 := 4) (dc_nn (k := 27) aX12_climbOf_0 rfl)
theorem dX12_climbOf_29 : decode cX12_climbOf 29 = .ok (.iadd, 1) := dc_96 (dc_nn (k := 29) aX12_climbOf_0 rfl)
theorem dX12_climbOf_30 : decode cX12_climbOf 30 = .ok (.iaload, 1) := dc_46 (dc_nn (k := 30) aX12_climbOf_0 rfl)
theorem dX12_climbOf_31 : decode cX12_climbOf 31 = .ok (.imul, 1) := dc_104 (dc_nn (k := 31) aX12_climbOf_0 rfl)
theorem dX12_climbOf_32 : decode cX12_climbOf 32 = .ok (.iadd, 1) := dc_96 (dc_nn (k := 32) aX12_climbOf_0 rfl)
theorem dX12_climbOf_33 : decode cX12_climbOf 33 = .ok (.istore_n 3, 1) := dc_62 (dc_nn (k := 33) aX12_climbOf_0 rfl)
theorem dX12_climbOf_34 : decode cX12_climbOf 34 = .ok (.iinc 4 1, 3) := dc_132 (a0 := 4) (a1 := 1) (dc_nn (k := 34) aX12_climbOf_0 rfl) (by decide)
theorem dX12_climbOf_37 : decode cX12_climbOf 37 = .ok (.goto (-32), 3) := dc_167 (a0 := 255) (b0 := 224) (dc_nn (k := 37) aX12_climbOf_0 rfl) (by decide)
theorem dX12_climbOf_40 : decode cX12_climbOf 40 = .ok (.iload_n 3, 1) := dc_29 aX12_climbOf_40
theorem dX12_climbOf_41 : decode cX12_climbOf 41 = .ok (.aload_n 0, 1) := dc_42 (dc_nn (k := 1) aX12_climbOf_40 rfl)
theorem dX12_climbOf_42 : decode cX12_climbOf 42 = .ok (.getfield 22, 3) := dc_180 (a0 := 0) (b0 := 22) (dc_nn (k := 2) aX12_climbOf_40 rfl)
theorem dX12_climbOf_45 : decode cX12_climbOf 45 = .ok (.bipush 12, 2) := dc_16 (a0 := 12) (dc_nn (k := 5) aX12_climbOf_40 rfl) (by decide)
theorem dX12_climbOf_47 : decode cX12_climbOf 47 = .ok (.iload_n 1, 1) := dc_27 (dc_nn (k := 7) aX12_climbOf_40 rfl)
theorem dX12_climbOf_48 : decode cX12_climbOf 48 = .ok (.imul, 1) := dc_104 (dc_nn (k := 8) aX12_climbOf_40 rfl)
theorem dX12_climbOf_49 : decode cX12_climbOf 49 = .ok (.iload_n 2, 1) := dc_28 (dc_nn (k := 9) aX12_climbOf_40 rfl)
theorem dX12_climbOf_50 : decode cX12_climbOf 50 = .ok (.sipush 1800, 3) := dc_17 (a0 := 7) (b0 := 8) (dc_nn (k := 10) aX12_climbOf_40 rfl) (by decide)
theorem dX12_climbOf_53 : decode cX12_climbOf 53 = .ok (.idiv, 1) := dc_108 (dc_nn (k := 13) aX12_climbOf_40 rfl)
theorem dX12_climbOf_54 : decode cX12_climbOf 54 = .ok (.iadd, 1) := dc_96 (dc_nn (k := 14) aX12_climbOf_40 rfl)
theorem dX12_climbOf_55 : decode cX12_climbOf 55 = .ok (.iaload, 1) := dc_46 (dc_nn (k := 15) aX12_climbOf_40 rfl)
theorem dX12_climbOf_56 : decode cX12_climbOf 56 = .ok (.iload_n 2, 1) := dc_28 (dc_nn (k := 16) aX12_climbOf_40 rfl)
theorem dX12_climbOf_57 : decode cX12_climbOf 57 = .ok (.sipush 1800, 3) := dc_17 (a0 := 7) (b0 := 8) (dc_nn (k := 17) aX12_climbOf_40 rfl) (by decide)
theorem dX12_climbOf_60 : decode cX12_climbOf 60 = .ok (.irem, 1) := dc_112 (dc_nn (k := 20) aX12_climbOf_40 rfl)
theorem dX12_climbOf_61 : decode cX12_climbOf 61 = .ok (.imul, 1) := dc_104 (dc_nn (k := 21) aX12_climbOf_40 rfl)
theorem dX12_climbOf_62 : decode cX12_climbOf 62 = .ok (.iadd, 1) := dc_96 (dc_nn (k := 22) aX12_climbOf_40 rfl)
theorem dX12_climbOf_63 : decode cX12_climbOf 63 = .ok (.ireturn, 1) := dc_172 (dc_nn (k := 23) aX12_climbOf_40 rfl)
noncomputable def sX12_placeOf_40 : List Nat := 46 :: 104 :: 100 :: 62 :: 132 :: 4 :: 1 :: 167 :: 255 :: 214 :: 17 :: 7 :: 8 :: 21 :: 4 :: 104 :: 29 :: 42 :: 180 :: 0 :: 22 :: 16 :: 12 :: 27 :: 104 :: 21 :: 4 :: 96 :: 46 :: 108 :: 96 :: 172 :: []
noncomputable def sX12_placeOf_0 : List Nat := 28 :: 62 :: 3 :: 54 :: 4 :: 29 :: 17 :: 7 :: 8 :: 42 :: 180 :: 0 :: 22 :: 16 :: 12 :: 27 :: 104 :: 21 :: 4 :: 96 :: 46 :: 104 :: 161 :: 0 :: 28 :: 29 :: 17 :: 7 :: 8 :: 42 :: 180 :: 0 :: 22 :: 16 :: 12 :: 27 :: 104 :: 21 :: 4 :: 96 :: sX12_placeOf_40
theorem aX12_placeOf_0 : dc_at cX12_placeOf 0 sX12_placeOf_0 := dc_base (by decide +kernel)
theorem aX12_placeOf_40 : dc_at cX12_placeOf 40 sX12_placeOf_40 := dc_nn (k := 40) aX12_placeOf_0 rfl
theorem dX12_placeOf_0 : decode cX12_placeOf 0 = .ok (.iload_n 2, 1) := dc_28 aX12_placeOf_0
theorem dX12_placeOf_1 : decode cX12_placeOf 1 = .ok (.istore_n 3, 1) := dc_62 (dc_nn (k := 1) aX12_placeOf_0 rfl)
theorem dX12_placeOf_2 : decode cX12_placeOf 2 = .ok (.iconst 0, 1) := dc_3 (dc_nn (k := 2) aX12_placeOf_0 rfl)
theorem dX12_placeOf_3 : decode cX12_placeOf 3 = .ok (.istore 4, 2) := dc_54 (a0 := 4) (dc_nn (k := 3) aX12_placeOf_0 rfl)
theorem dX12_placeOf_5 : decode cX12_placeOf 5 = .ok (.iload_n 3, 1) := dc_29 (dc_nn (k := 5) aX12_placeOf_0 rfl)
theorem dX12_placeOf_6 : decode cX12_placeOf 6 = .ok (.sipush 1800, 3) := dc_17 (a0 := 7) (b0 := 8) (dc_nn (k := 6) aX12_placeOf_0 rfl) (by decide)
theorem dX12_placeOf_9 : decode cX12_placeOf 9 = .ok (.aload_n 0, 1) := dc_42 (dc_nn (k := 9) aX12_placeOf_0 rfl)
theorem dX12_placeOf_10 : decode cX12_placeOf 10 = .ok (.getfield 22, 3) := dc_180 (a0 := 0) (b0 := 22) (dc_nn (k := 10) aX12_placeOf_0 rfl)
theorem dX12_placeOf_13 : decode cX12_placeOf 13 = .ok (.bipush 12, 2) := dc_16 (a0 := 12) (dc_nn (k := 13) aX12_placeOf_0 rfl) (by decide)
theorem dX12_placeOf_15 : decode cX12_placeOf 15 = .ok (.iload_n 1, 1) := dc_27 (dc_nn (k := 15) aX12_placeOf_0 rfl)
theorem dX12_placeOf_16 : decode cX12_placeOf 16 = .ok (.imul, 1) := dc_104 (dc_nn (k := 16) aX12_placeOf_0 rfl)
theorem dX12_placeOf_17 : decode cX12_placeOf 17 = .ok (.iload 4, 2) := dc_21 (a0 := 4) (dc_nn (k := 17) aX12_placeOf_0 rfl)
theorem dX12_placeOf_19 : decode cX12_placeOf 19 = .ok (.iadd, 1) := dc_96 (dc_nn (k := 19) aX12_placeOf_0 rfl)
theorem dX12_placeOf_20 : decode cX12_placeOf 20 = .ok (.iaload, 1) := dc_46 (dc_nn (k := 20) aX12_placeOf_0 rfl)
theorem dX12_placeOf_21 : decode cX12_placeOf 21 = .ok (.imul, 1) := dc_104 (dc_nn (k := 21) aX12_placeOf_0 rfl)
theorem dX12_placeOf_22 : decode cX12_placeOf 22 = .ok (.if_icmp .lt 28, 3) := dc_161 (a0 := 0) (b0 := 28) (dc_nn (k := 22) aX12_placeOf_0 rfl) (by decide)
theorem dX12_placeOf_25 : decode cX12_placeOf 25 = .ok (.iload_n 3, 1) := dc_29 (dc_nn (k := 25) aX12_placeOf_0 rfl)
theorem dX12_placeOf_26 : decode cX12_placeOf 26 = .ok (.sipush 1800, 3) := dc_17 (a0 := 7) (b0 := 8) (dc_nn (k := 26) aX12_placeOf_0 rfl) (by decide)
theorem dX12_placeOf_29 : decode cX12_placeOf 29 = .ok (.aload_n 0, 1) := dc_42 (dc_nn (k := 29) aX12_placeOf_0 rfl)
theorem dX12_placeOf_30 : decode cX12_placeOf 30 = .ok (.getfield 22, 3) := dc_180 (a0 := 0) (b0 := 22) (dc_nn (k := 30) aX12_placeOf_0 rfl)
theorem dX12_placeOf_33 : decode cX12_placeOf 33 = .ok (.bipush 12, 2) := dc_16 (a0 := 12) (dc_nn (k := 33) aX12_placeOf_0 rfl) (by decide)
theorem dX12_placeOf_35 : decode cX12_placeOf 35 = .ok (.iload_n 1, 1) := dc_27 (dc_nn (k := 35) aX12_placeOf_0 rfl)
theorem dX12_placeOf_36 : decode cX12_placeOf 36 = .ok (.imul, 1) := dc_104 (dc_nn (k := 36) aX12_placeOf_0 rfl)
theorem dX12_placeOf_37 : decode cX12_placeOf 37 = .ok (.iload 4, 2) := dc_21 (a0 := 4) (dc_nn (k := 37) aX12_placeOf_0 rfl)
theorem dX12_placeOf_39 : decode cX12_placeOf 39 = .ok (.iadd, 1) := dc_96 (dc_nn (k := 39) aX12_placeOf_0 rfl)
theorem dX12_placeOf_40 : decode cX12_placeOf 40 = .ok (.iaload, 1) := dc_46 aX12_placeOf_40
theorem dX12_placeOf_41 : decode cX12_placeOf 41 = .ok (.imul, 1) := dc_104 (dc_nn (k := 1) aX12_placeOf_40 rfl)
theorem dX12_placeOf_42 : decode cX12_placeOf 42 = .ok (.isub, 1) := dc_100 (dc_nn (k := 2) aX12_placeOf_40 rfl)
theorem dX12_placeOf_43 : decode cX12_placeOf 43 = .ok (.istore_n 3, 1) := dc_62 (dc_nn (k := 3) aX12_placeOf_40 rfl)
theorem dX12_placeOf_44 : decode cX12_placeOf 44 = .ok (.iinc 4 1, 3) := dc_132 (a0 := 4) (a1 := 1) (dc_nn (k := 4) aX12_placeOf_40 rfl) (by decide)
theorem dX12_placeOf_47 : decode cX12_placeOf 47 = .ok (.goto (-42), 3) := dc_167 (a0 := 255) (b0 := 214) (dc_nn (k := 7) aX12_placeOf_40 rfl) (by decide)
theorem dX12_placeOf_50 : decode cX12_placeOf 50 = .ok (.sipush 1800, 3) := dc_17 (a0 := 7) (b0 := 8) (dc_nn (k := 10) aX12_placeOf_40 rfl) (by decide)
theorem dX12_placeOf_53 : decode cX12_placeOf 53 = .ok (.iload 4, 2) := dc_21 (a0 := 4) (dc_nn (k := 13) aX12_placeOf_40 rfl)
theorem dX12_placeOf_55 : decode cX12_placeOf 55 = .ok (.imul, 1) := dc_104 (dc_nn (k := 15) aX12_placeOf_40 rfl)
theorem dX12_placeOf_56 : decode cX12_placeOf 56 = .ok (.iload_n 3, 1) := dc_29 (dc_nn (k := 16) aX12_placeOf_40 rfl)
theorem dX12_placeOf_57 : decode cX12_placeOf 57 = .ok (.aload_n 0, 1) := dc_42 (dc_nn (k := 17) aX12_placeOf_40 rfl)
theorem dX12_placeOf_58 : decode cX12_placeOf 58 = .ok (.getfield 22, 3) := dc_180 (a0 := 0) (b0 := 22) (dc_nn (k := 18) aX12_placeOf_40 rfl)
theorem dX12_placeOf_61 : decode cX12_placeOf 61 = .ok (.bipush 12, 2) := dc_16 (a0 := 12) (dc_nn (k := 21) aX12_placeOf_40 rfl) (by decide)
theorem dX12_placeOf_63 : decode cX12_placeOf 63 = .ok (.iload_n 1, 1) := dc_27 (dc_nn (k := 23) aX12_placeOf_40 rfl)
theorem dX12_placeOf_64 : decode cX12_placeOf 64 = .ok (.imul, 1) := dc_104 (dc_nn (k := 24) aX12_placeOf_40 rfl)
theorem dX12_placeOf_65 : decode cX12_placeOf 65 = .ok (.iload 4, 2) := dc_21 (a0 := 4) (dc_nn (k := 25) aX12_placeOf_40 rfl)
theorem dX12_placeOf_67 : decode cX12_placeOf 67 = .ok (.iadd, 1) := dc_96 (dc_nn (k := 27) aX12_placeOf_40 rfl)
theorem dX12_placeOf_68 : decode cX12_placeOf 68 = .ok (.iaload, 1) := dc_46 (dc_nn (k := 28) aX12_placeOf_40 rfl)
theorem dX12_placeOf_69 : decode cX12_placeOf 69 = .ok (.idiv, 1) := dc_108 (dc_nn (k := 29) aX12_placeOf_40 rfl)
theorem dX12_placeOf_70 : decode cX12_placeOf 70 = .ok (.iadd, 1) := dc_96 (dc_nn (k := 30) aX12_placeOf_40 rfl)
theorem dX12_placeOf_71 : decode cX12_placeOf 71 = .ok (.ireturn, 1) := dc_172 (dc_nn (k := 31) aX12_placeOf_40 rfl)
set_option maxRecDepth 20000 in
theorem ggX12_isClimate_X12_within : GoodIn wsX12_isClimate wsX12_within := goodIn_k _ [[5]] (by rfl) (by decide +kernel)
set_option maxRecDepth 20000 in
theorem gX12_isClimate_X12_within : GoodIn wsX12_isClimate (va_wsS RX12 270 yX12_within wsX12_within) := goodIn_app (goodIn_k _ [[2, 0, 0]] (by rfl) (gw_S _ _ _ _)) ggX12_isClimate_X12_within
set_option maxRecDepth 20000 in
theorem ggX12_isClimate_X12_right : GoodIn wsX12_isClimate wsX12_right := goodIn_k _ [[9, 0, 0, 0, 0, 0, 0, 0, 0, 0, 0, 0, 0, 0, 0, 0, 0, 0, 0, 0, 0, 0, 0, 0, 0, 0, 0, 0, 0, 0, 0, 0, 0, 0, 0, 0, 0, 0, 0, 0, 0, 0, 0, 0, 0, 0, 0, 0, 0, 0, 0, 0, 0, 0, 0, 0, 0, 0, 0, 0]] (by rfl) (by decide +kernel)
set_option maxRecDepth 20000 in
theorem gX12_isClimate_X12_right : GoodIn wsX12_isClimate (wsV RX12 209 RX12 yX12_right wsX12_right) := goodIn_app (goodIn_k _ [[6, 0, 0], [4]] (by rfl) (gw_V _ _ _ _)) ggX12_isClimate_X12_right
noncomputable def sX12_isClimate_0 : List Nat := 42 :: 27 :: 155 :: 0 :: 26 :: 27 :: 42 :: 180 :: 0 :: 228 :: 162 :: 0 :: 18 :: 28 :: 3 :: 17 :: 84 :: 95 :: 184 :: 1 :: 14 :: 153 :: 0 :: 7 :: 4 :: 167 :: 0 :: 4 :: 3 :: 4 :: 182 :: 0 :: 209 :: 172 :: []
theorem aX12_isClimate_0 : dc_at cX12_isClimate 0 sX12_isClimate_0 := dc_base (by decide +kernel)
theorem dX12_isClimate_0 : decode cX12_isClimate 0 = .ok (.aload_n 0, 1) := dc_42 aX12_isClimate_0
theorem dX12_isClimate_1 : decode cX12_isClimate 1 = .ok (.iload_n 1, 1) := dc_27 (dc_nn (k := 1) aX12_isClimate_0 rfl)
theorem dX12_isClimate_2 : decode cX12_isClimate 2 = .ok (.ifCond .lt 26, 3) := dc_155 (a0 := 0) (b0 := 26) (dc_nn (k := 2) aX12_isClimate_0 rfl) (by decide)
theorem dX12_isClimate_5 : decode cX12_isClimate 5 = .ok (.iload_n 1, 1) := dc_27 (dc_nn (k := 5) aX12_isClimate_0 rfl)
theorem dX12_isClimate_6 : decode cX12_isClimate 6 = .ok (.aload_n 0, 1) := dc_42 (dc_nn (k := 6) aX12_isClimate_0 rfl)
theorem dX12_isClimate_7 : decode cX12_isClimate 7 = .ok (.getfield 228, 3) := dc_180 (a0 := 0) (b0 := 228) (dc_nn (k := 7) aX12_isClimate_0 rfl)
theorem dX12_isClimate_10 : decode cX12_isClimate 10 = .ok (.if_icmp .ge 18, 3) := dc_162 (a0 := 0) (b0 := 18) (dc_nn (k := 10) aX12_isClimate_0 rfl) (by decide)
theorem dX12_isClimate_13 : decode cX12_isClimate 13 = .ok (.iload_n 2, 1) := dc_28 (dc_nn (k := 13) aX12_isClimate_0 rfl)
theorem dX12_isClimate_14 : decode cX12_isClimate 14 = .ok (.iconst 0, 1) := dc_3 (dc_nn (k := 14) aX12_isClimate_0 rfl)
theorem dX12_isClimate_15 : decode cX12_isClimate 15 = .ok (.sipush 21599, 3) := dc_17 (a0 := 84) (b0 := 95) (dc_nn (k := 15) aX12_isClimate_0 rfl) (by decide)
theorem dX12_isClimate_18 : decode cX12_isClimate 18 = .ok (.invokestatic 270, 3) := dc_184 (a0 := 1) (b0 := 14) (dc_nn (k := 18) aX12_isClimate_0 rfl)
theorem dX12_isClimate_21 : decode cX12_isClimate 21 = .ok (.ifCond .eq 7, 3) := dc_153 (a0 := 0) (b0 := 7) (dc_nn (k := 21) aX12_isClimate_0 rfl) (by decide)
theorem dX12_isClimate_24 : decode cX12_isClimate 24 = .ok (.iconst 1, 1) := dc_4 (dc_nn (k := 24) aX12_isClimate_0 rfl)
theorem dX12_isClimate_25 : decode cX12_isClimate 25 = .ok (.goto 4, 3) := dc_167 (a0 := 0) (b0 := 4) (dc_nn (k := 25) aX12_isClimate_0 rfl) (by decide)
theorem dX12_isClimate_28 : decode cX12_isClimate 28 = .ok (.iconst 0, 1) := dc_3 (dc_nn (k := 28) aX12_isClimate_0 rfl)
theorem dX12_isClimate_29 : decode cX12_isClimate 29 = .ok (.iconst 1, 1) := dc_4 (dc_nn (k := 29) aX12_isClimate_0 rfl)
theorem dX12_isClimate_30 : decode cX12_isClimate 30 = .ok (.invokevirtual 209, 3) := dc_182 (a0 := 0) (b0 := 209) (dc_nn (k := 30) aX12_isClimate_0 rfl)
theorem dX12_isClimate_33 : decode cX12_isClimate 33 = .ok (.ireturn, 1) := dc_172 (dc_nn (k := 33) aX12_isClimate_0 rfl)
set_option maxRecDepth 20000 in
theorem ggX12_climb_X12_isClimate : GoodIn wsX12_climb wsX12_isClimate := goodIn_k _ [[6, 0, 0, 0], [5, 4, 0, 0, 0, 0], [1, 18, 0, 0, 0, 0, 0, 0, 0, 0, 0, 0, 0, 0, 0, 0, 0, 0, 0, 0, 0, 0, 0, 0, 0, 0, 0, 0, 0, 0, 0, 0, 0, 0, 0, 0, 0, 0, 0, 0, 0, 0, 0, 0, 0, 0, 0, 0, 0, 0, 0, 0, 0, 0, 0, 0, 0, 0, 0]] (by rfl) (by decide +kernel)
set_option maxRecDepth 20000 in
theorem gX12_climb_X12_isClimate : GoodIn wsX12_climb (wsV RX12 303 RX12 yX12_isClimate wsX12_isClimate) := goodIn_app (goodIn_k _ [[2, 0, 0, 0]] (by rfl) (gw_V _ _ _ _)) ggX12_climb_X12_isClimate
set_option maxRecDepth 20000 in
theorem ggX12_climb_X12_climbOf : GoodIn wsX12_climb wsX12_climbOf := goodIn_k _ [[18, 0, 0, 0, 0, 0, 0, 0, 0, 0, 0, 0, 0, 0, 0, 0, 0, 0, 0, 0, 0, 0, 0, 0, 0, 0, 0, 0, 0, 0, 0, 0, 0, 0, 0, 0, 0, 0, 0, 0, 0, 0, 0, 0, 0, 0, 0, 0, 0, 0, 0, 0, 0, 0, 0, 0, 0, 0, 0, 0]] (by rfl) (by decide +kernel)
set_option maxRecDepth 20000 in
theorem gX12_climb_X12_climbOf : GoodIn wsX12_climb (wsV RX12 306 RX12 yX12_climbOf wsX12_climbOf) := goodIn_app (goodIn_k _ [[15, 0, 0], [5]] (by rfl) (gw_V _ _ _ _)) ggX12_climb_X12_climbOf
noncomputable def sX12_climb_0 : List Nat := 42 :: 3 :: 181 :: 0 :: 129 :: 42 :: 27 :: 28 :: 182 :: 1 :: 47 :: 153 :: 0 :: 12 :: 42 :: 27 :: 28 :: 182 :: 1 :: 50 :: 167 :: 0 :: 4 :: 3 :: 172 :: []
theorem aX12_climb_0 : dc_at cX12_climb 0 sX12_climb_0 := dc_base (by decide +kernel)
theorem dX12_climb_0 : decode cX12_climb 0 = .ok (.aload_n 0, 1) := dc_42 aX12_climb_0
theorem dX12_climb_1 : decode cX12_climb 1 = .ok (.iconst 0, 1) := dc_3 (dc_nn (k := 1) aX12_climb_0 rfl)
theorem dX12_climb_2 : decode cX12_climb 2 = .ok (.putfield 129, 3) := dc_181 (a0 := 0) (b0 := 129) (dc_nn (k := 2) aX12_climb_0 rfl)
theorem dX12_climb_5 : decode cX12_climb 5 = .ok (.aload_n 0, 1) := dc_42 (dc_nn (k := 5) aX12_climb_0 rfl)
theorem dX12_climb_6 : decode cX12_climb 6 = .ok (.iload_n 1, 1) := dc_27 (dc_nn (k := 6) aX12_climb_0 rfl)
theorem dX12_climb_7 : decode cX12_climb 7 = .ok (.iload_n 2, 1) := dc_28 (dc_nn (k := 7) aX12_climb_0 rfl)
theorem dX12_climb_8 : decode cX12_climb 8 = .ok (.invokevirtual 303, 3) := dc_182 (a0 := 1) (b0 := 47) (dc_nn (k := 8) aX12_climb_0 rfl)
theorem dX12_climb_11 : decode cX12_climb 11 = .ok (.ifCond .eq 12, 3) := dc_153 (a0 := 0) (b0 := 12) (dc_nn (k := 11) aX12_climb_0 rfl) (by decide)
theorem dX12_climb_14 : decode cX12_climb 14 = .ok (.aload_n 0, 1) := dc_42 (dc_nn (k := 14) aX12_climb_0 rfl)
theorem dX12_climb_15 : decode cX12_climb 15 = .ok (.iload_n 1, 1) := dc_27 (dc_nn (k := 15) aX12_climb_0 rfl)
theorem dX12_climb_16 : decode cX12_climb 16 = .ok (.iload_n 2, 1) := dc_28 (dc_nn (k := 16) aX12_climb_0 rfl)
theorem dX12_climb_17 : decode cX12_climb 17 = .ok (.invokevirtual 306, 3) := dc_182 (a0 := 1) (b0 := 50) (dc_nn (k := 17) aX12_climb_0 rfl)
theorem dX12_climb_20 : decode cX12_climb 20 = .ok (.goto 4, 3) := dc_167 (a0 := 0) (b0 := 4) (dc_nn (k := 20) aX12_climb_0 rfl) (by decide)
theorem dX12_climb_23 : decode cX12_climb 23 = .ok (.iconst 0, 1) := dc_3 (dc_nn (k := 23) aX12_climb_0 rfl)
theorem dX12_climb_24 : decode cX12_climb 24 = .ok (.ireturn, 1) := dc_172 (dc_nn (k := 24) aX12_climb_0 rfl)
set_option maxRecDepth 20000 in
theorem ggX12_riseOf_X12_climbOf : GoodIn wsX12_riseOf wsX12_climbOf := goodIn_k _ [[6, 0, 4, 0, 0, 0, 0, 0, 0, 0, 0, 0, 0, 0, 0, 0, 0, 0, 0, 0, 0, 0, 0, 0, 0, 0, 0, 0, 0, 0, 0, 0, 0, 0, 0, 0, 0, 0, 0, 0, 0, 0, 0, 0, 0, 0, 0, 0, 0, 0, 0, 0, 0, 0, 0, 0, 0, 0, 0, 0]] (by rfl) (by decide +kernel)
set_option maxRecDepth 20000 in
theorem gX12_riseOf_X12_climbOf : GoodIn wsX12_riseOf (wsV RX12 306 RX12 yX12_climbOf wsX12_climbOf) := goodIn_app (goodIn_k _ [[2, 0, 0, 0]] (by rfl) (gw_V _ _ _ _)) ggX12_riseOf_X12_climbOf
set_option maxRecDepth 20000 in
theorem ggX12_riseOf_X12_placeOf : GoodIn wsX12_riseOf wsX12_placeOf := goodIn_k _ [[11], [7, 4, 0, 0, 0, 0, 0, 0, 0, 0, 0, 0, 0, 0, 0, 0, 0, 0, 0, 0, 0, 0, 0, 0, 0, 0, 0, 0, 0, 0, 0, 0, 0, 0, 0, 0, 0, 0, 0, 0, 0, 0, 0, 0, 0, 0, 0, 0, 0, 0, 0, 0, 0, 0, 0, 0, 0, 0, 0]] (by rfl) (by decide +kernel)
set_option maxRecDepth 20000 in
theorem gX12_riseOf_X12_placeOf : GoodIn wsX12_riseOf (wsV RX12 310 RX12 yX12_placeOf wsX12_placeOf) := goodIn_app (goodIn_k _ [[8, 0, 0], [5]] (by rfl) (gw_V _ _ _ _)) ggX12_riseOf_X12_placeOf
noncomputable def sX12_riseOf_0 : List Nat := 42 :: 27 :: 42 :: 27 :: 28 :: 182 :: 1 :: 50 :: 17 :: 70 :: 80 :: 29 :: 104 :: 96 :: 19 :: 1 :: 53 :: 112 :: 182 :: 1 :: 54 :: 172 :: []
theorem aX12_riseOf_0 : dc_at cX12_riseOf 0 sX12_riseOf_0 := dc_base (by decide +kernel)
theorem dX12_riseOf_0 : decode cX12_riseOf 0 = .ok (.aload_n 0, 1) := dc_42 aX12_riseOf_0
theorem dX12_riseOf_1 : decode cX12_riseOf 1 = .ok (.iload_n 1, 1) := dc_27 (dc_nn (k := 1) aX12_riseOf_0 rfl)
theorem dX12_riseOf_2 : decode cX12_riseOf 2 = .ok (.aload_n 0, 1) := dc_42 (dc_nn (k := 2) aX12_riseOf_0 rfl)
theorem dX12_riseOf_3 : decode cX12_riseOf 3 = .ok (.iload_n 1, 1) := dc_27 (dc_nn (k := 3) aX12_riseOf_0 rfl)
theorem dX12_riseOf_4 : decode cX12_riseOf 4 = .ok (.iload_n 2, 1) := dc_28 (dc_nn (k := 4) aX12_riseOf_0 rfl)
theorem dX12_riseOf_5 : decode cX12_riseOf 5 = .ok (.invokevirtual 306, 3) := dc_182 (a0 := 1) (b0 := 50) (dc_nn (k := 5) aX12_riseOf_0 rfl)
theorem dX12_riseOf_8 : decode cX12_riseOf 8 = .ok (.sipush 18000, 3) := dc_17 (a0 := 70) (b0 := 80) (dc_nn (k := 8) aX12_riseOf_0 rfl) (by decide)
theorem dX12_riseOf_11 : decode cX12_riseOf 11 = .ok (.iload_n 3, 1) := dc_29 (dc_nn (k := 11) aX12_riseOf_0 rfl)
theorem dX12_riseOf_12 : decode cX12_riseOf 12 = .ok (.imul, 1) := dc_104 (dc_nn (k := 12) aX12_riseOf_0 rfl)
theorem dX12_riseOf_13 : decode cX12_riseOf 13 = .ok (.iadd, 1) := dc_96 (dc_nn (k := 13) aX12_riseOf_0 rfl)
theorem dX12_riseOf_14 : decode cX12_riseOf 14 = .ok (.ldc_w 309, 3) := dc_19 (a0 := 1) (b0 := 53) (dc_nn (k := 14) aX12_riseOf_0 rfl)
theorem dX12_riseOf_17 : decode cX12_riseOf 17 = .ok (.irem, 1) := dc_112 (dc_nn (k := 17) aX12_riseOf_0 rfl)
theorem dX12_riseOf_18 : decode cX12_riseOf 18 = .ok (.invokevirtual 310, 3) := dc_182 (a0 := 1) (b0 := 54) (dc_nn (k := 18) aX12_riseOf_0 rfl)
theorem dX12_riseOf_21 : decode cX12_riseOf 21 = .ok (.ireturn, 1) := dc_172 (dc_nn (k := 21) aX12_riseOf_0 rfl)
set_option maxRecDepth 20000 in
theorem ggX12_rise_X12_isClimate : GoodIn wsX12_rise wsX12_isClimate := goodIn_k _ [[6, 0, 0, 0], [5, 4, 0, 0, 0, 0], [1, 27, 0, 0, 0, 0, 0, 0, 0, 0, 0, 0, 0, 0, 0, 0, 0, 0, 0, 0, 0, 0, 0, 0, 0, 0, 0, 0, 0, 0, 0, 0, 0, 0, 0, 0, 0, 0, 0, 0, 0, 0, 0, 0, 0, 0, 0, 0, 0, 0, 0, 0, 0, 0, 0, 0, 0, 0, 0]] (by rfl) (by decide +kernel)
set_option maxRecDepth 20000 in
theorem gX12_rise_X12_isClimate : GoodIn wsX12_rise (wsV RX12 303 RX12 yX12_isClimate wsX12_isClimate) := goodIn_app (goodIn_k _ [[2, 0, 0, 0]] (by rfl) (gw_V _ _ _ _)) ggX12_rise_X12_isClimate
set_option maxRecDepth 20000 in
theorem ggX12_rise_X12_within : GoodIn wsX12_rise wsX12_within := goodIn_k _ [[10]] (by rfl) (by decide +kernel)
set_option maxRecDepth 20000 in
theorem gX12_rise_X12_within : GoodIn wsX12_rise (va_wsS RX12 270 yX12_within wsX12_within) := goodIn_app (goodIn_k _ [[8, 0], [5]] (by rfl) (gw_S _ _ _ _)) ggX12_rise_X12_within
set_option maxRecDepth 20000 in
theorem ggX12_rise_X12_right : GoodIn wsX12_rise wsX12_right := goodIn_k _ [[14], [1, 27, 0, 0, 0, 0, 0, 0, 0, 0, 0, 0, 0, 0, 0, 0, 0, 0, 0, 0, 0, 0, 0, 0, 0, 0, 0, 0, 0, 0, 0, 0, 0, 0, 0, 0, 0, 0, 0, 0, 0, 0, 0, 0, 0, 0, 0, 0, 0, 0, 0, 0, 0, 0, 0, 0, 0, 0, 0]] (by rfl) (by decide +kernel)
set_option maxRecDepth 20000 in
theorem gX12_rise_X12_right : GoodIn wsX12_rise (wsV RX12 209 RX12 yX12_right wsX12_right) := goodIn_app (goodIn_k _ [[11, 0, 0], [5]] (by rfl) (gw_V _ _ _ _)) ggX12_rise_X12_right
set_option maxRecDepth 20000 in
theorem ggX12_rise_X12_riseOf : GoodIn wsX12_rise wsX12_riseOf := goodIn_k _ [[18, 0, 0, 0, 0], [5, 17, 0, 0, 0, 0, 0, 0, 0, 0, 0, 0, 0, 0, 0, 0, 0, 0, 0, 0, 0, 0, 0, 0, 0, 0, 0, 0, 0, 0, 0, 0, 0, 0, 0, 0, 0, 0, 0, 0, 0, 0, 0, 0, 0, 0, 0, 0, 0, 0, 0, 0, 0, 0, 0, 0, 0, 0, 0, 0, 0, 0, 0, 0, 0]] (by rfl) (by decide +kernel)
set_option maxRecDepth 20000 in
theorem gX12_rise_X12_riseOf : GoodIn wsX12_rise (wsV RX12 313 RX12 yX12_riseOf wsX12_riseOf) := goodIn_app (goodIn_k _ [[15, 0, 0], [5]] (by rfl) (gw_V _ _ _ _)) ggX12_rise_X12_riseOf
noncomputable def sX12_rise_0 : List Nat := 42 :: 3 :: 181 :: 0 :: 129 :: 42 :: 27 :: 28 :: 182 :: 1 :: 47 :: 153 :: 0 :: 19 :: 42 :: 29 :: 3 :: 17 :: 1 :: 103 :: 184 :: 1 :: 14 :: 4 :: 182 :: 0 :: 209 :: 154 :: 0 :: 5 :: 3 :: 172 :: 42 :: 27 :: 28 :: 29 :: 182 :: 1 :: 57 :: 172 :: []
theorem aX12_rise_0 : dc_at cX12_rise 0 sX12_rise_0 := dc_base (by decide +kernel)
theorem dX12_rise_0 : decode cX12_rise 0 = .ok (.aload_n 0, 1) := dc_42 aX12_rise_0
theorem dX12_rise_1 : decode cX12_rise 1 = .ok (.iconst 0, 1) := dc_3 (dc_nn (k := 1) aX12_rise_0 rfl)
theorem dX12_rise_2 : decode cX12_rise 2 = .ok (.putfield 129, 3) := dc_181 (a0 := 0) (b0 := 129) (dc_nn (k := 2) aX12_rise_0 rfl)
theorem dX12_rise_5 : decode cX12_rise 5 = .ok (.aload_n 0, 1) := dc_42 (dc_nn (k := 5) aX12_rise_0 rfl)
theorem dX12_rise_6 : decode cX12_rise 6 = .ok (.iload_n 1, 1) := dc_27 (dc_nn (k := 6) aX12_rise_0 rfl)
theorem dX12_rise_7 : decode cX12_rise 7 = .ok (.iload_n 2, 1) := dc_28 (dc_nn (k := 7) aX12_rise_0 rfl)
theorem dX12_rise_8 : decode cX12_rise 8 = .ok (.invokevirtual 303, 3) := dc_182 (a0 := 1) (b0 := 47) (dc_nn (k := 8) aX12_rise_0 rfl)
theorem dX12_rise_11 : decode cX12_rise 11 = .ok (.ifCond .eq 19, 3) := dc_153 (a0 := 0) (b0 := 19) (dc_nn (k := 11) aX12_rise_0 rfl) (by decide)
theorem dX12_rise_14 : decode cX12_rise 14 = .ok (.aload_n 0, 1) := dc_42 (dc_nn (k := 14) aX12_rise_0 rfl)
theorem dX12_rise_15 : decode cX12_rise 15 = .ok (.iload_n 3, 1) := dc_29 (dc_nn (k := 15) aX12_rise_0 rfl)
theorem dX12_rise_16 : decode cX12_rise 16 = .ok (.iconst 0, 1) := dc_3 (dc_nn (k := 16) aX12_rise_0 rfl)
theorem dX12_rise_17 : decode cX12_rise 17 = .ok (.sipush 359, 3) := dc_17 (a0 := 1) (b0 := 103) (dc_nn (k := 17) aX12_rise_0 rfl) (by decide)
theorem dX12_rise_20 : decode cX12_rise 20 = .ok (.invokestatic 270, 3) := dc_184 (a0 := 1) (b0 := 14) (dc_nn (k := 20) aX12_rise_0 rfl)
theorem dX12_rise_23 : decode cX12_rise 23 = .ok (.iconst 1, 1) := dc_4 (dc_nn (k := 23) aX12_rise_0 rfl)
theorem dX12_rise_24 : decode cX12_rise 24 = .ok (.invokevirtual 209, 3) := dc_182 (a0 := 0) (b0 := 209) (dc_nn (k := 24) aX12_rise_0 rfl)
theorem dX12_rise_27 : decode cX12_rise 27 = .ok (.ifCond .ne 5, 3) := dc_154 (a0 := 0) (b0 := 5) (dc_nn (k := 27) aX12_rise_0 rfl) (by decide)
theorem dX12_rise_30 : decode cX12_rise 30 = .ok (.iconst 0, 1) := dc_3 (dc_nn (k := 30) aX12_rise_0 rfl)
theorem dX12_rise_31 : decode cX12_rise 31 = .ok (.ireturn, 1) := dc_172 (dc_nn (k := 31) aX12_rise_0 rfl)
theorem dX12_rise_32 : decode cX12_rise 32 = .ok (.aload_n 0, 1) := dc_42 (dc_nn (k := 32) aX12_rise_0 rfl)
theorem dX12_rise_33 : decode cX12_rise 33 = .ok (.iload_n 1, 1) := dc_27 (dc_nn (k := 33) aX12_rise_0 rfl)
theorem dX12_rise_34 : decode cX12_rise 34 = .ok (.iload_n 2, 1) := dc_28 (dc_nn (k := 34) aX12_rise_0 rfl)
theorem dX12_rise_35 : decode cX12_rise 35 = .ok (.iload_n 3, 1) := dc_29 (dc_nn (k := 35) aX12_rise_0 rfl)
theorem dX12_rise_36 : decode cX12_rise 36 = .ok (.invokevirtual 313, 3) := dc_182 (a0 := 1) (b0 := 57) (dc_nn (k := 36) aX12_rise_0 rfl)
theorem dX12_rise_39 : decode cX12_rise 39 = .ok (.ireturn, 1) := dc_172 (dc_nn (k := 39) aX12_rise_0 rfl)
set_option maxRecDepth 20000 in
theorem ggX12_middleOf_X12_climbOf : GoodIn wsX12_middleOf wsX12_climbOf := goodIn_k _ [[7, 0, 4, 0, 0, 0, 0, 0, 0, 0, 0, 0, 0, 0, 0, 0, 0, 0, 0, 0, 0, 0, 0, 0, 0, 0, 0, 0, 0, 0, 0, 0, 0, 0, 0, 0, 0, 0, 0, 0, 0, 0, 0, 0, 0, 0, 0, 0, 0, 0, 0, 0, 0, 0, 0, 0, 0, 0, 0, 0]] (by rfl) (by decide +kernel)
set_option maxRecDepth 20000 in
theorem gX12_middleOf_X12_climbOf : GoodIn wsX12_middleOf (wsV RX12 306 RX12 yX12_climbOf wsX12_climbOf) := goodIn_app (goodIn_k _ [[3, 0, 0, 0]] (by rfl) (gw_V _ _ _ _)) ggX12_middleOf_X12_climbOf
set_option maxRecDepth 20000 in
theorem ggX12_middleOf_X12_placeOf : GoodIn wsX12_middleOf wsX12_placeOf := goodIn_k _ [[12], [8, 4, 0, 0, 0, 0, 0, 0, 0, 0, 0, 0, 0, 0, 0, 0, 0, 0, 0, 0, 0, 0, 0, 0, 0, 0, 0, 0, 0, 0, 0, 0, 0, 0, 0, 0, 0, 0, 0, 0, 0, 0, 0, 0, 0, 0, 0, 0, 0, 0, 0, 0, 0, 0, 0, 0, 0, 0, 0]] (by rfl) (by decide +kernel)
set_option maxRecDepth 20000 in
theorem gX12_middleOf_X12_placeOf : GoodIn wsX12_middleOf (wsV RX12 310 RX12 yX12_placeOf wsX12_placeOf) := goodIn_app (goodIn_k _ [[9, 0, 0], [6]] (by rfl) (gw_V _ _ _ _)) ggX12_middleOf_X12_placeOf
noncomputable def sX12_middleOf_0 : List Nat := 42 :: 3 :: 42 :: 27 :: 28 :: 182 :: 1 :: 50 :: 19 :: 1 :: 53 :: 96 :: 19 :: 1 :: 60 :: 100 :: 19 :: 1 :: 53 :: 112 :: 182 :: 1 :: 54 :: 172 :: []
theorem aX12_middleOf_0 : dc_at cX12_middleOf 0 sX12_middleOf_0 := dc_base (by decide +kernel)
theorem dX12_middleOf_0 : decode cX12_middleOf 0 = .ok (.aload_n 0, 1) := dc_42 aX12_middleOf_0
theorem dX12_middleOf_1 : decode cX12_middleOf 1 = .ok (.iconst 0, 1) := dc_3 (dc_nn (k := 1) aX12_middleOf_0 rfl)
theorem dX12_middleOf_2 : decode cX12_middleOf 2 = .ok (.aload_n 0, 1) := dc_42 (dc_nn (k := 2) aX12_middleOf_0 rfl)
theorem dX12_middleOf_3 : decode cX12_middleOf 3 = .ok (.iload_n 1, 1) := dc_27 (dc_nn (k := 3) aX12_middleOf_0 rfl)
theorem dX12_middleOf_4 : decode cX12_middleOf 4 = .ok (.iload_n 2, 1) := dc_28 (dc_nn (k := 4) aX12_middleOf_0 rfl)
theorem dX12_middleOf_5 : decode cX12_middleOf 5 = .ok (.invokevirtual 306, 3) := dc_182 (a0 := 1) (b0 := 50) (dc_nn (k := 5) aX12_middleOf_0 rfl)
theorem dX12_middleOf_8 : decode cX12_middleOf 8 = .ok (.ldc_w 309, 3) := dc_19 (a0 := 1) (b0 := 53) (dc_nn (k := 8) aX12_middleOf_0 rfl)
theorem dX12_middleOf_11 : decode cX12_middleOf 11 = .ok (.iadd, 1) := dc_96 (dc_nn (k := 11) aX12_middleOf_0 rfl)
theorem dX12_middleOf_12 : decode cX12_middleOf 12 = .ok (.ldc_w 316, 3) := dc_19 (a0 := 1) (b0 := 60) (dc_nn (k := 12) aX12_middleOf_0 rfl)
theorem dX12_middleOf_15 : decode cX12_middleOf 15 = .ok (.isub, 1) := dc_100 (dc_nn (k := 15) aX12_middleOf_0 rfl)
theorem dX12_middleOf_16 : decode cX12_middleOf 16 = .ok (.ldc_w 309, 3) := dc_19 (a0 := 1) (b0 := 53) (dc_nn (k := 16) aX12_middleOf_0 rfl)
theorem dX12_middleOf_19 : decode cX12_middleOf 19 = .ok (.irem, 1) := dc_112 (dc_nn (k := 19) aX12_middleOf_0 rfl)
theorem dX12_middleOf_20 : decode cX12_middleOf 20 = .ok (.invokevirtual 310, 3) := dc_182 (a0 := 1) (b0 := 54) (dc_nn (k := 20) aX12_middleOf_0 rfl)
theorem dX12_middleOf_23 : decode cX12_middleOf 23 = .ok (.ireturn, 1) := dc_172 (dc_nn (k := 23) aX12_middleOf_0 rfl)
set_option maxRecDepth 20000 in
theorem ggX12_middle_X12_isClimate : GoodIn wsX12_middle wsX12_isClimate := goodIn_k _ [[6, 0, 0, 0], [5, 4, 0, 0, 0, 0], [1, 28, 0, 0, 0, 0, 0, 0, 0, 0, 0, 0, 0, 0, 0, 0, 0, 0, 0, 0, 0, 0, 0, 0, 0, 0, 0, 0, 0, 0, 0, 0, 0, 0, 0, 0, 0, 0, 0, 0, 0, 0, 0, 0, 0, 0, 0, 0, 0, 0, 0, 0, 0, 0, 0, 0, 0, 0, 0]] (by rfl) (by decide +kernel)
set_option maxRecDepth 20000 in
theorem gX12_middle_X12_isClimate : GoodIn wsX12_middle (wsV RX12 303 RX12 yX12_isClimate wsX12_isClimate) := goodIn_app (goodIn_k _ [[2, 0, 0, 0]] (by rfl) (gw_V _ _ _ _)) ggX12_middle_X12_isClimate
set_option maxRecDepth 20000 in
theorem ggX12_middle_X12_middleOf : GoodIn wsX12_middle wsX12_middleOf := goodIn_k _ [[18, 0, 0, 0, 0, 0], [5, 18, 0, 0, 0, 0, 0, 0, 0, 0, 0, 0, 0, 0, 0, 0, 0, 0, 0, 0, 0, 0, 0, 0, 0, 0, 0, 0, 0, 0, 0, 0, 0, 0, 0, 0, 0, 0, 0, 0, 0, 0, 0, 0, 0, 0, 0, 0, 0, 0, 0, 0, 0, 0, 0, 0, 0, 0, 0, 0, 0, 0, 0, 0, 0]] (by rfl) (by decide +kernel)
set_option maxRecDepth 20000 in
theorem gX12_middle_X12_middleOf : GoodIn wsX12_middle (wsV RX12 317 RX12 yX12_middleOf wsX12_middleOf) := goodIn_app (goodIn_k _ [[15, 0, 0], [5]] (by rfl) (gw_V _ _ _ _)) ggX12_middle_X12_middleOf
noncomputable def sX12_middle_0 : List Nat := 42 :: 3 :: 181 :: 0 :: 129 :: 42 :: 27 :: 28 :: 182 :: 1 :: 47 :: 153 :: 0 :: 12 :: 42 :: 27 :: 28 :: 182 :: 1 :: 61 :: 167 :: 0 :: 4 :: 3 :: 172 :: []
theorem aX12_middle_0 : dc_at cX12_middle 0 sX12_middle_0 := dc_base (by decide +kernel)
theorem dX12_middle_0 : decode cX12_middle 0 = .ok (.aload_n 0, 1) := dc_42 aX12_middle_0
theorem dX12_middle_1 : decode cX12_middle 1 = .ok (.iconst 0, 1) := dc_3 (dc_nn (k := 1) aX12_middle_0 rfl)
theorem dX12_middle_2 : decode cX12_middle 2 = .ok (.putfield 129, 3) := dc_181 (a0 := 0) (b0 := 129) (dc_nn (k := 2) aX12_middle_0 rfl)
theorem dX12_middle_5 : decode cX12_middle 5 = .ok (.aload_n 0, 1) := dc_42 (dc_nn (k := 5) aX12_middle_0 rfl)
theorem dX12_middle_6 : decode cX12_middle 6 = .ok (.iload_n 1, 1) := dc_27 (dc_nn (k := 6) aX12_middle_0 rfl)
theorem dX12_middle_7 : decode cX12_middle 7 = .ok (.iload_n 2, 1) := dc_28 (dc_nn (k := 7) aX12_middle_0 rfl)
theorem dX12_middle_8 : decode cX12_middle 8 = .ok (.invokevirtual 303, 3) := dc_182 (a0 := 1) (b0 := 47) (dc_nn (k := 8) aX12_middle_0 rfl)
theorem dX12_middle_11 : decode cX12_middle 11 = .ok (.ifCond .eq 12, 3) := dc_153 (a0 := 0) (b0 := 12) (dc_nn (k := 11) aX12_middle_0 rfl) (by decide)
theorem dX12_middle_14 : decode cX12_middle 14 = .ok (.aload_n 0, 1) := dc_42 (dc_nn (k := 14) aX12_middle_0 rfl)
theorem dX12_middle_15 : decode cX12_middle 15 = .ok (.iload_n 1, 1) := dc_27 (dc_nn (k := 15) aX12_middle_0 rfl)
theorem dX12_middle_16 : decode cX12_middle 16 = .ok (.iload_n 2, 1) := dc_28 (dc_nn (k := 16) aX12_middle_0 rfl)
theorem dX12_middle_17 : decode cX12_middle 17 = .ok (.invokevirtual 317, 3) := dc_182 (a0 := 1) (b0 := 61) (dc_nn (k := 17) aX12_middle_0 rfl)
theorem dX12_middle_20 : decode cX12_middle 20 = .ok (.goto 4, 3) := dc_167 (a0 := 0) (b0 := 4) (dc_nn (k := 20) aX12_middle_0 rfl) (by decide)
theorem dX12_middle_23 : decode cX12_middle 23 = .ok (.iconst 0, 1) := dc_3 (dc_nn (k := 23) aX12_middle_0 rfl)
theorem dX12_middle_24 : decode cX12_middle 24 = .ok (.ireturn, 1) := dc_172 (dc_nn (k := 24) aX12_middle_0 rfl)
set_option maxRecDepth 20000 in
theorem ggX12_isHour_X12_at : GoodIn wsX12_isHour wsX12_at := goodIn_k _ [[5, 0, 14, 0, 0, 0, 0, 0, 0, 0, 0, 0, 0, 0, 0, 0, 0, 0, 0, 0, 0, 0, 0, 0, 0, 0, 0, 0, 0, 0, 0, 0, 0, 0, 0, 0, 0, 0, 0, 0, 0, 0, 0, 0, 0, 0, 0, 0, 0, 0, 0, 0, 0, 0, 0, 0, 0, 0, 0, 0]] (by rfl) (by decide +kernel)
set_option maxRecDepth 20000 in
theorem gX12_isHour_X12_at : GoodIn wsX12_isHour (wsV RX12 254 RX12 yX12_at wsX12_at) := goodIn_app (goodIn_k _ [[1, 0, 0, 0]] (by rfl) (gw_V _ _ _ _)) ggX12_isHour_X12_at
set_option maxRecDepth 20000 in
theorem ggX12_isHour_X12_riseOf : GoodIn wsX12_isHour wsX12_riseOf := goodIn_k _ [[10, 0, 0, 0, 0], [4, 10, 0, 0, 0, 0, 0, 0, 0, 0, 0, 0, 0, 0, 0, 0, 0, 0, 0, 0, 0, 0, 0, 0, 0, 0, 0, 0, 0, 0, 0, 0, 0, 0, 0, 0, 0, 0, 0, 0, 0, 0, 0, 0, 0, 0, 0, 0, 0, 0, 0, 0, 0, 0, 0, 0, 0, 0, 0, 0, 0, 0, 0, 0, 0]] (by rfl) (by decide +kernel)
set_option maxRecDepth 20000 in
theorem gX12_isHour_X12_riseOf : GoodIn wsX12_isHour (wsV RX12 313 RX12 yX12_riseOf wsX12_riseOf) := goodIn_app (goodIn_k _ [[7, 0, 0], [4]] (by rfl) (gw_V _ _ _ _)) ggX12_isHour_X12_riseOf
noncomputable def sX12_isHour_0 : List Nat := 42 :: 28 :: 16 :: 60 :: 42 :: 27 :: 3 :: 182 :: 0 :: 254 :: 104 :: 29 :: 182 :: 1 :: 57 :: 16 :: 60 :: 108 :: 42 :: 27 :: 16 :: 7 :: 182 :: 0 :: 254 :: 160 :: 0 :: 7 :: 4 :: 167 :: 0 :: 4 :: 3 :: 172 :: []
theorem aX12_isHour_0 : dc_at cX12_isHour 0 sX12_isHour_0 := dc_base (by decide +kernel)
theorem dX12_isHour_0 : decode cX12_isHour 0 = .ok (.aload_n 0, 1) := dc_42 aX12_isHour_0
theorem dX12_isHour_1 : decode cX12_isHour 1 = .ok (.iload_n 2, 1) := dc_28 (dc_nn (k := 1) aX12_isHour_0 rfl)
theorem dX12_isHour_2 : decode cX12_isHour 2 = .ok (.bipush 60, 2) := dc_16 (a0 := 60) (dc_nn (k := 2) aX12_isHour_0 rfl) (by decide)
theorem dX12_isHour_4 : decode cX12_isHour 4 = .ok (.aload_n 0, 1) := dc_42 (dc_nn (k := 4) aX12_isHour_0 rfl)
theorem dX12_isHour_5 : decode cX12_isHour 5 = .ok (.iload_n 1, 1) := dc_27 (dc_nn (k := 5) aX12_isHour_0 rfl)
theorem dX12_isHour_6 : decode cX12_isHour 6 = .ok (.iconst 0, 1) := dc_3 (dc_nn (k := 6) aX12_isHour_0 rfl)
theorem dX12_isHour_7 : decode cX12_isHour 7 = .ok (.invokevirtual 254, 3) := dc_182 (a0 := 0) (b0 := 254) (dc_nn (k := 7) aX12_isHour_0 rfl)
theorem dX12_isHour_10 : decode cX12_isHour 10 = .ok (.imul, 1) := dc_104 (dc_nn (k := 10) aX12_isHour_0 rfl)
theorem dX12_isHour_11 : decode cX12_isHour 11 = .ok (.iload_n 3, 1) := dc_29 (dc_nn (k := 11) aX12_isHour_0 rfl)
theorem dX12_isHour_12 : decode cX12_isHour 12 = .ok (.invokevirtual 313, 3) := dc_182 (a0 := 1) (b0 := 57) (dc_nn (k := 12) aX12_isHour_0 rfl)
theorem dX12_isHour_15 : decode cX12_isHour 15 = .ok (.bipush 60, 2) := dc_16 (a0 := 60) (dc_nn (k := 15) aX12_isHour_0 rfl) (by decide)
theorem dX12_isHour_17 : decode cX12_isHour 17 = .ok (.idiv, 1) := dc_108 (dc_nn (k := 17) aX12_isHour_0 rfl)
theorem dX12_isHour_18 : decode cX12_isHour 18 = .ok (.aload_n 0, 1) := dc_42 (dc_nn (k := 18) aX12_isHour_0 rfl)
theorem dX12_isHour_19 : decode cX12_isHour 19 = .ok (.iload_n 1, 1) := dc_27 (dc_nn (k := 19) aX12_isHour_0 rfl)
theorem dX12_isHour_20 : decode cX12_isHour 20 = .ok (.bipush 7, 2) := dc_16 (a0 := 7) (dc_nn (k := 20) aX12_isHour_0 rfl) (by decide)
theorem dX12_isHour_22 : decode cX12_isHour 22 = .ok (.invokevirtual 254, 3) := dc_182 (a0 := 0) (b0 := 254) (dc_nn (k := 22) aX12_isHour_0 rfl)
theorem dX12_isHour_25 : decode cX12_isHour 25 = .ok (.if_icmp .ne 7, 3) := dc_160 (a0 := 0) (b0 := 7) (dc_nn (k := 25) aX12_isHour_0 rfl) (by decide)
theorem dX12_isHour_28 : decode cX12_isHour 28 = .ok (.iconst 1, 1) := dc_4 (dc_nn (k := 28) aX12_isHour_0 rfl)
theorem dX12_isHour_29 : decode cX12_isHour 29 = .ok (.goto 4, 3) := dc_167 (a0 := 0) (b0 := 4) (dc_nn (k := 29) aX12_isHour_0 rfl) (by decide)
theorem dX12_isHour_32 : decode cX12_isHour 32 = .ok (.iconst 0, 1) := dc_3 (dc_nn (k := 32) aX12_isHour_0 rfl)
theorem dX12_isHour_33 : decode cX12_isHour 33 = .ok (.ireturn, 1) := dc_172 (dc_nn (k := 33) aX12_isHour_0 rfl)
set_option maxRecDepth 20000 in
theorem ggX12_hour_X12_isWheel : GoodIn wsX12_hour wsX12_isWheel := goodIn_k _ [[6, 0, 0, 0, 0], [5, 5, 23, 0, 0, 0, 0, 0, 0, 0, 0, 0, 0, 0, 0, 0, 0, 0, 0, 0, 0, 0, 0, 0, 0, 0, 0, 0, 0, 0, 0, 0, 0, 0, 0, 0, 0, 0, 0, 0, 0, 0, 0, 0, 0, 0, 0, 0, 0, 0, 0, 0, 0, 0, 0, 0, 0, 0, 0, 0]] (by rfl) (by decide +kernel)
set_option maxRecDepth 20000 in
theorem gX12_hour_X12_isWheel : GoodIn wsX12_hour (wsV RX12 247 RX12 yX12_isWheel wsX12_isWheel) := goodIn_app (goodIn_k _ [[2, 0, 0, 0]] (by rfl) (gw_V _ _ _ _)) ggX12_hour_X12_isWheel
set_option maxRecDepth 20000 in
theorem ggX12_hour_X12_at : GoodIn wsX12_hour wsX12_at := goodIn_k _ [[15, 0, 18, 0, 0, 0, 0, 0, 0, 0, 0, 0, 0, 0, 0, 0, 0, 0, 0, 0, 0, 0, 0, 0, 0, 0, 0, 0, 0, 0, 0, 0, 0, 0, 0, 0, 0, 0, 0, 0, 0, 0, 0, 0, 0, 0, 0, 0, 0, 0, 0, 0, 0, 0, 0, 0, 0, 0, 0, 0]] (by rfl) (by decide +kernel)
set_option maxRecDepth 20000 in
theorem gX12_hour_X12_at : GoodIn wsX12_hour (wsV RX12 254 RX12 yX12_at wsX12_at) := goodIn_app (goodIn_k _ [[12, 0, 0], [5]] (by rfl) (gw_V _ _ _ _)) ggX12_hour_X12_at
set_option maxRecDepth 20000 in
theorem ggX12_hour_X12_isHour : GoodIn wsX12_hour wsX12_isHour := goodIn_k _ [[20], [12, 0, 0], [5, 9, 0, 4, 0, 0, 0, 0, 0, 0, 0, 0, 0, 0, 0, 0, 0, 0, 0, 0, 0, 0, 0, 0, 0, 0, 0, 0, 0, 0, 0, 0, 0, 0, 0, 0, 0, 0, 0, 0, 0, 0, 0, 0, 0, 0, 0, 0, 0, 0, 0, 0, 0, 0, 0, 0, 0, 0, 0, 0, 0, 0, 0, 0, 0, 0, 0, 0, 0, 0, 0, 0, 0, 0, 0]] (by rfl) (by decide +kernel)
set_option maxRecDepth 20000 in
theorem gX12_hour_X12_isHour : GoodIn wsX12_hour (wsV RX12 320 RX12 yX12_isHour wsX12_isHour) := goodIn_app (goodIn_k _ [[17, 0, 0], [5]] (by rfl) (gw_V _ _ _ _)) ggX12_hour_X12_isHour
set_option maxRecDepth 20000 in
theorem ggX12_hour_X12_right : GoodIn wsX12_hour wsX12_right := goodIn_k _ [[11], [7, 27, 0, 0, 0, 0, 0, 0, 0, 0, 0, 0, 0, 0, 0, 0, 0, 0, 0, 0, 0, 0, 0, 0, 0, 0, 0, 0, 0, 0, 0, 0, 0, 0, 0, 0, 0, 0, 0, 0, 0, 0, 0, 0, 0, 0, 0, 0, 0, 0, 0, 0, 0, 0, 0, 0, 0, 0, 0]] (by rfl) (by decide +kernel)
set_option maxRecDepth 20000 in
theorem gX12_hour_X12_right : GoodIn wsX12_hour (wsV RX12 209 RX12 yX12_right wsX12_right) := goodIn_app (goodIn_k _ [[8, 0, 0], [5]] (by rfl) (gw_V _ _ _ _)) ggX12_hour_X12_right
noncomputable def sX12_hour_124 : List Nat := 167 :: 255 :: 199 :: 42 :: 29 :: 2 :: 160 :: 0 :: 7 :: 4 :: 167 :: 0 :: 4 :: 3 :: 4 :: 182 :: 0 :: 209 :: 153 :: 0 :: 8 :: 21 :: 6 :: 167 :: 0 :: 4 :: 3 :: 172 :: []
noncomputable def sX12_hour_82 : List Nat := 153 :: 0 :: 45 :: 42 :: 21 :: 4 :: 21 :: 7 :: 17 :: 1 :: 104 :: 108 :: 21 :: 7 :: 17 :: 1 :: 104 :: 112 :: 182 :: 1 :: 64 :: 154 :: 0 :: 6 :: 167 :: 0 :: 15 :: 21 :: 6 :: 29 :: 160 :: 0 :: 6 :: 21 :: 7 :: 172 :: 132 :: 6 :: 1 :: 132 :: 7 :: 1 :: sX12_hour_124
noncomputable def sX12_hour_42 : List Nat := 4 :: 167 :: 0 :: 4 :: 3 :: 54 :: 5 :: 21 :: 5 :: 154 :: 0 :: 10 :: 29 :: 2 :: 160 :: 0 :: 5 :: 2 :: 172 :: 3 :: 54 :: 6 :: 3 :: 54 :: 7 :: 21 :: 7 :: 17 :: 1 :: 104 :: 42 :: 180 :: 0 :: 228 :: 104 :: 162 :: 0 :: 50 :: 21 :: 5 :: sX12_hour_82
noncomputable def sX12_hour_0 : List Nat := 42 :: 27 :: 28 :: 182 :: 0 :: 247 :: 154 :: 0 :: 5 :: 3 :: 172 :: 16 :: 20 :: 27 :: 104 :: 28 :: 96 :: 54 :: 4 :: 42 :: 21 :: 4 :: 3 :: 182 :: 0 :: 254 :: 2 :: 159 :: 0 :: 19 :: 42 :: 21 :: 4 :: 16 :: 7 :: 182 :: 0 :: 254 :: 2 :: 159 :: 0 :: 7 :: sX12_hour_42
theorem aX12_hour_0 : dc_at cX12_hour 0 sX12_hour_0 := dc_base (by decide +kernel)
theorem aX12_hour_42 : dc_at cX12_hour 42 sX12_hour_42 := dc_nn (k := 42) aX12_hour_0 rfl
theorem aX12_hour_82 : dc_at cX12_hour 82 sX12_hour_82 := dc_nn (k := 40) aX12_hour_42 rfl
theorem aX12_hour_124 : dc_at cX12_hour 124 sX12_hour_124 := dc_nn (k := 42) aX12_hour_82 rfl
theorem dX12_hour_0 : decode cX12_hour 0 = .ok (.aload_n 0, 1) := dc_42 aX12_hour_0
theorem dX12_hour_1 : decode cX12_hour 1 = .ok (.iload_n 1, 1) := dc_27 (dc_nn (k := 1) aX12_hour_0 rfl)
theorem dX12_hour_2 : decode cX12_hour 2 = .ok (.iload_n 2, 1) := dc_28 (dc_nn (k := 2) aX12_hour_0 rfl)
theorem dX12_hour_3 : decode cX12_hour 3 = .ok (.invokevirtual 247, 3) := dc_182 (a0 := 0) (b0 := 247) (dc_nn (k := 3) aX12_hour_0 rfl)
theorem dX12_hour_6 : decode cX12_hour 6 = .ok (.ifCond .ne 5, 3) := dc_154 (a0 := 0) (b0 := 5) (dc_nn (k := 6) aX12_hour_0 rfl) (by decide)
theorem dX12_hour_9 : decode cX12_hour 9 = .ok (.iconst 0, 1) := dc_3 (dc_nn (k := 9) aX12_hour_0 rfl)
theorem dX12_hour_10 : decode cX12_hour 10 = .ok (.ireturn, 1) := dc_172 (dc_nn (k := 10) aX12_hour_0 rfl)
theorem dX12_hour_11 : decode cX12_hour 11 = .ok (.bipush 20, 2) := dc_16 (a0 := 20) (dc_nn (k := 11) aX12_hour_0 rfl) (by decide)
theorem dX12_hour_13 : decode cX12_hour 13 = .ok (.iload_n 1, 1) := dc_27 (dc_nn (k := 13) aX12_hour_0 rfl)
theorem dX12_hour_14 : decode cX12_hour 14 = .ok (.imul, 1) := dc_104 (dc_nn (k := 14) aX12_hour_0 rfl)
theorem dX12_hour_15 : decode cX12_hour 15 = .ok (.iload_n 2, 1) := dc_28 (dc_nn (k := 15) aX12_hour_0 rfl)
theorem dX12_hour_16 : decode cX12_hour 16 = .ok (.iadd, 1) := dc_96 (dc_nn (k := 16) aX12_hour_0 rfl)
theorem dX12_hour_17 : decode cX12_hour 17 = .ok (.istore 4, 2) := dc_54 (a0 := 4) (dc_nn (k := 17) aX12_hour_0 rfl)
theorem dX12_hour_19 : decode cX12_hour 19 = .ok (.aload_n 0, 1) := dc_42 (dc_nn (k := 19) aX12_hour_0 rfl)
theorem dX12_hour_20 : decode cX12_hour 20 = .ok (.iload 4, 2) := dc_21 (a0 := 4) (dc_nn (k := 20) aX12_hour_0 rfl)
theorem dX12_hour_22 : decode cX12_hour 22 = .ok (.iconst 0, 1) := dc_3 (dc_nn (k := 22) aX12_hour_0 rfl)
theorem dX12_hour_23 : decode cX12_hour 23 = .ok (.invokevirtual 254, 3) := dc_182 (a0 := 0) (b0 := 254) (dc_nn (k := 23) aX12_hour_0 rfl)
theorem dX12_hour_26 : decode cX12_hour 26 = .ok (.iconst (-1), 1) := dc_2 (dc_nn (k := 26) aX12_hour_0 rfl)
theorem dX12_hour_27 : decode cX12_hour 27 = .ok (.if_icmp .eq 19, 3) := dc_159 (a0 := 0) (b0 := 19) (dc_nn (k := 27) aX12_hour_0 rfl) (by decide)
theorem dX12_hour_30 : decode cX12_hour 30 = .ok (.aload_n 0, 1) := dc_42 (dc_nn (k := 30) aX12_hour_0 rfl)
theorem dX12_hour_31 : decode cX12_hour 31 = .ok (.iload 4, 2) := dc_21 (a0 := 4) (dc_nn (k := 31) aX12_hour_0 rfl)
theorem dX12_hour_33 : decode cX12_hour 33 = .ok (.bipush 7, 2) := dc_16 (a0 := 7) (dc_nn (k := 33) aX12_hour_0 rfl) (by decide)
theorem dX12_hour_35 : decode cX12_hour 35 = .ok (.invokevirtual 254, 3) := dc_182 (a0 := 0) (b0 := 254) (dc_nn (k := 35) aX12_hour_0 rfl)
theorem dX12_hour_38 : decode cX12_hour 38 = .ok (.iconst (-1), 1) := dc_2 (dc_nn (k := 38) aX12_hour_0 rfl)
theorem dX12_hour_39 : decode cX12_hour 39 = .ok (.if_icmp .eq 7, 3) := dc_159 (a0 := 0) (b0 := 7) (dc_nn (k := 39) aX12_hour_0 rfl) (by decide)
theorem dX12_hour_42 : decode cX12_hour 42 = .ok (.iconst 1, 1) := dc_4 aX12_hour_42
theorem dX12_hour_43 : decode cX12_hour 43 = .ok (.goto 4, 3) := dc_167 (a0 := 0) (b0 := 4) (dc_nn (k := 1) aX12_hour_42 rfl) (by decide)
theorem dX12_hour_46 : decode cX12_hour 46 = .ok (.iconst 0, 1) := dc_3 (dc_nn (k := 4) aX12_hour_42 rfl)
theorem dX12_hour_47 : decode cX12_hour 47 = .ok (.istore 5, 2) := dc_54 (a0 := 5) (dc_nn (k := 5) aX12_hour_42 rfl)
theorem dX12_hour_49 : decode cX12_hour 49 = .ok (.iload 5, 2) := dc_21 (a0 := 5) (dc_nn (k := 7) aX12_hour_42 rfl)
theorem dX12_hour_51 : decode cX12_hour 51 = .ok (.ifCond .ne 10, 3) := dc_154 (a0 := 0) (b0 := 10) (dc_nn (k := 9) aX12_hour_42 rfl) (by decide)
theorem dX12_hour_54 : decode cX12_hour 54 = .ok (.iload_n 3, 1) := dc_29 (dc_nn (k := 12) aX12_hour_42 rfl)
theorem dX12_hour_55 : decode cX12_hour 55 = .ok (.iconst (-1), 1) := dc_2 (dc_nn (k := 13) aX12_hour_42 rfl)
theorem dX12_hour_56 : decode cX12_hour 56 = .ok (.if_icmp .ne 5, 3) := dc_160 (a0 := 0) (b0 := 5) (dc_nn (k := 14) aX12_hour_42 rfl) (by decide)
theorem dX12_hour_59 : decode cX12_hour 59 = .ok (.iconst (-1), 1) := dc_2 (dc_nn (k := 17) aX12_hour_42 rfl)
theorem dX12_hour_60 : decode cX12_hour 60 = .ok (.ireturn, 1) := dc_172 (dc_nn (k := 18) aX12_hour_42 rfl)
theorem dX12_hour_61 : decode cX12_hour 61 = .ok (.iconst 0, 1) := dc_3 (dc_nn (k := 19) aX12_hour_42 rfl)
theorem dX12_hour_62 : decode cX12_hour 62 = .ok (.istore 6, 2) := dc_54 (a0 := 6) (dc_nn (k := 20) aX12_hour_42 rfl)
theorem dX12_hour_64 : decode cX12_hour 64 = .ok (.iconst 0, 1) := dc_3 (dc_nn (k := 22) aX12_hour_42 rfl)
theorem dX12_hour_65 : decode cX12_hour 65 = .ok (.istore 7, 2) := dc_54 (a0 := 7) (dc_nn (k := 23) aX12_hour_42 rfl)
theorem dX12_hour_67 : decode cX12_hour 67 = .ok (.iload 7, 2) := dc_21 (a0 := 7) (dc_nn (k := 25) aX12_hour_42 rfl)
theorem dX12_hour_69 : decode cX12_hour 69 = .ok (.sipush 360, 3) := dc_17 (a0 := 1) (b0 := 104) (dc_nn (k := 27) aX12_hour_42 rfl) (by decide)
theorem dX12_hour_72 : decode cX12_hour 72 = .ok (.aload_n 0, 1) := dc_42 (dc_nn (k := 30) aX12_hour_42 rfl)
theorem dX12_hour_73 : decode cX12_hour 73 = .ok (.getfield 228, 3) := dc_180 (a0 := 0) (b0 := 228) (dc_nn (k := 31) aX12_hour_42 rfl)
theorem dX12_hour_76 : decode cX12_hour 76 = .ok (.imul, 1) := dc_104 (dc_nn (k := 34) aX12_hour_42 rfl)
theorem dX12_hour_77 : decode cX12_hour 77 = .ok (.if_icmp .ge 50, 3) := dc_162 (a0 := 0) (b0 := 50) (dc_nn (k := 35) aX12_hour_42 rfl) (by decide)
theorem dX12_hour_80 : decode cX12_hour 80 = .ok (.iload 5, 2) := dc_21 (a0 := 5) (dc_nn (k := 38) aX12_hour_42 rfl)
theorem dX12_hour_82 : decode cX12_hour 82 = .ok (.ifCond .eq 45, 3) := dc_153 (a0 := 0) (b0 := 45) aX12_hour_82 (by decide)
theorem dX12_hour_85 : decode cX12_hour 85 = .ok (.aload_n 0, 1) := dc_42 (dc_nn (k := 3) aX12_hour_82 rfl)
theorem dX12_hour_86 : decode cX12_hour 86 = .ok (.iload 4, 2) := dc_21 (a0 := 4) (dc_nn (k := 4) aX12_hour_82 rfl)
theorem dX12_hour_88 : decode cX12_hour 88 = .ok (.iload 7, 2) := dc_21 (a0 := 7) (dc_nn (k := 6) aX12_hour_82 rfl)
theorem dX12_hour_90 : decode cX12_hour 90 = .ok (.sipush 360, 3) := dc_17 (a0 := 1) (b0 := 104) (dc_nn (k := 8) aX12_hour_82 rfl) (by decide)
theorem dX12_hour_93 : decode cX12_hour 93 = .ok (.idiv, 1) := dc_108 (dc_nn (k := 11) aX12_hour_82 rfl)
theorem dX12_hour_94 : decode cX12_hour 94 = .ok (.iload 7, 2) := dc_21 (a0 := 7) (dc_nn (k := 12) aX12_hour_82 rfl)
theorem dX12_hour_96 : decode cX12_hour 96 = .ok (.sipush 360, 3) := dc_17 (a0 := 1) (b0 := 104) (dc_nn (k := 14) aX12_hour_82 rfl) (by decide)
theorem dX12_hour_99 : decode cX12_hour 99 = .ok (.irem, 1) := dc_112 (dc_nn (k := 17) aX12_hour_82 rfl)
theorem dX12_hour_100 : decode cX12_hour 100 = .ok (.invokevirtual 320, 3) := dc_182 (a0 := 1) (b0 := 64) (dc_nn (k := 18) aX12_hour_82 rfl)
theorem dX12_hour_103 : decode cX12_hour 103 = .ok (.ifCond .ne 6, 3) := dc_154 (a0 := 0) (b0 := 6) (dc_nn (k := 21) aX12_hour_82 rfl) (by decide)
theorem dX12_hour_106 : decode cX12_hour 106 = .ok (.goto 15, 3) := dc_167 (a0 := 0) (b0 := 15) (dc_nn (k := 24) aX12_hour_82 rfl) (by decide)
theorem dX12_hour_109 : decode cX12_hour 109 = .ok (.iload 6, 2) := dc_21 (a0 := 6) (dc_nn (k := 27) aX12_hour_82 rfl)
theorem dX12_hour_111 : decode cX12_hour 111 = .ok (.iload_n 3, 1) := dc_29 (dc_nn (k := 29) aX12_hour_82 rfl)
theorem dX12_hour_112 : decode cX12_hour 112 = .ok (.if_icmp .ne 6, 3) := dc_160 (a0 := 0) (b0 := 6) (dc_nn (k := 30) aX12_hour_82 rfl) (by decide)
theorem dX12_hour_115 : decode cX12_hour 115 = .ok (.iload 7, 2) := dc_21 (a0 := 7) (dc_nn (k := 33) aX12_hour_82 rfl)
theorem dX12_hour_117 : decode cX12_hour 117 = .ok (.ireturn, 1) := dc_172 (dc_nn (k := 35) aX12_hour_82 rfl)
theorem dX12_hour_118 : decode cX12_hour 118 = .ok (.iinc 6 1, 3) := dc_132 (a0 := 6) (a1 := 1) (dc_nn (k := 36) aX12_hour_82 rfl) (by decide)
theorem dX12_hour_121 : decode cX12_hour 121 = .ok (.iinc 7 1, 3) := dc_132 (a0 := 7) (a1 := 1) (dc_nn (k := 39) aX12_hour_82 rfl) (by decide)
theorem dX12_hour_124 : decode cX12_hour 124 = .ok (.goto (-57), 3) := dc_167 (a0 := 255) (b0 := 199) aX12_hour_124 (by decide)
theorem dX12_hour_127 : decode cX12_hour 127 = .ok (.aload_n 0, 1) := dc_42 (dc_nn (k := 3) aX12_hour_124 rfl)
theorem dX12_hour_128 : decode cX12_hour 128 = .ok (.iload_n 3, 1) := dc_29 (dc_nn (k := 4) aX12_hour_124 rfl)
theorem dX12_hour_129 : decode cX12_hour 129 = .ok (.iconst (-1), 1) := dc_2 (dc_nn (k := 5) aX12_hour_124 rfl)
theorem dX12_hour_130 : decode cX12_hour 130 = .ok (.if_icmp .ne 7, 3) := dc_160 (a0 := 0) (b0 := 7) (dc_nn (k := 6) aX12_hour_124 rfl) (by decide)
theorem dX12_hour_133 : decode cX12_hour 133 = .ok (.iconst 1, 1) := dc_4 (dc_nn (k := 9) aX12_hour_124 rfl)
theorem dX12_hour_134 : decode cX12_hour 134 = .ok (.goto 4, 3) := dc_167 (a0 := 0) (b0 := 4) (dc_nn (k := 10) aX12_hour_124 rfl) (by decide)
theorem dX12_hour_137 : decode cX12_hour 137 = .ok (.iconst 0, 1) := dc_3 (dc_nn (k := 13) aX12_hour_124 rfl)
theorem dX12_hour_138 : decode cX12_hour 138 = .ok (.iconst 1, 1) := dc_4 (dc_nn (k := 14) aX12_hour_124 rfl)
theorem dX12_hour_139 : decode cX12_hour 139 = .ok (.invokevirtual 209, 3) := dc_182 (a0 := 0) (b0 := 209) (dc_nn (k := 15) aX12_hour_124 rfl)
theorem dX12_hour_142 : decode cX12_hour 142 = .ok (.ifCond .eq 8, 3) := dc_153 (a0 := 0) (b0 := 8) (dc_nn (k := 18) aX12_hour_124 rfl) (by decide)
theorem dX12_hour_145 : decode cX12_hour 145 = .ok (.iload 6, 2) := dc_21 (a0 := 6) (dc_nn (k := 21) aX12_hour_124 rfl)
theorem dX12_hour_147 : decode cX12_hour 147 = .ok (.goto 4, 3) := dc_167 (a0 := 0) (b0 := 4) (dc_nn (k := 23) aX12_hour_124 rfl) (by decide)
theorem dX12_hour_150 : decode cX12_hour 150 = .ok (.iconst 0, 1) := dc_3 (dc_nn (k := 26) aX12_hour_124 rfl)
theorem dX12_hour_151 : decode cX12_hour 151 = .ok (.ireturn, 1) := dc_172 (dc_nn (k := 27) aX12_hour_124 rfl)
set_option maxRecDepth 20000 in
theorem ggX12_houseAt_X12_middleOf : GoodIn wsX12_houseAt wsX12_middleOf := goodIn_k _ [[5, 0, 0, 0, 0, 0], [4, 6, 0, 0, 0, 0, 0, 0, 0, 0, 0, 0, 0, 0, 0, 0, 0, 0, 0, 0, 0, 0, 0, 0, 0, 0, 0, 0, 0, 0, 0, 0, 0, 0, 0, 0, 0, 0, 0, 0, 0, 0, 0, 0, 0, 0, 0, 0, 0, 0, 0, 0, 0, 0, 0, 0, 0, 0, 0, 0, 0, 0, 0, 0, 0]] (by rfl) (by decide +kernel)
set_option maxRecDepth 20000 in
theorem gX12_houseAt_X12_middleOf : GoodIn wsX12_houseAt (wsV RX12 317 RX12 yX12_middleOf wsX12_middleOf) := goodIn_app (goodIn_k _ [[1, 0, 0, 0]] (by rfl) (gw_V _ _ _ _)) ggX12_houseAt_X12_middleOf
noncomputable def sX12_houseAt_206 : List Nat := 167 :: 0 :: 9 :: 21 :: 9 :: 17 :: 0 :: 180 :: 96 :: 17 :: 1 :: 104 :: 112 :: 172 :: []
noncomputable def sX12_houseAt_165 : List Nat := 104 :: 6 :: 108 :: 96 :: 167 :: 0 :: 26 :: 21 :: 8 :: 5 :: 160 :: 0 :: 12 :: 27 :: 21 :: 7 :: 6 :: 108 :: 96 :: 167 :: 0 :: 11 :: 27 :: 5 :: 21 :: 7 :: 104 :: 6 :: 108 :: 96 :: 54 :: 9 :: 21 :: 8 :: 21 :: 4 :: 160 :: 0 :: 8 :: 21 :: 9 :: sX12_houseAt_206
noncomputable def sX12_houseAt_124 : List Nat := 21 :: 8 :: 16 :: 10 :: 160 :: 0 :: 8 :: 21 :: 5 :: 167 :: 0 :: 62 :: 21 :: 8 :: 16 :: 11 :: 160 :: 0 :: 13 :: 21 :: 5 :: 21 :: 6 :: 6 :: 108 :: 96 :: 167 :: 0 :: 45 :: 21 :: 8 :: 16 :: 12 :: 160 :: 0 :: 15 :: 21 :: 5 :: 5 :: 21 :: 6 :: sX12_houseAt_165
noncomputable def sX12_houseAt_82 : List Nat := 112 :: 54 :: 7 :: 21 :: 4 :: 6 :: 164 :: 0 :: 22 :: 21 :: 4 :: 16 :: 10 :: 162 :: 0 :: 15 :: 21 :: 4 :: 8 :: 96 :: 16 :: 12 :: 112 :: 4 :: 96 :: 167 :: 0 :: 5 :: 21 :: 4 :: 54 :: 8 :: 21 :: 8 :: 4 :: 160 :: 0 :: 7 :: 27 :: 167 :: 0 :: 74 :: sX12_houseAt_124
noncomputable def sX12_houseAt_40 : List Nat := 29 :: 16 :: 60 :: 27 :: 104 :: 182 :: 1 :: 61 :: 16 :: 60 :: 108 :: 54 :: 5 :: 27 :: 21 :: 5 :: 100 :: 17 :: 1 :: 104 :: 96 :: 17 :: 1 :: 104 :: 112 :: 54 :: 6 :: 21 :: 5 :: 17 :: 0 :: 180 :: 96 :: 27 :: 100 :: 17 :: 1 :: 104 :: 96 :: 17 :: 1 :: 104 :: sX12_houseAt_82
noncomputable def sX12_houseAt_0 : List Nat := 28 :: 154 :: 0 :: 19 :: 16 :: 30 :: 27 :: 16 :: 30 :: 108 :: 21 :: 4 :: 96 :: 4 :: 100 :: 16 :: 12 :: 112 :: 104 :: 172 :: 28 :: 4 :: 160 :: 0 :: 17 :: 27 :: 16 :: 30 :: 21 :: 4 :: 4 :: 100 :: 104 :: 96 :: 17 :: 1 :: 104 :: 112 :: 172 :: 42 :: sX12_houseAt_40
theorem aX12_houseAt_0 : dc_at cX12_houseAt 0 sX12_houseAt_0 := dc_base (by decide +kernel)
theorem aX12_houseAt_40 : dc_at cX12_houseAt 40 sX12_houseAt_40 := dc_nn (k := 40) aX12_houseAt_0 rfl
theorem aX12_houseAt_82 : dc_at cX12_houseAt 82 sX12_houseAt_82 := dc_nn (k := 42) aX12_houseAt_40 rfl
theorem aX12_houseAt_124 : dc_at cX12_houseAt 124 sX12_houseAt_124 := dc_nn (k := 42) aX12_houseAt_82 rfl
theorem aX12_houseAt_165 : dc_at cX12_houseAt 165 sX12_houseAt_165 := dc_nn (k := 41) aX12_houseAt_124 rfl
theorem aX12_houseAt_206 : dc_at cX12_houseAt 206 sX12_houseAt_206 := dc_nn (k := 41) aX12_houseAt_165 rfl
theorem dX12_houseAt_0 : decode cX12_houseAt 0 = .ok (.iload_n 2, 1) := dc_28 aX12_houseAt_0
theorem dX12_houseAt_1 : decode cX12_houseAt 1 = .ok (.ifCond .ne 19, 3) := dc_154 (a0 := 0) (b0 := 19) (dc_nn (k := 1) aX12_houseAt_0 rfl) (by decide)
theorem dX12_houseAt_4 : decode cX12_houseAt 4 = .ok (.bipush 30, 2) := dc_16 (a0 := 30) (dc_nn (k := 4) aX12_houseAt_0 rfl) (by decide)
theorem dX12_houseAt_6 : decode cX12_houseAt 6 = .ok (.iload_n 1, 1) := dc_27 (dc_nn (k := 6) aX12_houseAt_0 rfl)
theorem dX12_houseAt_7 : decode cX12_houseAt 7 = .ok (.bipush 30, 2) := dc_16 (a0 := 30) (dc_nn (k := 7) aX12_houseAt_0 rfl) (by decide)
theorem dX12_houseAt_9 : decode cX12_houseAt 9 = .ok (.idiv, 1) := dc_108 (dc_nn (k := 9) aX12_houseAt_0 rfl)
theorem dX12_houseAt_10 : decode cX12_houseAt 10 = .ok (.iload 4, 2) := dc_21 (a0 := 4) (dc_nn (k := 10) aX12_houseAt_0 rfl)
theorem dX12_houseAt_12 : decode cX12_houseAt 12 = .ok (.iadd, 1) := dc_96 (dc_nn (k := 12) aX12_houseAt_0 rfl)
theorem dX12_houseAt_13 : decode cX12_houseAt 13 = .ok (.iconst 1, 1) := dc_4 (dc_nn (k := 13) aX12_houseAt_0 rfl)
theorem dX12_houseAt_14 : decode cX12_houseAt 14 = .ok (.isub, 1) := dc_100 (dc_nn (k := 14) aX12_houseAt_0 rfl)
theorem dX12_houseAt_15 : decode cX12_houseAt 15 = .ok (.bipush 12, 2) := dc_16 (a0 := 12) (dc_nn (k := 15) aX12_houseAt_0 rfl) (by decide)
theorem dX12_houseAt_17 : decode cX12_houseAt 17 = .ok (.irem, 1) := dc_112 (dc_nn (k := 17) aX12_houseAt_0 rfl)
theorem dX12_houseAt_18 : decode cX12_houseAt 18 = .ok (.imul, 1) := dc_104 (dc_nn (k := 18) aX12_houseAt_0 rfl)
theorem dX12_houseAt_19 : decode cX12_houseAt 19 = .ok (.ireturn, 1) := dc_172 (dc_nn (k := 19) aX12_houseAt_0 rfl)
theorem dX12_houseAt_20 : decode cX12_houseAt 20 = .ok (.iload_n 2, 1) := dc_28 (dc_nn (k := 20) aX12_houseAt_0 rfl)
theorem dX12_houseAt_21 : decode cX12_houseAt 21 = .ok (.iconst 1, 1) := dc_4 (dc_nn (k := 21) aX12_houseAt_0 rfl)
theorem dX12_houseAt_22 : decode cX12_houseAt 22 = .ok (.if_icmp .ne 17, 3) := dc_160 (a0 := 0) (b0 := 17) (dc_nn (k := 22) aX12_houseAt_0 rfl) (by decide)
theorem dX12_houseAt_25 : decode cX12_houseAt 25 = .ok (.iload_n 1, 1) := dc_27 (dc_nn (k := 25) aX12_houseAt_0 rfl)
theorem dX12_houseAt_26 : decode cX12_houseAt 26 = .ok (.bipush 30, 2) := dc_16 (a0 := 30) (dc_nn (k := 26) aX12_houseAt_0 rfl) (by decide)
theorem dX12_houseAt_28 : decode cX12_houseAt 28 = .ok (.iload 4, 2) := dc_21 (a0 := 4) (dc_nn (k := 28) aX12_houseAt_0 rfl)
theorem dX12_houseAt_30 : decode cX12_houseAt 30 = .ok (.iconst 1, 1) := dc_4 (dc_nn (k := 30) aX12_houseAt_0 rfl)
theorem dX12_houseAt_31 : decode cX12_houseAt 31 = .ok (.isub, 1) := dc_100 (dc_nn (k := 31) aX12_houseAt_0 rfl)
theorem dX12_houseAt_32 : decode cX12_houseAt 32 = .ok (.imul, 1) := dc_104 (dc_nn (k := 32) aX12_houseAt_0 rfl)
theorem dX12_houseAt_33 : decode cX12_houseAt 33 = .ok (.iadd, 1) := dc_96 (dc_nn (k := 33) aX12_houseAt_0 rfl)
theorem dX12_houseAt_34 : decode cX12_houseAt 34 = .ok (.sipush 360, 3) := dc_17 (a0 := 1) (b0 := 104) (dc_nn (k := 34) aX12_houseAt_0 rfl) (by decide)
theorem dX12_houseAt_37 : decode cX12_houseAt 37 = .ok (.irem, 1) := dc_112 (dc_nn (k := 37) aX12_houseAt_0 rfl)
theorem dX12_houseAt_38 : decode cX12_houseAt 38 = .ok (.ireturn, 1) := dc_172 (dc_nn (k := 38) aX12_houseAt_0 rfl)
theorem dX12_houseAt_39 : decode cX12_houseAt 39 = .ok (.aload_n 0, 1) := dc_42 (dc_nn (k := 39) aX12_houseAt_0 rfl)
theorem dX12_houseAt_40 : decode cX12_houseAt 40 = .ok (.iload_n 3, 1) := dc_29 aX12_houseAt_40
theorem dX12_houseAt_41 : decode cX12_houseAt 41 = .ok (.bipush 60, 2) := dc_16 (a0 := 60) (dc_nn (k := 1) aX12_houseAt_40 rfl) (by decide)
theorem dX12_houseAt_43 : decode cX12_houseAt 43 = .ok (.iload_n 1, 1) := dc_27 (dc_nn (k := 3) aX12_houseAt_40 rfl)
theorem dX12_houseAt_44 : decode cX12_houseAt 44 = .ok (.imul, 1) := dc_104 (dc_nn (k := 4) aX12_houseAt_40 rfl)
theorem dX12_houseAt_45 : decode cX12_houseAt 45 = .ok (.invokevirtual 317, 3) := dc_182 (a0 := 1) (b0 := 61) (dc_nn (k := 5) aX12_houseAt_40 rfl)
theorem dX12_houseAt_48 : decode cX12_houseAt 48 = .ok (.bipush 60, 2) := dc_16 (a0 := 60) (dc_nn (k := 8) aX12_houseAt_40 rfl) (by decide)
theorem dX12_houseAt_50 : decode cX12_houseAt 50 = .ok (.idiv, 1) := dc_108 (dc_nn (k := 10) aX12_houseAt_40 rfl)
theorem dX12_houseAt_51 : decode cX12_houseAt 51 = .ok (.istore 5, 2) := dc_54 (a0 := 5) (dc_nn (k := 11) aX12_houseAt_40 rfl)
theorem dX12_houseAt_53 : decode cX12_houseAt 53 = .ok (.iload_n 1, 1) := dc_27 (dc_nn (k := 13) aX12_houseAt_40 rfl)
theorem dX12_houseAt_54 : decode cX12_houseAt 54 = .ok (.iload 5, 2) := dc_21 (a0 := 5) (dc_nn (k := 14) aX12_houseAt_40 rfl)
theorem dX12_houseAt_56 : decode cX12_houseAt 56 = .ok (.isub, 1) := dc_100 (dc_nn (k := 16) aX12_houseAt_40 rfl)
theorem dX12_houseAt_57 : decode cX12_houseAt 57 = .ok (.sipush 360, 3) := dc_17 (a0 := 1) (b0 := 104) (dc_nn (k := 17) aX12_houseAt_40 rfl) (by decide)
theorem dX12_houseAt_60 : decode cX12_houseAt 60 = .ok (.iadd, 1) := dc_96 (dc_nn (k := 20) aX12_houseAt_40 rfl)
theorem dX12_houseAt_61 : decode cX12_houseAt 61 = .ok (.sipush 360, 3) := dc_17 (a0 := 1) (b0 := 104) (dc_nn (k := 21) aX12_houseAt_40 rfl) (by decide)
theorem dX12_houseAt_64 : decode cX12_houseAt 64 = .ok (.irem, 1) := dc_112 (dc_nn (k := 24) aX12_houseAt_40 rfl)
theorem dX12_houseAt_65 : decode cX12_houseAt 65 = .ok (.istore 6, 2) := dc_54 (a0 := 6) (dc_nn (k := 25) aX12_houseAt_40 rfl)
theorem dX12_houseAt_67 : decode cX12_houseAt 67 = .ok (.iload 5, 2) := dc_21 (a0 := 5) (dc_nn (k := 27) aX12_houseAt_40 rfl)
theorem dX12_houseAt_69 : decode cX12_houseAt 69 = .ok (.sipush 180, 3) := dc_17 (a0 := 0) (b0 := 180) (dc_nn (k := 29) aX12_houseAt_40 rfl) (by decide)
theorem dX12_houseAt_72 : decode cX12_houseAt 72 = .ok (.iadd, 1) := dc_96 (dc_nn (k := 32) aX12_houseAt_40 rfl)
theorem dX12_houseAt_73 : decode cX12_houseAt 73 = .ok (.iload_n 1, 1) := dc_27 (dc_nn (k := 33) aX12_houseAt_40 rfl)
theorem dX12_houseAt_74 : decode cX12_houseAt 74 = .ok (.isub, 1) := dc_100 (dc_nn (k := 34) aX12_houseAt_40 rfl)
theorem dX12_houseAt_75 : decode cX12_houseAt 75 = .ok (.sipush 360, 3) := dc_17 (a0 := 1) (b0 := 104) (dc_nn (k := 35) aX12_houseAt_40 rfl) (by decide)
theorem dX12_houseAt_78 : decode cX12_houseAt 78 = .ok (.iadd, 1) := dc_96 (dc_nn (k := 38) aX12_houseAt_40 rfl)
theorem dX12_houseAt_79 : decode cX12_houseAt 79 = .ok (.sipush 360, 3) := dc_17 (a0 := 1) (b0 := 104) (dc_nn (k := 39) aX12_houseAt_40 rfl) (by decide)
theorem dX12_houseAt_82 : decode cX12_houseAt 82 = .ok (.irem, 1) := dc_112 aX12_houseAt_82
theorem dX12_houseAt_83 : decode cX12_houseAt 83 = .ok (.istore 7, 2) := dc_54 (a0 := 7) (dc_nn (k := 1) aX12_houseAt_82 rfl)
theorem dX12_houseAt_85 : decode cX12_houseAt 85 = .ok (.iload 4, 2) := dc_21 (a0 := 4) (dc_nn (k := 3) aX12_houseAt_82 rfl)
theorem dX12_houseAt_87 : decode cX12_houseAt 87 = .ok (.iconst 3, 1) := dc_6 (dc_nn (k := 5) aX12_houseAt_82 rfl)
theorem dX12_houseAt_88 : decode cX12_houseAt 88 = .ok (.if_icmp .le 22, 3) := dc_164 (a0 := 0) (b0 := 22) (dc_nn (k := 6) aX12_houseAt_82 rfl) (by decide)
theorem dX12_houseAt_91 : decode cX12_houseAt 91 = .ok (.iload 4, 2) := dc_21 (a0 := 4) (dc_nn (k := 9) aX12_houseAt_82 rfl)
theorem dX12_houseAt_93 : decode cX12_houseAt 93 = .ok (.bipush 10, 2) := dc_16 (a0 := 10) (dc_nn (k := 11) aX12_houseAt_82 rfl) (by decide)
theorem dX12_houseAt_95 : decode cX12_houseAt 95 = .ok (.if_icmp .ge 15, 3) := dc_162 (a0 := 0) (b0 := 15) (dc_nn (k := 13) aX12_houseAt_82 rfl) (by decide)
theorem dX12_houseAt_98 : decode cX12_houseAt 98 = .ok (.iload 4, 2) := dc_21 (a0 := 4) (dc_nn (k := 16) aX12_houseAt_82 rfl)
theorem dX12_houseAt_100 : decode cX12_houseAt 100 = .ok (.iconst 5, 1) := dc_8 (dc_nn (k := 18) aX12_houseAt_82 rfl)
theorem dX12_houseAt_101 : decode cX12_houseAt 101 = .ok (.iadd, 1) := dc_96 (dc_nn (k := 19) aX12_houseAt_82 rfl)
theorem dX12_houseAt_102 : decode cX12_houseAt 102 = .ok (.bipush 12, 2) := dc_16 (a0 := 12) (dc_nn (k := 20) aX12_houseAt_82 rfl) (by decide)
theorem dX12_houseAt_104 : decode cX12_houseAt 104 = .ok (.irem, 1) := dc_112 (dc_nn (k := 22) aX12_houseAt_82 rfl)
theorem dX12_houseAt_105 : decode cX12_houseAt 105 = .ok (.iconst 1, 1) := dc_4 (dc_nn (k := 23) aX12_houseAt_82 rfl)
theorem dX12_houseAt_106 : decode cX12_houseAt 106 = .ok (.iadd, 1) := dc_96 (dc_nn (k := 24) aX12_houseAt_82 rfl)
theorem dX12_houseAt_107 : decode cX12_houseAt 107 = .ok (.goto 5, 3) := dc_167 (a0 := 0) (b0 := 5) (dc_nn (k := 25) aX12_houseAt_82 rfl) (by decide)
theorem dX12_houseAt_110 : decode cX12_houseAt 110 = .ok (.iload 4, 2) := dc_21 (a0 := 4) (dc_nn (k := 28) aX12_houseAt_82 rfl)
theorem dX12_houseAt_112 : decode cX12_houseAt 112 = .ok (.istore 8, 2) := dc_54 (a0 := 8) (dc_nn (k := 30) aX12_houseAt_82 rfl)
theorem dX12_houseAt_114 : decode cX12_houseAt 114 = .ok (.iload 8, 2) := dc_21 (a0 := 8) (dc_nn (k := 32) aX12_houseAt_82 rfl)
theorem dX12_houseAt_116 : decode cX12_houseAt 116 = .ok (.iconst 1, 1) := dc_4 (dc_nn (k := 34) aX12_houseAt_82 rfl)
theorem dX12_houseAt_117 : decode cX12_houseAt 117 = .ok (.if_icmp .ne 7, 3) := dc_160 (a0 := 0) (b0 := 7) (dc_nn (k := 35) aX12_houseAt_82 rfl) (by decide)
theorem dX12_houseAt_120 : decode cX12_houseAt 120 = .ok (.iload_n 1, 1) := dc_27 (dc_nn (k := 38) aX12_houseAt_82 rfl)
theorem dX12_houseAt_121 : decode cX12_houseAt 121 = .ok (.goto 74, 3) := dc_167 (a0 := 0) (b0 := 74) (dc_nn (k := 39) aX12_houseAt_82 rfl) (by decide)
theorem dX12_houseAt_124 : decode cX12_houseAt 124 = .ok (.iload 8, 2) := dc_21 (a0 := 8) aX12_houseAt_124
theorem dX12_houseAt_126 : decode cX12_houseAt 126 = .ok (.bipush 10, 2) := dc_16 (a0 := 10) (dc_nn (k := 2) aX12_houseAt_124 rfl) (by decide)
theorem dX12_houseAt_128 : decode cX12_houseAt 128 = .ok (.if_icmp .ne 8, 3) := dc_160 (a0 := 0) (b0 := 8) (dc_nn (k := 4) aX12_houseAt_124 rfl) (by decide)
theorem dX12_houseAt_131 : decode cX12_houseAt 131 = .ok (.iload 5, 2) := dc_21 (a0 := 5) (dc_nn (k := 7) aX12_houseAt_124 rfl)
theorem dX12_houseAt_133 : decode cX12_houseAt 133 = .ok (.goto 62, 3) := dc_167 (a0 := 0) (b0 := 62) (dc_nn (k := 9) aX12_houseAt_124 rfl) (by decide)
theorem dX12_houseAt_136 : decode cX12_houseAt 136 = .ok (.iload 8, 2) := dc_21 (a0 := 8) (dc_nn (k := 12) aX12_houseAt_124 rfl)
theorem dX12_houseAt_138 : decode cX12_houseAt 138 = .ok (.bipush 11, 2) := dc_16 (a0 := 11) (dc_nn (k := 14) aX12_houseAt_124 rfl) (by decide)
theorem dX12_houseAt_140 : decode cX12_houseAt 140 = .ok (.if_icmp .ne 13, 3) := dc_160 (a0 := 0) (b0 := 13) (dc_nn (k := 16) aX12_houseAt_124 rfl) (by decide)
theorem dX12_houseAt_143 : decode cX12_houseAt 143 = .ok (.iload 5, 2) := dc_21 (a0 := 5) (dc_nn (k := 19) aX12_houseAt_124 rfl)
theorem dX12_houseAt_145 : decode cX12_houseAt 145 = .ok (.iload 6, 2) := dc_21 (a0 := 6) (dc_nn (k := 21) aX12_houseAt_124 rfl)
theorem dX12_houseAt_147 : decode cX12_houseAt 147 = .ok (.iconst 3, 1) := dc_6 (dc_nn (k := 23) aX12_houseAt_124 rfl)
theorem dX12_houseAt_148 : decode cX12_houseAt 148 = .ok (.idiv, 1) := dc_108 (dc_nn (k := 24) aX12_houseAt_124 rfl)
theorem dX12_houseAt_149 : decode cX12_houseAt 149 = .ok (.iadd, 1) := dc_96 (dc_nn (k := 25) aX12_houseAt_124 rfl)
theorem dX12_houseAt_150 : decode cX12_houseAt 150 = .ok (.goto 45, 3) := dc_167 (a0 := 0) (b0 := 45) (dc_nn (k := 26) aX12_houseAt_124 rfl) (by decide)
theorem dX12_houseAt_153 : decode cX12_houseAt 153 = .ok (.iload 8, 2) := dc_21 (a0 := 8) (dc_nn (k := 29) aX12_houseAt_124 rfl)
theorem dX12_houseAt_155 : decode cX12_houseAt 155 = .ok (.bipush 12, 2) := dc_16 (a0 := 12) (dc_nn (k := 31) aX12_houseAt_124 rfl) (by decide)
theorem dX12_houseAt_157 : decode cX12_houseAt 157 = .ok (.if_icmp .ne 15, 3) := dc_160 (a0 := 0) (b0 := 15) (dc_nn (k := 33) aX12_houseAt_124 rfl) (by decide)
theorem dX12_houseAt_160 : decode cX12_houseAt 160 = .ok (.iload 5, 2) := dc_21 (a0 := 5) (dc_nn (k := 36) aX12_houseAt_124 rfl)
theorem dX12_houseAt_162 : decode cX12_houseAt 162 = .ok (.iconst 2, 1) := dc_5 (dc_nn (k := 38) aX12_houseAt_124 rfl)
theorem dX12_houseAt_163 : decode cX12_houseAt 163 = .ok (.iload 6, 2) := dc_21 (a0 := 6) (dc_nn (k := 39) aX12_houseAt_124 rfl)
theorem dX12_houseAt_165 : decode cX12_houseAt 165 = .ok (.imul, 1) := dc_104 aX12_houseAt_165
theorem dX12_houseAt_166 : decode cX12_houseAt 166 = .ok (.iconst 3, 1) := dc_6 (dc_nn (k := 1) aX12_houseAt_165 rfl)
theorem dX12_houseAt_167 : decode cX12_houseAt 167 = .ok (.idiv, 1) := dc_108 (dc_nn (k := 2) aX12_houseAt_165 rfl)
theorem dX12_houseAt_168 : decode cX12_houseAt 168 = .ok (.iadd, 1) := dc_96 (dc_nn (k := 3) aX12_houseAt_165 rfl)
theorem dX12_houseAt_169 : decode cX12_houseAt 169 = .ok (.goto 26, 3) := dc_167 (a0 := 0) (b0 := 26) (dc_nn (k := 4) aX12_houseAt_165 rfl) (by decide)
theorem dX12_houseAt_172 : decode cX12_houseAt 172 = .ok (.iload 8, 2) := dc_21 (a0 := 8) (dc_nn (k := 7) aX12_houseAt_165 rfl)
theorem dX12_houseAt_174 : decode cX12_houseAt 174 = .ok (.iconst 2, 1) := dc_5 (dc_nn (k := 9) aX12_houseAt_165 rfl)
theorem dX12_houseAt_175 : decode cX12_houseAt 175 = .ok (.if_icmp .ne 12, 3) := dc_160 (a0 := 0) (b0 := 12) (dc_nn (k := 10) aX12_houseAt_165 rfl) (by decide)
theorem dX12_houseAt_178 : decode cX12_houseAt 178 = .ok (.iload_n 1, 1) := dc_27 (dc_nn (k := 13) aX12_houseAt_165 rfl)
theorem dX12_houseAt_179 : decode cX12_houseAt 179 = .ok (.iload 7, 2) := dc_21 (a0 := 7) (dc_nn (k := 14) aX12_houseAt_165 rfl)
theorem dX12_houseAt_181 : decode cX12_houseAt 181 = .ok (.iconst 3, 1) := dc_6 (dc_nn (k := 16) aX12_houseAt_165 rfl)
theorem dX12_houseAt_182 : decode cX12_houseAt 182 = .ok (.idiv, 1) := dc_108 (dc_nn (k := 17) aX12_houseAt_165 rfl)
theorem dX12_houseAt_183 : decode cX12_houseAt 183 = .ok (.iadd, 1) := dc_96 (dc_nn (k := 18) aX12_houseAt_165 rfl)
theorem dX12_houseAt_184 : decode cX12_houseAt 184 = .ok (.goto 11, 3) := dc_167 (a0 := 0) (b0 := 11) (dc_nn (k := 19) aX12_houseAt_165 rfl) (by decide)
theorem dX12_houseAt_187 : decode cX12_houseAt 187 = .ok (.iload_n 1, 1) := dc_27 (dc_nn (k := 22) aX12_houseAt_165 rfl)
theorem dX12_houseAt_188 : decode cX12_houseAt 188 = .ok (.iconst 2, 1) := dc_5 (dc_nn (k := 23) aX12_houseAt_165 rfl)
theorem dX12_houseAt_189 : decode cX12_houseAt 189 = .ok (.iload 7, 2) := dc_21 (a0 := 7) (dc_nn (k := 24) aX12_houseAt_165 rfl)
theorem dX12_houseAt_191 : decode cX12_houseAt 191 = .ok (.imul, 1) := dc_104 (dc_nn (k := 26) aX12_houseAt_165 rfl)
theorem dX12_houseAt_192 : decode cX12_houseAt 192 = .ok (.iconst 3, 1) := dc_6 (dc_nn (k := 27) aX12_houseAt_165 rfl)
theorem dX12_houseAt_193 : decode cX12_houseAt 193 = .ok (.idiv, 1) := dc_108 (dc_nn (k := 28) aX12_houseAt_165 rfl)
theorem dX12_houseAt_194 : decode cX12_houseAt 194 = .ok (.iadd, 1) := dc_96 (dc_nn (k := 29) aX12_houseAt_165 rfl)
theorem dX12_houseAt_195 : decode cX12_houseAt 195 = .ok (.istore 9, 2) := dc_54 (a0 := 9) (dc_nn (k := 30) aX12_houseAt_165 rfl)
theorem dX12_houseAt_197 : decode cX12_houseAt 197 = .ok (.iload 8, 2) := dc_21 (a0 := 8) (dc_nn (k := 32) aX12_houseAt_165 rfl)
theorem dX12_houseAt_199 : decode cX12_houseAt 199 = .ok (.iload 4, 2) := dc_21 (a0 := 4) (dc_nn (k := 34) aX12_houseAt_165 rfl)
theorem dX12_houseAt_201 : decode cX12_houseAt 201 = .ok (.if_icmp .ne 8, 3) := dc_160 (a0 := 0) (b0 := 8) (dc_nn (k := 36) aX12_houseAt_165 rfl) (by decide)
theorem dX12_houseAt_204 : decode cX12_houseAt 204 = .ok (.iload 9, 2) := dc_21 (a0 := 9) (dc_nn (k := 39) aX12_houseAt_165 rfl)
theorem dX12_houseAt_206 : decode cX12_houseAt 206 = .ok (.goto 9, 3) := dc_167 (a0 := 0) (b0 := 9) aX12_houseAt_206 (by decide)
theorem dX12_houseAt_209 : decode cX12_houseAt 209 = .ok (.iload 9, 2) := dc_21 (a0 := 9) (dc_nn (k := 3) aX12_houseAt_206 rfl)
theorem dX12_houseAt_211 : decode cX12_houseAt 211 = .ok (.sipush 180, 3) := dc_17 (a0 := 0) (b0 := 180) (dc_nn (k := 5) aX12_houseAt_206 rfl) (by decide)
theorem dX12_houseAt_214 : decode cX12_houseAt 214 = .ok (.iadd, 1) := dc_96 (dc_nn (k := 8) aX12_houseAt_206 rfl)
theorem dX12_houseAt_215 : decode cX12_houseAt 215 = .ok (.sipush 360, 3) := dc_17 (a0 := 1) (b0 := 104) (dc_nn (k := 9) aX12_houseAt_206 rfl) (by decide)
theorem dX12_houseAt_218 : decode cX12_houseAt 218 = .ok (.irem, 1) := dc_112 (dc_nn (k := 12) aX12_houseAt_206 rfl)
theorem dX12_houseAt_219 : decode cX12_houseAt 219 = .ok (.ireturn, 1) := dc_172 (dc_nn (k := 13) aX12_houseAt_206 rfl)
set_option maxRecDepth 20000 in
theorem ggX12_isWay_X12_within : GoodIn wsX12_isWay wsX12_within := goodIn_k _ [[5]] (by rfl) (by decide +kernel)
set_option maxRecDepth 20000 in
theorem gX12_isWay_X12_within : GoodIn wsX12_isWay (va_wsS RX12 270 yX12_within wsX12_within) := goodIn_app (goodIn_k _ [[2, 0, 0]] (by rfl) (gw_S _ _ _ _)) ggX12_isWay_X12_within
set_option maxRecDepth 20000 in
theorem ggX12_isWay_X12_right : GoodIn wsX12_isWay wsX12_right := goodIn_k _ [[9, 0, 0, 0, 0, 0, 0, 0, 0, 0, 0, 0, 0, 0, 0, 0, 0, 0, 0, 0, 0, 0, 0, 0, 0, 0, 0, 0, 0, 0, 0, 0, 0, 0, 0, 0, 0, 0, 0, 0, 0, 0, 0, 0, 0, 0, 0, 0, 0, 0, 0, 0, 0, 0, 0, 0, 0, 0, 0, 0]] (by rfl) (by decide +kernel)
set_option maxRecDepth 20000 in
theorem gX12_isWay_X12_right : GoodIn wsX12_isWay (wsV RX12 209 RX12 yX12_right wsX12_right) := goodIn_app (goodIn_k _ [[6, 0, 0], [4]] (by rfl) (gw_V _ _ _ _)) ggX12_isWay_X12_right
noncomputable def sX12_isWay_0 : List Nat := 42 :: 27 :: 3 :: 5 :: 184 :: 1 :: 14 :: 153 :: 0 :: 24 :: 27 :: 5 :: 161 :: 0 :: 15 :: 28 :: 155 :: 0 :: 15 :: 28 :: 42 :: 180 :: 0 :: 228 :: 162 :: 0 :: 7 :: 4 :: 167 :: 0 :: 4 :: 3 :: 4 :: 182 :: 0 :: 209 :: 172 :: []
theorem aX12_isWay_0 : dc_at cX12_isWay 0 sX12_isWay_0 := dc_base (by decide +kernel)
theorem dX12_isWay_0 : decode cX12_isWay 0 = .ok (.aload_n 0, 1) := dc_42 aX12_isWay_0
theorem dX12_isWay_1 : decode cX12_isWay 1 = .ok (.iload_n 1, 1) := dc_27 (dc_nn (k := 1) aX12_isWay_0 rfl)
theorem dX12_isWay_2 : decode cX12_isWay 2 = .ok (.iconst 0, 1) := dc_3 (dc_nn (k := 2) aX12_isWay_0 rfl)
theorem dX12_isWay_3 : decode cX12_isWay 3 = .ok (.iconst 2, 1) := dc_5 (dc_nn (k := 3) aX12_isWay_0 rfl)
theorem dX12_isWay_4 : decode cX12_isWay 4 = .ok (.invokestatic 270, 3) := dc_184 (a0 := 1) (b0 := 14) (dc_nn (k := 4) aX12_isWay_0 rfl)
theorem dX12_isWay_7 : decode cX12_isWay 7 = .ok (.ifCond .eq 24, 3) := dc_153 (a0 := 0) (b0 := 24) (dc_nn (k := 7) aX12_isWay_0 rfl) (by decide)
theorem dX12_isWay_10 : decode cX12_isWay 10 = .ok (.iload_n 1, 1) := dc_27 (dc_nn (k := 10) aX12_isWay_0 rfl)
theorem dX12_isWay_11 : decode cX12_isWay 11 = .ok (.iconst 2, 1) := dc_5 (dc_nn (k := 11) aX12_isWay_0 rfl)
theorem dX12_isWay_12 : decode cX12_isWay 12 = .ok (.if_icmp .lt 15, 3) := dc_161 (a0 := 0) (b0 := 15) (dc_nn (k := 12) aX12_isWay_0 rfl) (by decide)
theorem dX12_isWay_15 : decode cX12_isWay 15 = .ok (.iload_n 2, 1) := dc_28 (dc_nn (k := 15) aX12_isWay_0 rfl)
theorem dX12_isWay_16 : decode cX12_isWay 16 = .ok (.ifCond .lt 15, 3) := dc_155 (a0 := 0) (b0 := 15) (dc_nn (k := 16) aX12_isWay_0 rfl) (by decide)
theorem dX12_isWay_19 : decode cX12_isWay 19 = .ok (.iload_n 2, 1) := dc_28 (dc_nn (k := 19) aX12_isWay_0 rfl)
theorem dX12_isWay_20 : decode cX12_isWay 20 = .ok (.aload_n 0, 1) := dc_42 (dc_nn (k := 20) aX12_isWay_0 rfl)
theorem dX12_isWay_21 : decode cX12_isWay 21 = .ok (.getfield 228, 3) := dc_180 (a0 := 0) (b0 := 228) (dc_nn (k := 21) aX12_isWay_0 rfl)
theorem dX12_isWay_24 : decode cX12_isWay 24 = .ok (.if_icmp .ge 7, 3) := dc_162 (a0 := 0) (b0 := 7) (dc_nn (k := 24) aX12_isWay_0 rfl) (by decide)
theorem dX12_isWay_27 : decode cX12_isWay 27 = .ok (.iconst 1, 1) := dc_4 (dc_nn (k := 27) aX12_isWay_0 rfl)
theorem dX12_isWay_28 : decode cX12_isWay 28 = .ok (.goto 4, 3) := dc_167 (a0 := 0) (b0 := 4) (dc_nn (k := 28) aX12_isWay_0 rfl) (by decide)
theorem dX12_isWay_31 : decode cX12_isWay 31 = .ok (.iconst 0, 1) := dc_3 (dc_nn (k := 31) aX12_isWay_0 rfl)
theorem dX12_isWay_32 : decode cX12_isWay 32 = .ok (.iconst 1, 1) := dc_4 (dc_nn (k := 32) aX12_isWay_0 rfl)
theorem dX12_isWay_33 : decode cX12_isWay 33 = .ok (.invokevirtual 209, 3) := dc_182 (a0 := 0) (b0 := 209) (dc_nn (k := 33) aX12_isWay_0 rfl)
theorem dX12_isWay_36 : decode cX12_isWay 36 = .ok (.ireturn, 1) := dc_172 (dc_nn (k := 36) aX12_isWay_0 rfl)
set_option maxRecDepth 20000 in
theorem ggX12_houseOf_X12_within : GoodIn wsX12_houseOf wsX12_within := goodIn_k _ [[5]] (by rfl) (by decide +kernel)
set_option maxRecDepth 20000 in
theorem gX12_houseOf_X12_within : GoodIn wsX12_houseOf (va_wsS RX12 270 yX12_within wsX12_within) := goodIn_app (goodIn_k _ [[2, 0, 0]] (by rfl) (gw_S _ _ _ _)) ggX12_houseOf_X12_within
set_option maxRecDepth 20000 in
theorem ggX12_houseOf_X12_right : GoodIn wsX12_houseOf wsX12_right := goodIn_k _ [[9], [1, 32, 0, 0, 0, 0, 0, 0, 0, 0, 0, 0, 0, 0, 0, 0, 0, 0, 0, 0, 0, 0, 0, 0, 0, 0, 0, 0, 0, 0, 0, 0, 0, 0, 0, 0, 0, 0, 0, 0, 0, 0, 0, 0, 0, 0, 0, 0, 0, 0, 0, 0, 0, 0, 0, 0, 0, 0, 0]] (by rfl) (by decide +kernel)
set_option maxRecDepth 20000 in
theorem gX12_houseOf_X12_right : GoodIn wsX12_houseOf (wsV RX12 209 RX12 yX12_right wsX12_right) := goodIn_app (goodIn_k _ [[6, 0, 0], [4]] (by rfl) (gw_V _ _ _ _)) ggX12_houseOf_X12_right
set_option maxRecDepth 20000 in
theorem ggX12_houseOf_X12_isWay : GoodIn wsX12_houseOf wsX12_isWay := goodIn_k _ [[13, 0], [2, 0, 0, 0, 0, 0, 0, 0], [1, 32, 0, 0, 0, 0, 0, 0, 0, 0, 0, 0, 0, 0, 0, 0, 0, 0, 0, 0, 0, 0, 0, 0, 0, 0, 0, 0, 0, 0, 0, 0, 0, 0, 0, 0, 0, 0, 0, 0, 0, 0, 0, 0, 0, 0, 0, 0, 0, 0, 0, 0, 0, 0, 0, 0, 0, 0, 0]] (by rfl) (by decide +kernel)
set_option maxRecDepth 20000 in
theorem gX12_houseOf_X12_isWay : GoodIn wsX12_houseOf (wsV RX12 323 RX12 yX12_isWay wsX12_isWay) := goodIn_app (goodIn_k _ [[10, 0, 0], [4]] (by rfl) (gw_V _ _ _ _)) ggX12_houseOf_X12_isWay
set_option maxRecDepth 20000 in
theorem ggX12_houseOf_X12_houseAt : GoodIn wsX12_houseOf wsX12_houseAt := goodIn_k _ [[18, 0, 0, 0], [4, 17, 0, 0, 0, 0, 0, 0, 0, 0, 0, 0, 0, 0, 0, 0, 0, 0, 0, 0, 0, 0, 0, 0, 0, 0, 0, 0, 0, 0, 0, 0, 0, 0, 0, 0, 0, 0, 0, 0, 0, 0, 0, 0, 0, 0, 0, 0, 0, 0, 0, 0, 0, 0, 0, 0, 0, 0, 0, 0, 0, 0, 0, 0, 0, 0, 0, 0, 0, 0, 0]] (by rfl) (by decide +kernel)
set_option maxRecDepth 20000 in
theorem gX12_houseOf_X12_houseAt : GoodIn wsX12_houseOf (wsV RX12 326 RX12 yX12_houseAt wsX12_houseAt) := goodIn_app (goodIn_k _ [[15, 0, 0], [4]] (by rfl) (gw_V _ _ _ _)) ggX12_houseOf_X12_houseAt
noncomputable def sX12_houseOf_40 : List Nat := 42 :: 28 :: 29 :: 182 :: 1 :: 67 :: 154 :: 0 :: 5 :: 3 :: 172 :: 42 :: 27 :: 28 :: 29 :: 21 :: 4 :: 182 :: 1 :: 70 :: 172 :: []
noncomputable def sX12_houseOf_0 : List Nat := 42 :: 3 :: 181 :: 0 :: 129 :: 42 :: 27 :: 3 :: 17 :: 1 :: 103 :: 184 :: 1 :: 14 :: 153 :: 0 :: 18 :: 21 :: 4 :: 4 :: 16 :: 12 :: 184 :: 1 :: 14 :: 153 :: 0 :: 7 :: 4 :: 167 :: 0 :: 4 :: 3 :: 4 :: 182 :: 0 :: 209 :: 153 :: 0 :: 12 :: sX12_houseOf_40
theorem aX12_houseOf_0 : dc_at cX12_houseOf 0 sX12_houseOf_0 := dc_base (by decide +kernel)
theorem aX12_houseOf_40 : dc_at cX12_houseOf 40 sX12_houseOf_40 := dc_nn (k := 40) aX12_houseOf_0 rfl
theorem dX12_houseOf_0 : decode cX12_houseOf 0 = .ok (.aload_n 0, 1) := dc_42 aX12_houseOf_0
theorem dX12_houseOf_1 : decode cX12_houseOf 1 = .ok (.iconst 0, 1) := dc_3 (dc_nn (k := 1) aX12_houseOf_0 rfl)
theorem dX12_houseOf_2 : decode cX12_houseOf 2 = .ok (.putfield 129, 3) := dc_181 (a0 := 0) (b0 := 129) (dc_nn (k := 2) aX12_houseOf_0 rfl)
theorem dX12_houseOf_5 : decode cX12_houseOf 5 = .ok (.aload_n 0, 1) := dc_42 (dc_nn (k := 5) aX12_houseOf_0 rfl)
theorem dX12_houseOf_6 : decode cX12_houseOf 6 = .ok (.iload_n 1, 1) := dc_27 (dc_nn (k := 6) aX12_houseOf_0 rfl)
theorem dX12_houseOf_7 : decode cX12_houseOf 7 = .ok (.iconst 0, 1) := dc_3 (dc_nn (k := 7) aX12_houseOf_0 rfl)
theorem dX12_houseOf_8 : decode cX12_houseOf 8 = .ok (.sipush 359, 3) := dc_17 (a0 := 1) (b0 := 103) (dc_nn (k := 8) aX12_houseOf_0 rfl) (by decide)
theorem dX12_houseOf_11 : decode cX12_houseOf 11 = .ok (.invokestatic 270, 3) := dc_184 (a0 := 1) (b0 := 14) (dc_nn (k := 11) aX12_houseOf_0 rfl)
theorem dX12_houseOf_14 : decode cX12_houseOf 14 = .ok (.ifCond .eq 18, 3) := dc_153 (a0 := 0) (b0 := 18) (dc_nn (k := 14) aX12_houseOf_0 rfl) (by decide)
theorem dX12_houseOf_17 : decode cX12_houseOf 17 = .ok (.iload 4, 2) := dc_21 (a0 := 4) (dc_nn (k := 17) aX12_houseOf_0 rfl)
theorem dX12_houseOf_19 : decode cX12_houseOf 19 = .ok (.iconst 1, 1) := dc_4 (dc_nn (k := 19) aX12_houseOf_0 rfl)
theorem dX12_houseOf_20 : decode cX12_houseOf 20 = .ok (.bipush 12, 2) := dc_16 (a0 := 12) (dc_nn (k := 20) aX12_houseOf_0 rfl) (by decide)
theorem dX12_houseOf_22 : decode cX12_houseOf 22 = .ok (.invokestatic 270, 3) := dc_184 (a0 := 1) (b0 := 14) (dc_nn (k := 22) aX12_houseOf_0 rfl)
theorem dX12_houseOf_25 : decode cX12_houseOf 25 = .ok (.ifCond .eq 7, 3) := dc_153 (a0 := 0) (b0 := 7) (dc_nn (k := 25) aX12_houseOf_0 rfl) (by decide)
theorem dX12_houseOf_28 : decode cX12_houseOf 28 = .ok (.iconst 1, 1) := dc_4 (dc_nn (k := 28) aX12_houseOf_0 rfl)
theorem dX12_houseOf_29 : decode cX12_houseOf 29 = .ok (.goto 4, 3) := dc_167 (a0 := 0) (b0 := 4) (dc_nn (k := 29) aX12_houseOf_0 rfl) (by decide)
theorem dX12_houseOf_32 : decode cX12_houseOf 32 = .ok (.iconst 0, 1) := dc_3 (dc_nn (k := 32) aX12_houseOf_0 rfl)
theorem dX12_houseOf_33 : decode cX12_houseOf 33 = .ok (.iconst 1, 1) := dc_4 (dc_nn (k := 33) aX12_houseOf_0 rfl)
theorem dX12_houseOf_34 : decode cX12_houseOf 34 = .ok (.invokevirtual 209, 3) := dc_182 (a0 := 0) (b0 := 209) (dc_nn (k := 34) aX12_houseOf_0 rfl)
theorem dX12_houseOf_37 : decode cX12_houseOf 37 = .ok (.ifCond .eq 12, 3) := dc_153 (a0 := 0) (b0 := 12) (dc_nn (k := 37) aX12_houseOf_0 rfl) (by decide)
theorem dX12_houseOf_40 : decode cX12_houseOf 40 = .ok (.aload_n 0, 1) := dc_42 aX12_houseOf_40
theorem dX12_houseOf_41 : decode cX12_houseOf 41 = .ok (.iload_n 2, 1) := dc_28 (dc_nn (k := 1) aX12_houseOf_40 rfl)
theorem dX12_houseOf_42 : decode cX12_houseOf 42 = .ok (.iload_n 3, 1) := dc_29 (dc_nn (k := 2) aX12_houseOf_40 rfl)
theorem dX12_houseOf_43 : decode cX12_houseOf 43 = .ok (.invokevirtual 323, 3) := dc_182 (a0 := 1) (b0 := 67) (dc_nn (k := 3) aX12_houseOf_40 rfl)
theorem dX12_houseOf_46 : decode cX12_houseOf 46 = .ok (.ifCond .ne 5, 3) := dc_154 (a0 := 0) (b0 := 5) (dc_nn (k := 6) aX12_houseOf_40 rfl) (by decide)
theorem dX12_houseOf_49 : decode cX12_houseOf 49 = .ok (.iconst 0, 1) := dc_3 (dc_nn (k := 9) aX12_houseOf_40 rfl)
theorem dX12_houseOf_50 : decode cX12_houseOf 50 = .ok (.ireturn, 1) := dc_172 (dc_nn (k := 10) aX12_houseOf_40 rfl)
theorem dX12_houseOf_51 : decode cX12_houseOf 51 = .ok (.aload_n 0, 1) := dc_42 (dc_nn (k := 11) aX12_houseOf_40 rfl)
theorem dX12_houseOf_52 : decode cX12_houseOf 52 = .ok (.iload_n 1, 1) := dc_27 (dc_nn (k := 12) aX12_houseOf_40 rfl)
theorem dX12_houseOf_53 : decode cX12_houseOf 53 = .ok (.iload_n 2, 1) := dc_28 (dc_nn (k := 13) aX12_houseOf_40 rfl)
theorem dX12_houseOf_54 : decode cX12_houseOf 54 = .ok (.iload_n 3, 1) := dc_29 (dc_nn (k := 14) aX12_houseOf_40 rfl)
theorem dX12_houseOf_55 : decode cX12_houseOf 55 = .ok (.iload 4, 2) := dc_21 (a0 := 4) (dc_nn (k := 15) aX12_houseOf_40 rfl)
theorem dX12_houseOf_57 : decode cX12_houseOf 57 = .ok (.invokevirtual 326, 3) := dc_182 (a0 := 1) (b0 := 70) (dc_nn (k := 17) aX12_houseOf_40 rfl)
theorem dX12_houseOf_60 : decode cX12_houseOf 60 = .ok (.ireturn, 1) := dc_172 (dc_nn (k := 20) aX12_houseOf_40 rfl)
set_option maxRecDepth 20000 in
theorem ggX12_agrees_X12_at : GoodIn wsX12_agrees wsX12_at := goodIn_k _ [[5, 0, 19, 0, 0, 0, 0, 0, 0, 0, 0, 0, 0, 0, 0, 0, 0, 0, 0, 0, 0, 0, 0, 0, 0, 0, 0, 0, 0, 0, 0, 0, 0, 0, 0, 0, 0, 0, 0, 0, 0, 0, 0, 0, 0, 0, 0, 0, 0, 0, 0, 0, 0, 0, 0, 0, 0, 0, 0, 0]] (by rfl) (by decide +kernel)
set_option maxRecDepth 20000 in
theorem gX12_agrees_X12_at : GoodIn wsX12_agrees (wsV RX12 254 RX12 yX12_at wsX12_at) := goodIn_app (goodIn_k _ [[1, 0, 0, 0]] (by rfl) (gw_V _ _ _ _)) ggX12_agrees_X12_at
set_option maxRecDepth 20000 in
theorem ggX12_agrees_X12_houseAt : GoodIn wsX12_agrees wsX12_houseAt := goodIn_k _ [[10, 0, 0, 0], [4, 9, 0, 0, 0, 0, 0, 0, 0, 0, 0, 0, 0, 0, 0, 0, 0, 0, 0, 0, 0, 0, 0, 0, 0, 0, 0, 0, 0, 0, 0, 0, 0, 0, 0, 0, 0, 0, 0, 0, 0, 0, 0, 0, 0, 0, 0, 0, 0, 0, 0, 0, 0, 0, 0, 0, 0, 0, 0, 0, 0, 0, 0, 0, 0, 0, 0, 0, 0, 0, 0]] (by rfl) (by decide +kernel)
set_option maxRecDepth 20000 in
theorem gX12_agrees_X12_houseAt : GoodIn wsX12_agrees (wsV RX12 326 RX12 yX12_houseAt wsX12_houseAt) := goodIn_app (goodIn_k _ [[7, 0, 0], [4]] (by rfl) (gw_V _ _ _ _)) ggX12_agrees_X12_houseAt
noncomputable def sX12_agrees_40 : List Nat := 182 :: 0 :: 254 :: 28 :: 29 :: 21 :: 5 :: 182 :: 1 :: 70 :: 160 :: 0 :: 6 :: 132 :: 4 :: 1 :: 132 :: 5 :: 1 :: 167 :: 255 :: 203 :: 21 :: 4 :: 172 :: []
noncomputable def sX12_agrees_0 : List Nat := 3 :: 54 :: 4 :: 4 :: 54 :: 5 :: 21 :: 5 :: 16 :: 12 :: 163 :: 0 :: 52 :: 42 :: 27 :: 16 :: 9 :: 21 :: 5 :: 96 :: 4 :: 100 :: 182 :: 0 :: 254 :: 54 :: 6 :: 21 :: 6 :: 2 :: 159 :: 0 :: 26 :: 21 :: 6 :: 42 :: 42 :: 27 :: 16 :: 7 :: sX12_agrees_40
theorem aX12_agrees_0 : dc_at cX12_agrees 0 sX12_agrees_0 := dc_base (by decide +kernel)
theorem aX12_agrees_40 : dc_at cX12_agrees 40 sX12_agrees_40 := dc_nn (k := 40) aX12_agrees_0 rfl
theorem dX12_agrees_0 : decode cX12_agrees 0 = .ok (.iconst 0, 1) := dc_3 aX12_agrees_0
theorem dX12_agrees_1 : decode cX12_agrees 1 = .ok (.istore 4, 2) := dc_54 (a0 := 4) (dc_nn (k := 1) aX12_agrees_0 rfl)
theorem dX12_agrees_3 : decode cX12_agrees 3 = .ok (.iconst 1, 1) := dc_4 (dc_nn (k := 3) aX12_agrees_0 rfl)
theorem dX12_agrees_4 : decode cX12_agrees 4 = .ok (.istore 5, 2) := dc_54 (a0 := 5) (dc_nn (k := 4) aX12_agrees_0 rfl)
theorem dX12_agrees_6 : decode cX12_agrees 6 = .ok (.iload 5, 2) := dc_21 (a0 := 5) (dc_nn (k := 6) aX12_agrees_0 rfl)
theorem dX12_agrees_8 : decode cX12_agrees 8 = .ok (.bipush 12, 2) := dc_16 (a0 := 12) (dc_nn (k := 8) aX12_agrees_0 rfl) (by decide)
theorem dX12_agrees_10 : decode cX12_agrees 10 = .ok (.if_icmp .gt 52, 3) := dc_163 (a0 := 0) (b0 := 52) (dc_nn (k := 10) aX12_agrees_0 rfl) (by decide)
theorem dX12_agrees_13 : decode cX12_agrees 13 = .ok (.aload_n 0, 1) := dc_42 (dc_nn (k := 13) aX12_agrees_0 rfl)
theorem dX12_agrees_14 : decode cX12_agrees 14 = .ok (.iload_n 1, 1) := dc_27 (dc_nn (k := 14) aX12_agrees_0 rfl)
theorem dX12_agrees_15 : decode cX12_agrees 15 = .ok (.bipush 9, 2) := dc_16 (a0 := 9) (dc_nn (k := 15) aX12_agrees_0 rfl) (by decide)
theorem dX12_agrees_17 : decode cX12_agrees 17 = .ok (.iload 5, 2) := dc_21 (a0 := 5) (dc_nn (k := 17) aX12_agrees_0 rfl)
theorem dX12_agrees_19 : decode cX12_agrees 19 = .ok (.iadd, 1) := dc_96 (dc_nn (k := 19) aX12_agrees_0 rfl)
theorem dX12_agrees_20 : decode cX12_agrees 20 = .ok (.iconst 1, 1) := dc_4 (dc_nn (k := 20) aX12_agrees_0 rfl)
theorem dX12_agrees_21 : decode cX12_agrees 21 = .ok (.isub, 1) := dc_100 (dc_nn (k := 21) aX12_agrees_0 rfl)
theorem dX12_agrees_22 : decode cX12_agrees 22 = .ok (.invokevirtual 254, 3) := dc_182 (a0 := 0) (b0 := 254) (dc_nn (k := 22) aX12_agrees_0 rfl)
theorem dX12_agrees_25 : decode cX12_agrees 25 = .ok (.istore 6, 2) := dc_54 (a0 := 6) (dc_nn (k := 25) aX12_agrees_0 rfl)
theorem dX12_agrees_27 : decode cX12_agrees 27 = .ok (.iload 6, 2) := dc_21 (a0 := 6) (dc_nn (k := 27) aX12_agrees_0 rfl)
theorem dX12_agrees_29 : decode cX12_agrees 29 = .ok (.iconst (-1), 1) := dc_2 (dc_nn (k := 29) aX12_agrees_0 rfl)
theorem dX12_agrees_30 : decode cX12_agrees 30 = .ok (.if_icmp .eq 26, 3) := dc_159 (a0 := 0) (b0 := 26) (dc_nn (k := 30) aX12_agrees_0 rfl) (by decide)
theorem dX12_agrees_33 : decode cX12_agrees 33 = .ok (.iload 6, 2) := dc_21 (a0 := 6) (dc_nn (k := 33) aX12_agrees_0 rfl)
theorem dX12_agrees_35 : decode cX12_agrees 35 = .ok (.aload_n 0, 1) := dc_42 (dc_nn (k := 35) aX12_agrees_0 rfl)
theorem dX12_agrees_36 : decode cX12_agrees 36 = .ok (.aload_n 0, 1) := dc_42 (dc_nn (k := 36) aX12_agrees_0 rfl)
theorem dX12_agrees_37 : decode cX12_agrees 37 = .ok (.iload_n 1, 1) := dc_27 (dc_nn (k := 37) aX12_agrees_0 rfl)
theorem dX12_agrees_38 : decode cX12_agrees 38 = .ok (.bipush 7, 2) := dc_16 (a0 := 7) (dc_nn (k := 38) aX12_agrees_0 rfl) (by decide)
theorem dX12_agrees_40 : decode cX12_agrees 40 = .ok (.invokevirtual 254, 3) := dc_182 (a0 := 0) (b0 := 254) aX12_agrees_40
theorem dX12_agrees_43 : decode cX12_agrees 43 = .ok (.iload_n 2, 1) := dc_28 (dc_nn (k := 3) aX12_agrees_40 rfl)
theorem dX12_agrees_44 : decode cX12_agrees 44 = .ok (.iload_n 3, 1) := dc_29 (dc_nn (k := 4) aX12_agrees_40 rfl)
theorem dX12_agrees_45 : decode cX12_agrees 45 = .ok (.iload 5, 2) := dc_21 (a0 := 5) (dc_nn (k := 5) aX12_agrees_40 rfl)
theorem dX12_agrees_47 : decode cX12_agrees 47 = .ok (.invokevirtual 326, 3) := dc_182 (a0 := 1) (b0 := 70) (dc_nn (k := 7) aX12_agrees_40 rfl)
theorem dX12_agrees_50 : decode cX12_agrees 50 = .ok (.if_icmp .ne 6, 3) := dc_160 (a0 := 0) (b0 := 6) (dc_nn (k := 10) aX12_agrees_40 rfl) (by decide)
theorem dX12_agrees_53 : decode cX12_agrees 53 = .ok (.iinc 4 1, 3) := dc_132 (a0 := 4) (a1 := 1) (dc_nn (k := 13) aX12_agrees_40 rfl) (by decide)
theorem dX12_agrees_56 : decode cX12_agrees 56 = .ok (.iinc 5 1, 3) := dc_132 (a0 := 5) (a1 := 1) (dc_nn (k := 16) aX12_agrees_40 rfl) (by decide)
theorem dX12_agrees_59 : decode cX12_agrees 59 = .ok (.goto (-53), 3) := dc_167 (a0 := 255) (b0 := 203) (dc_nn (k := 19) aX12_agrees_40 rfl) (by decide)
theorem dX12_agrees_62 : decode cX12_agrees 62 = .ok (.iload 4, 2) := dc_21 (a0 := 4) (dc_nn (k := 22) aX12_agrees_40 rfl)
theorem dX12_agrees_64 : decode cX12_agrees 64 = .ok (.ireturn, 1) := dc_172 (dc_nn (k := 24) aX12_agrees_40 rfl)
set_option maxRecDepth 20000 in
theorem ggX12_housesTold_X12_at : GoodIn wsX12_housesTold wsX12_at := goodIn_k _ [[5, 0, 0, 0, 0, 0, 0, 0, 0, 0, 0, 0, 0, 0, 0, 0, 0, 0, 0, 0, 0, 0, 0, 0, 0, 0, 0, 0, 0, 0, 0, 0, 0, 0, 0, 0, 0, 0, 0, 0, 0, 0, 0, 0, 0, 0, 0, 0, 0, 0, 0, 0, 0, 0, 0, 0, 0, 0, 0, 0]] (by rfl) (by decide +kernel)
set_option maxRecDepth 20000 in
theorem gX12_housesTold_X12_at : GoodIn wsX12_housesTold (wsV RX12 254 RX12 yX12_at wsX12_at) := goodIn_app (goodIn_k _ [[1, 0, 0, 0]] (by rfl) (gw_V _ _ _ _)) ggX12_housesTold_X12_at
noncomputable def sX12_housesTold_40 : List Nat := 172 :: []
noncomputable def sX12_housesTold_0 : List Nat := 3 :: 61 :: 4 :: 62 :: 29 :: 16 :: 12 :: 163 :: 0 :: 32 :: 28 :: 42 :: 27 :: 16 :: 9 :: 29 :: 96 :: 4 :: 100 :: 182 :: 0 :: 254 :: 2 :: 159 :: 0 :: 7 :: 4 :: 167 :: 0 :: 4 :: 3 :: 96 :: 61 :: 132 :: 3 :: 1 :: 167 :: 255 :: 224 :: 28 :: sX12_housesTold_40
theorem aX12_housesTold_0 : dc_at cX12_housesTold 0 sX12_housesTold_0 := dc_base (by decide +kernel)
theorem aX12_housesTold_40 : dc_at cX12_housesTold 40 sX12_housesTold_40 := dc_nn (k := 40) aX12_housesTold_0 rfl
theorem dX12_housesTold_0 : decode cX12_housesTold 0 = .ok (.iconst 0, 1) := dc_3 aX12_housesTold_0
theorem dX12_housesTold_1 : decode cX12_housesTold 1 = .ok (.istore_n 2, 1) := dc_61 (dc_nn (k := 1) aX12_housesTold_0 rfl)
theorem dX12_housesTold_2 : decode cX12_housesTold 2 = .ok (.iconst 1, 1) := dc_4 (dc_nn (k := 2) aX12_housesTold_0 rfl)
theorem dX12_housesTold_3 : decode cX12_housesTold 3 = .ok (.istore_n 3, 1) := dc_62 (dc_nn (k := 3) aX12_housesTold_0 rfl)
theorem dX12_housesTold_4 : decode cX12_housesTold 4 = .ok (.iload_n 3, 1) := dc_29 (dc_nn (k := 4) aX12_housesTold_0 rfl)
theorem dX12_housesTold_5 : decode cX12_housesTold 5 = .ok (.bipush 12, 2) := dc_16 (a0 := 12) (dc_nn (k := 5) aX12_housesTold_0 rfl) (by decide)
theorem dX12_housesTold_7 : decode cX12_housesTold 7 = .ok (.if_icmp .gt 32, 3) := dc_163 (a0 := 0) (b0 := 32) (dc_nn (k := 7) aX12_housesTold_0 rfl) (by decide)
theorem dX12_housesTold_10 : decode cX12_housesTold 10 = .ok (.iload_n 2, 1) := dc_28 (dc_nn (k := 10) aX12_housesTold_0 rfl)
theorem dX12_housesTold_11 : decode cX12_housesTold 11 = .ok (.aload_n 0, 1) := dc_42 (dc_nn (k := 11) aX12_housesTold_0 rfl)
theorem dX12_housesTold_12 : decode cX12_housesTold 12 = .ok (.iload_n 1, 1) := dc_27 (dc_nn (k := 12) aX12_housesTold_0 rfl)
theorem dX12_housesTold_13 : decode cX12_housesTold 13 = .ok (.bipush 9, 2) := dc_16 (a0 := 9) (dc_nn (k := 13) aX12_housesTold_0 rfl) (by decide)
theorem dX12_housesTold_15 : decode cX12_housesTold 15 = .ok (.iload_n 3, 1) := dc_29 (dc_nn (k := 15) aX12_housesTold_0 rfl)
theorem dX12_housesTold_16 : decode cX12_housesTold 16 = .ok (.iadd, 1) := dc_96 (dc_nn (k := 16) aX12_housesTold_0 rfl)
theorem dX12_housesTold_17 : decode cX12_housesTold 17 = .ok (.iconst 1, 1) := dc_4 (dc_nn (k := 17) aX12_housesTold_0 rfl)
theorem dX12_housesTold_18 : decode cX12_housesTold 18 = .ok (.isub, 1) := dc_100 (dc_nn (k := 18) aX12_housesTold_0 rfl)
theorem dX12_housesTold_19 : decode cX12_housesTold 19 = .ok (.invokevirtual 254, 3) := dc_182 (a0 := 0) (b0 := 254) (dc_nn (k := 19) aX12_housesTold_0 rfl)
theorem dX12_housesTold_22 : decode cX12_housesTold 22 = .ok (.iconst (-1), 1) := dc_2 (dc_nn (k := 22) aX12_housesTold_0 rfl)
theorem dX12_housesTold_23 : decode cX12_housesTold 23 = .ok (.if_icmp .eq 7, 3) := dc_159 (a0 := 0) (b0 := 7) (dc_nn (k := 23) aX12_housesTold_0 rfl) (by decide)
theorem dX12_housesTold_26 : decode cX12_housesTold 26 = .ok (.iconst 1, 1) := dc_4 (dc_nn (k := 26) aX12_housesTold_0 rfl)
theorem dX12_housesTold_27 : decode cX12_housesTold 27 = .ok (.goto 4, 3) := dc_167 (a0 := 0) (b0 := 4) (dc_nn (k := 27) aX12_housesTold_0 rfl) (by decide)
theorem dX12_housesTold_30 : decode cX12_housesTold 30 = .ok (.iconst 0, 1) := dc_3 (dc_nn (k := 30) aX12_housesTold_0 rfl)
theorem dX12_housesTold_31 : decode cX12_housesTold 31 = .ok (.iadd, 1) := dc_96 (dc_nn (k := 31) aX12_housesTold_0 rfl)
theorem dX12_housesTold_32 : decode cX12_housesTold 32 = .ok (.istore_n 2, 1) := dc_61 (dc_nn (k := 32) aX12_housesTold_0 rfl)
theorem dX12_housesTold_33 : decode cX12_housesTold 33 = .ok (.iinc 3 1, 3) := dc_132 (a0 := 3) (a1 := 1) (dc_nn (k := 33) aX12_housesTold_0 rfl) (by decide)
theorem dX12_housesTold_36 : decode cX12_housesTold 36 = .ok (.goto (-32), 3) := dc_167 (a0 := 255) (b0 := 224) (dc_nn (k := 36) aX12_housesTold_0 rfl) (by decide)
theorem dX12_housesTold_39 : decode cX12_housesTold 39 = .ok (.iload_n 2, 1) := dc_28 (dc_nn (k := 39) aX12_housesTold_0 rfl)
theorem dX12_housesTold_40 : decode cX12_housesTold 40 = .ok (.ireturn, 1) := dc_172 aX12_housesTold_40
set_option maxRecDepth 20000 in
theorem ggX12_agree_X12_isWheel : GoodIn wsX12_agree wsX12_isWheel := goodIn_k _ [[5, 0, 0, 0, 0], [4, 5, 36, 0, 0, 0, 0, 0, 0, 0, 0, 0, 0, 0, 0, 0, 0, 0, 0, 0, 0, 0, 0, 0, 0, 0, 0, 0, 0, 0, 0, 0, 0, 0, 0, 0, 0, 0, 0, 0, 0, 0, 0, 0, 0, 0, 0, 0, 0, 0, 0, 0, 0, 0, 0, 0, 0, 0, 0, 0]] (by rfl) (by decide +kernel)
set_option maxRecDepth 20000 in
theorem gX12_agree_X12_isWheel : GoodIn wsX12_agree (wsV RX12 247 RX12 yX12_isWheel wsX12_isWheel) := goodIn_app (goodIn_k _ [[1, 0, 0, 0]] (by rfl) (gw_V _ _ _ _)) ggX12_agree_X12_isWheel
set_option maxRecDepth 20000 in
theorem ggX12_agree_X12_isWay : GoodIn wsX12_agree wsX12_isWay := goodIn_k _ [[14, 0, 0, 0], [4, 13], [7, 0, 0, 0], [6, 40, 0, 0, 0, 0, 0, 0, 0, 0, 0, 0, 0, 0, 0, 0, 0, 0, 0, 0, 0, 0, 0, 0, 0, 0, 0, 0, 0, 0, 0, 0, 0, 0, 0, 0, 0, 0, 0, 0, 0, 0, 0, 0, 0, 0, 0, 0, 0, 0, 0, 0, 0, 0, 0, 0, 0, 0, 0]] (by rfl) (by decide +kernel)
set_option maxRecDepth 20000 in
theorem gX12_agree_X12_isWay : GoodIn wsX12_agree (wsV RX12 323 RX12 yX12_isWay wsX12_isWay) := goodIn_app (goodIn_k _ [[11, 0, 0], [4]] (by rfl) (gw_V _ _ _ _)) ggX12_agree_X12_isWay
set_option maxRecDepth 20000 in
theorem ggX12_agree_X12_at : GoodIn wsX12_agree wsX12_at := goodIn_k _ [[22, 0, 23, 0, 0, 0, 0, 0, 0, 0, 0, 0, 0, 0, 0, 0, 0, 0, 0, 0, 0, 0, 0, 0, 0, 0, 0, 0, 0, 0, 0, 0, 0, 0, 0, 0, 0, 0, 0, 0, 0, 0, 0, 0, 0, 0, 0, 0, 0, 0, 0, 0, 0, 0, 0, 0, 0, 0, 0, 0]] (by rfl) (by decide +kernel)
set_option maxRecDepth 20000 in
theorem gX12_agree_X12_at : GoodIn wsX12_agree (wsV RX12 254 RX12 yX12_at wsX12_at) := goodIn_app (goodIn_k _ [[19, 0, 0], [4]] (by rfl) (gw_V _ _ _ _)) ggX12_agree_X12_at
set_option maxRecDepth 20000 in
theorem ggX12_agree_X12_agrees : GoodIn wsX12_agree wsX12_agrees := goodIn_k _ [[27], [19, 0, 0], [4, 17, 0, 4, 0, 0, 0, 0, 0, 0, 0, 0, 0, 0, 0, 0, 0, 0, 0, 0, 0, 0, 0, 0, 0, 0, 0, 0, 0, 0, 0, 0, 0, 0, 0, 0, 0, 0, 0, 0, 0, 0, 0, 0, 0, 0, 0, 0, 0, 0, 0, 0, 0, 0, 0, 0, 0, 0, 0, 0, 0, 0, 0, 0, 0, 0, 0, 0, 0, 0, 0, 0, 0, 0, 0, 0, 0, 0, 0, 0]] (by rfl) (by decide +kernel)
set_option maxRecDepth 20000 in
theorem gX12_agree_X12_agrees : GoodIn wsX12_agree (wsV RX12 329 RX12 yX12_agrees wsX12_agrees) := goodIn_app (goodIn_k _ [[24, 0, 0], [4]] (by rfl) (gw_V _ _ _ _)) ggX12_agree_X12_agrees
noncomputable def sX12_agree_41 : List Nat := 42 :: 16 :: 20 :: 27 :: 104 :: 28 :: 96 :: 29 :: 21 :: 4 :: 182 :: 1 :: 73 :: 172 :: []
noncomputable def sX12_agree_0 : List Nat := 42 :: 27 :: 28 :: 182 :: 0 :: 247 :: 153 :: 0 :: 13 :: 42 :: 29 :: 21 :: 4 :: 182 :: 1 :: 67 :: 154 :: 0 :: 5 :: 3 :: 172 :: 42 :: 16 :: 20 :: 27 :: 104 :: 28 :: 96 :: 16 :: 7 :: 182 :: 0 :: 254 :: 2 :: 160 :: 0 :: 7 :: 2 :: 167 :: 0 :: 16 :: sX12_agree_41
theorem aX12_agree_0 : dc_at cX12_agree 0 sX12_agree_0 := dc_base (by decide +kernel)
theorem aX12_agree_41 : dc_at cX12_agree 41 sX12_agree_41 := dc_nn (k := 41) aX12_agree_0 rfl
theorem dX12_agree_0 : decode cX12_agree 0 = .ok (.aload_n 0, 1) := dc_42 aX12_agree_0
theorem dX12_agree_1 : decode cX12_agree 1 = .ok (.iload_n 1, 1) := dc_27 (dc_nn (k := 1) aX12_agree_0 rfl)
theorem dX12_agree_2 : decode cX12_agree 2 = .ok (.iload_n 2, 1) := dc_28 (dc_nn (k := 2) aX12_agree_0 rfl)
theorem dX12_agree_3 : decode cX12_agree 3 = .ok (.invokevirtual 247, 3) := dc_182 (a0 := 0) (b0 := 247) (dc_nn (k := 3) aX12_agree_0 rfl)
theorem dX12_agree_6 : decode cX12_agree 6 = .ok (.ifCond .eq 13, 3) := dc_153 (a0 := 0) (b0 := 13) (dc_nn (k := 6) aX12_agree_0 rfl) (by decide)
theorem dX12_agree_9 : decode cX12_agree 9 = .ok (.aload_n 0, 1) := dc_42 (dc_nn (k := 9) aX12_agree_0 rfl)
theorem dX12_agree_10 : decode cX12_agree 10 = .ok (.iload_n 3, 1) := dc_29 (dc_nn (k := 10) aX12_agree_0 rfl)
theorem dX12_agree_11 : decode cX12_agree 11 = .ok (.iload 4, 2) := dc_21 (a0 := 4) (dc_nn (k := 11) aX12_agree_0 rfl)
theorem dX12_agree_13 : decode cX12_agree 13 = .ok (.invokevirtual 323, 3) := dc_182 (a0 := 1) (b0 := 67) (dc_nn (k := 13) aX12_agree_0 rfl)
theorem dX12_agree_16 : decode cX12_agree 16 = .ok (.ifCond .ne 5, 3) := dc_154 (a0 := 0) (b0 := 5) (dc_nn (k := 16) aX12_agree_0 rfl) (by decide)
theorem dX12_agree_19 : decode cX12_agree 19 = .ok (.iconst 0, 1) := dc_3 (dc_nn (k := 19) aX12_agree_0 rfl)
theorem dX12_agree_20 : decode cX12_agree 20 = .ok (.ireturn, 1) := dc_172 (dc_nn (k := 20) aX12_agree_0 rfl)
theorem dX12_agree_21 : decode cX12_agree 21 = .ok (.aload_n 0, 1) := dc_42 (dc_nn (k := 21) aX12_agree_0 rfl)
theorem dX12_agree_22 : decode cX12_agree 22 = .ok (.bipush 20, 2) := dc_16 (a0 := 20) (dc_nn (k := 22) aX12_agree_0 rfl) (by decide)
theorem dX12_agree_24 : decode cX12_agree 24 = .ok (.iload_n 1, 1) := dc_27 (dc_nn (k := 24) aX12_agree_0 rfl)
theorem dX12_agree_25 : decode cX12_agree 25 = .ok (.imul, 1) := dc_104 (dc_nn (k := 25) aX12_agree_0 rfl)
theorem dX12_agree_26 : decode cX12_agree 26 = .ok (.iload_n 2, 1) := dc_28 (dc_nn (k := 26) aX12_agree_0 rfl)
theorem dX12_agree_27 : decode cX12_agree 27 = .ok (.iadd, 1) := dc_96 (dc_nn (k := 27) aX12_agree_0 rfl)
theorem dX12_agree_28 : decode cX12_agree 28 = .ok (.bipush 7, 2) := dc_16 (a0 := 7) (dc_nn (k := 28) aX12_agree_0 rfl) (by decide)
theorem dX12_agree_30 : decode cX12_agree 30 = .ok (.invokevirtual 254, 3) := dc_182 (a0 := 0) (b0 := 254) (dc_nn (k := 30) aX12_agree_0 rfl)
theorem dX12_agree_33 : decode cX12_agree 33 = .ok (.iconst (-1), 1) := dc_2 (dc_nn (k := 33) aX12_agree_0 rfl)
theorem dX12_agree_34 : decode cX12_agree 34 = .ok (.if_icmp .ne 7, 3) := dc_160 (a0 := 0) (b0 := 7) (dc_nn (k := 34) aX12_agree_0 rfl) (by decide)
theorem dX12_agree_37 : decode cX12_agree 37 = .ok (.iconst (-1), 1) := dc_2 (dc_nn (k := 37) aX12_agree_0 rfl)
theorem dX12_agree_38 : decode cX12_agree 38 = .ok (.goto 16, 3) := dc_167 (a0 := 0) (b0 := 16) (dc_nn (k := 38) aX12_agree_0 rfl) (by decide)
theorem dX12_agree_41 : decode cX12_agree 41 = .ok (.aload_n 0, 1) := dc_42 aX12_agree_41
theorem dX12_agree_42 : decode cX12_agree 42 = .ok (.bipush 20, 2) := dc_16 (a0 := 20) (dc_nn (k := 1) aX12_agree_41 rfl) (by decide)
theorem dX12_agree_44 : decode cX12_agree 44 = .ok (.iload_n 1, 1) := dc_27 (dc_nn (k := 3) aX12_agree_41 rfl)
theorem dX12_agree_45 : decode cX12_agree 45 = .ok (.imul, 1) := dc_104 (dc_nn (k := 4) aX12_agree_41 rfl)
theorem dX12_agree_46 : decode cX12_agree 46 = .ok (.iload_n 2, 1) := dc_28 (dc_nn (k := 5) aX12_agree_41 rfl)
theorem dX12_agree_47 : decode cX12_agree 47 = .ok (.iadd, 1) := dc_96 (dc_nn (k := 6) aX12_agree_41 rfl)
theorem dX12_agree_48 : decode cX12_agree 48 = .ok (.iload_n 3, 1) := dc_29 (dc_nn (k := 7) aX12_agree_41 rfl)
theorem dX12_agree_49 : decode cX12_agree 49 = .ok (.iload 4, 2) := dc_21 (a0 := 4) (dc_nn (k := 8) aX12_agree_41 rfl)
theorem dX12_agree_51 : decode cX12_agree 51 = .ok (.invokevirtual 329, 3) := dc_182 (a0 := 1) (b0 := 73) (dc_nn (k := 10) aX12_agree_41 rfl)
theorem dX12_agree_54 : decode cX12_agree 54 = .ok (.ireturn, 1) := dc_172 (dc_nn (k := 13) aX12_agree_41 rfl)
set_option maxRecDepth 20000 in
theorem ggX12_possible_X12_isWheel : GoodIn wsX12_possible wsX12_isWheel := goodIn_k _ [[6, 0, 0, 0, 0], [5, 5, 40, 0, 0, 0, 0, 0, 0, 0, 0, 0, 0, 0, 0, 0, 0, 0, 0, 0, 0, 0, 0, 0, 0, 0, 0, 0, 0, 0, 0, 0, 0, 0, 0, 0, 0, 0, 0, 0, 0, 0, 0, 0, 0, 0, 0, 0, 0, 0, 0, 0, 0, 0, 0, 0, 0, 0, 0, 0]] (by rfl) (by decide +kernel)
set_option maxRecDepth 20000 in
theorem gX12_possible_X12_isWheel : GoodIn wsX12_possible (wsV RX12 247 RX12 yX12_isWheel wsX12_isWheel) := goodIn_app (goodIn_k _ [[2, 0, 0, 0]] (by rfl) (gw_V _ _ _ _)) ggX12_possible_X12_isWheel
set_option maxRecDepth 20000 in
theorem ggX12_possible_X12_right : GoodIn wsX12_possible wsX12_right := goodIn_k _ [[11], [7, 44, 0, 0, 0, 0, 0, 0, 0, 0, 0, 0, 0, 0, 0, 0, 0, 0, 0, 0, 0, 0, 0, 0, 0, 0, 0, 0, 0, 0, 0, 0, 0, 0, 0, 0, 0, 0, 0, 0, 0, 0, 0, 0, 0, 0, 0, 0, 0, 0, 0, 0, 0, 0, 0, 0, 0, 0, 0]] (by rfl) (by decide +kernel)
set_option maxRecDepth 20000 in
theorem gX12_possible_X12_right : GoodIn wsX12_possible (wsV RX12 209 RX12 yX12_right wsX12_right) := goodIn_app (goodIn_k _ [[8, 0, 0], [5]] (by rfl) (gw_V _ _ _ _)) ggX12_possible_X12_right
set_option maxRecDepth 20000 in
theorem ggX12_possible_X12_at : GoodIn wsX12_possible wsX12_at := goodIn_k _ [[15, 0, 35, 0, 0, 0, 0, 0, 0, 0, 0, 0, 0, 0, 0, 0, 0, 0, 0, 0, 0, 0, 0, 0, 0, 0, 0, 0, 0, 0, 0, 0, 0, 0, 0, 0, 0, 0, 0, 0, 0, 0, 0, 0, 0, 0, 0, 0, 0, 0, 0, 0, 0, 0, 0, 0, 0, 0, 0, 0]] (by rfl) (by decide +kernel)
set_option maxRecDepth 20000 in
theorem gX12_possible_X12_at : GoodIn wsX12_possible (wsV RX12 254 RX12 yX12_at wsX12_at) := goodIn_app (goodIn_k _ [[12, 0, 0], [5]] (by rfl) (gw_V _ _ _ _)) ggX12_possible_X12_at
set_option maxRecDepth 20000 in
theorem ggX12_possible_X12_housesTold : GoodIn wsX12_possible wsX12_housesTold := goodIn_k _ [[20], [12, 0, 0], [5, 9, 0, 35, 0, 0, 0, 0, 0, 0, 0, 0, 0, 0, 0, 0, 0, 0, 0, 0, 0, 0, 0, 0, 0, 0, 0, 0, 0, 0, 0, 0, 0, 0, 0, 0, 0, 0, 0, 0, 0, 0, 0, 0, 0, 0, 0, 0, 0, 0, 0, 0, 0, 0, 0, 0, 0, 0, 0, 0, 0]] (by rfl) (by decide +kernel)
set_option maxRecDepth 20000 in
theorem gX12_possible_X12_housesTold : GoodIn wsX12_possible (wsV RX12 332 RX12 yX12_housesTold wsX12_housesTold) := goodIn_app (goodIn_k _ [[17, 0, 0], [5]] (by rfl) (gw_V _ _ _ _)) ggX12_possible_X12_housesTold
set_option maxRecDepth 20000 in
theorem ggX12_possible_X12_agrees : GoodIn wsX12_possible wsX12_agrees := goodIn_k _ [[24], [12, 0, 0], [5, 9, 0, 8, 0, 0, 0, 0, 0, 0, 0, 0, 0, 0, 0, 0, 0, 0, 0, 0, 0, 0, 8, 0, 0, 0, 0, 0, 0, 0, 0, 0, 0, 0, 0, 0, 0, 0, 0, 0, 0, 0, 0, 0, 0, 0, 0, 0, 0, 0, 0, 0, 0, 0, 0, 0, 0, 0, 0, 0, 0, 0, 0, 0, 0, 0, 0, 0, 0, 0, 0, 0, 0, 0, 0, 0, 0, 0, 0, 0]] (by rfl) (by decide +kernel)
set_option maxRecDepth 20000 in
theorem gX12_possible_X12_agrees : GoodIn wsX12_possible (wsV RX12 329 RX12 yX12_agrees wsX12_agrees) := goodIn_app (goodIn_k _ [[21, 0, 0], [5]] (by rfl) (gw_V _ _ _ _)) ggX12_possible_X12_agrees
set_option maxRecDepth 20000 in
theorem ggX12_possible_X12_isHour : GoodIn wsX12_possible wsX12_isHour := goodIn_k _ [[47], [12, 0, 0], [5, 9, 0, 31, 0, 0, 0], [33, 1, 0, 0, 0, 0, 0, 0, 0, 0, 8, 0, 0, 0, 0, 0, 0, 0, 0, 0, 0, 0, 0, 0, 0, 0, 0, 0, 0, 0, 0, 0, 0, 0, 0, 0, 0, 0, 0, 0, 0, 0, 0, 0, 0, 0, 0, 0, 0, 0, 0, 0, 0, 0, 0, 0, 0, 0, 0, 0, 0, 0, 0, 0, 0, 0, 0, 0]] (by rfl) (by decide +kernel)
set_option maxRecDepth 20000 in
theorem gX12_possible_X12_isHour : GoodIn wsX12_possible (wsV RX12 320 RX12 yX12_isHour wsX12_isHour) := goodIn_app (goodIn_k _ [[44, 0, 0], [5]] (by rfl) (gw_V _ _ _ _)) ggX12_possible_X12_isHour
noncomputable def sX12_possible_205 : List Nat := 167 :: 255 :: 215 :: 21 :: 9 :: 153 :: 0 :: 12 :: 21 :: 7 :: 4 :: 21 :: 8 :: 120 :: 128 :: 54 :: 7 :: 132 :: 8 :: 1 :: 167 :: 255 :: 157 :: 29 :: 154 :: 0 :: 8 :: 21 :: 6 :: 167 :: 0 :: 5 :: 21 :: 7 :: 172 :: []
noncomputable def sX12_possible_164 : List Nat := 21 :: 10 :: 17 :: 1 :: 104 :: 162 :: 0 :: 39 :: 29 :: 4 :: 160 :: 0 :: 34 :: 21 :: 9 :: 154 :: 0 :: 16 :: 42 :: 21 :: 4 :: 21 :: 8 :: 21 :: 10 :: 182 :: 1 :: 64 :: 153 :: 0 :: 7 :: 4 :: 167 :: 0 :: 4 :: 3 :: 54 :: 9 :: 132 :: 10 :: 1 :: sX12_possible_205
noncomputable def sX12_possible_123 : List Nat := 3 :: 54 :: 8 :: 21 :: 8 :: 42 :: 180 :: 0 :: 228 :: 162 :: 0 :: 96 :: 42 :: 21 :: 4 :: 5 :: 21 :: 8 :: 182 :: 1 :: 73 :: 21 :: 5 :: 159 :: 0 :: 6 :: 167 :: 0 :: 73 :: 21 :: 6 :: 7 :: 128 :: 54 :: 6 :: 3 :: 54 :: 9 :: 3 :: 54 :: 10 :: sX12_possible_164
noncomputable def sX12_possible_82 : List Nat := 3 :: 54 :: 7 :: 3 :: 54 :: 8 :: 21 :: 8 :: 5 :: 162 :: 0 :: 32 :: 42 :: 21 :: 4 :: 21 :: 8 :: 3 :: 182 :: 1 :: 73 :: 21 :: 5 :: 160 :: 0 :: 12 :: 21 :: 6 :: 4 :: 21 :: 8 :: 120 :: 128 :: 54 :: 6 :: 132 :: 8 :: 1 :: 167 :: 255 :: 224 :: sX12_possible_123
noncomputable def sX12_possible_41 : List Nat := 42 :: 21 :: 4 :: 16 :: 7 :: 182 :: 0 :: 254 :: 2 :: 159 :: 0 :: 19 :: 29 :: 4 :: 160 :: 0 :: 16 :: 42 :: 21 :: 4 :: 3 :: 182 :: 0 :: 254 :: 2 :: 160 :: 0 :: 5 :: 2 :: 172 :: 42 :: 21 :: 4 :: 182 :: 1 :: 76 :: 54 :: 5 :: 3 :: 54 :: 6 :: sX12_possible_82
noncomputable def sX12_possible_0 : List Nat := 42 :: 27 :: 28 :: 182 :: 0 :: 247 :: 153 :: 0 :: 25 :: 42 :: 29 :: 153 :: 0 :: 8 :: 29 :: 4 :: 160 :: 0 :: 7 :: 4 :: 167 :: 0 :: 4 :: 3 :: 4 :: 182 :: 0 :: 209 :: 154 :: 0 :: 5 :: 3 :: 172 :: 16 :: 20 :: 27 :: 104 :: 28 :: 96 :: 54 :: 4 :: sX12_possible_41
theorem aX12_possible_0 : dc_at cX12_possible 0 sX12_possible_0 := dc_base (by decide +kernel)
theorem aX12_possible_41 : dc_at cX12_possible 41 sX12_possible_41 := dc_nn (k := 41) aX12_possible_0 rfl
theorem aX12_possible_82 : dc_at cX12_possible 82 sX12_possible_82 := dc_nn (k := 41) aX12_possible_41 rfl
theorem aX12_possible_123 : dc_at cX12_possible 123 sX12_possible_123 := dc_nn (k := 41) aX12_possible_82 rfl
theorem aX12_possible_164 : dc_at cX12_possible 164 sX12_possible_164 := dc_nn (k := 41) aX12_possible_123 rfl
theorem aX12_possible_205 : dc_at cX12_possible 205 sX12_possible_205 := dc_nn (k := 41) aX12_possible_164 rfl
theorem dX12_possible_0 : decode cX12_possible 0 = .ok (.aload_n 0, 1) := dc_42 aX12_possible_0
theorem dX12_possible_1 : decode cX12_possible 1 = .ok (.iload_n 1, 1) := dc_27 (dc_nn (k := 1) aX12_possible_0 rfl)
theorem dX12_possible_2 : decode cX12_possible 2 = .ok (.iload_n 2, 1) := dc_28 (dc_nn (k := 2) aX12_possible_0 rfl)
theorem dX12_possible_3 : decode cX12_possible 3 = .ok (.invokevirtual 247, 3) := dc_182 (a0 := 0) (b0 := 247) (dc_nn (k := 3) aX12_possible_0 rfl)
theorem dX12_possible_6 : decode cX12_possible 6 = .ok (.ifCond .eq 25, 3) := dc_153 (a0 := 0) (b0 := 25) (dc_nn (k := 6) aX12_possible_0 rfl) (by decide)
theorem dX12_possible_9 : decode cX12_possible 9 = .ok (.aload_n 0, 1) := dc_42 (dc_nn (k := 9) aX12_possible_0 rfl)
theorem dX12_possible_10 : decode cX12_possible 10 = .ok (.iload_n 3, 1) := dc_29 (dc_nn (k := 10) aX12_possible_0 rfl)
theorem dX12_possible_11 : decode cX12_possible 11 = .ok (.ifCond .eq 8, 3) := dc_153 (a0 := 0) (b0 := 8) (dc_nn (k := 11) aX12_possible_0 rfl) (by decide)
theorem dX12_possible_14 : decode cX12_possible 14 = .ok (.iload_n 3, 1) := dc_29 (dc_nn (k := 14) aX12_possible_0 rfl)
theorem dX12_possible_15 : decode cX12_possible 15 = .ok (.iconst 1, 1) := dc_4 (dc_nn (k := 15) aX12_possible_0 rfl)
theorem dX12_possible_16 : decode cX12_possible 16 = .ok (.if_icmp .ne 7, 3) := dc_160 (a0 := 0) (b0 := 7) (dc_nn (k := 16) aX12_possible_0 rfl) (by decide)
theorem dX12_possible_19 : decode cX12_possible 19 = .ok (.iconst 1, 1) := dc_4 (dc_nn (k := 19) aX12_possible_0 rfl)
theorem dX12_possible_20 : decode cX12_possible 20 = .ok (.goto 4, 3) := dc_167 (a0 := 0) (b0 := 4) (dc_nn (k := 20) aX12_possible_0 rfl) (by decide)
theorem dX12_possible_23 : decode cX12_possible 23 = .ok (.iconst 0, 1) := dc_3 (dc_nn (k := 23) aX12_possible_0 rfl)
theorem dX12_possible_24 : decode cX12_possible 24 = .ok (.iconst 1, 1) := dc_4 (dc_nn (k := 24) aX12_possible_0 rfl)
theorem dX12_possible_25 : decode cX12_possible 25 = .ok (.invokevirtual 209, 3) := dc_182 (a0 := 0) (b0 := 209) (dc_nn (k := 25) aX12_possible_0 rfl)
theorem dX12_possible_28 : decode cX12_possible 28 = .ok (.ifCond .ne 5, 3) := dc_154 (a0 := 0) (b0 := 5) (dc_nn (k := 28) aX12_possible_0 rfl) (by decide)
theorem dX12_possible_31 : decode cX12_possible 31 = .ok (.iconst 0, 1) := dc_3 (dc_nn (k := 31) aX12_possible_0 rfl)
theorem dX12_possible_32 : decode cX12_possible 32 = .ok (.ireturn, 1) := dc_172 (dc_nn (k := 32) aX12_possible_0 rfl)
theorem dX12_possible_33 : decode cX12_possible 33 = .ok (.bipush 20, 2) := dc_16 (a0 := 20) (dc_nn (k := 33) aX12_possible_0 rfl) (by decide)
theorem dX12_possible_35 : decode cX12_possible 35 = .ok (.iload_n 1, 1) := dc_27 (dc_nn (k := 35) aX12_possible_0 rfl)
theorem dX12_possible_36 : decode cX12_possible 36 = .ok (.imul, 1) := dc_104 (dc_nn (k := 36) aX12_possible_0 rfl)
theorem dX12_possible_37 : decode cX12_possible 37 = .ok (.iload_n 2, 1) := dc_28 (dc_nn (k := 37) aX12_possible_0 rfl)
theorem dX12_possible_38 : decode cX12_possible 38 = .ok (.iadd, 1) := dc_96 (dc_nn (k := 38) aX12_possible_0 rfl)
theorem dX12_possible_39 : decode cX12_possible 39 = .ok (.istore 4, 2) := dc_54 (a0 := 4) (dc_nn (k := 39) aX12_possible_0 rfl)
theorem dX12_possible_41 : decode cX12_possible 41 = .ok (.aload_n 0, 1) := dc_42 aX12_possible_41
theorem dX12_possible_42 : decode cX12_possible 42 = .ok (.iload 4, 2) := dc_21 (a0 := 4) (dc_nn (k := 1) aX12_possible_41 rfl)
theorem dX12_possible_44 : decode cX12_possible 44 = .ok (.bipush 7, 2) := dc_16 (a0 := 7) (dc_nn (k := 3) aX12_possible_41 rfl) (by decide)
theorem dX12_possible_46 : decode cX12_possible 46 = .ok (.invokevirtual 254, 3) := dc_182 (a0 := 0) (b0 := 254) (dc_nn (k := 5) aX12_possible_41 rfl)
theorem dX12_possible_49 : decode cX12_possible 49 = .ok (.iconst (-1), 1) := dc_2 (dc_nn (k := 8) aX12_possible_41 rfl)
theorem dX12_possible_50 : decode cX12_possible 50 = .ok (.if_icmp .eq 19, 3) := dc_159 (a0 := 0) (b0 := 19) (dc_nn (k := 9) aX12_possible_41 rfl) (by decide)
theorem dX12_possible_53 : decode cX12_possible 53 = .ok (.iload_n 3, 1) := dc_29 (dc_nn (k := 12) aX12_possible_41 rfl)
theorem dX12_possible_54 : decode cX12_possible 54 = .ok (.iconst 1, 1) := dc_4 (dc_nn (k := 13) aX12_possible_41 rfl)
theorem dX12_possible_55 : decode cX12_possible 55 = .ok (.if_icmp .ne 16, 3) := dc_160 (a0 := 0) (b0 := 16) (dc_nn (k := 14) aX12_possible_41 rfl) (by decide)
theorem dX12_possible_58 : decode cX12_possible 58 = .ok (.aload_n 0, 1) := dc_42 (dc_nn (k := 17) aX12_possible_41 rfl)
theorem dX12_possible_59 : decode cX12_possible 59 = .ok (.iload 4, 2) := dc_21 (a0 := 4) (dc_nn (k := 18) aX12_possible_41 rfl)
theorem dX12_possible_61 : decode cX12_possible 61 = .ok (.iconst 0, 1) := dc_3 (dc_nn (k := 20) aX12_possible_41 rfl)
theorem dX12_possible_62 : decode cX12_possible 62 = .ok (.invokevirtual 254, 3) := dc_182 (a0 := 0) (b0 := 254) (dc_nn (k := 21) aX12_possible_41 rfl)
theorem dX12_possible_65 : decode cX12_possible 65 = .ok (.iconst (-1), 1) := dc_2 (dc_nn (k := 24) aX12_possible_41 rfl)
theorem dX12_possible_66 : decode cX12_possible 66 = .ok (.if_icmp .ne 5, 3) := dc_160 (a0 := 0) (b0 := 5) (dc_nn (k := 25) aX12_possible_41 rfl) (by decide)
theorem dX12_possible_69 : decode cX12_possible 69 = .ok (.iconst (-1), 1) := dc_2 (dc_nn (k := 28) aX12_possible_41 rfl)
theorem dX12_possible_70 : decode cX12_possible 70 = .ok (.ireturn, 1) := dc_172 (dc_nn (k := 29) aX12_possible_41 rfl)
theorem dX12_possible_71 : decode cX12_possible 71 = .ok (.aload_n 0, 1) := dc_42 (dc_nn (k := 30) aX12_possible_41 rfl)
theorem dX12_possible_72 : decode cX12_possible 72 = .ok (.iload 4, 2) := dc_21 (a0 := 4) (dc_nn (k := 31) aX12_possible_41 rfl)
theorem dX12_possible_74 : decode cX12_possible 74 = .ok (.invokevirtual 332, 3) := dc_182 (a0 := 1) (b0 := 76) (dc_nn (k := 33) aX12_possible_41 rfl)
theorem dX12_possible_77 : decode cX12_possible 77 = .ok (.istore 5, 2) := dc_54 (a0 := 5) (dc_nn (k := 36) aX12_possible_41 rfl)
theorem dX12_possible_79 : decode cX12_possible 79 = .ok (.iconst 0, 1) := dc_3 (dc_nn (k := 38) aX12_possible_41 rfl)
theorem dX12_possible_80 : decode cX12_possible 80 = .ok (.istore 6, 2) := dc_54 (a0 := 6) (dc_nn (k := 39) aX12_possible_41 rfl)
theorem dX12_possible_82 : decode cX12_possible 82 = .ok (.iconst 0, 1) := dc_3 aX12_possible_82
theorem dX12_possible_83 : decode cX12_possible 83 = .ok (.istore 7, 2) := dc_54 (a0 := 7) (dc_nn (k := 1) aX12_possible_82 rfl)
theorem dX12_possible_85 : decode cX12_possible 85 = .ok (.iconst 0, 1) := dc_3 (dc_nn (k := 3) aX12_possible_82 rfl)
theorem dX12_possible_86 : decode cX12_possible 86 = .ok (.istore 8, 2) := dc_54 (a0 := 8) (dc_nn (k := 4) aX12_possible_82 rfl)
theorem dX12_possible_88 : decode cX12_possible 88 = .ok (.iload 8, 2) := dc_21 (a0 := 8) (dc_nn (k := 6) aX12_possible_82 rfl)
theorem dX12_possible_90 : decode cX12_possible 90 = .ok (.iconst 2, 1) := dc_5 (dc_nn (k := 8) aX12_possible_82 rfl)
theorem dX12_possible_91 : decode cX12_possible 91 = .ok (.if_icmp .ge 32, 3) := dc_162 (a0 := 0) (b0 := 32) (dc_nn (k := 9) aX12_possible_82 rfl) (by decide)
theorem dX12_possible_94 : decode cX12_possible 94 = .ok (.aload_n 0, 1) := dc_42 (dc_nn (k := 12) aX12_possible_82 rfl)
theorem dX12_possible_95 : decode cX12_possible 95 = .ok (.iload 4, 2) := dc_21 (a0 := 4) (dc_nn (k := 13) aX12_possible_82 rfl)
theorem dX12_possible_97 : decode cX12_possible 97 = .ok (.iload 8, 2) := dc_21 (a0 := 8) (dc_nn (k := 15) aX12_possible_82 rfl)
theorem dX12_possible_99 : decode cX12_possible 99 = .ok (.iconst 0, 1) := dc_3 (dc_nn (k := 17) aX12_possible_82 rfl)
theorem dX12_possible_100 : decode cX12_possible 100 = .ok (.invokevirtual 329, 3) := dc_182 (a0 := 1) (b0 := 73) (dc_nn (k := 18) aX12_possible_82 rfl)
theorem dX12_possible_103 : decode cX12_possible 103 = .ok (.iload 5, 2) := dc_21 (a0 := 5) (dc_nn (k := 21) aX12_possible_82 rfl)
theorem dX12_possible_105 : decode cX12_possible 105 = .ok (.if_icmp .ne 12, 3) := dc_160 (a0 := 0) (b0 := 12) (dc_nn (k := 23) aX12_possible_82 rfl) (by decide)
theorem dX12_possible_108 : decode cX12_possible 108 = .ok (.iload 6, 2) := dc_21 (a0 := 6) (dc_nn (k := 26) aX12_possible_82 rfl)
theorem dX12_possible_110 : decode cX12_possible 110 = .ok (.iconst 1, 1) := dc_4 (dc_nn (k := 28) aX12_possible_82 rfl)
theorem dX12_possible_111 : decode cX12_possible 111 = .ok (.iload 8, 2) := dc_21 (a0 := 8) (dc_nn (k := 29) aX12_possible_82 rfl)
theorem dX12_possible_113 : decode cX12_possible 113 = .ok (.ishl, 1) := dc_120 (dc_nn (k := 31) aX12_possible_82 rfl)
theorem dX12_possible_114 : decode cX12_possible 114 = .ok (.ior, 1) := dc_128 (dc_nn (k := 32) aX12_possible_82 rfl)
theorem dX12_possible_115 : decode cX12_possible 115 = .ok (.istore 6, 2) := dc_54 (a0 := 6) (dc_nn (k := 33) aX12_possible_82 rfl)
theorem dX12_possible_117 : decode cX12_possible 117 = .ok (.iinc 8 1, 3) := dc_132 (a0 := 8) (a1 := 1) (dc_nn (k := 35) aX12_possible_82 rfl) (by decide)
theorem dX12_possible_120 : decode cX12_possible 120 = .ok (.goto (-32), 3) := dc_167 (a0 := 255) (b0 := 224) (dc_nn (k := 38) aX12_possible_82 rfl) (by decide)
theorem dX12_possible_123 : decode cX12_possible 123 = .ok (.iconst 0, 1) := dc_3 aX12_possible_123
theorem dX12_possible_124 : decode cX12_possible 124 = .ok (.istore 8, 2) := dc_54 (a0 := 8) (dc_nn (k := 1) aX12_possible_123 rfl)
theorem dX12_possible_126 : decode cX12_possible 126 = .ok (.iload 8, 2) := dc_21 (a0 := 8) (dc_nn (k := 3) aX12_possible_123 rfl)
theorem dX12_possible_128 : decode cX12_possible 128 = .ok (.aload_n 0, 1) := dc_42 (dc_nn (k := 5) aX12_possible_123 rfl)
theorem dX12_possible_129 : decode cX12_possible 129 = .ok (.getfield 228, 3) := dc_180 (a0 := 0) (b0 := 228) (dc_nn (k := 6) aX12_possible_123 rfl)
theorem dX12_possible_132 : decode cX12_possible 132 = .ok (.if_icmp .ge 96, 3) := dc_162 (a0 := 0) (b0 := 96) (dc_nn (k := 9) aX12_possible_123 rfl) (by decide)
theorem dX12_possible_135 : decode cX12_possible 135 = .ok (.aload_n 0, 1) := dc_42 (dc_nn (k := 12) aX12_possible_123 rfl)
theorem dX12_possible_136 : decode cX12_possible 136 = .ok (.iload 4, 2) := dc_21 (a0 := 4) (dc_nn (k := 13) aX12_possible_123 rfl)
theorem dX12_possible_138 : decode cX12_possible 138 = .ok (.iconst 2, 1) := dc_5 (dc_nn (k := 15) aX12_possible_123 rfl)
theorem dX12_possible_139 : decode cX12_possible 139 = .ok (.iload 8, 2) := dc_21 (a0 := 8) (dc_nn (k := 16) aX12_possible_123 rfl)
theorem dX12_possible_141 : decode cX12_possible 141 = .ok (.invokevirtual 329, 3) := dc_182 (a0 := 1) (b0 := 73) (dc_nn (k := 18) aX12_possible_123 rfl)
theorem dX12_possible_144 : decode cX12_possible 144 = .ok (.iload 5, 2) := dc_21 (a0 := 5) (dc_nn (k := 21) aX12_possible_123 rfl)
theorem dX12_possible_146 : decode cX12_possible 146 = .ok (.if_icmp .eq 6, 3) := dc_159 (a0 := 0) (b0 := 6) (dc_nn (k := 23) aX12_possible_123 rfl) (by decide)
theorem dX12_possible_149 : decode cX12_possible 149 = .ok (.goto 73, 3) := dc_167 (a0 := 0) (b0 := 73) (dc_nn (k := 26) aX12_possible_123 rfl) (by decide)
theorem dX12_possible_152 : decode cX12_possible 152 = .ok (.iload 6, 2) := dc_21 (a0 := 6) (dc_nn (k := 29) aX12_possible_123 rfl)
theorem dX12_possible_154 : decode cX12_possible 154 = .ok (.iconst 4, 1) := dc_7 (dc_nn (k := 31) aX12_possible_123 rfl)
theorem dX12_possible_155 : decode cX12_possible 155 = .ok (.ior, 1) := dc_128 (dc_nn (k := 32) aX12_possible_123 rfl)
theorem dX12_possible_156 : decode cX12_possible 156 = .ok (.istore 6, 2) := dc_54 (a0 := 6) (dc_nn (k := 33) aX12_possible_123 rfl)
theorem dX12_possible_158 : decode cX12_possible 158 = .ok (.iconst 0, 1) := dc_3 (dc_nn (k := 35) aX12_possible_123 rfl)
theorem dX12_possible_159 : decode cX12_possible 159 = .ok (.istore 9, 2) := dc_54 (a0 := 9) (dc_nn (k := 36) aX12_possible_123 rfl)
theorem dX12_possible_161 : decode cX12_possible 161 = .ok (.iconst 0, 1) := dc_3 (dc_nn (k := 38) aX12_possible_123 rfl)
theorem dX12_possible_162 : decode cX12_possible 162 = .ok (.istore 10, 2) := dc_54 (a0 := 10) (dc_nn (k := 39) aX12_possible_123 rfl)
theorem dX12_possible_164 : decode cX12_possible 164 = .ok (.iload 10, 2) := dc_21 (a0 := 10) aX12_possible_164
theorem dX12_possible_166 : decode cX12_possible 166 = .ok (.sipush 360, 3) := dc_17 (a0 := 1) (b0 := 104) (dc_nn (k := 2) aX12_possible_164 rfl) (by decide)
theorem dX12_possible_169 : decode cX12_possible 169 = .ok (.if_icmp .ge 39, 3) := dc_162 (a0 := 0) (b0 := 39) (dc_nn (k := 5) aX12_possible_164 rfl) (by decide)
theorem dX12_possible_172 : decode cX12_possible 172 = .ok (.iload_n 3, 1) := dc_29 (dc_nn (k := 8) aX12_possible_164 rfl)
theorem dX12_possible_173 : decode cX12_possible 173 = .ok (.iconst 1, 1) := dc_4 (dc_nn (k := 9) aX12_possible_164 rfl)
theorem dX12_possible_174 : decode cX12_possible 174 = .ok (.if_icmp .ne 34, 3) := dc_160 (a0 := 0) (b0 := 34) (dc_nn (k := 10) aX12_possible_164 rfl) (by decide)
theorem dX12_possible_177 : decode cX12_possible 177 = .ok (.iload 9, 2) := dc_21 (a0 := 9) (dc_nn (k := 13) aX12_possible_164 rfl)
theorem dX12_possible_179 : decode cX12_possible 179 = .ok (.ifCond .ne 16, 3) := dc_154 (a0 := 0) (b0 := 16) (dc_nn (k := 15) aX12_possible_164 rfl) (by decide)
theorem dX12_possible_182 : decode cX12_possible 182 = .ok (.aload_n 0, 1) := dc_42 (dc_nn (k := 18) aX12_possible_164 rfl)
theorem dX12_possible_183 : decode cX12_possible 183 = .ok (.iload 4, 2) := dc_21 (a0 := 4) (dc_nn (k := 19) aX12_possible_164 rfl)
theorem dX12_possible_185 : decode cX12_possible 185 = .ok (.iload 8, 2) := dc_21 (a0 := 8) (dc_nn (k := 21) aX12_possible_164 rfl)
theorem dX12_possible_187 : decode cX12_possible 187 = .ok (.iload 10, 2) := dc_21 (a0 := 10) (dc_nn (k := 23) aX12_possible_164 rfl)
theorem dX12_possible_189 : decode cX12_possible 189 = .ok (.invokevirtual 320, 3) := dc_182 (a0 := 1) (b0 := 64) (dc_nn (k := 25) aX12_possible_164 rfl)
theorem dX12_possible_192 : decode cX12_possible 192 = .ok (.ifCond .eq 7, 3) := dc_153 (a0 := 0) (b0 := 7) (dc_nn (k := 28) aX12_possible_164 rfl) (by decide)
theorem dX12_possible_195 : decode cX12_possible 195 = .ok (.iconst 1, 1) := dc_4 (dc_nn (k := 31) aX12_possible_164 rfl)
theorem dX12_possible_196 : decode cX12_possible 196 = .ok (.goto 4, 3) := dc_167 (a0 := 0) (b0 := 4) (dc_nn (k := 32) aX12_possible_164 rfl) (by decide)
theorem dX12_possible_199 : decode cX12_possible 199 = .ok (.iconst 0, 1) := dc_3 (dc_nn (k := 35) aX12_possible_164 rfl)
theorem dX12_possible_200 : decode cX12_possible 200 = .ok (.istore 9, 2) := dc_54 (a0 := 9) (dc_nn (k := 36) aX12_possible_164 rfl)
theorem dX12_possible_202 : decode cX12_possible 202 = .ok (.iinc 10 1, 3) := dc_132 (a0 := 10) (a1 := 1) (dc_nn (k := 38) aX12_possible_164 rfl) (by decide)
theorem dX12_possible_205 : decode cX12_possible 205 = .ok (.goto (-41), 3) := dc_167 (a0 := 255) (b0 := 215) aX12_possible_205 (by decide)
theorem dX12_possible_208 : decode cX12_possible 208 = .ok (.iload 9, 2) := dc_21 (a0 := 9) (dc_nn (k := 3) aX12_possible_205 rfl)
theorem dX12_possible_210 : decode cX12_possible 210 = .ok (.ifCond .eq 12, 3) := dc_153 (a0 := 0) (b0 := 12) (dc_nn (k := 5) aX12_possible_205 rfl) (by decide)
theorem dX12_possible_213 : decode cX12_possible 213 = .ok (.iload 7, 2) := dc_21 (a0 := 7) (dc_nn (k := 8) aX12_possible_205 rfl)
theorem dX12_possible_215 : decode cX12_possible 215 = .ok (.iconst 1, 1) := dc_4 (dc_nn (k := 10) aX12_possible_205 rfl)
theorem dX12_possible_216 : decode cX12_possible 216 = .ok (.iload 8, 2) := dc_21 (a0 := 8) (dc_nn (k := 11) aX12_possible_205 rfl)
theorem dX12_possible_218 : decode cX12_possible 218 = .ok (.ishl, 1) := dc_120 (dc_nn (k := 13) aX12_possible_205 rfl)
theorem dX12_possible_219 : decode cX12_possible 219 = .ok (.ior, 1) := dc_128 (dc_nn (k := 14) aX12_possible_205 rfl)
theorem dX12_possible_220 : decode cX12_possible 220 = .ok (.istore 7, 2) := dc_54 (a0 := 7) (dc_nn (k := 15) aX12_possible_205 rfl)
theorem dX12_possible_222 : decode cX12_possible 222 = .ok (.iinc 8 1, 3) := dc_132 (a0 := 8) (a1 := 1) (dc_nn (k := 17) aX12_possible_205 rfl) (by decide)
theorem dX12_possible_225 : decode cX12_possible 225 = .ok (.goto (-99), 3) := dc_167 (a0 := 255) (b0 := 157) (dc_nn (k := 20) aX12_possible_205 rfl) (by decide)
theorem dX12_possible_228 : decode cX12_possible 228 = .ok (.iload_n 3, 1) := dc_29 (dc_nn (k := 23) aX12_possible_205 rfl)
theorem dX12_possible_229 : decode cX12_possible 229 = .ok (.ifCond .ne 8, 3) := dc_154 (a0 := 0) (b0 := 8) (dc_nn (k := 24) aX12_possible_205 rfl) (by decide)
theorem dX12_possible_232 : decode cX12_possible 232 = .ok (.iload 6, 2) := dc_21 (a0 := 6) (dc_nn (k := 27) aX12_possible_205 rfl)
theorem dX12_possible_234 : decode cX12_possible 234 = .ok (.goto 5, 3) := dc_167 (a0 := 0) (b0 := 5) (dc_nn (k := 29) aX12_possible_205 rfl) (by decide)
theorem dX12_possible_237 : decode cX12_possible 237 = .ok (.iload 7, 2) := dc_21 (a0 := 7) (dc_nn (k := 32) aX12_possible_205 rfl)
theorem dX12_possible_239 : decode cX12_possible 239 = .ok (.ireturn, 1) := dc_172 (dc_nn (k := 34) aX12_possible_205 rfl)
set_option maxRecDepth 20000 in
theorem ggX12_lot_X12_isWheel : GoodIn wsX12_lot wsX12_isWheel := goodIn_k _ [[5, 0, 0, 0, 0], [4, 5, 20, 0, 0, 0, 0, 0, 0, 0, 0, 0, 0, 0, 0, 0, 0, 0, 0, 0, 0, 0, 0, 0, 0, 0, 0, 0, 0, 0, 0, 0, 0, 0, 0, 0, 0, 0, 0, 0, 0, 0, 0, 0, 0, 0, 0, 0, 0, 0, 0, 0, 0, 0, 0, 0, 0, 0, 0, 0]] (by rfl) (by decide +kernel)
set_option maxRecDepth 20000 in
theorem gX12_lot_X12_isWheel : GoodIn wsX12_lot (wsV RX12 247 RX12 yX12_isWheel wsX12_isWheel) := goodIn_app (goodIn_k _ [[1, 0, 0, 0]] (by rfl) (gw_V _ _ _ _)) ggX12_lot_X12_isWheel
set_option maxRecDepth 20000 in
theorem ggX12_lot_X12_right : GoodIn wsX12_lot wsX12_right := goodIn_k _ [[10], [6, 24, 0, 0, 0, 0, 0, 0, 0, 0, 0, 0, 0, 0, 0, 0, 0, 0, 0, 0, 0, 0, 0, 0, 0, 0, 0, 0, 0, 0, 0, 0, 0, 0, 0, 0, 0, 0, 0, 0, 0, 0, 0, 0, 0, 0, 0, 0, 0, 0, 0, 0, 0, 0, 0, 0, 0, 0, 0]] (by rfl) (by decide +kernel)
set_option maxRecDepth 20000 in
theorem gX12_lot_X12_right : GoodIn wsX12_lot (wsV RX12 209 RX12 yX12_right wsX12_right) := goodIn_app (goodIn_k _ [[7, 0, 0], [4]] (by rfl) (gw_V _ _ _ _)) ggX12_lot_X12_right
set_option maxRecDepth 20000 in
theorem ggX12_lot_X12_at : GoodIn wsX12_lot wsX12_at := goodIn_k _ [[14, 0, 15, 0, 0, 0, 0, 0, 0, 0, 0, 0, 0, 0, 0, 0, 0, 0, 0, 0, 0, 0, 0, 0, 0, 0, 0, 0, 0, 0, 0, 0, 0, 0, 0, 0, 0, 0, 0, 0, 0, 0, 0, 0, 0, 0, 0, 0, 0, 0, 0, 0, 0, 0, 0, 0, 0, 0, 0, 0]] (by rfl) (by decide +kernel)
set_option maxRecDepth 20000 in
theorem gX12_lot_X12_at : GoodIn wsX12_lot (wsV RX12 254 RX12 yX12_at wsX12_at) := goodIn_app (goodIn_k _ [[11, 0, 0], [4]] (by rfl) (gw_V _ _ _ _)) ggX12_lot_X12_at
set_option maxRecDepth 20000 in
theorem ggX12_lot_X12_costOf : GoodIn wsX12_lot wsX12_costOf := goodIn_k _ [[19, 0, 0, 0], [4, 18, 0, 0, 0, 0, 0, 0, 0, 0, 0, 0, 0, 0, 0, 0, 0, 0, 0, 0, 0, 0, 0, 0, 0, 0, 0, 0, 0, 0, 0, 0, 0, 0, 0, 0, 0, 0, 0, 0, 0, 0, 0, 0, 0, 0, 0, 0, 0, 0, 0, 0, 0, 0, 0, 0, 0, 0, 0, 0, 0, 0, 0, 0, 0, 0, 0]] (by rfl) (by decide +kernel)
set_option maxRecDepth 20000 in
theorem gX12_lot_X12_costOf : GoodIn wsX12_lot (wsV RX12 283 RX12 yX12_costOf wsX12_costOf) := goodIn_app (goodIn_k _ [[16, 0, 0], [4]] (by rfl) (gw_V _ _ _ _)) ggX12_lot_X12_costOf
noncomputable def sX12_lot_161 : List Nat := 17 :: 1 :: 104 :: 112 :: 54 :: 9 :: 29 :: 154 :: 0 :: 8 :: 21 :: 9 :: 167 :: 0 :: 17 :: 42 :: 42 :: 21 :: 4 :: 16 :: 8 :: 182 :: 0 :: 254 :: 21 :: 9 :: 182 :: 1 :: 27 :: 172 :: []
noncomputable def sX12_lot_121 : List Nat := 21 :: 7 :: 21 :: 5 :: 100 :: 17 :: 1 :: 104 :: 96 :: 17 :: 1 :: 104 :: 112 :: 17 :: 0 :: 180 :: 162 :: 0 :: 15 :: 21 :: 7 :: 21 :: 8 :: 96 :: 17 :: 1 :: 104 :: 112 :: 167 :: 0 :: 16 :: 21 :: 7 :: 21 :: 8 :: 100 :: 17 :: 1 :: 104 :: 96 :: sX12_lot_161
noncomputable def sX12_lot_81 : List Nat := 21 :: 7 :: 2 :: 159 :: 0 :: 20 :: 29 :: 4 :: 160 :: 0 :: 17 :: 42 :: 21 :: 4 :: 16 :: 8 :: 182 :: 0 :: 254 :: 2 :: 160 :: 0 :: 5 :: 2 :: 172 :: 21 :: 6 :: 21 :: 5 :: 100 :: 17 :: 1 :: 104 :: 96 :: 17 :: 1 :: 104 :: 112 :: 54 :: 8 :: sX12_lot_121
noncomputable def sX12_lot_41 : List Nat := 42 :: 21 :: 4 :: 3 :: 182 :: 0 :: 254 :: 54 :: 5 :: 42 :: 21 :: 4 :: 4 :: 182 :: 0 :: 254 :: 54 :: 6 :: 42 :: 21 :: 4 :: 16 :: 7 :: 182 :: 0 :: 254 :: 54 :: 7 :: 21 :: 5 :: 2 :: 159 :: 0 :: 32 :: 21 :: 6 :: 2 :: 159 :: 0 :: 26 :: sX12_lot_81
noncomputable def sX12_lot_0 : List Nat := 42 :: 27 :: 28 :: 182 :: 0 :: 247 :: 153 :: 0 :: 25 :: 42 :: 29 :: 153 :: 0 :: 8 :: 29 :: 4 :: 160 :: 0 :: 7 :: 4 :: 167 :: 0 :: 4 :: 3 :: 4 :: 182 :: 0 :: 209 :: 154 :: 0 :: 5 :: 3 :: 172 :: 16 :: 20 :: 27 :: 104 :: 28 :: 96 :: 54 :: 4 :: sX12_lot_41
theorem aX12_lot_0 : dc_at cX12_lot 0 sX12_lot_0 := dc_base (by decide +kernel)
theorem aX12_lot_41 : dc_at cX12_lot 41 sX12_lot_41 := dc_nn (k := 41) aX12_lot_0 rfl
theorem aX12_lot_81 : dc_at cX12_lot 81 sX12_lot_81 := dc_nn (k := 40) aX12_lot_41 rfl
theorem aX12_lot_121 : dc_at cX12_lot 121 sX12_lot_121 := dc_nn (k := 40) aX12_lot_81 rfl
theorem aX12_lot_161 : dc_at cX12_lot 161 sX12_lot_161 := dc_nn (k := 40) aX12_lot_121 rfl
theorem dX12_lot_0 : decode cX12_lot 0 = .ok (.aload_n 0, 1) := dc_42 aX12_lot_0
theorem dX12_lot_1 : decode cX12_lot 1 = .ok (.iload_n 1, 1) := dc_27 (dc_nn (k := 1) aX12_lot_0 rfl)
theorem dX12_lot_2 : decode cX12_lot 2 = .ok (.iload_n 2, 1) := dc_28 (dc_nn (k := 2) aX12_lot_0 rfl)
theorem dX12_lot_3 : decode cX12_lot 3 = .ok (.invokevirtual 247, 3) := dc_182 (a0 := 0) (b0 := 247) (dc_nn (k := 3) aX12_lot_0 rfl)
theorem dX12_lot_6 : decode cX12_lot 6 = .ok (.ifCond .eq 25, 3) := dc_153 (a0 := 0) (b0 := 25) (dc_nn (k := 6) aX12_lot_0 rfl) (by decide)
theorem dX12_lot_9 : decode cX12_lot 9 = .ok (.aload_n 0, 1) := dc_42 (dc_nn (k := 9) aX12_lot_0 rfl)
theorem dX12_lot_10 : decode cX12_lot 10 = .ok (.iload_n 3, 1) := dc_29 (dc_nn (k := 10) aX12_lot_0 rfl)
theorem dX12_lot_11 : decode cX12_lot 11 = .ok (.ifCond .eq 8, 3) := dc_153 (a0 := 0) (b0 := 8) (dc_nn (k := 11) aX12_lot_0 rfl) (by decide)
theorem dX12_lot_14 : decode cX12_lot 14 = .ok (.iload_n 3, 1) := dc_29 (dc_nn (k := 14) aX12_lot_0 rfl)
theorem dX12_lot_15 : decode cX12_lot 15 = .ok (.iconst 1, 1) := dc_4 (dc_nn (k := 15) aX12_lot_0 rfl)
theorem dX12_lot_16 : decode cX12_lot 16 = .ok (.if_icmp .ne 7, 3) := dc_160 (a0 := 0) (b0 := 7) (dc_nn (k := 16) aX12_lot_0 rfl) (by decide)
theorem dX12_lot_19 : decode cX12_lot 19 = .ok (.iconst 1, 1) := dc_4 (dc_nn (k := 19) aX12_lot_0 rfl)
theorem dX12_lot_20 : decode cX12_lot 20 = .ok (.goto 4, 3) := dc_167 (a0 := 0) (b0 := 4) (dc_nn (k := 20) aX12_lot_0 rfl) (by decide)
theorem dX12_lot_23 : decode cX12_lot 23 = .ok (.iconst 0, 1) := dc_3 (dc_nn (k := 23) aX12_lot_0 rfl)
theorem dX12_lot_24 : decode cX12_lot 24 = .ok (.iconst 1, 1) := dc_4 (dc_nn (k := 24) aX12_lot_0 rfl)
theorem dX12_lot_25 : decode cX12_lot 25 = .ok (.invokevirtual 209, 3) := dc_182 (a0 := 0) (b0 := 209) (dc_nn (k := 25) aX12_lot_0 rfl)
theorem dX12_lot_28 : decode cX12_lot 28 = .ok (.ifCond .ne 5, 3) := dc_154 (a0 := 0) (b0 := 5) (dc_nn (k := 28) aX12_lot_0 rfl) (by decide)
theorem dX12_lot_31 : decode cX12_lot 31 = .ok (.iconst 0, 1) := dc_3 (dc_nn (k := 31) aX12_lot_0 rfl)
theorem dX12_lot_32 : decode cX12_lot 32 = .ok (.ireturn, 1) := dc_172 (dc_nn (k := 32) aX12_lot_0 rfl)
theorem dX12_lot_33 : decode cX12_lot 33 = .ok (.bipush 20, 2) := dc_16 (a0 := 20) (dc_nn (k := 33) aX12_lot_0 rfl) (by decide)
theorem dX12_lot_35 : decode cX12_lot 35 = .ok (.iload_n 1, 1) := dc_27 (dc_nn (k := 35) aX12_lot_0 rfl)
theorem dX12_lot_36 : decode cX12_lot 36 = .ok (.imul, 1) := dc_104 (dc_nn (k := 36) aX12_lot_0 rfl)
theorem dX12_lot_37 : decode cX12_lot 37 = .ok (.iload_n 2, 1) := dc_28 (dc_nn (k := 37) aX12_lot_0 rfl)
theorem dX12_lot_38 : decode cX12_lot 38 = .ok (.iadd, 1) := dc_96 (dc_nn (k := 38) aX12_lot_0 rfl)
theorem dX12_lot_39 : decode cX12_lot 39 = .ok (.istore 4, 2) := dc_54 (a0 := 4) (dc_nn (k := 39) aX12_lot_0 rfl)
theorem dX12_lot_41 : decode cX12_lot 41 = .ok (.aload_n 0, 1) := dc_42 aX12_lot_41
theorem dX12_lot_42 : decode cX12_lot 42 = .ok (.iload 4, 2) := dc_21 (a0 := 4) (dc_nn (k := 1) aX12_lot_41 rfl)
theorem dX12_lot_44 : decode cX12_lot 44 = .ok (.iconst 0, 1) := dc_3 (dc_nn (k := 3) aX12_lot_41 rfl)
theorem dX12_lot_45 : decode cX12_lot 45 = .ok (.invokevirtual 254, 3) := dc_182 (a0 := 0) (b0 := 254) (dc_nn (k := 4) aX12_lot_41 rfl)
theorem dX12_lot_48 : decode cX12_lot 48 = .ok (.istore 5, 2) := dc_54 (a0 := 5) (dc_nn (k := 7) aX12_lot_41 rfl)
theorem dX12_lot_50 : decode cX12_lot 50 = .ok (.aload_n 0, 1) := dc_42 (dc_nn (k := 9) aX12_lot_41 rfl)
theorem dX12_lot_51 : decode cX12_lot 51 = .ok (.iload 4, 2) := dc_21 (a0 := 4) (dc_nn (k := 10) aX12_lot_41 rfl)
theorem dX12_lot_53 : decode cX12_lot 53 = .ok (.iconst 1, 1) := dc_4 (dc_nn (k := 12) aX12_lot_41 rfl)
theorem dX12_lot_54 : decode cX12_lot 54 = .ok (.invokevirtual 254, 3) := dc_182 (a0 := 0) (b0 := 254) (dc_nn (k := 13) aX12_lot_41 rfl)
theorem dX12_lot_57 : decode cX12_lot 57 = .ok (.istore 6, 2) := dc_54 (a0 := 6) (dc_nn (k := 16) aX12_lot_41 rfl)
theorem dX12_lot_59 : decode cX12_lot 59 = .ok (.aload_n 0, 1) := dc_42 (dc_nn (k := 18) aX12_lot_41 rfl)
theorem dX12_lot_60 : decode cX12_lot 60 = .ok (.iload 4, 2) := dc_21 (a0 := 4) (dc_nn (k := 19) aX12_lot_41 rfl)
theorem dX12_lot_62 : decode cX12_lot 62 = .ok (.bipush 7, 2) := dc_16 (a0 := 7) (dc_nn (k := 21) aX12_lot_41 rfl) (by decide)
theorem dX12_lot_64 : decode cX12_lot 64 = .ok (.invokevirtual 254, 3) := dc_182 (a0 := 0) (b0 := 254) (dc_nn (k := 23) aX12_lot_41 rfl)
theorem dX12_lot_67 : decode cX12_lot 67 = .ok (.istore 7, 2) := dc_54 (a0 := 7) (dc_nn (k := 26) aX12_lot_41 rfl)
theorem dX12_lot_69 : decode cX12_lot 69 = .ok (.iload 5, 2) := dc_21 (a0 := 5) (dc_nn (k := 28) aX12_lot_41 rfl)
theorem dX12_lot_71 : decode cX12_lot 71 = .ok (.iconst (-1), 1) := dc_2 (dc_nn (k := 30) aX12_lot_41 rfl)
theorem dX12_lot_72 : decode cX12_lot 72 = .ok (.if_icmp .eq 32, 3) := dc_159 (a0 := 0) (b0 := 32) (dc_nn (k := 31) aX12_lot_41 rfl) (by decide)
theorem dX12_lot_75 : decode cX12_lot 75 = .ok (.iload 6, 2) := dc_21 (a0 := 6) (dc_nn (k := 34) aX12_lot_41 rfl)
theorem dX12_lot_77 : decode cX12_lot 77 = .ok (.iconst (-1), 1) := dc_2 (dc_nn (k := 36) aX12_lot_41 rfl)
theorem dX12_lot_78 : decode cX12_lot 78 = .ok (.if_icmp .eq 26, 3) := dc_159 (a0 := 0) (b0 := 26) (dc_nn (k := 37) aX12_lot_41 rfl) (by decide)
theorem dX12_lot_81 : decode cX12_lot 81 = .ok (.iload 7, 2) := dc_21 (a0 := 7) aX12_lot_81
theorem dX12_lot_83 : decode cX12_lot 83 = .ok (.iconst (-1), 1) := dc_2 (dc_nn (k := 2) aX12_lot_81 rfl)
theorem dX12_lot_84 : decode cX12_lot 84 = .ok (.if_icmp .eq 20, 3) := dc_159 (a0 := 0) (b0 := 20) (dc_nn (k := 3) aX12_lot_81 rfl) (by decide)
theorem dX12_lot_87 : decode cX12_lot 87 = .ok (.iload_n 3, 1) := dc_29 (dc_nn (k := 6) aX12_lot_81 rfl)
theorem dX12_lot_88 : decode cX12_lot 88 = .ok (.iconst 1, 1) := dc_4 (dc_nn (k := 7) aX12_lot_81 rfl)
theorem dX12_lot_89 : decode cX12_lot 89 = .ok (.if_icmp .ne 17, 3) := dc_160 (a0 := 0) (b0 := 17) (dc_nn (k := 8) aX12_lot_81 rfl) (by decide)
theorem dX12_lot_92 : decode cX12_lot 92 = .ok (.aload_n 0, 1) := dc_42 (dc_nn (k := 11) aX12_lot_81 rfl)
theorem dX12_lot_93 : decode cX12_lot 93 = .ok (.iload 4, 2) := dc_21 (a0 := 4) (dc_nn (k := 12) aX12_lot_81 rfl)
theorem dX12_lot_95 : decode cX12_lot 95 = .ok (.bipush 8, 2) := dc_16 (a0 := 8) (dc_nn (k := 14) aX12_lot_81 rfl) (by decide)
theorem dX12_lot_97 : decode cX12_lot 97 = .ok (.invokevirtual 254, 3) := dc_182 (a0 := 0) (b0 := 254) (dc_nn (k := 16) aX12_lot_81 rfl)
theorem dX12_lot_100 : decode cX12_lot 100 = .ok (.iconst (-1), 1) := dc_2 (dc_nn (k := 19) aX12_lot_81 rfl)
theorem dX12_lot_101 : decode cX12_lot 101 = .ok (.if_icmp .ne 5, 3) := dc_160 (a0 := 0) (b0 := 5) (dc_nn (k := 20) aX12_lot_81 rfl) (by decide)
theorem dX12_lot_104 : decode cX12_lot 104 = .ok (.iconst (-1), 1) := dc_2 (dc_nn (k := 23) aX12_lot_81 rfl)
theorem dX12_lot_105 : decode cX12_lot 105 = .ok (.ireturn, 1) := dc_172 (dc_nn (k := 24) aX12_lot_81 rfl)
theorem dX12_lot_106 : decode cX12_lot 106 = .ok (.iload 6, 2) := dc_21 (a0 := 6) (dc_nn (k := 25) aX12_lot_81 rfl)
theorem dX12_lot_108 : decode cX12_lot 108 = .ok (.iload 5, 2) := dc_21 (a0 := 5) (dc_nn (k := 27) aX12_lot_81 rfl)
theorem dX12_lot_110 : decode cX12_lot 110 = .ok (.isub, 1) := dc_100 (dc_nn (k := 29) aX12_lot_81 rfl)
theorem dX12_lot_111 : decode cX12_lot 111 = .ok (.sipush 360, 3) := dc_17 (a0 := 1) (b0 := 104) (dc_nn (k := 30) aX12_lot_81 rfl) (by decide)
theorem dX12_lot_114 : decode cX12_lot 114 = .ok (.iadd, 1) := dc_96 (dc_nn (k := 33) aX12_lot_81 rfl)
theorem dX12_lot_115 : decode cX12_lot 115 = .ok (.sipush 360, 3) := dc_17 (a0 := 1) (b0 := 104) (dc_nn (k := 34) aX12_lot_81 rfl) (by decide)
theorem dX12_lot_118 : decode cX12_lot 118 = .ok (.irem, 1) := dc_112 (dc_nn (k := 37) aX12_lot_81 rfl)
theorem dX12_lot_119 : decode cX12_lot 119 = .ok (.istore 8, 2) := dc_54 (a0 := 8) (dc_nn (k := 38) aX12_lot_81 rfl)
theorem dX12_lot_121 : decode cX12_lot 121 = .ok (.iload 7, 2) := dc_21 (a0 := 7) aX12_lot_121
theorem dX12_lot_123 : decode cX12_lot 123 = .ok (.iload 5, 2) := dc_21 (a0 := 5) (dc_nn (k := 2) aX12_lot_121 rfl)
theorem dX12_lot_125 : decode cX12_lot 125 = .ok (.isub, 1) := dc_100 (dc_nn (k := 4) aX12_lot_121 rfl)
theorem dX12_lot_126 : decode cX12_lot 126 = .ok (.sipush 360, 3) := dc_17 (a0 := 1) (b0 := 104) (dc_nn (k := 5) aX12_lot_121 rfl) (by decide)
theorem dX12_lot_129 : decode cX12_lot 129 = .ok (.iadd, 1) := dc_96 (dc_nn (k := 8) aX12_lot_121 rfl)
theorem dX12_lot_130 : decode cX12_lot 130 = .ok (.sipush 360, 3) := dc_17 (a0 := 1) (b0 := 104) (dc_nn (k := 9) aX12_lot_121 rfl) (by decide)
theorem dX12_lot_133 : decode cX12_lot 133 = .ok (.irem, 1) := dc_112 (dc_nn (k := 12) aX12_lot_121 rfl)
theorem dX12_lot_134 : decode cX12_lot 134 = .ok (.sipush 180, 3) := dc_17 (a0 := 0) (b0 := 180) (dc_nn (k := 13) aX12_lot_121 rfl) (by decide)
theorem dX12_lot_137 : decode cX12_lot 137 = .ok (.if_icmp .ge 15, 3) := dc_162 (a0 := 0) (b0 := 15) (dc_nn (k := 16) aX12_lot_121 rfl) (by decide)
theorem dX12_lot_140 : decode cX12_lot 140 = .ok (.iload 7, 2) := dc_21 (a0 := 7) (dc_nn (k := 19) aX12_lot_121 rfl)
theorem dX12_lot_142 : decode cX12_lot 142 = .ok (.iload 8, 2) := dc_21 (a0 := 8) (dc_nn (k := 21) aX12_lot_121 rfl)
theorem dX12_lot_144 : decode cX12_lot 144 = .ok (.iadd, 1) := dc_96 (dc_nn (k := 23) aX12_lot_121 rfl)
theorem dX12_lot_145 : decode cX12_lot 145 = .ok (.sipush 360, 3) := dc_17 (a0 := 1) (b0 := 104) (dc_nn (k := 24) aX12_lot_121 rfl) (by decide)
theorem dX12_lot_148 : decode cX12_lot 148 = .ok (.irem, 1) := dc_112 (dc_nn (k := 27) aX12_lot_121 rfl)
theorem dX12_lot_149 : decode cX12_lot 149 = .ok (.goto 16, 3) := dc_167 (a0 := 0) (b0 := 16) (dc_nn (k := 28) aX12_lot_121 rfl) (by decide)
theorem dX12_lot_152 : decode cX12_lot 152 = .ok (.iload 7, 2) := dc_21 (a0 := 7) (dc_nn (k := 31) aX12_lot_121 rfl)
theorem dX12_lot_154 : decode cX12_lot 154 = .ok (.iload 8, 2) := dc_21 (a0 := 8) (dc_nn (k := 33) aX12_lot_121 rfl)
theorem dX12_lot_156 : decode cX12_lot 156 = .ok (.isub, 1) := dc_100 (dc_nn (k := 35) aX12_lot_121 rfl)
theorem dX12_lot_157 : decode cX12_lot 157 = .ok (.sipush 360, 3) := dc_17 (a0 := 1) (b0 := 104) (dc_nn (k := 36) aX12_lot_121 rfl) (by decide)
theorem dX12_lot_160 : decode cX12_lot 160 = .ok (.iadd, 1) := dc_96 (dc_nn (k := 39) aX12_lot_121 rfl)
theorem dX12_lot_161 : decode cX12_lot 161 = .ok (.sipush 360, 3) := dc_17 (a0 := 1) (b0 := 104) aX12_lot_161 (by decide)
theorem dX12_lot_164 : decode cX12_lot 164 = .ok (.irem, 1) := dc_112 (dc_nn (k := 3) aX12_lot_161 rfl)
theorem dX12_lot_165 : decode cX12_lot 165 = .ok (.istore 9, 2) := dc_54 (a0 := 9) (dc_nn (k := 4) aX12_lot_161 rfl)
theorem dX12_lot_167 : decode cX12_lot 167 = .ok (.iload_n 3, 1) := dc_29 (dc_nn (k := 6) aX12_lot_161 rfl)
theorem dX12_lot_168 : decode cX12_lot 168 = .ok (.ifCond .ne 8, 3) := dc_154 (a0 := 0) (b0 := 8) (dc_nn (k := 7) aX12_lot_161 rfl) (by decide)
theorem dX12_lot_171 : decode cX12_lot 171 = .ok (.iload 9, 2) := dc_21 (a0 := 9) (dc_nn (k := 10) aX12_lot_161 rfl)
theorem dX12_lot_173 : decode cX12_lot 173 = .ok (.goto 17, 3) := dc_167 (a0 := 0) (b0 := 17) (dc_nn (k := 12) aX12_lot_161 rfl) (by decide)
theorem dX12_lot_176 : decode cX12_lot 176 = .ok (.aload_n 0, 1) := dc_42 (dc_nn (k := 15) aX12_lot_161 rfl)
theorem dX12_lot_177 : decode cX12_lot 177 = .ok (.aload_n 0, 1) := dc_42 (dc_nn (k := 16) aX12_lot_161 rfl)
theorem dX12_lot_178 : decode cX12_lot 178 = .ok (.iload 4, 2) := dc_21 (a0 := 4) (dc_nn (k := 17) aX12_lot_161 rfl)
theorem dX12_lot_180 : decode cX12_lot 180 = .ok (.bipush 8, 2) := dc_16 (a0 := 8) (dc_nn (k := 19) aX12_lot_161 rfl) (by decide)
theorem dX12_lot_182 : decode cX12_lot 182 = .ok (.invokevirtual 254, 3) := dc_182 (a0 := 0) (b0 := 254) (dc_nn (k := 21) aX12_lot_161 rfl)
theorem dX12_lot_185 : decode cX12_lot 185 = .ok (.iload 9, 2) := dc_21 (a0 := 9) (dc_nn (k := 24) aX12_lot_161 rfl)
theorem dX12_lot_187 : decode cX12_lot 187 = .ok (.invokevirtual 283, 3) := dc_182 (a0 := 1) (b0 := 27) (dc_nn (k := 26) aX12_lot_161 rfl)
theorem dX12_lot_190 : decode cX12_lot 190 = .ok (.ireturn, 1) := dc_172 (dc_nn (k := 29) aX12_lot_161 rfl)
set_option maxRecDepth 20000 in
theorem ggX12_priceOf_X12_costOf : GoodIn wsX12_priceOf wsX12_costOf := goodIn_k _ [[5, 0, 0, 0], [4, 4, 0, 0, 0, 0, 0, 0, 0, 0, 0, 0, 0, 0, 0, 0, 0, 0, 0, 0, 0, 0, 0, 0, 0, 0, 0, 0, 0, 0, 0, 0, 0, 0, 0, 0, 0, 0, 0, 0, 0, 0, 0, 0, 0, 0, 0, 0, 0, 0, 0, 0, 0, 0, 0, 0, 0, 0, 0, 0, 0, 0, 0, 0, 0, 0, 0]] (by rfl) (by decide +kernel)
set_option maxRecDepth 20000 in
theorem gX12_priceOf_X12_costOf : GoodIn wsX12_priceOf (wsV RX12 283 RX12 yX12_costOf wsX12_costOf) := goodIn_app (goodIn_k _ [[1, 0, 0, 0]] (by rfl) (gw_V _ _ _ _)) ggX12_priceOf_X12_costOf
