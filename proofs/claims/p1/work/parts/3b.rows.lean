theorem dX12_priceOf_0 : decode cX12_priceOf 0 = .ok (.iload_n 1, 1) := by decide +kernel
theorem dX12_priceOf_1 : decode cX12_priceOf 1 = .ok (.iload_n 2, 1) := by decide +kernel
theorem dX12_priceOf_2 : decode cX12_priceOf 2 = .ok (.if_icmp .ne 5, 3) := by decide +kernel
theorem dX12_priceOf_5 : decode cX12_priceOf 5 = .ok (.iconst 0, 1) := by decide +kernel
theorem dX12_priceOf_6 : decode cX12_priceOf 6 = .ok (.ireturn, 1) := by decide +kernel
theorem dX12_priceOf_7 : decode cX12_priceOf 7 = .ok (.iload_n 2, 1) := by decide +kernel
theorem dX12_priceOf_8 : decode cX12_priceOf 8 = .ok (.iconst (-1), 1) := by decide +kernel
theorem dX12_priceOf_9 : decode cX12_priceOf 9 = .ok (.if_icmp .ne 5, 3) := by decide +kernel
theorem dX12_priceOf_12 : decode cX12_priceOf 12 = .ok (.iconst 1, 1) := by decide +kernel
theorem dX12_priceOf_13 : decode cX12_priceOf 13 = .ok (.ireturn, 1) := by decide +kernel
theorem dX12_priceOf_14 : decode cX12_priceOf 14 = .ok (.iload_n 1, 1) := by decide +kernel
theorem dX12_priceOf_15 : decode cX12_priceOf 15 = .ok (.iconst (-1), 1) := by decide +kernel
theorem dX12_priceOf_16 : decode cX12_priceOf 16 = .ok (.if_icmp .ne 5, 3) := by decide +kernel
theorem dX12_priceOf_19 : decode cX12_priceOf 19 = .ok (.iconst 4, 1) := by decide +kernel
theorem dX12_priceOf_20 : decode cX12_priceOf 20 = .ok (.ireturn, 1) := by decide +kernel
theorem dX12_priceOf_21 : decode cX12_priceOf 21 = .ok (.iload_n 3, 1) := by decide +kernel
theorem dX12_priceOf_22 : decode cX12_priceOf 22 = .ok (.bipush 21, 2) := by decide +kernel
theorem dX12_priceOf_24 : decode cX12_priceOf 24 = .ok (.if_icmp .eq 17, 3) := by decide +kernel
theorem dX12_priceOf_27 : decode cX12_priceOf 27 = .ok (.aload_n 0, 1) := by decide +kernel
theorem dX12_priceOf_28 : decode cX12_priceOf 28 = .ok (.iload_n 2, 1) := by decide +kernel
theorem dX12_priceOf_29 : decode cX12_priceOf 29 = .ok (.iload_n 1, 1) := by decide +kernel
theorem dX12_priceOf_30 : decode cX12_priceOf 30 = .ok (.invokevirtual 283, 3) := by decide +kernel
theorem dX12_priceOf_33 : decode cX12_priceOf 33 = .ok (.iconst 1, 1) := by decide +kernel
theorem dX12_priceOf_34 : decode cX12_priceOf 34 = .ok (.if_icmp .ne 7, 3) := by decide +kernel
theorem dX12_priceOf_37 : decode cX12_priceOf 37 = .ok (.iconst 1, 1) := by decide +kernel
theorem dX12_priceOf_38 : decode cX12_priceOf 38 = .ok (.goto 4, 3) := by decide +kernel
theorem dX12_priceOf_41 : decode cX12_priceOf 41 = .ok (.iconst 3, 1) := by decide +kernel
theorem dX12_priceOf_42 : decode cX12_priceOf 42 = .ok (.ireturn, 1) := by decide +kernel
set_option maxRecDepth 20000 in
theorem ggX12_priceAll_X12_at : GoodIn wsX12_priceAll wsX12_at := goodIn_r _ [5, 6, 26, 27, 28, 29, 30, 31, 32, 33, 34, 35, 36, 37, 38, 39, 40, 41, 42, 43, 44, 45, 46, 47, 48, 49, 50, 51, 52, 53, 54, 55, 56, 57, 58, 59, 60, 61, 62, 63, 64, 65, 66, 67, 68, 69, 70, 71, 72, 73, 74, 75, 76, 77, 78, 79, 80, 81, 82, 83] (by decide +kernel) (by decide +kernel)
set_option maxRecDepth 20000 in
theorem gX12_priceAll_X12_at : GoodIn wsX12_priceAll (wsV RX12 254 RX12 yX12_at wsX12_at) := goodIn_app (goodIn_of _ (by decide +kernel)) ggX12_priceAll_X12_at
set_option maxRecDepth 20000 in
theorem ggX12_priceAll_X12_priceOf : GoodIn wsX12_priceAll wsX12_priceOf := goodIn_r _ [10, 11, 12, 13, 4, 14, 15, 16, 17, 18, 19, 20, 21, 22, 23, 24, 25, 26, 27, 28, 29, 30, 31, 32, 33, 34, 35, 36, 37, 38, 39, 40, 41, 42, 43, 44, 45, 46, 47, 48, 49, 50, 51, 52, 53, 54, 55, 56, 57, 58, 59, 60, 61, 62, 63, 64, 65, 66, 67, 68, 69, 70, 71, 72, 73, 74, 75, 76, 77, 78, 79, 80, 81, 82, 83] (by decide +kernel) (by decide +kernel)
set_option maxRecDepth 20000 in
theorem gX12_priceAll_X12_priceOf : GoodIn wsX12_priceAll (wsV RX12 335 RX12 yX12_priceOf wsX12_priceOf) := goodIn_app (goodIn_of _ (by decide +kernel)) ggX12_priceAll_X12_priceOf
theorem dX12_priceAll_0 : decode cX12_priceAll 0 = .ok (.iconst 0, 1) := by decide +kernel
theorem dX12_priceAll_1 : decode cX12_priceAll 1 = .ok (.istore_n 3, 1) := by decide +kernel
theorem dX12_priceAll_2 : decode cX12_priceAll 2 = .ok (.iconst 0, 1) := by decide +kernel
theorem dX12_priceAll_3 : decode cX12_priceAll 3 = .ok (.istore 4, 2) := by decide +kernel
theorem dX12_priceAll_5 : decode cX12_priceAll 5 = .ok (.iload 4, 2) := by decide +kernel
theorem dX12_priceAll_7 : decode cX12_priceAll 7 = .ok (.bipush 20, 2) := by decide +kernel
theorem dX12_priceAll_9 : decode cX12_priceAll 9 = .ok (.if_icmp .ge 60, 3) := by decide +kernel
theorem dX12_priceAll_12 : decode cX12_priceAll 12 = .ok (.iconst 0, 1) := by decide +kernel
theorem dX12_priceAll_13 : decode cX12_priceAll 13 = .ok (.istore 5, 2) := by decide +kernel
theorem dX12_priceAll_15 : decode cX12_priceAll 15 = .ok (.iload 5, 2) := by decide +kernel
theorem dX12_priceAll_17 : decode cX12_priceAll 17 = .ok (.bipush 22, 2) := by decide +kernel
theorem dX12_priceAll_19 : decode cX12_priceAll 19 = .ok (.if_icmp .ge 44, 3) := by decide +kernel
theorem dX12_priceAll_22 : decode cX12_priceAll 22 = .ok (.iload_n 3, 1) := by decide +kernel
theorem dX12_priceAll_23 : decode cX12_priceAll 23 = .ok (.aload_n 0, 1) := by decide +kernel
theorem dX12_priceAll_24 : decode cX12_priceAll 24 = .ok (.aload_n 0, 1) := by decide +kernel
theorem dX12_priceAll_25 : decode cX12_priceAll 25 = .ok (.bipush 20, 2) := by decide +kernel
theorem dX12_priceAll_27 : decode cX12_priceAll 27 = .ok (.iload_n 1, 1) := by decide +kernel
theorem dX12_priceAll_28 : decode cX12_priceAll 28 = .ok (.imul, 1) := by decide +kernel
theorem dX12_priceAll_29 : decode cX12_priceAll 29 = .ok (.iload 4, 2) := by decide +kernel
theorem dX12_priceAll_31 : decode cX12_priceAll 31 = .ok (.iadd, 1) := by decide +kernel
theorem dX12_priceAll_32 : decode cX12_priceAll 32 = .ok (.iload 5, 2) := by decide +kernel
theorem dX12_priceAll_34 : decode cX12_priceAll 34 = .ok (.invokevirtual 254, 3) := by decide +kernel
theorem dX12_priceAll_37 : decode cX12_priceAll 37 = .ok (.aload_n 0, 1) := by decide +kernel
theorem dX12_priceAll_38 : decode cX12_priceAll 38 = .ok (.bipush 20, 2) := by decide +kernel
theorem dX12_priceAll_40 : decode cX12_priceAll 40 = .ok (.iload_n 2, 1) := by decide +kernel
theorem dX12_priceAll_41 : decode cX12_priceAll 41 = .ok (.imul, 1) := by decide +kernel
theorem dX12_priceAll_42 : decode cX12_priceAll 42 = .ok (.iload 4, 2) := by decide +kernel
theorem dX12_priceAll_44 : decode cX12_priceAll 44 = .ok (.iadd, 1) := by decide +kernel
theorem dX12_priceAll_45 : decode cX12_priceAll 45 = .ok (.iload 5, 2) := by decide +kernel
theorem dX12_priceAll_47 : decode cX12_priceAll 47 = .ok (.invokevirtual 254, 3) := by decide +kernel
theorem dX12_priceAll_50 : decode cX12_priceAll 50 = .ok (.iload 5, 2) := by decide +kernel
theorem dX12_priceAll_52 : decode cX12_priceAll 52 = .ok (.invokevirtual 335, 3) := by decide +kernel
theorem dX12_priceAll_55 : decode cX12_priceAll 55 = .ok (.iadd, 1) := by decide +kernel
theorem dX12_priceAll_56 : decode cX12_priceAll 56 = .ok (.istore_n 3, 1) := by decide +kernel
theorem dX12_priceAll_57 : decode cX12_priceAll 57 = .ok (.iinc 5 1, 3) := by decide +kernel
theorem dX12_priceAll_60 : decode cX12_priceAll 60 = .ok (.goto (-45), 3) := by decide +kernel
theorem dX12_priceAll_63 : decode cX12_priceAll 63 = .ok (.iinc 4 1, 3) := by decide +kernel
theorem dX12_priceAll_66 : decode cX12_priceAll 66 = .ok (.goto (-61), 3) := by decide +kernel
theorem dX12_priceAll_69 : decode cX12_priceAll 69 = .ok (.iload_n 3, 1) := by decide +kernel
theorem dX12_priceAll_70 : decode cX12_priceAll 70 = .ok (.ireturn, 1) := by decide +kernel
set_option maxRecDepth 20000 in
theorem ggX12_price_X12_isBook : GoodIn wsX12_price wsX12_isBook := goodIn_r _ [6, 7, 8, 9, 5, 10, 1, 39, 40, 41, 42, 43, 44, 45, 46, 47, 48, 49, 50, 51, 52, 53, 54, 55, 56, 57, 58, 59, 60, 61, 62, 63, 64, 65, 66, 67, 68, 69, 70, 71, 72, 73, 74, 75, 76, 77, 78, 79, 80, 81, 82, 83, 84, 85, 86, 87, 88, 89, 90, 91, 92, 93, 94, 95, 96] (by decide +kernel) (by decide +kernel)
set_option maxRecDepth 20000 in
theorem gX12_price_X12_isBook : GoodIn wsX12_price (wsV RX12 338 RX12 yX12_isBook wsX12_isBook) := goodIn_app (goodIn_of _ (by decide +kernel)) ggX12_price_X12_isBook
set_option maxRecDepth 20000 in
theorem ggX12_price_X12_priceAll : GoodIn wsX12_price wsX12_priceAll := goodIn_r _ [14, 15, 16, 17, 5, 18, 19, 20, 21, 22, 23, 24, 25, 26, 27, 28, 29, 30, 31, 32, 33, 34, 35, 36, 37, 38, 39, 40, 41, 42, 43, 44, 45, 46, 47, 48, 49, 50, 51, 52, 53, 54, 55, 56, 57, 58, 59, 60, 61, 62, 63, 64, 65, 66, 67, 68, 69, 70, 71, 72, 73, 74, 75, 76, 77, 78, 79, 80, 81, 82, 83, 84, 85, 86, 87, 88, 89, 90, 91, 92, 93, 94, 95, 96] (by decide +kernel) (by decide +kernel)
set_option maxRecDepth 20000 in
theorem gX12_price_X12_priceAll : GoodIn wsX12_price (wsV RX12 341 RX12 yX12_priceAll wsX12_priceAll) := goodIn_app (goodIn_of _ (by decide +kernel)) ggX12_price_X12_priceAll
theorem dX12_price_0 : decode cX12_price 0 = .ok (.aload_n 0, 1) := by decide +kernel
theorem dX12_price_1 : decode cX12_price 1 = .ok (.iconst 0, 1) := by decide +kernel
theorem dX12_price_2 : decode cX12_price 2 = .ok (.putfield 129, 3) := by decide +kernel
theorem dX12_price_5 : decode cX12_price 5 = .ok (.aload_n 0, 1) := by decide +kernel
theorem dX12_price_6 : decode cX12_price 6 = .ok (.iload_n 1, 1) := by decide +kernel
theorem dX12_price_7 : decode cX12_price 7 = .ok (.invokevirtual 338, 3) := by decide +kernel
theorem dX12_price_10 : decode cX12_price 10 = .ok (.ifCond .eq 11, 3) := by decide +kernel
theorem dX12_price_13 : decode cX12_price 13 = .ok (.aload_n 0, 1) := by decide +kernel
theorem dX12_price_14 : decode cX12_price 14 = .ok (.iload_n 2, 1) := by decide +kernel
theorem dX12_price_15 : decode cX12_price 15 = .ok (.invokevirtual 338, 3) := by decide +kernel
theorem dX12_price_18 : decode cX12_price 18 = .ok (.ifCond .ne 5, 3) := by decide +kernel
theorem dX12_price_21 : decode cX12_price 21 = .ok (.iconst 0, 1) := by decide +kernel
theorem dX12_price_22 : decode cX12_price 22 = .ok (.ireturn, 1) := by decide +kernel
theorem dX12_price_23 : decode cX12_price 23 = .ok (.aload_n 0, 1) := by decide +kernel
theorem dX12_price_24 : decode cX12_price 24 = .ok (.iload_n 1, 1) := by decide +kernel
theorem dX12_price_25 : decode cX12_price 25 = .ok (.iload_n 2, 1) := by decide +kernel
theorem dX12_price_26 : decode cX12_price 26 = .ok (.invokevirtual 341, 3) := by decide +kernel
theorem dX12_price_29 : decode cX12_price 29 = .ok (.ireturn, 1) := by decide +kernel
theorem dX12_isTree_0 : decode cX12_isTree 0 = .ok (.iconst 0, 1) := by decide +kernel
theorem dX12_isTree_1 : decode cX12_isTree 1 = .ok (.istore_n 1, 1) := by decide +kernel
theorem dX12_isTree_2 : decode cX12_isTree 2 = .ok (.iconst 0, 1) := by decide +kernel
theorem dX12_isTree_3 : decode cX12_isTree 3 = .ok (.istore_n 2, 1) := by decide +kernel
theorem dX12_isTree_4 : decode cX12_isTree 4 = .ok (.iload_n 2, 1) := by decide +kernel
theorem dX12_isTree_5 : decode cX12_isTree 5 = .ok (.bipush 6, 2) := by decide +kernel
theorem dX12_isTree_7 : decode cX12_isTree 7 = .ok (.if_icmp .ge 125, 3) := by decide +kernel
theorem dX12_isTree_10 : decode cX12_isTree 10 = .ok (.aload_n 0, 1) := by decide +kernel
theorem dX12_isTree_11 : decode cX12_isTree 11 = .ok (.getfield 95, 3) := by decide +kernel
theorem dX12_isTree_14 : decode cX12_isTree 14 = .ok (.iload_n 2, 1) := by decide +kernel
theorem dX12_isTree_15 : decode cX12_isTree 15 = .ok (.baload, 1) := by decide +kernel
theorem dX12_isTree_16 : decode cX12_isTree 16 = .ok (.ifCond .ne 6, 3) := by decide +kernel
theorem dX12_isTree_19 : decode cX12_isTree 19 = .ok (.goto 107, 3) := by decide +kernel
theorem dX12_isTree_22 : decode cX12_isTree 22 = .ok (.aload_n 0, 1) := by decide +kernel
theorem dX12_isTree_23 : decode cX12_isTree 23 = .ok (.getfield 89, 3) := by decide +kernel
theorem dX12_isTree_26 : decode cX12_isTree 26 = .ok (.iload_n 2, 1) := by decide +kernel
theorem dX12_isTree_27 : decode cX12_isTree 27 = .ok (.iaload, 1) := by decide +kernel
theorem dX12_isTree_28 : decode cX12_isTree 28 = .ok (.iconst (-1), 1) := by decide +kernel
theorem dX12_isTree_29 : decode cX12_isTree 29 = .ok (.if_icmp .ne 6, 3) := by decide +kernel
theorem dX12_isTree_32 : decode cX12_isTree 32 = .ok (.iinc 1 1, 3) := by decide +kernel
theorem dX12_isTree_35 : decode cX12_isTree 35 = .ok (.aload_n 0, 1) := by decide +kernel
theorem dX12_isTree_36 : decode cX12_isTree 36 = .ok (.getfield 89, 3) := by decide +kernel
theorem dX12_isTree_39 : decode cX12_isTree 39 = .ok (.iload_n 2, 1) := by decide +kernel
theorem dX12_isTree_40 : decode cX12_isTree 40 = .ok (.iaload, 1) := by decide +kernel
theorem dX12_isTree_41 : decode cX12_isTree 41 = .ok (.iconst (-1), 1) := by decide +kernel
theorem dX12_isTree_42 : decode cX12_isTree 42 = .ok (.if_icmp .eq 29, 3) := by decide +kernel
theorem dX12_isTree_45 : decode cX12_isTree 45 = .ok (.aload_n 0, 1) := by decide +kernel
theorem dX12_isTree_46 : decode cX12_isTree 46 = .ok (.getfield 95, 3) := by decide +kernel
theorem dX12_isTree_49 : decode cX12_isTree 49 = .ok (.aload_n 0, 1) := by decide +kernel
theorem dX12_isTree_50 : decode cX12_isTree 50 = .ok (.getfield 89, 3) := by decide +kernel
theorem dX12_isTree_53 : decode cX12_isTree 53 = .ok (.iload_n 2, 1) := by decide +kernel
theorem dX12_isTree_54 : decode cX12_isTree 54 = .ok (.iaload, 1) := by decide +kernel
theorem dX12_isTree_55 : decode cX12_isTree 55 = .ok (.baload, 1) := by decide +kernel
theorem dX12_isTree_56 : decode cX12_isTree 56 = .ok (.ifCond .eq 13, 3) := by decide +kernel
theorem dX12_isTree_59 : decode cX12_isTree 59 = .ok (.aload_n 0, 1) := by decide +kernel
theorem dX12_isTree_60 : decode cX12_isTree 60 = .ok (.getfield 89, 3) := by decide +kernel
theorem dX12_isTree_63 : decode cX12_isTree 63 = .ok (.iload_n 2, 1) := by decide +kernel
theorem dX12_isTree_64 : decode cX12_isTree 64 = .ok (.iaload, 1) := by decide +kernel
theorem dX12_isTree_65 : decode cX12_isTree 65 = .ok (.iload_n 2, 1) := by decide +kernel
theorem dX12_isTree_66 : decode cX12_isTree 66 = .ok (.if_icmp .ne 5, 3) := by decide +kernel
theorem dX12_isTree_69 : decode cX12_isTree 69 = .ok (.iconst 0, 1) := by decide +kernel
theorem dX12_isTree_70 : decode cX12_isTree 70 = .ok (.ireturn, 1) := by decide +kernel
theorem dX12_isTree_71 : decode cX12_isTree 71 = .ok (.iload_n 2, 1) := by decide +kernel
theorem dX12_isTree_72 : decode cX12_isTree 72 = .ok (.istore_n 3, 1) := by decide +kernel
theorem dX12_isTree_73 : decode cX12_isTree 73 = .ok (.iconst 0, 1) := by decide +kernel
theorem dX12_isTree_74 : decode cX12_isTree 74 = .ok (.istore 4, 2) := by decide +kernel
theorem dX12_isTree_76 : decode cX12_isTree 76 = .ok (.aload_n 0, 1) := by decide +kernel
theorem dX12_isTree_77 : decode cX12_isTree 77 = .ok (.getfield 89, 3) := by decide +kernel
theorem dX12_isTree_80 : decode cX12_isTree 80 = .ok (.iload_n 3, 1) := by decide +kernel
theorem dX12_isTree_81 : decode cX12_isTree 81 = .ok (.iaload, 1) := by decide +kernel
theorem dX12_isTree_82 : decode cX12_isTree 82 = .ok (.iconst (-1), 1) := by decide +kernel
theorem dX12_isTree_83 : decode cX12_isTree 83 = .ok (.if_icmp .eq 31, 3) := by decide +kernel
theorem dX12_isTree_86 : decode cX12_isTree 86 = .ok (.iload 4, 2) := by decide +kernel
theorem dX12_isTree_88 : decode cX12_isTree 88 = .ok (.bipush 6, 2) := by decide +kernel
theorem dX12_isTree_90 : decode cX12_isTree 90 = .ok (.if_icmp .ge 24, 3) := by decide +kernel
theorem dX12_isTree_93 : decode cX12_isTree 93 = .ok (.aload_n 0, 1) := by decide +kernel
theorem dX12_isTree_94 : decode cX12_isTree 94 = .ok (.getfield 89, 3) := by decide +kernel
theorem dX12_isTree_97 : decode cX12_isTree 97 = .ok (.iload_n 3, 1) := by decide +kernel
theorem dX12_isTree_98 : decode cX12_isTree 98 = .ok (.iaload, 1) := by decide +kernel
theorem dX12_isTree_99 : decode cX12_isTree 99 = .ok (.istore_n 3, 1) := by decide +kernel
theorem dX12_isTree_100 : decode cX12_isTree 100 = .ok (.iinc 4 1, 3) := by decide +kernel
theorem dX12_isTree_103 : decode cX12_isTree 103 = .ok (.aload_n 0, 1) := by decide +kernel
theorem dX12_isTree_104 : decode cX12_isTree 104 = .ok (.getfield 95, 3) := by decide +kernel
theorem dX12_isTree_107 : decode cX12_isTree 107 = .ok (.iload_n 3, 1) := by decide +kernel
theorem dX12_isTree_108 : decode cX12_isTree 108 = .ok (.baload, 1) := by decide +kernel
theorem dX12_isTree_109 : decode cX12_isTree 109 = .ok (.ifCond .ne (-33), 3) := by decide +kernel
theorem dX12_isTree_112 : decode cX12_isTree 112 = .ok (.iconst 0, 1) := by decide +kernel
theorem dX12_isTree_113 : decode cX12_isTree 113 = .ok (.ireturn, 1) := by decide +kernel
theorem dX12_isTree_114 : decode cX12_isTree 114 = .ok (.aload_n 0, 1) := by decide +kernel
theorem dX12_isTree_115 : decode cX12_isTree 115 = .ok (.getfield 89, 3) := by decide +kernel
theorem dX12_isTree_118 : decode cX12_isTree 118 = .ok (.iload_n 3, 1) := by decide +kernel
theorem dX12_isTree_119 : decode cX12_isTree 119 = .ok (.iaload, 1) := by decide +kernel
theorem dX12_isTree_120 : decode cX12_isTree 120 = .ok (.iconst (-1), 1) := by decide +kernel
theorem dX12_isTree_121 : decode cX12_isTree 121 = .ok (.if_icmp .eq 5, 3) := by decide +kernel
theorem dX12_isTree_124 : decode cX12_isTree 124 = .ok (.iconst 0, 1) := by decide +kernel
theorem dX12_isTree_125 : decode cX12_isTree 125 = .ok (.ireturn, 1) := by decide +kernel
theorem dX12_isTree_126 : decode cX12_isTree 126 = .ok (.iinc 2 1, 3) := by decide +kernel
theorem dX12_isTree_129 : decode cX12_isTree 129 = .ok (.goto (-125), 3) := by decide +kernel
theorem dX12_isTree_132 : decode cX12_isTree 132 = .ok (.iload_n 1, 1) := by decide +kernel
theorem dX12_isTree_133 : decode cX12_isTree 133 = .ok (.iconst 1, 1) := by decide +kernel
theorem dX12_isTree_134 : decode cX12_isTree 134 = .ok (.if_icmp .ne 7, 3) := by decide +kernel
theorem dX12_isTree_137 : decode cX12_isTree 137 = .ok (.iconst 1, 1) := by decide +kernel
theorem dX12_isTree_138 : decode cX12_isTree 138 = .ok (.goto 4, 3) := by decide +kernel
theorem dX12_isTree_141 : decode cX12_isTree 141 = .ok (.iconst 0, 1) := by decide +kernel
theorem dX12_isTree_142 : decode cX12_isTree 142 = .ok (.ireturn, 1) := by decide +kernel
set_option maxRecDepth 20000 in
theorem ggX12_tree_X12_bookTells : GoodIn wsX12_tree wsX12_bookTells := goodIn_r _ [11, 12, 13, 14, 10, 15, 16, 17, 18, 19, 20, 48, 49, 50, 51, 52, 53, 54, 55, 56, 57, 58, 59, 60, 61, 62, 63, 64, 65, 66, 67, 68, 69, 70, 71, 72, 73, 74, 75, 76, 77, 78, 79, 80, 81, 82, 83, 84, 85, 86, 87, 88, 89, 90, 91, 92, 93, 94, 95, 96, 97, 98, 99, 100, 101, 102, 103, 104, 105] (by decide +kernel) (by decide +kernel)
set_option maxRecDepth 20000 in
theorem gX12_tree_X12_bookTells : GoodIn wsX12_tree (wsV RX12 344 RX12 yX12_bookTells wsX12_bookTells) := goodIn_app (goodIn_of _ (by decide +kernel)) ggX12_tree_X12_bookTells
set_option maxRecDepth 20000 in
theorem ggX12_tree_X12_priceAll : GoodIn wsX12_tree wsX12_priceAll := goodIn_r _ [24, 16, 17, 18, 10, 19, 20, 25, 26, 27, 28, 29, 30, 31, 32, 33, 34, 35, 36, 37, 38, 39, 40, 41, 42, 43, 48, 49, 50, 51, 52, 53, 54, 55, 56, 57, 58, 59, 60, 61, 62, 63, 64, 65, 66, 67, 68, 69, 70, 71, 72, 73, 74, 75, 76, 77, 78, 79, 80, 81, 82, 83, 84, 85, 86, 87, 88, 89, 90, 91, 92, 93, 94, 95, 96, 97, 98, 99, 100, 101, 102, 103, 104, 105] (by decide +kernel) (by decide +kernel)
set_option maxRecDepth 20000 in
theorem gX12_tree_X12_priceAll : GoodIn wsX12_tree (wsV RX12 341 RX12 yX12_priceAll wsX12_priceAll) := goodIn_app (goodIn_of _ (by decide +kernel)) ggX12_tree_X12_priceAll
set_option maxRecDepth 20000 in
theorem ggX12_tree_X12_isTree : GoodIn wsX12_tree wsX12_isTree := goodIn_r _ [47, 2, 4, 48, 49, 50, 51, 52, 53, 54, 55, 56, 57, 58, 59, 60, 61, 62, 63, 64, 65, 66, 67, 68, 69, 70, 71, 72, 73, 74, 75, 76, 77, 78, 79, 80, 81, 82, 83, 84, 85, 86, 87, 88, 89, 90, 91, 92, 93, 94, 95, 96, 97, 98, 99, 100, 101, 102, 103, 104, 105] (by decide +kernel) (by decide +kernel)
set_option maxRecDepth 20000 in
theorem gX12_tree_X12_isTree : GoodIn wsX12_tree (wsV RX12 347 RX12 yX12_isTree wsX12_isTree) := goodIn_app (goodIn_of _ (by decide +kernel)) ggX12_tree_X12_isTree
theorem dX12_tree_0 : decode cX12_tree 0 = .ok (.aload_n 0, 1) := by decide +kernel
theorem dX12_tree_1 : decode cX12_tree 1 = .ok (.iconst 0, 1) := by decide +kernel
theorem dX12_tree_2 : decode cX12_tree 2 = .ok (.putfield 129, 3) := by decide +kernel
theorem dX12_tree_5 : decode cX12_tree 5 = .ok (.iconst 0, 1) := by decide +kernel
theorem dX12_tree_6 : decode cX12_tree 6 = .ok (.istore_n 1, 1) := by decide +kernel
theorem dX12_tree_7 : decode cX12_tree 7 = .ok (.iconst 0, 1) := by decide +kernel
theorem dX12_tree_8 : decode cX12_tree 8 = .ok (.istore_n 2, 1) := by decide +kernel
theorem dX12_tree_9 : decode cX12_tree 9 = .ok (.iload_n 2, 1) := by decide +kernel
theorem dX12_tree_10 : decode cX12_tree 10 = .ok (.bipush 6, 2) := by decide +kernel
theorem dX12_tree_12 : decode cX12_tree 12 = .ok (.if_icmp .ge 37, 3) := by decide +kernel
theorem dX12_tree_15 : decode cX12_tree 15 = .ok (.aload_n 0, 1) := by decide +kernel
theorem dX12_tree_16 : decode cX12_tree 16 = .ok (.getfield 95, 3) := by decide +kernel
theorem dX12_tree_19 : decode cX12_tree 19 = .ok (.iload_n 2, 1) := by decide +kernel
theorem dX12_tree_20 : decode cX12_tree 20 = .ok (.aload_n 0, 1) := by decide +kernel
theorem dX12_tree_21 : decode cX12_tree 21 = .ok (.iload_n 2, 1) := by decide +kernel
theorem dX12_tree_22 : decode cX12_tree 22 = .ok (.invokevirtual 344, 3) := by decide +kernel
theorem dX12_tree_25 : decode cX12_tree 25 = .ok (.bastore, 1) := by decide +kernel
theorem dX12_tree_26 : decode cX12_tree 26 = .ok (.iload_n 1, 1) := by decide +kernel
theorem dX12_tree_27 : decode cX12_tree 27 = .ok (.aload_n 0, 1) := by decide +kernel
theorem dX12_tree_28 : decode cX12_tree 28 = .ok (.getfield 95, 3) := by decide +kernel
theorem dX12_tree_31 : decode cX12_tree 31 = .ok (.iload_n 2, 1) := by decide +kernel
theorem dX12_tree_32 : decode cX12_tree 32 = .ok (.baload, 1) := by decide +kernel
theorem dX12_tree_33 : decode cX12_tree 33 = .ok (.ifCond .eq 7, 3) := by decide +kernel
theorem dX12_tree_36 : decode cX12_tree 36 = .ok (.iconst 1, 1) := by decide +kernel
theorem dX12_tree_37 : decode cX12_tree 37 = .ok (.goto 4, 3) := by decide +kernel
theorem dX12_tree_40 : decode cX12_tree 40 = .ok (.iconst 0, 1) := by decide +kernel
theorem dX12_tree_41 : decode cX12_tree 41 = .ok (.iadd, 1) := by decide +kernel
theorem dX12_tree_42 : decode cX12_tree 42 = .ok (.istore_n 1, 1) := by decide +kernel
theorem dX12_tree_43 : decode cX12_tree 43 = .ok (.iinc 2 1, 3) := by decide +kernel
theorem dX12_tree_46 : decode cX12_tree 46 = .ok (.goto (-37), 3) := by decide +kernel
theorem dX12_tree_49 : decode cX12_tree 49 = .ok (.iload_n 1, 1) := by decide +kernel
theorem dX12_tree_50 : decode cX12_tree 50 = .ok (.ifCond .ne 5, 3) := by decide +kernel
theorem dX12_tree_53 : decode cX12_tree 53 = .ok (.iconst (-1), 1) := by decide +kernel
theorem dX12_tree_54 : decode cX12_tree 54 = .ok (.ireturn, 1) := by decide +kernel
theorem dX12_tree_55 : decode cX12_tree 55 = .ok (.iconst 0, 1) := by decide +kernel
theorem dX12_tree_56 : decode cX12_tree 56 = .ok (.istore_n 2, 1) := by decide +kernel
theorem dX12_tree_57 : decode cX12_tree 57 = .ok (.iload_n 2, 1) := by decide +kernel
theorem dX12_tree_58 : decode cX12_tree 58 = .ok (.bipush 36, 2) := by decide +kernel
theorem dX12_tree_60 : decode cX12_tree 60 = .ok (.if_icmp .ge 27, 3) := by decide +kernel
theorem dX12_tree_63 : decode cX12_tree 63 = .ok (.aload_n 0, 1) := by decide +kernel
theorem dX12_tree_64 : decode cX12_tree 64 = .ok (.getfield 92, 3) := by decide +kernel
theorem dX12_tree_67 : decode cX12_tree 67 = .ok (.iload_n 2, 1) := by decide +kernel
theorem dX12_tree_68 : decode cX12_tree 68 = .ok (.aload_n 0, 1) := by decide +kernel
theorem dX12_tree_69 : decode cX12_tree 69 = .ok (.iload_n 2, 1) := by decide +kernel
theorem dX12_tree_70 : decode cX12_tree 70 = .ok (.bipush 6, 2) := by decide +kernel
theorem dX12_tree_72 : decode cX12_tree 72 = .ok (.idiv, 1) := by decide +kernel
theorem dX12_tree_73 : decode cX12_tree 73 = .ok (.iload_n 2, 1) := by decide +kernel
theorem dX12_tree_74 : decode cX12_tree 74 = .ok (.bipush 6, 2) := by decide +kernel
theorem dX12_tree_76 : decode cX12_tree 76 = .ok (.irem, 1) := by decide +kernel
theorem dX12_tree_77 : decode cX12_tree 77 = .ok (.invokevirtual 341, 3) := by decide +kernel
theorem dX12_tree_80 : decode cX12_tree 80 = .ok (.iastore, 1) := by decide +kernel
theorem dX12_tree_81 : decode cX12_tree 81 = .ok (.iinc 2 1, 3) := by decide +kernel
theorem dX12_tree_84 : decode cX12_tree 84 = .ok (.goto (-27), 3) := by decide +kernel
theorem dX12_tree_87 : decode cX12_tree 87 = .ok (.iconst (-1), 1) := by decide +kernel
theorem dX12_tree_88 : decode cX12_tree 88 = .ok (.istore_n 2, 1) := by decide +kernel
theorem dX12_tree_89 : decode cX12_tree 89 = .ok (.iconst 1, 1) := by decide +kernel
theorem dX12_tree_90 : decode cX12_tree 90 = .ok (.istore_n 3, 1) := by decide +kernel
theorem dX12_tree_91 : decode cX12_tree 91 = .ok (.iconst 0, 1) := by decide +kernel
theorem dX12_tree_92 : decode cX12_tree 92 = .ok (.istore 4, 2) := by decide +kernel
theorem dX12_tree_94 : decode cX12_tree 94 = .ok (.iload 4, 2) := by decide +kernel
theorem dX12_tree_96 : decode cX12_tree 96 = .ok (.bipush 6, 2) := by decide +kernel
theorem dX12_tree_98 : decode cX12_tree 98 = .ok (.if_icmp .ge 14, 3) := by decide +kernel
theorem dX12_tree_101 : decode cX12_tree 101 = .ok (.iload_n 3, 1) := by decide +kernel
theorem dX12_tree_102 : decode cX12_tree 102 = .ok (.bipush 7, 2) := by decide +kernel
theorem dX12_tree_104 : decode cX12_tree 104 = .ok (.imul, 1) := by decide +kernel
theorem dX12_tree_105 : decode cX12_tree 105 = .ok (.istore_n 3, 1) := by decide +kernel
theorem dX12_tree_106 : decode cX12_tree 106 = .ok (.iinc 4 1, 3) := by decide +kernel
theorem dX12_tree_109 : decode cX12_tree 109 = .ok (.goto (-15), 3) := by decide +kernel
theorem dX12_tree_112 : decode cX12_tree 112 = .ok (.iconst 0, 1) := by decide +kernel
theorem dX12_tree_113 : decode cX12_tree 113 = .ok (.istore 4, 2) := by decide +kernel
theorem dX12_tree_115 : decode cX12_tree 115 = .ok (.iload 4, 2) := by decide +kernel
theorem dX12_tree_117 : decode cX12_tree 117 = .ok (.iload_n 3, 1) := by decide +kernel
theorem dX12_tree_118 : decode cX12_tree 118 = .ok (.if_icmp .ge 204, 3) := by decide +kernel
theorem dX12_tree_121 : decode cX12_tree 121 = .ok (.iload 4, 2) := by decide +kernel
theorem dX12_tree_123 : decode cX12_tree 123 = .ok (.istore 5, 2) := by decide +kernel
theorem dX12_tree_125 : decode cX12_tree 125 = .ok (.iconst 1, 1) := by decide +kernel
theorem dX12_tree_126 : decode cX12_tree 126 = .ok (.istore 6, 2) := by decide +kernel
theorem dX12_tree_128 : decode cX12_tree 128 = .ok (.iconst 0, 1) := by decide +kernel
theorem dX12_tree_129 : decode cX12_tree 129 = .ok (.istore 7, 2) := by decide +kernel
theorem dX12_tree_131 : decode cX12_tree 131 = .ok (.iconst 5, 1) := by decide +kernel
theorem dX12_tree_132 : decode cX12_tree 132 = .ok (.istore 8, 2) := by decide +kernel
theorem dX12_tree_134 : decode cX12_tree 134 = .ok (.iload 8, 2) := by decide +kernel
theorem dX12_tree_136 : decode cX12_tree 136 = .ok (.ifCond .lt 106, 3) := by decide +kernel
theorem dX12_tree_139 : decode cX12_tree 139 = .ok (.aload_n 0, 1) := by decide +kernel
theorem dX12_tree_140 : decode cX12_tree 140 = .ok (.getfield 89, 3) := by decide +kernel
theorem dX12_tree_143 : decode cX12_tree 143 = .ok (.iload 8, 2) := by decide +kernel
theorem dX12_tree_145 : decode cX12_tree 145 = .ok (.iload 5, 2) := by decide +kernel
theorem dX12_tree_147 : decode cX12_tree 147 = .ok (.bipush 7, 2) := by decide +kernel
theorem dX12_tree_149 : decode cX12_tree 149 = .ok (.irem, 1) := by decide +kernel
theorem dX12_tree_150 : decode cX12_tree 150 = .ok (.iconst 1, 1) := by decide +kernel
theorem dX12_tree_151 : decode cX12_tree 151 = .ok (.isub, 1) := by decide +kernel
theorem dX12_tree_152 : decode cX12_tree 152 = .ok (.iastore, 1) := by decide +kernel
theorem dX12_tree_153 : decode cX12_tree 153 = .ok (.iload 5, 2) := by decide +kernel
theorem dX12_tree_155 : decode cX12_tree 155 = .ok (.bipush 7, 2) := by decide +kernel
theorem dX12_tree_157 : decode cX12_tree 157 = .ok (.idiv, 1) := by decide +kernel
theorem dX12_tree_158 : decode cX12_tree 158 = .ok (.istore 5, 2) := by decide +kernel
theorem dX12_tree_160 : decode cX12_tree 160 = .ok (.iload 6, 2) := by decide +kernel
theorem dX12_tree_162 : decode cX12_tree 162 = .ok (.ifCond .eq 28, 3) := by decide +kernel
theorem dX12_tree_165 : decode cX12_tree 165 = .ok (.aload_n 0, 1) := by decide +kernel
theorem dX12_tree_166 : decode cX12_tree 166 = .ok (.getfield 95, 3) := by decide +kernel
theorem dX12_tree_169 : decode cX12_tree 169 = .ok (.iload 8, 2) := by decide +kernel
theorem dX12_tree_171 : decode cX12_tree 171 = .ok (.baload, 1) := by decide +kernel
theorem dX12_tree_172 : decode cX12_tree 172 = .ok (.ifCond .ne 14, 3) := by decide +kernel
theorem dX12_tree_175 : decode cX12_tree 175 = .ok (.aload_n 0, 1) := by decide +kernel
theorem dX12_tree_176 : decode cX12_tree 176 = .ok (.getfield 89, 3) := by decide +kernel
theorem dX12_tree_179 : decode cX12_tree 179 = .ok (.iload 8, 2) := by decide +kernel
theorem dX12_tree_181 : decode cX12_tree 181 = .ok (.iaload, 1) := by decide +kernel
theorem dX12_tree_182 : decode cX12_tree 182 = .ok (.iconst (-1), 1) := by decide +kernel
theorem dX12_tree_183 : decode cX12_tree 183 = .ok (.if_icmp .ne 7, 3) := by decide +kernel
theorem dX12_tree_186 : decode cX12_tree 186 = .ok (.iconst 1, 1) := by decide +kernel
theorem dX12_tree_187 : decode cX12_tree 187 = .ok (.goto 4, 3) := by decide +kernel
theorem dX12_tree_190 : decode cX12_tree 190 = .ok (.iconst 0, 1) := by decide +kernel
theorem dX12_tree_191 : decode cX12_tree 191 = .ok (.istore 6, 2) := by decide +kernel
theorem dX12_tree_193 : decode cX12_tree 193 = .ok (.iload 7, 2) := by decide +kernel
theorem dX12_tree_195 : decode cX12_tree 195 = .ok (.aload_n 0, 1) := by decide +kernel
theorem dX12_tree_196 : decode cX12_tree 196 = .ok (.getfield 89, 3) := by decide +kernel
theorem dX12_tree_199 : decode cX12_tree 199 = .ok (.iload 8, 2) := by decide +kernel
theorem dX12_tree_201 : decode cX12_tree 201 = .ok (.iaload, 1) := by decide +kernel
theorem dX12_tree_202 : decode cX12_tree 202 = .ok (.iconst (-1), 1) := by decide +kernel
theorem dX12_tree_203 : decode cX12_tree 203 = .ok (.if_icmp .eq 8, 3) := by decide +kernel
theorem dX12_tree_206 : decode cX12_tree 206 = .ok (.iload 6, 2) := by decide +kernel
theorem dX12_tree_208 : decode cX12_tree 208 = .ok (.ifCond .ne 7, 3) := by decide +kernel
theorem dX12_tree_211 : decode cX12_tree 211 = .ok (.iconst 0, 1) := by decide +kernel
theorem dX12_tree_212 : decode cX12_tree 212 = .ok (.goto 21, 3) := by decide +kernel
theorem dX12_tree_215 : decode cX12_tree 215 = .ok (.aload_n 0, 1) := by decide +kernel
theorem dX12_tree_216 : decode cX12_tree 216 = .ok (.getfield 92, 3) := by decide +kernel
theorem dX12_tree_219 : decode cX12_tree 219 = .ok (.bipush 6, 2) := by decide +kernel
theorem dX12_tree_221 : decode cX12_tree 221 = .ok (.aload_n 0, 1) := by decide +kernel
theorem dX12_tree_222 : decode cX12_tree 222 = .ok (.getfield 89, 3) := by decide +kernel
theorem dX12_tree_225 : decode cX12_tree 225 = .ok (.iload 8, 2) := by decide +kernel
theorem dX12_tree_227 : decode cX12_tree 227 = .ok (.iaload, 1) := by decide +kernel
theorem dX12_tree_228 : decode cX12_tree 228 = .ok (.imul, 1) := by decide +kernel
theorem dX12_tree_229 : decode cX12_tree 229 = .ok (.iload 8, 2) := by decide +kernel
theorem dX12_tree_231 : decode cX12_tree 231 = .ok (.iadd, 1) := by decide +kernel
theorem dX12_tree_232 : decode cX12_tree 232 = .ok (.iaload, 1) := by decide +kernel
theorem dX12_tree_233 : decode cX12_tree 233 = .ok (.iadd, 1) := by decide +kernel
theorem dX12_tree_234 : decode cX12_tree 234 = .ok (.istore 7, 2) := by decide +kernel
theorem dX12_tree_236 : decode cX12_tree 236 = .ok (.iinc 8 (-1), 3) := by decide +kernel
theorem dX12_tree_239 : decode cX12_tree 239 = .ok (.goto (-105), 3) := by decide +kernel
theorem dX12_tree_242 : decode cX12_tree 242 = .ok (.iload 6, 2) := by decide +kernel
theorem dX12_tree_244 : decode cX12_tree 244 = .ok (.ifCond .eq 72, 3) := by decide +kernel
theorem dX12_tree_247 : decode cX12_tree 247 = .ok (.iload_n 2, 1) := by decide +kernel
theorem dX12_tree_248 : decode cX12_tree 248 = .ok (.iconst (-1), 1) := by decide +kernel
theorem dX12_tree_249 : decode cX12_tree 249 = .ok (.if_icmp .eq 9, 3) := by decide +kernel
theorem dX12_tree_252 : decode cX12_tree 252 = .ok (.iload 7, 2) := by decide +kernel
theorem dX12_tree_254 : decode cX12_tree 254 = .ok (.iload_n 2, 1) := by decide +kernel
theorem dX12_tree_255 : decode cX12_tree 255 = .ok (.if_icmp .ge 61, 3) := by decide +kernel
theorem dX12_tree_258 : decode cX12_tree 258 = .ok (.aload_n 0, 1) := by decide +kernel
theorem dX12_tree_259 : decode cX12_tree 259 = .ok (.invokevirtual 347, 3) := by decide +kernel
theorem dX12_tree_262 : decode cX12_tree 262 = .ok (.ifCond .ne 6, 3) := by decide +kernel
theorem dX12_tree_265 : decode cX12_tree 265 = .ok (.goto 51, 3) := by decide +kernel
theorem dX12_tree_268 : decode cX12_tree 268 = .ok (.iload 7, 2) := by decide +kernel
theorem dX12_tree_270 : decode cX12_tree 270 = .ok (.istore_n 2, 1) := by decide +kernel
theorem dX12_tree_271 : decode cX12_tree 271 = .ok (.iconst 0, 1) := by decide +kernel
theorem dX12_tree_272 : decode cX12_tree 272 = .ok (.istore 8, 2) := by decide +kernel
theorem dX12_tree_274 : decode cX12_tree 274 = .ok (.iload 8, 2) := by decide +kernel
theorem dX12_tree_276 : decode cX12_tree 276 = .ok (.bipush 6, 2) := by decide +kernel
theorem dX12_tree_278 : decode cX12_tree 278 = .ok (.if_icmp .ge 38, 3) := by decide +kernel
theorem dX12_tree_281 : decode cX12_tree 281 = .ok (.aload_n 0, 1) := by decide +kernel
theorem dX12_tree_282 : decode cX12_tree 282 = .ok (.getfield 86, 3) := by decide +kernel
theorem dX12_tree_285 : decode cX12_tree 285 = .ok (.iload 8, 2) := by decide +kernel
theorem dX12_tree_287 : decode cX12_tree 287 = .ok (.aload_n 0, 1) := by decide +kernel
theorem dX12_tree_288 : decode cX12_tree 288 = .ok (.getfield 95, 3) := by decide +kernel
theorem dX12_tree_291 : decode cX12_tree 291 = .ok (.iload 8, 2) := by decide +kernel
theorem dX12_tree_293 : decode cX12_tree 293 = .ok (.baload, 1) := by decide +kernel
theorem dX12_tree_294 : decode cX12_tree 294 = .ok (.ifCond .eq 13, 3) := by decide +kernel
theorem dX12_tree_297 : decode cX12_tree 297 = .ok (.aload_n 0, 1) := by decide +kernel
theorem dX12_tree_298 : decode cX12_tree 298 = .ok (.getfield 89, 3) := by decide +kernel
theorem dX12_tree_301 : decode cX12_tree 301 = .ok (.iload 8, 2) := by decide +kernel
theorem dX12_tree_303 : decode cX12_tree 303 = .ok (.iaload, 1) := by decide +kernel
theorem dX12_tree_304 : decode cX12_tree 304 = .ok (.goto 5, 3) := by decide +kernel
theorem dX12_tree_307 : decode cX12_tree 307 = .ok (.bipush (-2), 2) := by decide +kernel
theorem dX12_tree_309 : decode cX12_tree 309 = .ok (.iastore, 1) := by decide +kernel
theorem dX12_tree_310 : decode cX12_tree 310 = .ok (.iinc 8 1, 3) := by decide +kernel
theorem dX12_tree_313 : decode cX12_tree 313 = .ok (.goto (-39), 3) := by decide +kernel
theorem dX12_tree_316 : decode cX12_tree 316 = .ok (.iinc 4 1, 3) := by decide +kernel
theorem dX12_tree_319 : decode cX12_tree 319 = .ok (.goto (-204), 3) := by decide +kernel
theorem dX12_tree_322 : decode cX12_tree 322 = .ok (.aload_n 0, 1) := by decide +kernel
theorem dX12_tree_323 : decode cX12_tree 323 = .ok (.iconst 1, 1) := by decide +kernel
theorem dX12_tree_324 : decode cX12_tree 324 = .ok (.putfield 350, 3) := by decide +kernel
theorem dX12_tree_327 : decode cX12_tree 327 = .ok (.iload_n 2, 1) := by decide +kernel
theorem dX12_tree_328 : decode cX12_tree 328 = .ok (.ireturn, 1) := by decide +kernel
set_option maxRecDepth 20000 in
theorem ggX12_whence_X12_isBook : GoodIn wsX12_whence wsX12_isBook := goodIn_r _ [8, 9, 10, 11, 7, 12, 1, 13, 14, 15, 16, 17, 18, 19, 20, 21, 22, 23, 24, 25, 26, 27, 28, 29, 30, 31, 32, 33, 34, 35, 36, 37, 38, 39, 40, 41, 42, 43, 44, 45, 46, 47, 48, 49, 50, 51, 52, 53, 54, 55, 56, 57, 58, 59, 60, 61, 62, 63, 64, 65, 66, 67, 68, 69, 70] (by decide +kernel) (by decide +kernel)
set_option maxRecDepth 20000 in
theorem gX12_whence_X12_isBook : GoodIn wsX12_whence (wsV RX12 338 RX12 yX12_isBook wsX12_isBook) := goodIn_app (goodIn_of _ (by decide +kernel)) ggX12_whence_X12_isBook
set_option maxRecDepth 20000 in
theorem ggX12_whence_X12_right : GoodIn wsX12_whence wsX12_right := goodIn_r _ [12, 1, 13, 14, 15, 16, 17, 18, 19, 20, 21, 22, 23, 24, 25, 26, 27, 28, 29, 30, 31, 32, 33, 34, 35, 36, 37, 38, 39, 40, 41, 42, 43, 44, 45, 46, 47, 48, 49, 50, 51, 52, 53, 54, 55, 56, 57, 58, 59, 60, 61, 62, 63, 64, 65, 66, 67, 68, 69, 70] (by decide +kernel) (by decide +kernel)
set_option maxRecDepth 20000 in
theorem gX12_whence_X12_right : GoodIn wsX12_whence (wsV RX12 209 RX12 yX12_right wsX12_right) := goodIn_app (goodIn_of _ (by decide +kernel)) ggX12_whence_X12_right
theorem dX12_whence_0 : decode cX12_whence 0 = .ok (.aload_n 0, 1) := by decide +kernel
theorem dX12_whence_1 : decode cX12_whence 1 = .ok (.iconst 0, 1) := by decide +kernel
theorem dX12_whence_2 : decode cX12_whence 2 = .ok (.putfield 129, 3) := by decide +kernel
theorem dX12_whence_5 : decode cX12_whence 5 = .ok (.aload_n 0, 1) := by decide +kernel
theorem dX12_whence_6 : decode cX12_whence 6 = .ok (.iload_n 1, 1) := by decide +kernel
theorem dX12_whence_7 : decode cX12_whence 7 = .ok (.invokevirtual 338, 3) := by decide +kernel
theorem dX12_whence_10 : decode cX12_whence 10 = .ok (.ifCond .eq 34, 3) := by decide +kernel
theorem dX12_whence_13 : decode cX12_whence 13 = .ok (.aload_n 0, 1) := by decide +kernel
theorem dX12_whence_14 : decode cX12_whence 14 = .ok (.aload_n 0, 1) := by decide +kernel
theorem dX12_whence_15 : decode cX12_whence 15 = .ok (.getfield 350, 3) := by decide +kernel
theorem dX12_whence_18 : decode cX12_whence 18 = .ok (.ifCond .eq 18, 3) := by decide +kernel
theorem dX12_whence_21 : decode cX12_whence 21 = .ok (.aload_n 0, 1) := by decide +kernel
theorem dX12_whence_22 : decode cX12_whence 22 = .ok (.getfield 86, 3) := by decide +kernel
theorem dX12_whence_25 : decode cX12_whence 25 = .ok (.iload_n 1, 1) := by decide +kernel
theorem dX12_whence_26 : decode cX12_whence 26 = .ok (.iaload, 1) := by decide +kernel
theorem dX12_whence_27 : decode cX12_whence 27 = .ok (.bipush (-2), 2) := by decide +kernel
theorem dX12_whence_29 : decode cX12_whence 29 = .ok (.if_icmp .eq 7, 3) := by decide +kernel
theorem dX12_whence_32 : decode cX12_whence 32 = .ok (.iconst 1, 1) := by decide +kernel
theorem dX12_whence_33 : decode cX12_whence 33 = .ok (.goto 4, 3) := by decide +kernel
theorem dX12_whence_36 : decode cX12_whence 36 = .ok (.iconst 0, 1) := by decide +kernel
theorem dX12_whence_37 : decode cX12_whence 37 = .ok (.iconst 1, 1) := by decide +kernel
theorem dX12_whence_38 : decode cX12_whence 38 = .ok (.invokevirtual 209, 3) := by decide +kernel
theorem dX12_whence_41 : decode cX12_whence 41 = .ok (.ifCond .ne 5, 3) := by decide +kernel
theorem dX12_whence_44 : decode cX12_whence 44 = .ok (.iconst 0, 1) := by decide +kernel
theorem dX12_whence_45 : decode cX12_whence 45 = .ok (.ireturn, 1) := by decide +kernel
theorem dX12_whence_46 : decode cX12_whence 46 = .ok (.aload_n 0, 1) := by decide +kernel
theorem dX12_whence_47 : decode cX12_whence 47 = .ok (.getfield 86, 3) := by decide +kernel
theorem dX12_whence_50 : decode cX12_whence 50 = .ok (.iload_n 1, 1) := by decide +kernel
theorem dX12_whence_51 : decode cX12_whence 51 = .ok (.iaload, 1) := by decide +kernel
theorem dX12_whence_52 : decode cX12_whence 52 = .ok (.ireturn, 1) := by decide +kernel
set_option maxRecDepth 20000 in
theorem ggX12_slips_X12_within : GoodIn wsX12_slips wsX12_within := goodIn_r _ [7] (by decide +kernel) (by decide +kernel)
set_option maxRecDepth 20000 in
theorem gX12_slips_X12_within : GoodIn wsX12_slips (va_wsS RX12 270 yX12_within wsX12_within) := goodIn_app (goodIn_of _ (by decide +kernel)) ggX12_slips_X12_within
set_option maxRecDepth 20000 in
theorem ggX12_slips_X12_right : GoodIn wsX12_slips wsX12_right := goodIn_r _ [11, 1, 28, 29, 30, 31, 32, 33, 34, 35, 36, 37, 38, 39, 40, 41, 42, 43, 44, 45, 46, 47, 48, 49, 50, 51, 52, 53, 54, 55, 56, 57, 58, 59, 60, 61, 62, 63, 64, 65, 66, 67, 68, 69, 70, 71, 72, 73, 74, 75, 76, 77, 78, 79, 80, 81, 82, 83, 84, 85] (by decide +kernel) (by decide +kernel)
set_option maxRecDepth 20000 in
theorem gX12_slips_X12_right : GoodIn wsX12_slips (wsV RX12 209 RX12 yX12_right wsX12_right) := goodIn_app (goodIn_of _ (by decide +kernel)) ggX12_slips_X12_right
set_option maxRecDepth 20000 in
theorem ggX12_slips_X12_at : GoodIn wsX12_slips wsX12_at := goodIn_r _ [15, 16, 28, 29, 30, 31, 32, 33, 34, 35, 36, 37, 38, 39, 40, 41, 42, 43, 44, 45, 46, 47, 48, 49, 50, 51, 52, 53, 54, 55, 56, 57, 58, 59, 60, 61, 62, 63, 64, 65, 66, 67, 68, 69, 70, 71, 72, 73, 74, 75, 76, 77, 78, 79, 80, 81, 82, 83, 84, 85] (by decide +kernel) (by decide +kernel)
set_option maxRecDepth 20000 in
theorem gX12_slips_X12_at : GoodIn wsX12_slips (wsV RX12 254 RX12 yX12_at wsX12_at) := goodIn_app (goodIn_of _ (by decide +kernel)) ggX12_slips_X12_at
set_option maxRecDepth 20000 in
theorem ggX12_slips_X12_beside : GoodIn wsX12_slips wsX12_beside := goodIn_r _ [20, 21, 22, 23, 6, 24, 25, 26, 27, 28, 29, 30, 31, 32, 33, 34, 35, 36, 37, 38, 39, 40, 41, 42, 43, 44, 45, 46, 47, 48, 49, 50, 51, 52, 53, 54, 55, 56, 57, 58, 59, 60, 61, 62, 63, 64, 65, 66, 67, 68, 69, 70, 71, 72, 73, 74, 75, 76, 77, 78, 79, 80, 81, 82, 83, 84, 85] (by decide +kernel) (by decide +kernel)
set_option maxRecDepth 20000 in
theorem gX12_slips_X12_beside : GoodIn wsX12_slips (wsV RX12 280 RX12 yX12_beside wsX12_beside) := goodIn_app (goodIn_of _ (by decide +kernel)) ggX12_slips_X12_beside
theorem dX12_slips_0 : decode cX12_slips 0 = .ok (.aload_n 0, 1) := by decide +kernel
theorem dX12_slips_1 : decode cX12_slips 1 = .ok (.iconst 0, 1) := by decide +kernel
theorem dX12_slips_2 : decode cX12_slips 2 = .ok (.putfield 129, 3) := by decide +kernel
theorem dX12_slips_5 : decode cX12_slips 5 = .ok (.aload_n 0, 1) := by decide +kernel
theorem dX12_slips_6 : decode cX12_slips 6 = .ok (.iload_n 1, 1) := by decide +kernel
theorem dX12_slips_7 : decode cX12_slips 7 = .ok (.iconst 0, 1) := by decide +kernel
theorem dX12_slips_8 : decode cX12_slips 8 = .ok (.bipush 29, 2) := by decide +kernel
theorem dX12_slips_10 : decode cX12_slips 10 = .ok (.invokestatic 270, 3) := by decide +kernel
theorem dX12_slips_13 : decode cX12_slips 13 = .ok (.ifCond .eq 24, 3) := by decide +kernel
theorem dX12_slips_16 : decode cX12_slips 16 = .ok (.iload_n 2, 1) := by decide +kernel
theorem dX12_slips_17 : decode cX12_slips 17 = .ok (.iconst 0, 1) := by decide +kernel
theorem dX12_slips_18 : decode cX12_slips 18 = .ok (.bipush 29, 2) := by decide +kernel
theorem dX12_slips_20 : decode cX12_slips 20 = .ok (.invokestatic 270, 3) := by decide +kernel
theorem dX12_slips_23 : decode cX12_slips 23 = .ok (.ifCond .eq 14, 3) := by decide +kernel
theorem dX12_slips_26 : decode cX12_slips 26 = .ok (.aload_n 0, 1) := by decide +kernel
theorem dX12_slips_27 : decode cX12_slips 27 = .ok (.getfield 350, 3) := by decide +kernel
theorem dX12_slips_30 : decode cX12_slips 30 = .ok (.ifCond .eq 7, 3) := by decide +kernel
theorem dX12_slips_33 : decode cX12_slips 33 = .ok (.iconst 1, 1) := by decide +kernel
theorem dX12_slips_34 : decode cX12_slips 34 = .ok (.goto 4, 3) := by decide +kernel
theorem dX12_slips_37 : decode cX12_slips 37 = .ok (.iconst 0, 1) := by decide +kernel
theorem dX12_slips_38 : decode cX12_slips 38 = .ok (.iconst 1, 1) := by decide +kernel
theorem dX12_slips_39 : decode cX12_slips 39 = .ok (.invokevirtual 209, 3) := by decide +kernel
theorem dX12_slips_42 : decode cX12_slips 42 = .ok (.ifCond .ne 5, 3) := by decide +kernel
theorem dX12_slips_45 : decode cX12_slips 45 = .ok (.iconst 0, 1) := by decide +kernel
theorem dX12_slips_46 : decode cX12_slips 46 = .ok (.ireturn, 1) := by decide +kernel
theorem dX12_slips_47 : decode cX12_slips 47 = .ok (.iconst 0, 1) := by decide +kernel
theorem dX12_slips_48 : decode cX12_slips 48 = .ok (.istore_n 3, 1) := by decide +kernel
theorem dX12_slips_49 : decode cX12_slips 49 = .ok (.iconst 0, 1) := by decide +kernel
theorem dX12_slips_50 : decode cX12_slips 50 = .ok (.istore 4, 2) := by decide +kernel
theorem dX12_slips_52 : decode cX12_slips 52 = .ok (.iload 4, 2) := by decide +kernel
theorem dX12_slips_54 : decode cX12_slips 54 = .ok (.bipush 6, 2) := by decide +kernel
theorem dX12_slips_56 : decode cX12_slips 56 = .ok (.if_icmp .ge 161, 3) := by decide +kernel
theorem dX12_slips_59 : decode cX12_slips 59 = .ok (.iconst 0, 1) := by decide +kernel
theorem dX12_slips_60 : decode cX12_slips 60 = .ok (.istore 5, 2) := by decide +kernel
theorem dX12_slips_62 : decode cX12_slips 62 = .ok (.iload 5, 2) := by decide +kernel
theorem dX12_slips_64 : decode cX12_slips 64 = .ok (.sipush 420, 3) := by decide +kernel
theorem dX12_slips_67 : decode cX12_slips 67 = .ok (.if_icmp .ge 144, 3) := by decide +kernel
theorem dX12_slips_70 : decode cX12_slips 70 = .ok (.aload_n 0, 1) := by decide +kernel
theorem dX12_slips_71 : decode cX12_slips 71 = .ok (.getfield 86, 3) := by decide +kernel
theorem dX12_slips_74 : decode cX12_slips 74 = .ok (.iload 4, 2) := by decide +kernel
theorem dX12_slips_76 : decode cX12_slips 76 = .ok (.iaload, 1) := by decide +kernel
theorem dX12_slips_77 : decode cX12_slips 77 = .ok (.ifCond .lt 134, 3) := by decide +kernel
theorem dX12_slips_80 : decode cX12_slips 80 = .ok (.aload_n 0, 1) := by decide +kernel
theorem dX12_slips_81 : decode cX12_slips 81 = .ok (.bipush 20, 2) := by decide +kernel
theorem dX12_slips_83 : decode cX12_slips 83 = .ok (.iload 4, 2) := by decide +kernel
theorem dX12_slips_85 : decode cX12_slips 85 = .ok (.imul, 1) := by decide +kernel
theorem dX12_slips_86 : decode cX12_slips 86 = .ok (.iload 5, 2) := by decide +kernel
theorem dX12_slips_88 : decode cX12_slips 88 = .ok (.bipush 21, 2) := by decide +kernel
theorem dX12_slips_90 : decode cX12_slips 90 = .ok (.idiv, 1) := by decide +kernel
theorem dX12_slips_91 : decode cX12_slips 91 = .ok (.iadd, 1) := by decide +kernel
theorem dX12_slips_92 : decode cX12_slips 92 = .ok (.iload 5, 2) := by decide +kernel
theorem dX12_slips_94 : decode cX12_slips 94 = .ok (.bipush 21, 2) := by decide +kernel
theorem dX12_slips_96 : decode cX12_slips 96 = .ok (.irem, 1) := by decide +kernel
theorem dX12_slips_97 : decode cX12_slips 97 = .ok (.invokevirtual 254, 3) := by decide +kernel
theorem dX12_slips_100 : decode cX12_slips 100 = .ok (.istore 6, 2) := by decide +kernel
theorem dX12_slips_102 : decode cX12_slips 102 = .ok (.aload_n 0, 1) := by decide +kernel
theorem dX12_slips_103 : decode cX12_slips 103 = .ok (.bipush 20, 2) := by decide +kernel
theorem dX12_slips_105 : decode cX12_slips 105 = .ok (.aload_n 0, 1) := by decide +kernel
theorem dX12_slips_106 : decode cX12_slips 106 = .ok (.getfield 86, 3) := by decide +kernel
theorem dX12_slips_109 : decode cX12_slips 109 = .ok (.iload 4, 2) := by decide +kernel
theorem dX12_slips_111 : decode cX12_slips 111 = .ok (.iaload, 1) := by decide +kernel
theorem dX12_slips_112 : decode cX12_slips 112 = .ok (.imul, 1) := by decide +kernel
theorem dX12_slips_113 : decode cX12_slips 113 = .ok (.iload 5, 2) := by decide +kernel
theorem dX12_slips_115 : decode cX12_slips 115 = .ok (.bipush 21, 2) := by decide +kernel
theorem dX12_slips_117 : decode cX12_slips 117 = .ok (.idiv, 1) := by decide +kernel
theorem dX12_slips_118 : decode cX12_slips 118 = .ok (.iadd, 1) := by decide +kernel
theorem dX12_slips_119 : decode cX12_slips 119 = .ok (.iload 5, 2) := by decide +kernel
theorem dX12_slips_121 : decode cX12_slips 121 = .ok (.bipush 21, 2) := by decide +kernel
theorem dX12_slips_123 : decode cX12_slips 123 = .ok (.irem, 1) := by decide +kernel
theorem dX12_slips_124 : decode cX12_slips 124 = .ok (.invokevirtual 254, 3) := by decide +kernel
theorem dX12_slips_127 : decode cX12_slips 127 = .ok (.istore 7, 2) := by decide +kernel
theorem dX12_slips_129 : decode cX12_slips 129 = .ok (.iload 6, 2) := by decide +kernel
theorem dX12_slips_131 : decode cX12_slips 131 = .ok (.iconst (-1), 1) := by decide +kernel
theorem dX12_slips_132 : decode cX12_slips 132 = .ok (.if_icmp .eq 73, 3) := by decide +kernel
theorem dX12_slips_135 : decode cX12_slips 135 = .ok (.iload 7, 2) := by decide +kernel
theorem dX12_slips_137 : decode cX12_slips 137 = .ok (.iconst (-1), 1) := by decide +kernel
theorem dX12_slips_138 : decode cX12_slips 138 = .ok (.if_icmp .ne 6, 3) := by decide +kernel
theorem dX12_slips_141 : decode cX12_slips 141 = .ok (.goto 64, 3) := by decide +kernel
theorem dX12_slips_144 : decode cX12_slips 144 = .ok (.aload_n 0, 1) := by decide +kernel
theorem dX12_slips_145 : decode cX12_slips 145 = .ok (.iload 6, 2) := by decide +kernel
theorem dX12_slips_147 : decode cX12_slips 147 = .ok (.iload 7, 2) := by decide +kernel
theorem dX12_slips_149 : decode cX12_slips 149 = .ok (.invokevirtual 280, 3) := by decide +kernel
theorem dX12_slips_152 : decode cX12_slips 152 = .ok (.istore 8, 2) := by decide +kernel
theorem dX12_slips_154 : decode cX12_slips 154 = .ok (.iload 8, 2) := by decide +kernel
theorem dX12_slips_156 : decode cX12_slips 156 = .ok (.iconst 1, 1) := by decide +kernel
theorem dX12_slips_157 : decode cX12_slips 157 = .ok (.if_icmp .ne 21, 3) := by decide +kernel
theorem dX12_slips_160 : decode cX12_slips 160 = .ok (.iload 6, 2) := by decide +kernel
theorem dX12_slips_162 : decode cX12_slips 162 = .ok (.bipush 30, 2) := by decide +kernel
theorem dX12_slips_164 : decode cX12_slips 164 = .ok (.irem, 1) := by decide +kernel
theorem dX12_slips_165 : decode cX12_slips 165 = .ok (.iload_n 1, 1) := by decide +kernel
theorem dX12_slips_166 : decode cX12_slips 166 = .ok (.if_icmp .ne 12, 3) := by decide +kernel
theorem dX12_slips_169 : decode cX12_slips 169 = .ok (.iload 7, 2) := by decide +kernel
theorem dX12_slips_171 : decode cX12_slips 171 = .ok (.bipush 30, 2) := by decide +kernel
theorem dX12_slips_173 : decode cX12_slips 173 = .ok (.irem, 1) := by decide +kernel
theorem dX12_slips_174 : decode cX12_slips 174 = .ok (.iload_n 2, 1) := by decide +kernel
theorem dX12_slips_175 : decode cX12_slips 175 = .ok (.if_icmp .eq 27, 3) := by decide +kernel
theorem dX12_slips_178 : decode cX12_slips 178 = .ok (.iload 8, 2) := by decide +kernel
theorem dX12_slips_180 : decode cX12_slips 180 = .ok (.iconst 2, 1) := by decide +kernel
theorem dX12_slips_181 : decode cX12_slips 181 = .ok (.if_icmp .ne 24, 3) := by decide +kernel
theorem dX12_slips_184 : decode cX12_slips 184 = .ok (.iload 6, 2) := by decide +kernel
theorem dX12_slips_186 : decode cX12_slips 186 = .ok (.bipush 30, 2) := by decide +kernel
theorem dX12_slips_188 : decode cX12_slips 188 = .ok (.idiv, 1) := by decide +kernel
theorem dX12_slips_189 : decode cX12_slips 189 = .ok (.iload_n 1, 1) := by decide +kernel
theorem dX12_slips_190 : decode cX12_slips 190 = .ok (.if_icmp .ne 15, 3) := by decide +kernel
theorem dX12_slips_193 : decode cX12_slips 193 = .ok (.iload 7, 2) := by decide +kernel
theorem dX12_slips_195 : decode cX12_slips 195 = .ok (.bipush 30, 2) := by decide +kernel
theorem dX12_slips_197 : decode cX12_slips 197 = .ok (.idiv, 1) := by decide +kernel
theorem dX12_slips_198 : decode cX12_slips 198 = .ok (.iload_n 2, 1) := by decide +kernel
theorem dX12_slips_199 : decode cX12_slips 199 = .ok (.if_icmp .ne 6, 3) := by decide +kernel
theorem dX12_slips_202 : decode cX12_slips 202 = .ok (.iinc 3 1, 3) := by decide +kernel
theorem dX12_slips_205 : decode cX12_slips 205 = .ok (.iinc 5 1, 3) := by decide +kernel
theorem dX12_slips_208 : decode cX12_slips 208 = .ok (.goto (-146), 3) := by decide +kernel
theorem dX12_slips_211 : decode cX12_slips 211 = .ok (.iinc 4 1, 3) := by decide +kernel
theorem dX12_slips_214 : decode cX12_slips 214 = .ok (.goto (-162), 3) := by decide +kernel
theorem dX12_slips_217 : decode cX12_slips 217 = .ok (.iload_n 3, 1) := by decide +kernel
theorem dX12_slips_218 : decode cX12_slips 218 = .ok (.ireturn, 1) := by decide +kernel
set_option maxRecDepth 20000 in
theorem ggX12_handed_X12_isBook : GoodIn wsX12_handed wsX12_isBook := goodIn_r _ [7, 8, 9, 10, 6, 11, 1, 12, 13, 14, 15, 16, 17, 18, 19, 20, 21, 22, 23, 24, 25, 26, 27, 28, 29, 30, 31, 32, 33, 34, 35, 36, 37, 38, 39, 40, 41, 42, 43, 44, 45, 46, 47, 48, 49, 50, 51, 52, 53, 54, 55, 56, 57, 58, 59, 60, 61, 62, 63, 64, 65, 66, 67, 68, 69] (by decide +kernel) (by decide +kernel)
set_option maxRecDepth 20000 in
theorem gX12_handed_X12_isBook : GoodIn wsX12_handed (wsV RX12 338 RX12 yX12_isBook wsX12_isBook) := goodIn_app (goodIn_of _ (by decide +kernel)) ggX12_handed_X12_isBook
theorem dX12_handed_0 : decode cX12_handed 0 = .ok (.aload_n 0, 1) := by decide +kernel
theorem dX12_handed_1 : decode cX12_handed 1 = .ok (.iconst 0, 1) := by decide +kernel
theorem dX12_handed_2 : decode cX12_handed 2 = .ok (.putfield 129, 3) := by decide +kernel
theorem dX12_handed_5 : decode cX12_handed 5 = .ok (.aload_n 0, 1) := by decide +kernel
theorem dX12_handed_6 : decode cX12_handed 6 = .ok (.iload_n 1, 1) := by decide +kernel
theorem dX12_handed_7 : decode cX12_handed 7 = .ok (.invokevirtual 338, 3) := by decide +kernel
theorem dX12_handed_10 : decode cX12_handed 10 = .ok (.ifCond .eq 19, 3) := by decide +kernel
theorem dX12_handed_13 : decode cX12_handed 13 = .ok (.aload_n 0, 1) := by decide +kernel
theorem dX12_handed_14 : decode cX12_handed 14 = .ok (.iload_n 2, 1) := by decide +kernel
theorem dX12_handed_15 : decode cX12_handed 15 = .ok (.invokevirtual 338, 3) := by decide +kernel
theorem dX12_handed_18 : decode cX12_handed 18 = .ok (.ifCond .eq 11, 3) := by decide +kernel
theorem dX12_handed_21 : decode cX12_handed 21 = .ok (.aload_n 0, 1) := by decide +kernel
theorem dX12_handed_22 : decode cX12_handed 22 = .ok (.iload_n 3, 1) := by decide +kernel
theorem dX12_handed_23 : decode cX12_handed 23 = .ok (.invokevirtual 338, 3) := by decide +kernel
theorem dX12_handed_26 : decode cX12_handed 26 = .ok (.ifCond .ne 5, 3) := by decide +kernel
theorem dX12_handed_29 : decode cX12_handed 29 = .ok (.iconst 0, 1) := by decide +kernel
theorem dX12_handed_30 : decode cX12_handed 30 = .ok (.ireturn, 1) := by decide +kernel
theorem dX12_handed_31 : decode cX12_handed 31 = .ok (.iconst 0, 1) := by decide +kernel
theorem dX12_handed_32 : decode cX12_handed 32 = .ok (.istore 4, 2) := by decide +kernel
theorem dX12_handed_34 : decode cX12_handed 34 = .ok (.iconst 0, 1) := by decide +kernel
theorem dX12_handed_35 : decode cX12_handed 35 = .ok (.istore 5, 2) := by decide +kernel
theorem dX12_handed_37 : decode cX12_handed 37 = .ok (.iload 5, 2) := by decide +kernel
theorem dX12_handed_39 : decode cX12_handed 39 = .ok (.sipush 440, 3) := by decide +kernel
theorem dX12_handed_42 : decode cX12_handed 42 = .ok (.if_icmp .ge 83, 3) := by decide +kernel
theorem dX12_handed_45 : decode cX12_handed 45 = .ok (.aload_n 0, 1) := by decide +kernel
theorem dX12_handed_46 : decode cX12_handed 46 = .ok (.getfield 31, 3) := by decide +kernel
theorem dX12_handed_49 : decode cX12_handed 49 = .ok (.sipush 440, 3) := by decide +kernel
theorem dX12_handed_52 : decode cX12_handed 52 = .ok (.iload_n 1, 1) := by decide +kernel
theorem dX12_handed_53 : decode cX12_handed 53 = .ok (.imul, 1) := by decide +kernel
theorem dX12_handed_54 : decode cX12_handed 54 = .ok (.iload 5, 2) := by decide +kernel
theorem dX12_handed_56 : decode cX12_handed 56 = .ok (.iadd, 1) := by decide +kernel
theorem dX12_handed_57 : decode cX12_handed 57 = .ok (.iaload, 1) := by decide +kernel
theorem dX12_handed_58 : decode cX12_handed 58 = .ok (.istore 6, 2) := by decide +kernel
theorem dX12_handed_60 : decode cX12_handed 60 = .ok (.aload_n 0, 1) := by decide +kernel
theorem dX12_handed_61 : decode cX12_handed 61 = .ok (.getfield 31, 3) := by decide +kernel
theorem dX12_handed_64 : decode cX12_handed 64 = .ok (.sipush 440, 3) := by decide +kernel
theorem dX12_handed_67 : decode cX12_handed 67 = .ok (.iload_n 2, 1) := by decide +kernel
theorem dX12_handed_68 : decode cX12_handed 68 = .ok (.imul, 1) := by decide +kernel
theorem dX12_handed_69 : decode cX12_handed 69 = .ok (.iload 5, 2) := by decide +kernel
theorem dX12_handed_71 : decode cX12_handed 71 = .ok (.iadd, 1) := by decide +kernel
theorem dX12_handed_72 : decode cX12_handed 72 = .ok (.iaload, 1) := by decide +kernel
theorem dX12_handed_73 : decode cX12_handed 73 = .ok (.istore 7, 2) := by decide +kernel
theorem dX12_handed_75 : decode cX12_handed 75 = .ok (.aload_n 0, 1) := by decide +kernel
theorem dX12_handed_76 : decode cX12_handed 76 = .ok (.getfield 31, 3) := by decide +kernel
theorem dX12_handed_79 : decode cX12_handed 79 = .ok (.sipush 440, 3) := by decide +kernel
theorem dX12_handed_82 : decode cX12_handed 82 = .ok (.iload_n 3, 1) := by decide +kernel
theorem dX12_handed_83 : decode cX12_handed 83 = .ok (.imul, 1) := by decide +kernel
theorem dX12_handed_84 : decode cX12_handed 84 = .ok (.iload 5, 2) := by decide +kernel
theorem dX12_handed_86 : decode cX12_handed 86 = .ok (.iadd, 1) := by decide +kernel
theorem dX12_handed_87 : decode cX12_handed 87 = .ok (.iaload, 1) := by decide +kernel
theorem dX12_handed_88 : decode cX12_handed 88 = .ok (.istore 8, 2) := by decide +kernel
theorem dX12_handed_90 : decode cX12_handed 90 = .ok (.iload 6, 2) := by decide +kernel
theorem dX12_handed_92 : decode cX12_handed 92 = .ok (.iconst (-1), 1) := by decide +kernel
theorem dX12_handed_93 : decode cX12_handed 93 = .ok (.if_icmp .eq 26, 3) := by decide +kernel
theorem dX12_handed_96 : decode cX12_handed 96 = .ok (.iload 6, 2) := by decide +kernel
theorem dX12_handed_98 : decode cX12_handed 98 = .ok (.iload 7, 2) := by decide +kernel
theorem dX12_handed_100 : decode cX12_handed 100 = .ok (.if_icmp .ne 19, 3) := by decide +kernel
theorem dX12_handed_103 : decode cX12_handed 103 = .ok (.iload 8, 2) := by decide +kernel
theorem dX12_handed_105 : decode cX12_handed 105 = .ok (.iconst (-1), 1) := by decide +kernel
theorem dX12_handed_106 : decode cX12_handed 106 = .ok (.if_icmp .eq 13, 3) := by decide +kernel
theorem dX12_handed_109 : decode cX12_handed 109 = .ok (.iload 8, 2) := by decide +kernel
theorem dX12_handed_111 : decode cX12_handed 111 = .ok (.iload 6, 2) := by decide +kernel
theorem dX12_handed_113 : decode cX12_handed 113 = .ok (.if_icmp .eq 6, 3) := by decide +kernel
theorem dX12_handed_116 : decode cX12_handed 116 = .ok (.iinc 4 1, 3) := by decide +kernel
theorem dX12_handed_119 : decode cX12_handed 119 = .ok (.iinc 5 1, 3) := by decide +kernel
theorem dX12_handed_122 : decode cX12_handed 122 = .ok (.goto (-85), 3) := by decide +kernel
theorem dX12_handed_125 : decode cX12_handed 125 = .ok (.iload 4, 2) := by decide +kernel
theorem dX12_handed_127 : decode cX12_handed 127 = .ok (.ireturn, 1) := by decide +kernel
theorem dX12_leafAt_0 : decode cX12_leafAt 0 = .ok (.iconst 0, 1) := by decide +kernel
theorem dX12_leafAt_1 : decode cX12_leafAt 1 = .ok (.istore_n 3, 1) := by decide +kernel
theorem dX12_leafAt_2 : decode cX12_leafAt 2 = .ok (.iload_n 3, 1) := by decide +kernel
theorem dX12_leafAt_3 : decode cX12_leafAt 3 = .ok (.aload_n 0, 1) := by decide +kernel
theorem dX12_leafAt_4 : decode cX12_leafAt 4 = .ok (.getfield 99, 3) := by decide +kernel
theorem dX12_leafAt_7 : decode cX12_leafAt 7 = .ok (.iload_n 1, 1) := by decide +kernel
theorem dX12_leafAt_8 : decode cX12_leafAt 8 = .ok (.iaload, 1) := by decide +kernel
theorem dX12_leafAt_9 : decode cX12_leafAt 9 = .ok (.if_icmp .ge 26, 3) := by decide +kernel
theorem dX12_leafAt_12 : decode cX12_leafAt 12 = .ok (.aload_n 0, 1) := by decide +kernel
theorem dX12_leafAt_13 : decode cX12_leafAt 13 = .ok (.getfield 102, 3) := by decide +kernel
theorem dX12_leafAt_16 : decode cX12_leafAt 16 = .ok (.bipush 20, 2) := by decide +kernel
theorem dX12_leafAt_18 : decode cX12_leafAt 18 = .ok (.iload_n 1, 1) := by decide +kernel
theorem dX12_leafAt_19 : decode cX12_leafAt 19 = .ok (.imul, 1) := by decide +kernel
theorem dX12_leafAt_20 : decode cX12_leafAt 20 = .ok (.iload_n 3, 1) := by decide +kernel
theorem dX12_leafAt_21 : decode cX12_leafAt 21 = .ok (.iadd, 1) := by decide +kernel
theorem dX12_leafAt_22 : decode cX12_leafAt 22 = .ok (.iaload, 1) := by decide +kernel
theorem dX12_leafAt_23 : decode cX12_leafAt 23 = .ok (.iload_n 2, 1) := by decide +kernel
theorem dX12_leafAt_24 : decode cX12_leafAt 24 = .ok (.if_icmp .ne 5, 3) := by decide +kernel
theorem dX12_leafAt_27 : decode cX12_leafAt 27 = .ok (.iload_n 3, 1) := by decide +kernel
theorem dX12_leafAt_28 : decode cX12_leafAt 28 = .ok (.ireturn, 1) := by decide +kernel
theorem dX12_leafAt_29 : decode cX12_leafAt 29 = .ok (.iinc 3 1, 3) := by decide +kernel
theorem dX12_leafAt_32 : decode cX12_leafAt 32 = .ok (.goto (-30), 3) := by decide +kernel
theorem dX12_leafAt_35 : decode cX12_leafAt 35 = .ok (.iconst (-1), 1) := by decide +kernel
theorem dX12_leafAt_36 : decode cX12_leafAt 36 = .ok (.ireturn, 1) := by decide +kernel
set_option maxRecDepth 20000 in
theorem ggX12_leaf_X12_isWheel : GoodIn wsX12_leaf wsX12_isWheel := goodIn_r _ [7, 8, 9, 10, 11, 6, 12, 17, 18, 19, 20, 21, 22, 23, 24, 25, 26, 27, 28, 29, 30, 31, 32, 33, 34, 35, 36, 37, 38, 39, 40, 41, 42, 43, 44, 45, 46, 47, 48, 49, 50, 51, 52, 53, 54, 55, 56, 57, 58, 59, 60, 61, 62, 63, 64, 65, 66, 67, 68, 69, 70, 71, 72, 73, 74] (by decide +kernel) (by decide +kernel)
set_option maxRecDepth 20000 in
theorem gX12_leaf_X12_isWheel : GoodIn wsX12_leaf (wsV RX12 247 RX12 yX12_isWheel wsX12_isWheel) := goodIn_app (goodIn_of _ (by decide +kernel)) ggX12_leaf_X12_isWheel
set_option maxRecDepth 20000 in
theorem ggX12_leaf_X12_leafAt : GoodIn wsX12_leaf wsX12_leafAt := goodIn_r _ [16, 2, 1, 17, 18, 19, 20, 21, 22, 23, 24, 25, 26, 27, 28, 29, 30, 31, 32, 33, 34, 35, 36, 37, 38, 39, 40, 41, 42, 43, 44, 45, 46, 47, 48, 49, 50, 51, 52, 53, 54, 55, 56, 57, 58, 59, 60, 61, 62, 63, 64, 65, 66, 67, 68, 69, 70, 71, 72, 73, 74] (by decide +kernel) (by decide +kernel)
set_option maxRecDepth 20000 in
theorem gX12_leaf_X12_leafAt : GoodIn wsX12_leaf (wsV RX12 353 RX12 yX12_leafAt wsX12_leafAt) := goodIn_app (goodIn_of _ (by decide +kernel)) ggX12_leaf_X12_leafAt
theorem dX12_leaf_0 : decode cX12_leaf 0 = .ok (.aload_n 0, 1) := by decide +kernel
theorem dX12_leaf_1 : decode cX12_leaf 1 = .ok (.iload_n 1, 1) := by decide +kernel
theorem dX12_leaf_2 : decode cX12_leaf 2 = .ok (.iload_n 2, 1) := by decide +kernel
theorem dX12_leaf_3 : decode cX12_leaf 3 = .ok (.invokevirtual 247, 3) := by decide +kernel
theorem dX12_leaf_6 : decode cX12_leaf 6 = .ok (.ifCond .ne 5, 3) := by decide +kernel
theorem dX12_leaf_9 : decode cX12_leaf 9 = .ok (.iconst 0, 1) := by decide +kernel
theorem dX12_leaf_10 : decode cX12_leaf 10 = .ok (.ireturn, 1) := by decide +kernel
theorem dX12_leaf_11 : decode cX12_leaf 11 = .ok (.aload_n 0, 1) := by decide +kernel
theorem dX12_leaf_12 : decode cX12_leaf 12 = .ok (.iload_n 1, 1) := by decide +kernel
theorem dX12_leaf_13 : decode cX12_leaf 13 = .ok (.iload_n 2, 1) := by decide +kernel
theorem dX12_leaf_14 : decode cX12_leaf 14 = .ok (.invokevirtual 353, 3) := by decide +kernel
theorem dX12_leaf_17 : decode cX12_leaf 17 = .ok (.iconst (-1), 1) := by decide +kernel
theorem dX12_leaf_18 : decode cX12_leaf 18 = .ok (.if_icmp .eq 5, 3) := by decide +kernel
theorem dX12_leaf_21 : decode cX12_leaf 21 = .ok (.iconst (-1), 1) := by decide +kernel
theorem dX12_leaf_22 : decode cX12_leaf 22 = .ok (.ireturn, 1) := by decide +kernel
theorem dX12_leaf_23 : decode cX12_leaf 23 = .ok (.aload_n 0, 1) := by decide +kernel
theorem dX12_leaf_24 : decode cX12_leaf 24 = .ok (.getfield 102, 3) := by decide +kernel
theorem dX12_leaf_27 : decode cX12_leaf 27 = .ok (.bipush 20, 2) := by decide +kernel
theorem dX12_leaf_29 : decode cX12_leaf 29 = .ok (.iload_n 1, 1) := by decide +kernel
theorem dX12_leaf_30 : decode cX12_leaf 30 = .ok (.imul, 1) := by decide +kernel
theorem dX12_leaf_31 : decode cX12_leaf 31 = .ok (.aload_n 0, 1) := by decide +kernel
theorem dX12_leaf_32 : decode cX12_leaf 32 = .ok (.getfield 99, 3) := by decide +kernel
theorem dX12_leaf_35 : decode cX12_leaf 35 = .ok (.iload_n 1, 1) := by decide +kernel
theorem dX12_leaf_36 : decode cX12_leaf 36 = .ok (.iaload, 1) := by decide +kernel
theorem dX12_leaf_37 : decode cX12_leaf 37 = .ok (.iadd, 1) := by decide +kernel
theorem dX12_leaf_38 : decode cX12_leaf 38 = .ok (.iload_n 2, 1) := by decide +kernel
theorem dX12_leaf_39 : decode cX12_leaf 39 = .ok (.iastore, 1) := by decide +kernel
theorem dX12_leaf_40 : decode cX12_leaf 40 = .ok (.aload_n 0, 1) := by decide +kernel
theorem dX12_leaf_41 : decode cX12_leaf 41 = .ok (.getfield 99, 3) := by decide +kernel
theorem dX12_leaf_44 : decode cX12_leaf 44 = .ok (.iload_n 1, 1) := by decide +kernel
theorem dX12_leaf_45 : decode cX12_leaf 45 = .ok (.dup2, 1) := by decide +kernel
theorem dX12_leaf_46 : decode cX12_leaf 46 = .ok (.iaload, 1) := by decide +kernel
theorem dX12_leaf_47 : decode cX12_leaf 47 = .ok (.iconst 1, 1) := by decide +kernel
theorem dX12_leaf_48 : decode cX12_leaf 48 = .ok (.iadd, 1) := by decide +kernel
theorem dX12_leaf_49 : decode cX12_leaf 49 = .ok (.iastore, 1) := by decide +kernel
theorem dX12_leaf_50 : decode cX12_leaf 50 = .ok (.aload_n 0, 1) := by decide +kernel
theorem dX12_leaf_51 : decode cX12_leaf 51 = .ok (.getfield 99, 3) := by decide +kernel
theorem dX12_leaf_54 : decode cX12_leaf 54 = .ok (.iload_n 1, 1) := by decide +kernel
theorem dX12_leaf_55 : decode cX12_leaf 55 = .ok (.iaload, 1) := by decide +kernel
theorem dX12_leaf_56 : decode cX12_leaf 56 = .ok (.ireturn, 1) := by decide +kernel
set_option maxRecDepth 20000 in
theorem ggX12_order_X12_isBook : GoodIn wsX12_order wsX12_isBook := goodIn_r _ [10, 11, 12, 13, 9, 14, 1, 19, 20, 21, 22, 23, 24, 25, 26, 27, 28, 29, 30, 31, 32, 33, 34, 35, 36, 37, 38, 39, 40, 41, 42, 43, 44, 45, 46, 47, 48, 49, 50, 51, 52, 53, 54, 55, 56, 57, 58, 59, 60, 61, 62, 63, 64, 65, 66, 67, 68, 69, 70, 71, 72, 73, 74, 75, 76] (by decide +kernel) (by decide +kernel)
set_option maxRecDepth 20000 in
theorem gX12_order_X12_isBook : GoodIn wsX12_order (wsV RX12 338 RX12 yX12_isBook wsX12_isBook) := goodIn_app (goodIn_of _ (by decide +kernel)) ggX12_order_X12_isBook
set_option maxRecDepth 20000 in
theorem ggX12_order_X12_right : GoodIn wsX12_order wsX12_right := goodIn_r _ [14, 1, 19, 20, 21, 22, 23, 24, 25, 26, 27, 28, 29, 30, 31, 32, 33, 34, 35, 36, 37, 38, 39, 40, 41, 42, 43, 44, 45, 46, 47, 48, 49, 50, 51, 52, 53, 54, 55, 56, 57, 58, 59, 60, 61, 62, 63, 64, 65, 66, 67, 68, 69, 70, 71, 72, 73, 74, 75, 76] (by decide +kernel) (by decide +kernel)
set_option maxRecDepth 20000 in
theorem gX12_order_X12_right : GoodIn wsX12_order (wsV RX12 209 RX12 yX12_right wsX12_right) := goodIn_app (goodIn_of _ (by decide +kernel)) ggX12_order_X12_right
set_option maxRecDepth 20000 in
theorem ggX12_order_X12_leafAt : GoodIn wsX12_order wsX12_leafAt := goodIn_r _ [18, 2, 3, 19, 20, 21, 22, 23, 24, 25, 26, 27, 28, 29, 30, 31, 32, 33, 34, 35, 36, 37, 38, 39, 40, 41, 42, 43, 44, 45, 46, 47, 48, 49, 50, 51, 52, 53, 54, 55, 56, 57, 58, 59, 60, 61, 62, 63, 64, 65, 66, 67, 68, 69, 70, 71, 72, 73, 74, 75, 76] (by decide +kernel) (by decide +kernel)
set_option maxRecDepth 20000 in
theorem gX12_order_X12_leafAt : GoodIn wsX12_order (wsV RX12 353 RX12 yX12_leafAt wsX12_leafAt) := goodIn_app (goodIn_of _ (by decide +kernel)) ggX12_order_X12_leafAt
theorem dX12_order_0 : decode cX12_order 0 = .ok (.aload_n 0, 1) := by decide +kernel
theorem dX12_order_1 : decode cX12_order 1 = .ok (.iconst 0, 1) := by decide +kernel
theorem dX12_order_2 : decode cX12_order 2 = .ok (.putfield 129, 3) := by decide +kernel
theorem dX12_order_5 : decode cX12_order 5 = .ok (.aload_n 0, 1) := by decide +kernel
theorem dX12_order_6 : decode cX12_order 6 = .ok (.iload_n 1, 1) := by decide +kernel
theorem dX12_order_7 : decode cX12_order 7 = .ok (.invokevirtual 338, 3) := by decide +kernel
theorem dX12_order_10 : decode cX12_order 10 = .ok (.ifCond .eq 33, 3) := by decide +kernel
theorem dX12_order_13 : decode cX12_order 13 = .ok (.aload_n 0, 1) := by decide +kernel
theorem dX12_order_14 : decode cX12_order 14 = .ok (.iload_n 2, 1) := by decide +kernel
theorem dX12_order_15 : decode cX12_order 15 = .ok (.invokevirtual 338, 3) := by decide +kernel
theorem dX12_order_18 : decode cX12_order 18 = .ok (.ifCond .eq 25, 3) := by decide +kernel
theorem dX12_order_21 : decode cX12_order 21 = .ok (.aload_n 0, 1) := by decide +kernel
theorem dX12_order_22 : decode cX12_order 22 = .ok (.iload_n 3, 1) := by decide +kernel
theorem dX12_order_23 : decode cX12_order 23 = .ok (.ifCond .eq 8, 3) := by decide +kernel
theorem dX12_order_26 : decode cX12_order 26 = .ok (.iload_n 3, 1) := by decide +kernel
theorem dX12_order_27 : decode cX12_order 27 = .ok (.iconst 1, 1) := by decide +kernel
theorem dX12_order_28 : decode cX12_order 28 = .ok (.if_icmp .ne 7, 3) := by decide +kernel
theorem dX12_order_31 : decode cX12_order 31 = .ok (.iconst 1, 1) := by decide +kernel
theorem dX12_order_32 : decode cX12_order 32 = .ok (.goto 4, 3) := by decide +kernel
theorem dX12_order_35 : decode cX12_order 35 = .ok (.iconst 0, 1) := by decide +kernel
theorem dX12_order_36 : decode cX12_order 36 = .ok (.iconst 1, 1) := by decide +kernel
theorem dX12_order_37 : decode cX12_order 37 = .ok (.invokevirtual 209, 3) := by decide +kernel
theorem dX12_order_40 : decode cX12_order 40 = .ok (.ifCond .ne 5, 3) := by decide +kernel
theorem dX12_order_43 : decode cX12_order 43 = .ok (.iconst 0, 1) := by decide +kernel
theorem dX12_order_44 : decode cX12_order 44 = .ok (.ireturn, 1) := by decide +kernel
theorem dX12_order_45 : decode cX12_order 45 = .ok (.iconst 0, 1) := by decide +kernel
theorem dX12_order_46 : decode cX12_order 46 = .ok (.istore 4, 2) := by decide +kernel
theorem dX12_order_48 : decode cX12_order 48 = .ok (.iconst 0, 1) := by decide +kernel
theorem dX12_order_49 : decode cX12_order 49 = .ok (.istore 5, 2) := by decide +kernel
theorem dX12_order_51 : decode cX12_order 51 = .ok (.iload 5, 2) := by decide +kernel
theorem dX12_order_53 : decode cX12_order 53 = .ok (.aload_n 0, 1) := by decide +kernel
theorem dX12_order_54 : decode cX12_order 54 = .ok (.getfield 99, 3) := by decide +kernel
theorem dX12_order_57 : decode cX12_order 57 = .ok (.iload_n 1, 1) := by decide +kernel
theorem dX12_order_58 : decode cX12_order 58 = .ok (.iaload, 1) := by decide +kernel
theorem dX12_order_59 : decode cX12_order 59 = .ok (.if_icmp .ge 49, 3) := by decide +kernel
theorem dX12_order_62 : decode cX12_order 62 = .ok (.aload_n 0, 1) := by decide +kernel
theorem dX12_order_63 : decode cX12_order 63 = .ok (.iload_n 2, 1) := by decide +kernel
theorem dX12_order_64 : decode cX12_order 64 = .ok (.aload_n 0, 1) := by decide +kernel
theorem dX12_order_65 : decode cX12_order 65 = .ok (.getfield 102, 3) := by decide +kernel
theorem dX12_order_68 : decode cX12_order 68 = .ok (.bipush 20, 2) := by decide +kernel
theorem dX12_order_70 : decode cX12_order 70 = .ok (.iload_n 1, 1) := by decide +kernel
theorem dX12_order_71 : decode cX12_order 71 = .ok (.imul, 1) := by decide +kernel
theorem dX12_order_72 : decode cX12_order 72 = .ok (.iload 5, 2) := by decide +kernel
theorem dX12_order_74 : decode cX12_order 74 = .ok (.iadd, 1) := by decide +kernel
theorem dX12_order_75 : decode cX12_order 75 = .ok (.iaload, 1) := by decide +kernel
theorem dX12_order_76 : decode cX12_order 76 = .ok (.invokevirtual 353, 3) := by decide +kernel
theorem dX12_order_79 : decode cX12_order 79 = .ok (.istore 6, 2) := by decide +kernel
theorem dX12_order_81 : decode cX12_order 81 = .ok (.iload 6, 2) := by decide +kernel
theorem dX12_order_83 : decode cX12_order 83 = .ok (.iconst (-1), 1) := by decide +kernel
theorem dX12_order_84 : decode cX12_order 84 = .ok (.if_icmp .ne 6, 3) := by decide +kernel
theorem dX12_order_87 : decode cX12_order 87 = .ok (.goto 15, 3) := by decide +kernel
theorem dX12_order_90 : decode cX12_order 90 = .ok (.aload_n 0, 1) := by decide +kernel
theorem dX12_order_91 : decode cX12_order 91 = .ok (.getfield 105, 3) := by decide +kernel
theorem dX12_order_94 : decode cX12_order 94 = .ok (.iload 4, 2) := by decide +kernel
theorem dX12_order_96 : decode cX12_order 96 = .ok (.iload 6, 2) := by decide +kernel
theorem dX12_order_98 : decode cX12_order 98 = .ok (.iastore, 1) := by decide +kernel
theorem dX12_order_99 : decode cX12_order 99 = .ok (.iinc 4 1, 3) := by decide +kernel
theorem dX12_order_102 : decode cX12_order 102 = .ok (.iinc 5 1, 3) := by decide +kernel
theorem dX12_order_105 : decode cX12_order 105 = .ok (.goto (-54), 3) := by decide +kernel
theorem dX12_order_108 : decode cX12_order 108 = .ok (.iconst 0, 1) := by decide +kernel
theorem dX12_order_109 : decode cX12_order 109 = .ok (.istore 5, 2) := by decide +kernel
theorem dX12_order_111 : decode cX12_order 111 = .ok (.iconst 0, 1) := by decide +kernel
theorem dX12_order_112 : decode cX12_order 112 = .ok (.istore 6, 2) := by decide +kernel
theorem dX12_order_114 : decode cX12_order 114 = .ok (.iconst 0, 1) := by decide +kernel
theorem dX12_order_115 : decode cX12_order 115 = .ok (.istore 7, 2) := by decide +kernel
theorem dX12_order_117 : decode cX12_order 117 = .ok (.iload 7, 2) := by decide +kernel
theorem dX12_order_119 : decode cX12_order 119 = .ok (.iload 4, 2) := by decide +kernel
theorem dX12_order_121 : decode cX12_order 121 = .ok (.if_icmp .ge 117, 3) := by decide +kernel
theorem dX12_order_124 : decode cX12_order 124 = .ok (.aload_n 0, 1) := by decide +kernel
theorem dX12_order_125 : decode cX12_order 125 = .ok (.getfield 108, 3) := by decide +kernel
theorem dX12_order_128 : decode cX12_order 128 = .ok (.iload 7, 2) := by decide +kernel
theorem dX12_order_130 : decode cX12_order 130 = .ok (.iconst 1, 1) := by decide +kernel
theorem dX12_order_131 : decode cX12_order 131 = .ok (.iastore, 1) := by decide +kernel
theorem dX12_order_132 : decode cX12_order 132 = .ok (.iconst 0, 1) := by decide +kernel
theorem dX12_order_133 : decode cX12_order 133 = .ok (.istore 8, 2) := by decide +kernel
theorem dX12_order_135 : decode cX12_order 135 = .ok (.iload 8, 2) := by decide +kernel
theorem dX12_order_137 : decode cX12_order 137 = .ok (.iload 7, 2) := by decide +kernel
theorem dX12_order_139 : decode cX12_order 139 = .ok (.if_icmp .ge 67, 3) := by decide +kernel
theorem dX12_order_142 : decode cX12_order 142 = .ok (.aload_n 0, 1) := by decide +kernel
theorem dX12_order_143 : decode cX12_order 143 = .ok (.getfield 105, 3) := by decide +kernel
theorem dX12_order_146 : decode cX12_order 146 = .ok (.iload 8, 2) := by decide +kernel
theorem dX12_order_148 : decode cX12_order 148 = .ok (.iaload, 1) := by decide +kernel
theorem dX12_order_149 : decode cX12_order 149 = .ok (.aload_n 0, 1) := by decide +kernel
theorem dX12_order_150 : decode cX12_order 150 = .ok (.getfield 105, 3) := by decide +kernel
theorem dX12_order_153 : decode cX12_order 153 = .ok (.iload 7, 2) := by decide +kernel
theorem dX12_order_155 : decode cX12_order 155 = .ok (.iaload, 1) := by decide +kernel
theorem dX12_order_156 : decode cX12_order 156 = .ok (.if_icmp .le 9, 3) := by decide +kernel
theorem dX12_order_159 : decode cX12_order 159 = .ok (.iinc 6 1, 3) := by decide +kernel
theorem dX12_order_162 : decode cX12_order 162 = .ok (.goto 38, 3) := by decide +kernel
theorem dX12_order_165 : decode cX12_order 165 = .ok (.aload_n 0, 1) := by decide +kernel
theorem dX12_order_166 : decode cX12_order 166 = .ok (.getfield 108, 3) := by decide +kernel
theorem dX12_order_169 : decode cX12_order 169 = .ok (.iload 8, 2) := by decide +kernel
theorem dX12_order_171 : decode cX12_order 171 = .ok (.iaload, 1) := by decide +kernel
theorem dX12_order_172 : decode cX12_order 172 = .ok (.iconst 1, 1) := by decide +kernel
theorem dX12_order_173 : decode cX12_order 173 = .ok (.iadd, 1) := by decide +kernel
theorem dX12_order_174 : decode cX12_order 174 = .ok (.aload_n 0, 1) := by decide +kernel
theorem dX12_order_175 : decode cX12_order 175 = .ok (.getfield 108, 3) := by decide +kernel
theorem dX12_order_178 : decode cX12_order 178 = .ok (.iload 7, 2) := by decide +kernel
theorem dX12_order_180 : decode cX12_order 180 = .ok (.iaload, 1) := by decide +kernel
theorem dX12_order_181 : decode cX12_order 181 = .ok (.if_icmp .le 19, 3) := by decide +kernel
theorem dX12_order_184 : decode cX12_order 184 = .ok (.aload_n 0, 1) := by decide +kernel
theorem dX12_order_185 : decode cX12_order 185 = .ok (.getfield 108, 3) := by decide +kernel
theorem dX12_order_188 : decode cX12_order 188 = .ok (.iload 7, 2) := by decide +kernel
theorem dX12_order_190 : decode cX12_order 190 = .ok (.aload_n 0, 1) := by decide +kernel
theorem dX12_order_191 : decode cX12_order 191 = .ok (.getfield 108, 3) := by decide +kernel
theorem dX12_order_194 : decode cX12_order 194 = .ok (.iload 8, 2) := by decide +kernel
theorem dX12_order_196 : decode cX12_order 196 = .ok (.iaload, 1) := by decide +kernel
theorem dX12_order_197 : decode cX12_order 197 = .ok (.iconst 1, 1) := by decide +kernel
theorem dX12_order_198 : decode cX12_order 198 = .ok (.iadd, 1) := by decide +kernel
theorem dX12_order_199 : decode cX12_order 199 = .ok (.iastore, 1) := by decide +kernel
theorem dX12_order_200 : decode cX12_order 200 = .ok (.iinc 8 1, 3) := by decide +kernel
theorem dX12_order_203 : decode cX12_order 203 = .ok (.goto (-68), 3) := by decide +kernel
theorem dX12_order_206 : decode cX12_order 206 = .ok (.aload_n 0, 1) := by decide +kernel
theorem dX12_order_207 : decode cX12_order 207 = .ok (.getfield 108, 3) := by decide +kernel
theorem dX12_order_210 : decode cX12_order 210 = .ok (.iload 7, 2) := by decide +kernel
theorem dX12_order_212 : decode cX12_order 212 = .ok (.iaload, 1) := by decide +kernel
theorem dX12_order_213 : decode cX12_order 213 = .ok (.iload 5, 2) := by decide +kernel
theorem dX12_order_215 : decode cX12_order 215 = .ok (.if_icmp .le 13, 3) := by decide +kernel
theorem dX12_order_218 : decode cX12_order 218 = .ok (.aload_n 0, 1) := by decide +kernel
theorem dX12_order_219 : decode cX12_order 219 = .ok (.getfield 108, 3) := by decide +kernel
theorem dX12_order_222 : decode cX12_order 222 = .ok (.iload 7, 2) := by decide +kernel
theorem dX12_order_224 : decode cX12_order 224 = .ok (.iaload, 1) := by decide +kernel
theorem dX12_order_225 : decode cX12_order 225 = .ok (.goto 5, 3) := by decide +kernel
theorem dX12_order_228 : decode cX12_order 228 = .ok (.iload 5, 2) := by decide +kernel
theorem dX12_order_230 : decode cX12_order 230 = .ok (.istore 5, 2) := by decide +kernel
theorem dX12_order_232 : decode cX12_order 232 = .ok (.iinc 7 1, 3) := by decide +kernel
theorem dX12_order_235 : decode cX12_order 235 = .ok (.goto (-118), 3) := by decide +kernel
theorem dX12_order_238 : decode cX12_order 238 = .ok (.iload_n 3, 1) := by decide +kernel
theorem dX12_order_239 : decode cX12_order 239 = .ok (.ifCond .ne 8, 3) := by decide +kernel
theorem dX12_order_242 : decode cX12_order 242 = .ok (.iload 5, 2) := by decide +kernel
theorem dX12_order_244 : decode cX12_order 244 = .ok (.goto 5, 3) := by decide +kernel
theorem dX12_order_247 : decode cX12_order 247 = .ok (.iload 6, 2) := by decide +kernel
theorem dX12_order_249 : decode cX12_order 249 = .ok (.ireturn, 1) := by decide +kernel
set_option maxRecDepth 20000 in
theorem ggX12_areSame_X12_at : GoodIn wsX12_areSame wsX12_at := goodIn_r _ [5, 6, 22, 23, 24, 25, 26, 27, 28, 29, 30, 31, 32, 33, 34, 35, 36, 37, 38, 39, 40, 41, 42, 43, 44, 45, 46, 47, 48, 49, 50, 51, 52, 53, 54, 55, 56, 57, 58, 59, 60, 61, 62, 63, 64, 65, 66, 67, 68, 69, 70, 71, 72, 73, 74, 75, 76, 77, 78, 79] (by decide +kernel) (by decide +kernel)
set_option maxRecDepth 20000 in
theorem gX12_areSame_X12_at : GoodIn wsX12_areSame (wsV RX12 254 RX12 yX12_at wsX12_at) := goodIn_app (goodIn_of _ (by decide +kernel)) ggX12_areSame_X12_at
set_option maxRecDepth 20000 in
theorem ggX12_areSame_X12_costOf : GoodIn wsX12_areSame wsX12_costOf := goodIn_r _ [10, 11, 12, 13, 4, 14, 15, 16, 17, 18, 19, 20, 21, 22, 23, 24, 25, 26, 27, 28, 29, 30, 31, 32, 33, 34, 35, 36, 37, 38, 39, 40, 41, 42, 43, 44, 45, 46, 47, 48, 49, 50, 51, 52, 53, 54, 55, 56, 57, 58, 59, 60, 61, 62, 63, 64, 65, 66, 67, 68, 69, 70, 71, 72, 73, 74, 75, 76, 77, 78, 79] (by decide +kernel) (by decide +kernel)
set_option maxRecDepth 20000 in
theorem gX12_areSame_X12_costOf : GoodIn wsX12_areSame (wsV RX12 283 RX12 yX12_costOf wsX12_costOf) := goodIn_app (goodIn_of _ (by decide +kernel)) ggX12_areSame_X12_costOf
theorem dX12_areSame_0 : decode cX12_areSame 0 = .ok (.iconst 0, 1) := by decide +kernel
theorem dX12_areSame_1 : decode cX12_areSame 1 = .ok (.istore 4, 2) := by decide +kernel
theorem dX12_areSame_3 : decode cX12_areSame 3 = .ok (.iconst 0, 1) := by decide +kernel
theorem dX12_areSame_4 : decode cX12_areSame 4 = .ok (.istore 5, 2) := by decide +kernel
theorem dX12_areSame_6 : decode cX12_areSame 6 = .ok (.iload 5, 2) := by decide +kernel
theorem dX12_areSame_8 : decode cX12_areSame 8 = .ok (.bipush 7, 2) := by decide +kernel
theorem dX12_areSame_10 : decode cX12_areSame 10 = .ok (.if_icmp .ge 71, 3) := by decide +kernel
theorem dX12_areSame_13 : decode cX12_areSame 13 = .ok (.aload_n 0, 1) := by decide +kernel
theorem dX12_areSame_14 : decode cX12_areSame 14 = .ok (.iload_n 1, 1) := by decide +kernel
theorem dX12_areSame_15 : decode cX12_areSame 15 = .ok (.iload 5, 2) := by decide +kernel
theorem dX12_areSame_17 : decode cX12_areSame 17 = .ok (.invokevirtual 254, 3) := by decide +kernel
theorem dX12_areSame_20 : decode cX12_areSame 20 = .ok (.istore 6, 2) := by decide +kernel
theorem dX12_areSame_22 : decode cX12_areSame 22 = .ok (.aload_n 0, 1) := by decide +kernel
theorem dX12_areSame_23 : decode cX12_areSame 23 = .ok (.iload_n 2, 1) := by decide +kernel
theorem dX12_areSame_24 : decode cX12_areSame 24 = .ok (.iload 5, 2) := by decide +kernel
theorem dX12_areSame_26 : decode cX12_areSame 26 = .ok (.invokevirtual 254, 3) := by decide +kernel
theorem dX12_areSame_29 : decode cX12_areSame 29 = .ok (.istore 7, 2) := by decide +kernel
theorem dX12_areSame_31 : decode cX12_areSame 31 = .ok (.iload 6, 2) := by decide +kernel
theorem dX12_areSame_33 : decode cX12_areSame 33 = .ok (.iconst (-1), 1) := by decide +kernel
theorem dX12_areSame_34 : decode cX12_areSame 34 = .ok (.if_icmp .eq 41, 3) := by decide +kernel
theorem dX12_areSame_37 : decode cX12_areSame 37 = .ok (.iload 7, 2) := by decide +kernel
theorem dX12_areSame_39 : decode cX12_areSame 39 = .ok (.iconst (-1), 1) := by decide +kernel
theorem dX12_areSame_40 : decode cX12_areSame 40 = .ok (.if_icmp .ne 6, 3) := by decide +kernel
theorem dX12_areSame_43 : decode cX12_areSame 43 = .ok (.goto 32, 3) := by decide +kernel
theorem dX12_areSame_46 : decode cX12_areSame 46 = .ok (.aload_n 0, 1) := by decide +kernel
theorem dX12_areSame_47 : decode cX12_areSame 47 = .ok (.iload 6, 2) := by decide +kernel
theorem dX12_areSame_49 : decode cX12_areSame 49 = .ok (.iload 7, 2) := by decide +kernel
theorem dX12_areSame_51 : decode cX12_areSame 51 = .ok (.invokevirtual 283, 3) := by decide +kernel
theorem dX12_areSame_54 : decode cX12_areSame 54 = .ok (.iconst 1, 1) := by decide +kernel
theorem dX12_areSame_55 : decode cX12_areSame 55 = .ok (.if_icmp .le 17, 3) := by decide +kernel
theorem dX12_areSame_58 : decode cX12_areSame 58 = .ok (.aload_n 0, 1) := by decide +kernel
theorem dX12_areSame_59 : decode cX12_areSame 59 = .ok (.iload 7, 2) := by decide +kernel
theorem dX12_areSame_61 : decode cX12_areSame 61 = .ok (.iload 6, 2) := by decide +kernel
theorem dX12_areSame_63 : decode cX12_areSame 63 = .ok (.invokevirtual 283, 3) := by decide +kernel
theorem dX12_areSame_66 : decode cX12_areSame 66 = .ok (.iconst 1, 1) := by decide +kernel
theorem dX12_areSame_67 : decode cX12_areSame 67 = .ok (.if_icmp .le 5, 3) := by decide +kernel
theorem dX12_areSame_70 : decode cX12_areSame 70 = .ok (.iconst 0, 1) := by decide +kernel
theorem dX12_areSame_71 : decode cX12_areSame 71 = .ok (.ireturn, 1) := by decide +kernel
theorem dX12_areSame_72 : decode cX12_areSame 72 = .ok (.iinc 4 1, 3) := by decide +kernel
theorem dX12_areSame_75 : decode cX12_areSame 75 = .ok (.iinc 5 1, 3) := by decide +kernel
theorem dX12_areSame_78 : decode cX12_areSame 78 = .ok (.goto (-72), 3) := by decide +kernel
theorem dX12_areSame_81 : decode cX12_areSame 81 = .ok (.iload 4, 2) := by decide +kernel
theorem dX12_areSame_83 : decode cX12_areSame 83 = .ok (.iload_n 3, 1) := by decide +kernel
theorem dX12_areSame_84 : decode cX12_areSame 84 = .ok (.if_icmp .lt 7, 3) := by decide +kernel
theorem dX12_areSame_87 : decode cX12_areSame 87 = .ok (.iconst 1, 1) := by decide +kernel
theorem dX12_areSame_88 : decode cX12_areSame 88 = .ok (.goto 4, 3) := by decide +kernel
theorem dX12_areSame_91 : decode cX12_areSame 91 = .ok (.iconst 0, 1) := by decide +kernel
theorem dX12_areSame_92 : decode cX12_areSame 92 = .ok (.ireturn, 1) := by decide +kernel
set_option maxRecDepth 20000 in
theorem ggX12_isNumber_X12_right : GoodIn wsX12_isNumber wsX12_right := goodIn_r _ [5, 6, 7, 8, 9, 10, 11, 12, 13, 14, 15, 16, 17, 18, 19, 20, 21, 22, 23, 24, 25, 26, 27, 28, 29, 30, 31, 32, 33, 34, 35, 36, 37, 38, 39, 40, 41, 42, 43, 44, 45, 46, 47, 48, 49, 50, 51, 52, 53, 54, 55, 56, 57, 58, 59, 60, 61, 62, 63, 64] (by decide +kernel) (by decide +kernel)
set_option maxRecDepth 20000 in
theorem gX12_isNumber_X12_right : GoodIn wsX12_isNumber (wsV RX12 209 RX12 yX12_right wsX12_right) := goodIn_app (goodIn_of _ (by decide +kernel)) ggX12_isNumber_X12_right
theorem dX12_isNumber_0 : decode cX12_isNumber 0 = .ok (.aload_n 0, 1) := by decide +kernel
theorem dX12_isNumber_1 : decode cX12_isNumber 1 = .ok (.iload_n 1, 1) := by decide +kernel
theorem dX12_isNumber_2 : decode cX12_isNumber 2 = .ok (.ifCond .lt 13, 3) := by decide +kernel
theorem dX12_isNumber_5 : decode cX12_isNumber 5 = .ok (.iload_n 1, 1) := by decide +kernel
theorem dX12_isNumber_6 : decode cX12_isNumber 6 = .ok (.bipush 120, 2) := by decide +kernel
theorem dX12_isNumber_8 : decode cX12_isNumber 8 = .ok (.if_icmp .ge 7, 3) := by decide +kernel
theorem dX12_isNumber_11 : decode cX12_isNumber 11 = .ok (.iconst 1, 1) := by decide +kernel
theorem dX12_isNumber_12 : decode cX12_isNumber 12 = .ok (.goto 4, 3) := by decide +kernel
theorem dX12_isNumber_15 : decode cX12_isNumber 15 = .ok (.iconst 0, 1) := by decide +kernel
theorem dX12_isNumber_16 : decode cX12_isNumber 16 = .ok (.iconst 1, 1) := by decide +kernel
theorem dX12_isNumber_17 : decode cX12_isNumber 17 = .ok (.invokevirtual 209, 3) := by decide +kernel
theorem dX12_isNumber_20 : decode cX12_isNumber 20 = .ok (.ireturn, 1) := by decide +kernel
set_option maxRecDepth 20000 in
theorem ggX12_same_X12_within : GoodIn wsX12_same wsX12_within := goodIn_r _ [5] (by decide +kernel) (by decide +kernel)
set_option maxRecDepth 20000 in
theorem gX12_same_X12_within : GoodIn wsX12_same (va_wsS RX12 270 yX12_within wsX12_within) := goodIn_app (goodIn_of _ (by decide +kernel)) ggX12_same_X12_within
set_option maxRecDepth 20000 in
theorem ggX12_same_X12_right : GoodIn wsX12_same wsX12_right := goodIn_r _ [9, 1, 38, 39, 40, 41, 42, 43, 44, 45, 46, 47, 48, 49, 50, 51, 52, 53, 54, 55, 56, 57, 58, 59, 60, 61, 62, 63, 64, 65, 66, 67, 68, 69, 70, 71, 72, 73, 74, 75, 76, 77, 78, 79, 80, 81, 82, 83, 84, 85, 86, 87, 88, 89, 90, 91, 92, 93, 94, 95] (by decide +kernel) (by decide +kernel)
set_option maxRecDepth 20000 in
theorem gX12_same_X12_right : GoodIn wsX12_same (wsV RX12 209 RX12 yX12_right wsX12_right) := goodIn_app (goodIn_of _ (by decide +kernel)) ggX12_same_X12_right
set_option maxRecDepth 20000 in
theorem ggX12_same_X12_isNumber : GoodIn wsX12_same wsX12_isNumber := goodIn_r _ [13, 6, 7, 8, 4, 9, 1, 38, 39, 40, 41, 42, 43, 44, 45, 46, 47, 48, 49, 50, 51, 52, 53, 54, 55, 56, 57, 58, 59, 60, 61, 62, 63, 64, 65, 66, 67, 68, 69, 70, 71, 72, 73, 74, 75, 76, 77, 78, 79, 80, 81, 82, 83, 84, 85, 86, 87, 88, 89, 90, 91, 92, 93, 94, 95] (by decide +kernel) (by decide +kernel)
set_option maxRecDepth 20000 in
theorem gX12_same_X12_isNumber : GoodIn wsX12_same (wsV RX12 356 RX12 yX12_isNumber wsX12_isNumber) := goodIn_app (goodIn_of _ (by decide +kernel)) ggX12_same_X12_isNumber
set_option maxRecDepth 20000 in
theorem ggX12_same_X12_areSame : GoodIn wsX12_same wsX12_areSame := goodIn_r _ [17, 18, 19, 20, 4, 21, 22, 23, 24, 25, 26, 27, 28, 29, 30, 31, 32, 33, 34, 35, 36, 37, 38, 39, 40, 41, 42, 43, 44, 45, 46, 47, 48, 49, 50, 51, 52, 53, 54, 55, 56, 57, 58, 59, 60, 61, 62, 63, 64, 65, 66, 67, 68, 69, 70, 71, 72, 73, 74, 75, 76, 77, 78, 79, 80, 81, 82, 83, 84, 85, 86, 87, 88, 89, 90, 91, 92, 93, 94, 95] (by decide +kernel) (by decide +kernel)
set_option maxRecDepth 20000 in
theorem gX12_same_X12_areSame : GoodIn wsX12_same (wsV RX12 359 RX12 yX12_areSame wsX12_areSame) := goodIn_app (goodIn_of _ (by decide +kernel)) ggX12_same_X12_areSame
theorem dX12_same_0 : decode cX12_same 0 = .ok (.aload_n 0, 1) := by decide +kernel
theorem dX12_same_1 : decode cX12_same 1 = .ok (.iconst 0, 1) := by decide +kernel
theorem dX12_same_2 : decode cX12_same 2 = .ok (.putfield 129, 3) := by decide +kernel
theorem dX12_same_5 : decode cX12_same 5 = .ok (.aload_n 0, 1) := by decide +kernel
theorem dX12_same_6 : decode cX12_same 6 = .ok (.iload_n 3, 1) := by decide +kernel
theorem dX12_same_7 : decode cX12_same 7 = .ok (.iconst 1, 1) := by decide +kernel
theorem dX12_same_8 : decode cX12_same 8 = .ok (.bipush 7, 2) := by decide +kernel
theorem dX12_same_10 : decode cX12_same 10 = .ok (.invokestatic 270, 3) := by decide +kernel
theorem dX12_same_13 : decode cX12_same 13 = .ok (.iconst 1, 1) := by decide +kernel
theorem dX12_same_14 : decode cX12_same 14 = .ok (.invokevirtual 209, 3) := by decide +kernel
theorem dX12_same_17 : decode cX12_same 17 = .ok (.ifCond .eq 19, 3) := by decide +kernel
theorem dX12_same_20 : decode cX12_same 20 = .ok (.aload_n 0, 1) := by decide +kernel
theorem dX12_same_21 : decode cX12_same 21 = .ok (.iload_n 1, 1) := by decide +kernel
theorem dX12_same_22 : decode cX12_same 22 = .ok (.invokevirtual 356, 3) := by decide +kernel
theorem dX12_same_25 : decode cX12_same 25 = .ok (.ifCond .eq 11, 3) := by decide +kernel
theorem dX12_same_28 : decode cX12_same 28 = .ok (.aload_n 0, 1) := by decide +kernel
theorem dX12_same_29 : decode cX12_same 29 = .ok (.iload_n 2, 1) := by decide +kernel
theorem dX12_same_30 : decode cX12_same 30 = .ok (.invokevirtual 356, 3) := by decide +kernel
theorem dX12_same_33 : decode cX12_same 33 = .ok (.ifCond .ne 5, 3) := by decide +kernel
theorem dX12_same_36 : decode cX12_same 36 = .ok (.iconst 0, 1) := by decide +kernel
theorem dX12_same_37 : decode cX12_same 37 = .ok (.ireturn, 1) := by decide +kernel
theorem dX12_same_38 : decode cX12_same 38 = .ok (.aload_n 0, 1) := by decide +kernel
theorem dX12_same_39 : decode cX12_same 39 = .ok (.iload_n 1, 1) := by decide +kernel
theorem dX12_same_40 : decode cX12_same 40 = .ok (.iload_n 2, 1) := by decide +kernel
theorem dX12_same_41 : decode cX12_same 41 = .ok (.iload_n 3, 1) := by decide +kernel
theorem dX12_same_42 : decode cX12_same 42 = .ok (.invokevirtual 359, 3) := by decide +kernel
theorem dX12_same_45 : decode cX12_same 45 = .ok (.ireturn, 1) := by decide +kernel
set_option maxRecDepth 20000 in
theorem ggX12_births_X12_within : GoodIn wsX12_births wsX12_within := goodIn_r _ [6] (by decide +kernel) (by decide +kernel)
set_option maxRecDepth 20000 in
theorem gX12_births_X12_within : GoodIn wsX12_births (va_wsS RX12 270 yX12_within wsX12_within) := goodIn_app (goodIn_of _ (by decide +kernel)) ggX12_births_X12_within
set_option maxRecDepth 20000 in
theorem ggX12_births_X12_right : GoodIn wsX12_births wsX12_right := goodIn_r _ [10, 1, 39, 40, 41, 42, 43, 44, 45, 46, 47, 48, 49, 50, 51, 52, 53, 54, 55, 56, 57, 58, 59, 60, 61, 62, 63, 64, 65, 66, 67, 68, 69, 70, 71, 72, 73, 74, 75, 76, 77, 78, 79, 80, 81, 82, 83, 84, 85, 86, 87, 88, 89, 90, 91, 92, 93, 94, 95, 96] (by decide +kernel) (by decide +kernel)
set_option maxRecDepth 20000 in
theorem gX12_births_X12_right : GoodIn wsX12_births (wsV RX12 209 RX12 yX12_right wsX12_right) := goodIn_app (goodIn_of _ (by decide +kernel)) ggX12_births_X12_right
set_option maxRecDepth 20000 in
theorem ggX12_births_X12_areSame : GoodIn wsX12_births wsX12_areSame := goodIn_r _ [14, 15, 16, 17, 5, 18, 19, 20, 21, 22, 23, 24, 25, 26, 27, 28, 29, 30, 31, 32, 33, 34, 39, 40, 41, 42, 43, 44, 45, 46, 47, 48, 49, 50, 51, 52, 53, 54, 55, 56, 57, 58, 59, 60, 61, 62, 63, 64, 65, 66, 67, 68, 69, 70, 71, 72, 73, 74, 75, 76, 77, 78, 79, 80, 81, 82, 83, 84, 85, 86, 87, 88, 89, 90, 91, 92, 93, 94, 95, 96] (by decide +kernel) (by decide +kernel)
set_option maxRecDepth 20000 in
theorem gX12_births_X12_areSame : GoodIn wsX12_births (wsV RX12 359 RX12 yX12_areSame wsX12_areSame) := goodIn_app (goodIn_of _ (by decide +kernel)) ggX12_births_X12_areSame
set_option maxRecDepth 20000 in
theorem ggX12_births_X12_tells : GoodIn wsX12_births wsX12_tells := goodIn_r _ [38, 15, 16, 17, 5, 18, 19, 39, 40, 41, 42, 43, 44, 45, 46, 47, 48, 49, 50, 51, 52, 53, 54, 55, 56, 57, 58, 59, 60, 61, 62, 63, 64, 65, 66, 67, 68, 69, 70, 71, 72, 73, 74, 75, 76, 77, 78, 79, 80, 81, 82, 83, 84, 85, 86, 87, 88, 89, 90, 91, 92, 93, 94, 95, 96] (by decide +kernel) (by decide +kernel)
set_option maxRecDepth 20000 in
theorem gX12_births_X12_tells : GoodIn wsX12_births (wsV RX12 257 RX12 yX12_tells wsX12_tells) := goodIn_app (goodIn_of _ (by decide +kernel)) ggX12_births_X12_tells
theorem dX12_births_0 : decode cX12_births 0 = .ok (.aload_n 0, 1) := by decide +kernel
theorem dX12_births_1 : decode cX12_births 1 = .ok (.iconst 0, 1) := by decide +kernel
theorem dX12_births_2 : decode cX12_births 2 = .ok (.putfield 129, 3) := by decide +kernel
theorem dX12_births_5 : decode cX12_births 5 = .ok (.aload_n 0, 1) := by decide +kernel
theorem dX12_births_6 : decode cX12_births 6 = .ok (.iload_n 2, 1) := by decide +kernel
theorem dX12_births_7 : decode cX12_births 7 = .ok (.iconst 1, 1) := by decide +kernel
theorem dX12_births_8 : decode cX12_births 8 = .ok (.bipush 7, 2) := by decide +kernel
theorem dX12_births_10 : decode cX12_births 10 = .ok (.invokestatic 270, 3) := by decide +kernel
theorem dX12_births_13 : decode cX12_births 13 = .ok (.ifCond .eq 18, 3) := by decide +kernel
theorem dX12_births_16 : decode cX12_births 16 = .ok (.iload_n 1, 1) := by decide +kernel
theorem dX12_births_17 : decode cX12_births 17 = .ok (.iconst (-1), 1) := by decide +kernel
theorem dX12_births_18 : decode cX12_births 18 = .ok (.if_icmp .lt 13, 3) := by decide +kernel
theorem dX12_births_21 : decode cX12_births 21 = .ok (.iload_n 1, 1) := by decide +kernel
theorem dX12_births_22 : decode cX12_births 22 = .ok (.bipush 120, 2) := by decide +kernel
theorem dX12_births_24 : decode cX12_births 24 = .ok (.if_icmp .ge 7, 3) := by decide +kernel
theorem dX12_births_27 : decode cX12_births 27 = .ok (.iconst 1, 1) := by decide +kernel
theorem dX12_births_28 : decode cX12_births 28 = .ok (.goto 4, 3) := by decide +kernel
theorem dX12_births_31 : decode cX12_births 31 = .ok (.iconst 0, 1) := by decide +kernel
theorem dX12_births_32 : decode cX12_births 32 = .ok (.iconst 1, 1) := by decide +kernel
theorem dX12_births_33 : decode cX12_births 33 = .ok (.invokevirtual 209, 3) := by decide +kernel
theorem dX12_births_36 : decode cX12_births 36 = .ok (.ifCond .ne 5, 3) := by decide +kernel
theorem dX12_births_39 : decode cX12_births 39 = .ok (.iconst 0, 1) := by decide +kernel
theorem dX12_births_40 : decode cX12_births 40 = .ok (.ireturn, 1) := by decide +kernel
theorem dX12_births_41 : decode cX12_births 41 = .ok (.iconst 0, 1) := by decide +kernel
theorem dX12_births_42 : decode cX12_births 42 = .ok (.istore_n 3, 1) := by decide +kernel
theorem dX12_births_43 : decode cX12_births 43 = .ok (.iload_n 3, 1) := by decide +kernel
theorem dX12_births_44 : decode cX12_births 44 = .ok (.bipush 120, 2) := by decide +kernel
theorem dX12_births_46 : decode cX12_births 46 = .ok (.if_icmp .ge 16, 3) := by decide +kernel
theorem dX12_births_49 : decode cX12_births 49 = .ok (.aload_n 0, 1) := by decide +kernel
theorem dX12_births_50 : decode cX12_births 50 = .ok (.getfield 111, 3) := by decide +kernel
theorem dX12_births_53 : decode cX12_births 53 = .ok (.iload_n 3, 1) := by decide +kernel
theorem dX12_births_54 : decode cX12_births 54 = .ok (.iload_n 3, 1) := by decide +kernel
theorem dX12_births_55 : decode cX12_births 55 = .ok (.iastore, 1) := by decide +kernel
theorem dX12_births_56 : decode cX12_births 56 = .ok (.iinc 3 1, 3) := by decide +kernel
theorem dX12_births_59 : decode cX12_births 59 = .ok (.goto (-16), 3) := by decide +kernel
theorem dX12_births_62 : decode cX12_births 62 = .ok (.iconst 1, 1) := by decide +kernel
theorem dX12_births_63 : decode cX12_births 63 = .ok (.istore_n 3, 1) := by decide +kernel
theorem dX12_births_64 : decode cX12_births 64 = .ok (.iload_n 3, 1) := by decide +kernel
theorem dX12_births_65 : decode cX12_births 65 = .ok (.ifCond .eq 128, 3) := by decide +kernel
theorem dX12_births_68 : decode cX12_births 68 = .ok (.iconst 0, 1) := by decide +kernel
theorem dX12_births_69 : decode cX12_births 69 = .ok (.istore_n 3, 1) := by decide +kernel
theorem dX12_births_70 : decode cX12_births 70 = .ok (.iconst 0, 1) := by decide +kernel
theorem dX12_births_71 : decode cX12_births 71 = .ok (.istore 4, 2) := by decide +kernel
theorem dX12_births_73 : decode cX12_births 73 = .ok (.iload 4, 2) := by decide +kernel
theorem dX12_births_75 : decode cX12_births 75 = .ok (.bipush 120, 2) := by decide +kernel
theorem dX12_births_77 : decode cX12_births 77 = .ok (.if_icmp .ge 113, 3) := by decide +kernel
theorem dX12_births_80 : decode cX12_births 80 = .ok (.iconst 0, 1) := by decide +kernel
theorem dX12_births_81 : decode cX12_births 81 = .ok (.istore 5, 2) := by decide +kernel
theorem dX12_births_83 : decode cX12_births 83 = .ok (.iload 5, 2) := by decide +kernel
theorem dX12_births_85 : decode cX12_births 85 = .ok (.iload 4, 2) := by decide +kernel
theorem dX12_births_87 : decode cX12_births 87 = .ok (.if_icmp .ge 97, 3) := by decide +kernel
theorem dX12_births_90 : decode cX12_births 90 = .ok (.aload_n 0, 1) := by decide +kernel
theorem dX12_births_91 : decode cX12_births 91 = .ok (.getfield 111, 3) := by decide +kernel
theorem dX12_births_94 : decode cX12_births 94 = .ok (.iload 4, 2) := by decide +kernel
theorem dX12_births_96 : decode cX12_births 96 = .ok (.iaload, 1) := by decide +kernel
theorem dX12_births_97 : decode cX12_births 97 = .ok (.aload_n 0, 1) := by decide +kernel
theorem dX12_births_98 : decode cX12_births 98 = .ok (.getfield 111, 3) := by decide +kernel
theorem dX12_births_101 : decode cX12_births 101 = .ok (.iload 5, 2) := by decide +kernel
theorem dX12_births_103 : decode cX12_births 103 = .ok (.iaload, 1) := by decide +kernel
theorem dX12_births_104 : decode cX12_births 104 = .ok (.if_icmp .eq 74, 3) := by decide +kernel
theorem dX12_births_107 : decode cX12_births 107 = .ok (.aload_n 0, 1) := by decide +kernel
theorem dX12_births_108 : decode cX12_births 108 = .ok (.iload 4, 2) := by decide +kernel
theorem dX12_births_110 : decode cX12_births 110 = .ok (.iload 5, 2) := by decide +kernel
theorem dX12_births_112 : decode cX12_births 112 = .ok (.iload_n 2, 1) := by decide +kernel
theorem dX12_births_113 : decode cX12_births 113 = .ok (.invokevirtual 359, 3) := by decide +kernel
theorem dX12_births_116 : decode cX12_births 116 = .ok (.ifCond .ne 6, 3) := by decide +kernel
theorem dX12_births_119 : decode cX12_births 119 = .ok (.goto 59, 3) := by decide +kernel
theorem dX12_births_122 : decode cX12_births 122 = .ok (.aload_n 0, 1) := by decide +kernel
theorem dX12_births_123 : decode cX12_births 123 = .ok (.getfield 111, 3) := by decide +kernel
theorem dX12_births_126 : decode cX12_births 126 = .ok (.iload 4, 2) := by decide +kernel
theorem dX12_births_128 : decode cX12_births 128 = .ok (.iaload, 1) := by decide +kernel
theorem dX12_births_129 : decode cX12_births 129 = .ok (.aload_n 0, 1) := by decide +kernel
theorem dX12_births_130 : decode cX12_births 130 = .ok (.getfield 111, 3) := by decide +kernel
theorem dX12_births_133 : decode cX12_births 133 = .ok (.iload 5, 2) := by decide +kernel
theorem dX12_births_135 : decode cX12_births 135 = .ok (.iaload, 1) := by decide +kernel
theorem dX12_births_136 : decode cX12_births 136 = .ok (.if_icmp .ge 13, 3) := by decide +kernel
theorem dX12_births_139 : decode cX12_births 139 = .ok (.aload_n 0, 1) := by decide +kernel
theorem dX12_births_140 : decode cX12_births 140 = .ok (.getfield 111, 3) := by decide +kernel
theorem dX12_births_143 : decode cX12_births 143 = .ok (.iload 4, 2) := by decide +kernel
theorem dX12_births_145 : decode cX12_births 145 = .ok (.iaload, 1) := by decide +kernel
theorem dX12_births_146 : decode cX12_births 146 = .ok (.goto 10, 3) := by decide +kernel
theorem dX12_births_149 : decode cX12_births 149 = .ok (.aload_n 0, 1) := by decide +kernel
theorem dX12_births_150 : decode cX12_births 150 = .ok (.getfield 111, 3) := by decide +kernel
theorem dX12_births_153 : decode cX12_births 153 = .ok (.iload 5, 2) := by decide +kernel
theorem dX12_births_155 : decode cX12_births 155 = .ok (.iaload, 1) := by decide +kernel
theorem dX12_births_156 : decode cX12_births 156 = .ok (.istore 6, 2) := by decide +kernel
theorem dX12_births_158 : decode cX12_births 158 = .ok (.aload_n 0, 1) := by decide +kernel
theorem dX12_births_159 : decode cX12_births 159 = .ok (.getfield 111, 3) := by decide +kernel
theorem dX12_births_162 : decode cX12_births 162 = .ok (.iload 4, 2) := by decide +kernel
theorem dX12_births_164 : decode cX12_births 164 = .ok (.iload 6, 2) := by decide +kernel
theorem dX12_births_166 : decode cX12_births 166 = .ok (.iastore, 1) := by decide +kernel
theorem dX12_births_167 : decode cX12_births 167 = .ok (.aload_n 0, 1) := by decide +kernel
theorem dX12_births_168 : decode cX12_births 168 = .ok (.getfield 111, 3) := by decide +kernel
theorem dX12_births_171 : decode cX12_births 171 = .ok (.iload 5, 2) := by decide +kernel
theorem dX12_births_173 : decode cX12_births 173 = .ok (.iload 6, 2) := by decide +kernel
theorem dX12_births_175 : decode cX12_births 175 = .ok (.iastore, 1) := by decide +kernel
theorem dX12_births_176 : decode cX12_births 176 = .ok (.iconst 1, 1) := by decide +kernel
theorem dX12_births_177 : decode cX12_births 177 = .ok (.istore_n 3, 1) := by decide +kernel
theorem dX12_births_178 : decode cX12_births 178 = .ok (.iinc 5 1, 3) := by decide +kernel
theorem dX12_births_181 : decode cX12_births 181 = .ok (.goto (-98), 3) := by decide +kernel
theorem dX12_births_184 : decode cX12_births 184 = .ok (.iinc 4 1, 3) := by decide +kernel
theorem dX12_births_187 : decode cX12_births 187 = .ok (.goto (-114), 3) := by decide +kernel
theorem dX12_births_190 : decode cX12_births 190 = .ok (.goto (-126), 3) := by decide +kernel
theorem dX12_births_193 : decode cX12_births 193 = .ok (.iload_n 1, 1) := by decide +kernel
theorem dX12_births_194 : decode cX12_births 194 = .ok (.iconst (-1), 1) := by decide +kernel
theorem dX12_births_195 : decode cX12_births 195 = .ok (.if_icmp .eq 10, 3) := by decide +kernel
theorem dX12_births_198 : decode cX12_births 198 = .ok (.aload_n 0, 1) := by decide +kernel
theorem dX12_births_199 : decode cX12_births 199 = .ok (.getfield 111, 3) := by decide +kernel
theorem dX12_births_202 : decode cX12_births 202 = .ok (.iload_n 1, 1) := by decide +kernel
theorem dX12_births_203 : decode cX12_births 203 = .ok (.iaload, 1) := by decide +kernel
theorem dX12_births_204 : decode cX12_births 204 = .ok (.ireturn, 1) := by decide +kernel
theorem dX12_births_205 : decode cX12_births 205 = .ok (.iconst 0, 1) := by decide +kernel
theorem dX12_births_206 : decode cX12_births 206 = .ok (.istore 4, 2) := by decide +kernel
theorem dX12_births_208 : decode cX12_births 208 = .ok (.iconst 0, 1) := by decide +kernel
theorem dX12_births_209 : decode cX12_births 209 = .ok (.istore 5, 2) := by decide +kernel
theorem dX12_births_211 : decode cX12_births 211 = .ok (.iload 5, 2) := by decide +kernel
theorem dX12_births_213 : decode cX12_births 213 = .ok (.bipush 120, 2) := by decide +kernel
theorem dX12_births_215 : decode cX12_births 215 = .ok (.if_icmp .ge 40, 3) := by decide +kernel
theorem dX12_births_218 : decode cX12_births 218 = .ok (.iload 4, 2) := by decide +kernel
theorem dX12_births_220 : decode cX12_births 220 = .ok (.aload_n 0, 1) := by decide +kernel
theorem dX12_births_221 : decode cX12_births 221 = .ok (.getfield 111, 3) := by decide +kernel
theorem dX12_births_224 : decode cX12_births 224 = .ok (.iload 5, 2) := by decide +kernel
theorem dX12_births_226 : decode cX12_births 226 = .ok (.iaload, 1) := by decide +kernel
theorem dX12_births_227 : decode cX12_births 227 = .ok (.iload 5, 2) := by decide +kernel
theorem dX12_births_229 : decode cX12_births 229 = .ok (.if_icmp .ne 16, 3) := by decide +kernel
theorem dX12_births_232 : decode cX12_births 232 = .ok (.aload_n 0, 1) := by decide +kernel
theorem dX12_births_233 : decode cX12_births 233 = .ok (.iload 5, 2) := by decide +kernel
theorem dX12_births_235 : decode cX12_births 235 = .ok (.invokevirtual 257, 3) := by decide +kernel
theorem dX12_births_238 : decode cX12_births 238 = .ok (.ifCond .eq 7, 3) := by decide +kernel
theorem dX12_births_241 : decode cX12_births 241 = .ok (.iconst 1, 1) := by decide +kernel
theorem dX12_births_242 : decode cX12_births 242 = .ok (.goto 4, 3) := by decide +kernel
theorem dX12_births_245 : decode cX12_births 245 = .ok (.iconst 0, 1) := by decide +kernel
theorem dX12_births_246 : decode cX12_births 246 = .ok (.iadd, 1) := by decide +kernel
theorem dX12_births_247 : decode cX12_births 247 = .ok (.istore 4, 2) := by decide +kernel
theorem dX12_births_249 : decode cX12_births 249 = .ok (.iinc 5 1, 3) := by decide +kernel
theorem dX12_births_252 : decode cX12_births 252 = .ok (.goto (-41), 3) := by decide +kernel
theorem dX12_births_255 : decode cX12_births 255 = .ok (.iload 4, 2) := by decide +kernel
theorem dX12_births_257 : decode cX12_births 257 = .ok (.ireturn, 1) := by decide +kernel
set_option maxRecDepth 20000 in
theorem ggX12_count_X12_within : GoodIn wsX12_count wsX12_within := goodIn_r _ [10] (by decide +kernel) (by decide +kernel)
set_option maxRecDepth 20000 in
theorem gX12_count_X12_within : GoodIn wsX12_count (va_wsS RX12 270 yX12_within wsX12_within) := goodIn_app (goodIn_of _ (by decide +kernel)) ggX12_count_X12_within
set_option maxRecDepth 20000 in
theorem ggX12_count_X12_right : GoodIn wsX12_count wsX12_right := goodIn_r _ [14, 1, 24, 25, 26, 27, 28, 29, 30, 31, 32, 33, 34, 35, 36, 37, 38, 39, 40, 41, 42, 43, 44, 45, 46, 47, 48, 49, 50, 51, 52, 53, 54, 55, 56, 57, 58, 59, 60, 61, 62, 63, 64, 65, 66, 67, 68, 69, 70, 71, 72, 73, 74, 75, 76, 77, 78, 79, 80, 81] (by decide +kernel) (by decide +kernel)

set_option maxRecDepth 20000 in
theorem gX12_count_X12_right : GoodIn wsX12_count (wsV RX12 209 RX12 yX12_right wsX12_right) := goodIn_app (goodIn_of _ (by decide +kernel)) ggX12_count_X12_right
set_option maxRecDepth 20000 in
theorem ggX12_count_X12_tells : GoodIn wsX12_count wsX12_tells := goodIn_r _ [18, 19, 20, 21, 9, 22, 23, 24, 25, 26, 27, 28, 29, 30, 31, 32, 33, 34, 35, 36, 37, 38, 39, 40, 41, 42, 43, 44, 45, 46, 47, 48, 49, 50, 51, 52, 53, 54, 55, 56, 57, 58, 59, 60, 61, 62, 63, 64, 65, 66, 67, 68, 69, 70, 71, 72, 73, 74, 75, 76, 77, 78, 79, 80, 81] (by decide +kernel) (by decide +kernel)
set_option maxRecDepth 20000 in
theorem gX12_count_X12_tells : GoodIn wsX12_count (wsV RX12 257 RX12 yX12_tells wsX12_tells) := goodIn_app (goodIn_of _ (by decide +kernel)) ggX12_count_X12_tells
theorem dX12_count_0 : decode cX12_count 0 = .ok (.aload_n 0, 1) := by decide +kernel
theorem dX12_count_1 : decode cX12_count 1 = .ok (.iconst 0, 1) := by decide +kernel
theorem dX12_count_2 : decode cX12_count 2 = .ok (.putfield 129, 3) := by decide +kernel
theorem dX12_count_5 : decode cX12_count 5 = .ok (.aload_n 0, 1) := by decide +kernel
theorem dX12_count_6 : decode cX12_count 6 = .ok (.iload_n 1, 1) := by decide +kernel
theorem dX12_count_7 : decode cX12_count 7 = .ok (.iconst 0, 1) := by decide +kernel
theorem dX12_count_8 : decode cX12_count 8 = .ok (.iconst 5, 1) := by decide +kernel
theorem dX12_count_9 : decode cX12_count 9 = .ok (.invokestatic 270, 3) := by decide +kernel
theorem dX12_count_12 : decode cX12_count 12 = .ok (.iconst 1, 1) := by decide +kernel
theorem dX12_count_13 : decode cX12_count 13 = .ok (.invokevirtual 209, 3) := by decide +kernel
theorem dX12_count_16 : decode cX12_count 16 = .ok (.ifCond .ne 5, 3) := by decide +kernel
theorem dX12_count_19 : decode cX12_count 19 = .ok (.iconst 0, 1) := by decide +kernel
theorem dX12_count_20 : decode cX12_count 20 = .ok (.ireturn, 1) := by decide +kernel
theorem dX12_count_21 : decode cX12_count 21 = .ok (.iload_n 1, 1) := by decide +kernel
theorem dX12_count_22 : decode cX12_count 22 = .ok (.iconst 2, 1) := by decide +kernel
theorem dX12_count_23 : decode cX12_count 23 = .ok (.if_icmp .ge 19, 3) := by decide +kernel
theorem dX12_count_26 : decode cX12_count 26 = .ok (.iload_n 1, 1) := by decide +kernel
theorem dX12_count_27 : decode cX12_count 27 = .ok (.ifCond .ne 10, 3) := by decide +kernel
theorem dX12_count_30 : decode cX12_count 30 = .ok (.aload_n 0, 1) := by decide +kernel
theorem dX12_count_31 : decode cX12_count 31 = .ok (.getfield 228, 3) := by decide +kernel
theorem dX12_count_34 : decode cX12_count 34 = .ok (.goto 7, 3) := by decide +kernel
theorem dX12_count_37 : decode cX12_count 37 = .ok (.aload_n 0, 1) := by decide +kernel
theorem dX12_count_38 : decode cX12_count 38 = .ok (.getfield 231, 3) := by decide +kernel
theorem dX12_count_41 : decode cX12_count 41 = .ok (.ireturn, 1) := by decide +kernel
theorem dX12_count_42 : decode cX12_count 42 = .ok (.iconst 0, 1) := by decide +kernel
theorem dX12_count_43 : decode cX12_count 43 = .ok (.istore_n 2, 1) := by decide +kernel
theorem dX12_count_44 : decode cX12_count 44 = .ok (.iconst 0, 1) := by decide +kernel
theorem dX12_count_45 : decode cX12_count 45 = .ok (.istore_n 3, 1) := by decide +kernel
theorem dX12_count_46 : decode cX12_count 46 = .ok (.iload_n 3, 1) := by decide +kernel
theorem dX12_count_47 : decode cX12_count 47 = .ok (.bipush 120, 2) := by decide +kernel
theorem dX12_count_49 : decode cX12_count 49 = .ok (.if_icmp .ge 30, 3) := by decide +kernel
theorem dX12_count_52 : decode cX12_count 52 = .ok (.iload_n 1, 1) := by decide +kernel
theorem dX12_count_53 : decode cX12_count 53 = .ok (.iconst 2, 1) := by decide +kernel
theorem dX12_count_54 : decode cX12_count 54 = .ok (.if_icmp .ne 25, 3) := by decide +kernel
theorem dX12_count_57 : decode cX12_count 57 = .ok (.iload_n 2, 1) := by decide +kernel
theorem dX12_count_58 : decode cX12_count 58 = .ok (.aload_n 0, 1) := by decide +kernel
theorem dX12_count_59 : decode cX12_count 59 = .ok (.iload_n 3, 1) := by decide +kernel
theorem dX12_count_60 : decode cX12_count 60 = .ok (.invokevirtual 257, 3) := by decide +kernel
theorem dX12_count_63 : decode cX12_count 63 = .ok (.ifCond .eq 7, 3) := by decide +kernel
theorem dX12_count_66 : decode cX12_count 66 = .ok (.iconst 1, 1) := by decide +kernel
theorem dX12_count_67 : decode cX12_count 67 = .ok (.goto 4, 3) := by decide +kernel
theorem dX12_count_70 : decode cX12_count 70 = .ok (.iconst 0, 1) := by decide +kernel
theorem dX12_count_71 : decode cX12_count 71 = .ok (.iadd, 1) := by decide +kernel
theorem dX12_count_72 : decode cX12_count 72 = .ok (.istore_n 2, 1) := by decide +kernel
theorem dX12_count_73 : decode cX12_count 73 = .ok (.iinc 3 1, 3) := by decide +kernel
theorem dX12_count_76 : decode cX12_count 76 = .ok (.goto (-30), 3) := by decide +kernel
theorem dX12_count_79 : decode cX12_count 79 = .ok (.iconst 0, 1) := by decide +kernel
theorem dX12_count_80 : decode cX12_count 80 = .ok (.istore_n 3, 1) := by decide +kernel
theorem dX12_count_81 : decode cX12_count 81 = .ok (.iload_n 3, 1) := by decide +kernel
theorem dX12_count_82 : decode cX12_count 82 = .ok (.bipush 20, 2) := by decide +kernel
theorem dX12_count_84 : decode cX12_count 84 = .ok (.if_icmp .ge 47, 3) := by decide +kernel
theorem dX12_count_87 : decode cX12_count 87 = .ok (.iload_n 2, 1) := by decide +kernel
theorem dX12_count_88 : decode cX12_count 88 = .ok (.iload_n 1, 1) := by decide +kernel
theorem dX12_count_89 : decode cX12_count 89 = .ok (.iconst 3, 1) := by decide +kernel
theorem dX12_count_90 : decode cX12_count 90 = .ok (.if_icmp .ne 13, 3) := by decide +kernel
theorem dX12_count_93 : decode cX12_count 93 = .ok (.aload_n 0, 1) := by decide +kernel
theorem dX12_count_94 : decode cX12_count 94 = .ok (.getfield 114, 3) := by decide +kernel
theorem dX12_count_97 : decode cX12_count 97 = .ok (.iload_n 3, 1) := by decide +kernel
theorem dX12_count_98 : decode cX12_count 98 = .ok (.iaload, 1) := by decide +kernel
theorem dX12_count_99 : decode cX12_count 99 = .ok (.iconst (-1), 1) := by decide +kernel
theorem dX12_count_100 : decode cX12_count 100 = .ok (.if_icmp .ne 18, 3) := by decide +kernel
theorem dX12_count_103 : decode cX12_count 103 = .ok (.iload_n 1, 1) := by decide +kernel
theorem dX12_count_104 : decode cX12_count 104 = .ok (.iconst 5, 1) := by decide +kernel
theorem dX12_count_105 : decode cX12_count 105 = .ok (.if_icmp .ne 17, 3) := by decide +kernel
theorem dX12_count_108 : decode cX12_count 108 = .ok (.aload_n 0, 1) := by decide +kernel
theorem dX12_count_109 : decode cX12_count 109 = .ok (.getfield 120, 3) := by decide +kernel
theorem dX12_count_112 : decode cX12_count 112 = .ok (.iload_n 3, 1) := by decide +kernel
theorem dX12_count_113 : decode cX12_count 113 = .ok (.iaload, 1) := by decide +kernel
theorem dX12_count_114 : decode cX12_count 114 = .ok (.iconst (-1), 1) := by decide +kernel
theorem dX12_count_115 : decode cX12_count 115 = .ok (.if_icmp .eq 7, 3) := by decide +kernel
theorem dX12_count_118 : decode cX12_count 118 = .ok (.iconst 1, 1) := by decide +kernel
theorem dX12_count_119 : decode cX12_count 119 = .ok (.goto 4, 3) := by decide +kernel
theorem dX12_count_122 : decode cX12_count 122 = .ok (.iconst 0, 1) := by decide +kernel
theorem dX12_count_123 : decode cX12_count 123 = .ok (.iadd, 1) := by decide +kernel
theorem dX12_count_124 : decode cX12_count 124 = .ok (.istore_n 2, 1) := by decide +kernel
theorem dX12_count_125 : decode cX12_count 125 = .ok (.iinc 3 1, 3) := by decide +kernel
theorem dX12_count_128 : decode cX12_count 128 = .ok (.goto (-47), 3) := by decide +kernel
theorem dX12_count_131 : decode cX12_count 131 = .ok (.iload_n 1, 1) := by decide +kernel
theorem dX12_count_132 : decode cX12_count 132 = .ok (.iconst 4, 1) := by decide +kernel
theorem dX12_count_133 : decode cX12_count 133 = .ok (.if_icmp .ne 10, 3) := by decide +kernel
theorem dX12_count_136 : decode cX12_count 136 = .ok (.aload_n 0, 1) := by decide +kernel
theorem dX12_count_137 : decode cX12_count 137 = .ok (.getfield 132, 3) := by decide +kernel
theorem dX12_count_140 : decode cX12_count 140 = .ok (.goto 4, 3) := by decide +kernel
theorem dX12_count_143 : decode cX12_count 143 = .ok (.iload_n 2, 1) := by decide +kernel
theorem dX12_count_144 : decode cX12_count 144 = .ok (.ireturn, 1) := by decide +kernel
set_option maxRecDepth 20000 in
theorem ggX12_life_X12_within : GoodIn wsX12_life wsX12_within := goodIn_r _ [7] (by decide +kernel) (by decide +kernel)
set_option maxRecDepth 20000 in
theorem gX12_life_X12_within : GoodIn wsX12_life (va_wsS RX12 270 yX12_within wsX12_within) := goodIn_app (goodIn_of _ (by decide +kernel)) ggX12_life_X12_within
set_option maxRecDepth 20000 in
theorem ggX12_life_X12_right : GoodIn wsX12_life wsX12_right := goodIn_r _ [11, 1, 12, 13, 14, 15, 16, 17, 18, 19, 20, 21, 22, 23, 24, 25, 26, 27, 28, 29, 30, 31, 32, 33, 34, 35, 36, 37, 38, 39, 40, 41, 42, 43, 44, 45, 46, 47, 48, 49, 50, 51, 52, 53, 54, 55, 56, 57, 58, 59, 60, 61, 62, 63, 64, 65, 66, 67, 68, 69] (by decide +kernel) (by decide +kernel)
set_option maxRecDepth 20000 in
theorem gX12_life_X12_right : GoodIn wsX12_life (wsV RX12 209 RX12 yX12_right wsX12_right) := goodIn_app (goodIn_of _ (by decide +kernel)) ggX12_life_X12_right
theorem dX12_life_0 : decode cX12_life 0 = .ok (.aload_n 0, 1) := by decide +kernel
theorem dX12_life_1 : decode cX12_life 1 = .ok (.iconst 0, 1) := by decide +kernel
theorem dX12_life_2 : decode cX12_life 2 = .ok (.putfield 129, 3) := by decide +kernel
theorem dX12_life_5 : decode cX12_life 5 = .ok (.aload_n 0, 1) := by decide +kernel
theorem dX12_life_6 : decode cX12_life 6 = .ok (.iload_n 1, 1) := by decide +kernel
theorem dX12_life_7 : decode cX12_life 7 = .ok (.iconst 0, 1) := by decide +kernel
theorem dX12_life_8 : decode cX12_life 8 = .ok (.bipush 19, 2) := by decide +kernel
theorem dX12_life_10 : decode cX12_life 10 = .ok (.invokestatic 270, 3) := by decide +kernel
theorem dX12_life_13 : decode cX12_life 13 = .ok (.iconst 1, 1) := by decide +kernel
theorem dX12_life_14 : decode cX12_life 14 = .ok (.invokevirtual 209, 3) := by decide +kernel
theorem dX12_life_17 : decode cX12_life 17 = .ok (.ifCond .ne 5, 3) := by decide +kernel
theorem dX12_life_20 : decode cX12_life 20 = .ok (.iconst 0, 1) := by decide +kernel
theorem dX12_life_21 : decode cX12_life 21 = .ok (.ireturn, 1) := by decide +kernel
theorem dX12_life_22 : decode cX12_life 22 = .ok (.iload_n 2, 1) := by decide +kernel
theorem dX12_life_23 : decode cX12_life 23 = .ok (.iconst 0, 1) := by decide +kernel
theorem dX12_life_24 : decode cX12_life 24 = .ok (.bipush 120, 2) := by decide +kernel
theorem dX12_life_26 : decode cX12_life 26 = .ok (.invokestatic 270, 3) := by decide +kernel
theorem dX12_life_29 : decode cX12_life 29 = .ok (.ifCond .eq 13, 3) := by decide +kernel
theorem dX12_life_32 : decode cX12_life 32 = .ok (.iload_n 3, 1) := by decide +kernel
theorem dX12_life_33 : decode cX12_life 33 = .ok (.iconst 0, 1) := by decide +kernel
theorem dX12_life_34 : decode cX12_life 34 = .ok (.bipush 120, 2) := by decide +kernel
theorem dX12_life_36 : decode cX12_life 36 = .ok (.invokestatic 270, 3) := by decide +kernel
theorem dX12_life_39 : decode cX12_life 39 = .ok (.ifCond .ne 5, 3) := by decide +kernel
theorem dX12_life_42 : decode cX12_life 42 = .ok (.iconst 0, 1) := by decide +kernel
theorem dX12_life_43 : decode cX12_life 43 = .ok (.ireturn, 1) := by decide +kernel
theorem dX12_life_44 : decode cX12_life 44 = .ok (.aload_n 0, 1) := by decide +kernel
theorem dX12_life_45 : decode cX12_life 45 = .ok (.getfield 114, 3) := by decide +kernel
theorem dX12_life_48 : decode cX12_life 48 = .ok (.iload_n 1, 1) := by decide +kernel
theorem dX12_life_49 : decode cX12_life 49 = .ok (.iload_n 2, 1) := by decide +kernel
theorem dX12_life_50 : decode cX12_life 50 = .ok (.iastore, 1) := by decide +kernel
theorem dX12_life_51 : decode cX12_life 51 = .ok (.aload_n 0, 1) := by decide +kernel
theorem dX12_life_52 : decode cX12_life 52 = .ok (.getfield 117, 3) := by decide +kernel
theorem dX12_life_55 : decode cX12_life 55 = .ok (.iload_n 1, 1) := by decide +kernel
theorem dX12_life_56 : decode cX12_life 56 = .ok (.iload_n 3, 1) := by decide +kernel
theorem dX12_life_57 : decode cX12_life 57 = .ok (.iastore, 1) := by decide +kernel
theorem dX12_life_58 : decode cX12_life 58 = .ok (.iconst 1, 1) := by decide +kernel
theorem dX12_life_59 : decode cX12_life 59 = .ok (.ireturn, 1) := by decide +kernel
set_option maxRecDepth 20000 in
theorem ggX12_fate_X12_within : GoodIn wsX12_fate wsX12_within := goodIn_r _ [6] (by decide +kernel) (by decide +kernel)
set_option maxRecDepth 20000 in
theorem gX12_fate_X12_within : GoodIn wsX12_fate (va_wsS RX12 270 yX12_within wsX12_within) := goodIn_app (goodIn_of _ (by decide +kernel)) ggX12_fate_X12_within
set_option maxRecDepth 20000 in
theorem ggX12_fate_X12_right : GoodIn wsX12_fate wsX12_right := goodIn_r _ [10, 1, 11, 12, 13, 14, 15, 16, 17, 18, 19, 20, 21, 22, 23, 24, 25, 26, 27, 28, 29, 30, 31, 32, 33, 34, 35, 36, 37, 38, 39, 40, 41, 42, 43, 44, 45, 46, 47, 48, 49, 50, 51, 52, 53, 54, 55, 56, 57, 58, 59, 60, 61, 62, 63, 64, 65, 66, 67, 68] (by decide +kernel) (by decide +kernel)
set_option maxRecDepth 20000 in
theorem gX12_fate_X12_right : GoodIn wsX12_fate (wsV RX12 209 RX12 yX12_right wsX12_right) := goodIn_app (goodIn_of _ (by decide +kernel)) ggX12_fate_X12_right
theorem dX12_fate_0 : decode cX12_fate 0 = .ok (.aload_n 0, 1) := by decide +kernel
theorem dX12_fate_1 : decode cX12_fate 1 = .ok (.iconst 0, 1) := by decide +kernel
theorem dX12_fate_2 : decode cX12_fate 2 = .ok (.putfield 129, 3) := by decide +kernel
theorem dX12_fate_5 : decode cX12_fate 5 = .ok (.aload_n 0, 1) := by decide +kernel
theorem dX12_fate_6 : decode cX12_fate 6 = .ok (.iload_n 1, 1) := by decide +kernel
theorem dX12_fate_7 : decode cX12_fate 7 = .ok (.iconst 0, 1) := by decide +kernel
theorem dX12_fate_8 : decode cX12_fate 8 = .ok (.bipush 19, 2) := by decide +kernel
theorem dX12_fate_10 : decode cX12_fate 10 = .ok (.invokestatic 270, 3) := by decide +kernel
theorem dX12_fate_13 : decode cX12_fate 13 = .ok (.iconst 1, 1) := by decide +kernel
theorem dX12_fate_14 : decode cX12_fate 14 = .ok (.invokevirtual 209, 3) := by decide +kernel
theorem dX12_fate_17 : decode cX12_fate 17 = .ok (.ifCond .ne 5, 3) := by decide +kernel
theorem dX12_fate_20 : decode cX12_fate 20 = .ok (.iconst 0, 1) := by decide +kernel
theorem dX12_fate_21 : decode cX12_fate 21 = .ok (.ireturn, 1) := by decide +kernel
theorem dX12_fate_22 : decode cX12_fate 22 = .ok (.iload_n 2, 1) := by decide +kernel
theorem dX12_fate_23 : decode cX12_fate 23 = .ok (.iconst 1, 1) := by decide +kernel
theorem dX12_fate_24 : decode cX12_fate 24 = .ok (.bipush 12, 2) := by decide +kernel
theorem dX12_fate_26 : decode cX12_fate 26 = .ok (.invokestatic 270, 3) := by decide +kernel
theorem dX12_fate_29 : decode cX12_fate 29 = .ok (.ifCond .ne 5, 3) := by decide +kernel
theorem dX12_fate_32 : decode cX12_fate 32 = .ok (.iconst 0, 1) := by decide +kernel
theorem dX12_fate_33 : decode cX12_fate 33 = .ok (.ireturn, 1) := by decide +kernel
theorem dX12_fate_34 : decode cX12_fate 34 = .ok (.aload_n 0, 1) := by decide +kernel
theorem dX12_fate_35 : decode cX12_fate 35 = .ok (.getfield 120, 3) := by decide +kernel
theorem dX12_fate_38 : decode cX12_fate 38 = .ok (.iload_n 1, 1) := by decide +kernel
theorem dX12_fate_39 : decode cX12_fate 39 = .ok (.iload_n 2, 1) := by decide +kernel
theorem dX12_fate_40 : decode cX12_fate 40 = .ok (.iastore, 1) := by decide +kernel
theorem dX12_fate_41 : decode cX12_fate 41 = .ok (.iconst 1, 1) := by decide +kernel
theorem dX12_fate_42 : decode cX12_fate 42 = .ok (.ireturn, 1) := by decide +kernel
theorem dX12_isHit_0 : decode cX12_isHit 0 = .ok (.aload_n 0, 1) := by decide +kernel
theorem dX12_isHit_1 : decode cX12_isHit 1 = .ok (.getfield 114, 3) := by decide +kernel
theorem dX12_isHit_4 : decode cX12_isHit 4 = .ok (.iload_n 1, 1) := by decide +kernel
theorem dX12_isHit_5 : decode cX12_isHit 5 = .ok (.iaload, 1) := by decide +kernel
theorem dX12_isHit_6 : decode cX12_isHit 6 = .ok (.aload_n 0, 1) := by decide +kernel
theorem dX12_isHit_7 : decode cX12_isHit 7 = .ok (.getfield 117, 3) := by decide +kernel
theorem dX12_isHit_10 : decode cX12_isHit 10 = .ok (.iload_n 2, 1) := by decide +kernel
theorem dX12_isHit_11 : decode cX12_isHit 11 = .ok (.iaload, 1) := by decide +kernel
theorem dX12_isHit_12 : decode cX12_isHit 12 = .ok (.isub, 1) := by decide +kernel
theorem dX12_isHit_13 : decode cX12_isHit 13 = .ok (.istore 4, 2) := by decide +kernel
theorem dX12_isHit_15 : decode cX12_isHit 15 = .ok (.iload 4, 2) := by decide +kernel
theorem dX12_isHit_17 : decode cX12_isHit 17 = .ok (.iload_n 3, 1) := by decide +kernel
theorem dX12_isHit_18 : decode cX12_isHit 18 = .ok (.if_icmp .gt 14, 3) := by decide +kernel
theorem dX12_isHit_21 : decode cX12_isHit 21 = .ok (.iload 4, 2) := by decide +kernel
theorem dX12_isHit_23 : decode cX12_isHit 23 = .ok (.iload_n 3, 1) := by decide +kernel
theorem dX12_isHit_24 : decode cX12_isHit 24 = .ok (.ineg, 1) := by decide +kernel
theorem dX12_isHit_25 : decode cX12_isHit 25 = .ok (.if_icmp .lt 7, 3) := by decide +kernel
theorem dX12_isHit_28 : decode cX12_isHit 28 = .ok (.iconst 1, 1) := by decide +kernel
theorem dX12_isHit_29 : decode cX12_isHit 29 = .ok (.goto 4, 3) := by decide +kernel
theorem dX12_isHit_32 : decode cX12_isHit 32 = .ok (.iconst 0, 1) := by decide +kernel
theorem dX12_isHit_33 : decode cX12_isHit 33 = .ok (.ireturn, 1) := by decide +kernel
set_option maxRecDepth 20000 in
theorem ggX12_isTold_X12_at : GoodIn wsX12_isTold wsX12_at := goodIn_r _ [6, 7, 8, 9, 10, 11, 12, 13, 14, 15, 16, 17, 18, 19, 20, 21, 22, 23, 24, 25, 26, 27, 28, 29, 30, 31, 32, 33, 34, 35, 36, 37, 38, 39, 40, 41, 42, 43, 44, 45, 46, 47, 48, 49, 50, 51, 52, 53, 54, 55, 56, 57, 58, 59, 60, 61, 62, 63, 64, 65] (by decide +kernel) (by decide +kernel)
set_option maxRecDepth 20000 in
theorem gX12_isTold_X12_at : GoodIn wsX12_isTold (wsV RX12 254 RX12 yX12_at wsX12_at) := goodIn_app (goodIn_of _ (by decide +kernel)) ggX12_isTold_X12_at
theorem dX12_isTold_0 : decode cX12_isTold 0 = .ok (.aload_n 0, 1) := by decide +kernel
theorem dX12_isTold_1 : decode cX12_isTold 1 = .ok (.iload_n 1, 1) := by decide +kernel
theorem dX12_isTold_2 : decode cX12_isTold 2 = .ok (.bipush 7, 2) := by decide +kernel
theorem dX12_isTold_4 : decode cX12_isTold 4 = .ok (.invokevirtual 254, 3) := by decide +kernel
theorem dX12_isTold_7 : decode cX12_isTold 7 = .ok (.istore_n 3, 1) := by decide +kernel
theorem dX12_isTold_8 : decode cX12_isTold 8 = .ok (.aload_n 0, 1) := by decide +kernel
theorem dX12_isTold_9 : decode cX12_isTold 9 = .ok (.iload_n 1, 1) := by decide +kernel
theorem dX12_isTold_10 : decode cX12_isTold 10 = .ok (.bipush 8, 2) := by decide +kernel
theorem dX12_isTold_12 : decode cX12_isTold 12 = .ok (.invokevirtual 254, 3) := by decide +kernel
theorem dX12_isTold_15 : decode cX12_isTold 15 = .ok (.istore 4, 2) := by decide +kernel
theorem dX12_isTold_17 : decode cX12_isTold 17 = .ok (.iload_n 3, 1) := by decide +kernel
theorem dX12_isTold_18 : decode cX12_isTold 18 = .ok (.iconst (-1), 1) := by decide +kernel
theorem dX12_isTold_19 : decode cX12_isTold 19 = .ok (.if_icmp .eq 37, 3) := by decide +kernel
theorem dX12_isTold_22 : decode cX12_isTold 22 = .ok (.iload 4, 2) := by decide +kernel
theorem dX12_isTold_24 : decode cX12_isTold 24 = .ok (.iconst (-1), 1) := by decide +kernel
theorem dX12_isTold_25 : decode cX12_isTold 25 = .ok (.if_icmp .eq 31, 3) := by decide +kernel
theorem dX12_isTold_28 : decode cX12_isTold 28 = .ok (.iload 4, 2) := by decide +kernel
theorem dX12_isTold_30 : decode cX12_isTold 30 = .ok (.bipush 30, 2) := by decide +kernel
theorem dX12_isTold_32 : decode cX12_isTold 32 = .ok (.idiv, 1) := by decide +kernel
theorem dX12_isTold_33 : decode cX12_isTold 33 = .ok (.iload_n 3, 1) := by decide +kernel
theorem dX12_isTold_34 : decode cX12_isTold 34 = .ok (.bipush 30, 2) := by decide +kernel
theorem dX12_isTold_36 : decode cX12_isTold 36 = .ok (.idiv, 1) := by decide +kernel
theorem dX12_isTold_37 : decode cX12_isTold 37 = .ok (.aload_n 0, 1) := by decide +kernel
theorem dX12_isTold_38 : decode cX12_isTold 38 = .ok (.getfield 120, 3) := by decide +kernel
theorem dX12_isTold_41 : decode cX12_isTold 41 = .ok (.iload_n 2, 1) := by decide +kernel
theorem dX12_isTold_42 : decode cX12_isTold 42 = .ok (.iaload, 1) := by decide +kernel
theorem dX12_isTold_43 : decode cX12_isTold 43 = .ok (.iadd, 1) := by decide +kernel
theorem dX12_isTold_44 : decode cX12_isTold 44 = .ok (.iconst 1, 1) := by decide +kernel
theorem dX12_isTold_45 : decode cX12_isTold 45 = .ok (.isub, 1) := by decide +kernel
theorem dX12_isTold_46 : decode cX12_isTold 46 = .ok (.bipush 12, 2) := by decide +kernel
theorem dX12_isTold_48 : decode cX12_isTold 48 = .ok (.irem, 1) := by decide +kernel
theorem dX12_isTold_49 : decode cX12_isTold 49 = .ok (.if_icmp .ne 7, 3) := by decide +kernel
theorem dX12_isTold_52 : decode cX12_isTold 52 = .ok (.iconst 1, 1) := by decide +kernel
theorem dX12_isTold_53 : decode cX12_isTold 53 = .ok (.goto 4, 3) := by decide +kernel
theorem dX12_isTold_56 : decode cX12_isTold 56 = .ok (.iconst 0, 1) := by decide +kernel
theorem dX12_isTold_57 : decode cX12_isTold 57 = .ok (.ireturn, 1) := by decide +kernel
set_option maxRecDepth 20000 in
theorem ggX12_hitsBy_X12_isTold : GoodIn wsX12_hitsBy wsX12_isTold := goodIn_r _ [8, 9, 10, 11, 12, 7, 13, 14, 21, 22, 23, 24, 25, 26, 27, 28, 29, 30, 31, 32, 33, 34, 35, 36, 37, 38, 39, 40, 41, 42, 43, 44, 45, 46, 47, 48, 49, 50, 51, 52, 53, 54, 55, 56, 57, 58, 59, 60, 61, 62, 63, 64, 65, 66, 67, 68, 69, 70, 71, 72, 73, 74, 75, 76, 77, 78] (by decide +kernel) (by decide +kernel)
set_option maxRecDepth 20000 in
theorem gX12_hitsBy_X12_isTold : GoodIn wsX12_hitsBy (wsV RX12 365 RX12 yX12_isTold wsX12_isTold) := goodIn_app (goodIn_of _ (by decide +kernel)) ggX12_hitsBy_X12_isTold
set_option maxRecDepth 20000 in
theorem ggX12_hitsBy_X12_isHit : GoodIn wsX12_hitsBy wsX12_isHit := goodIn_r _ [18, 19, 20, 21, 22, 23, 24, 25, 26, 27, 28, 29, 30, 31, 32, 33, 34, 35, 36, 37, 38, 39, 40, 41, 42, 43, 44, 45, 46, 47, 48, 49, 50, 51, 52, 53, 54, 55, 56, 57, 58, 59, 60, 61, 62, 63, 64, 65, 66, 67, 68, 69, 70, 71, 72, 73, 74, 75, 76, 77, 78] (by decide +kernel) (by decide +kernel)
set_option maxRecDepth 20000 in
theorem gX12_hitsBy_X12_isHit : GoodIn wsX12_hitsBy (wsV RX12 368 RX12 yX12_isHit wsX12_isHit) := goodIn_app (goodIn_of _ (by decide +kernel)) ggX12_hitsBy_X12_isHit
theorem dX12_hitsBy_0 : decode cX12_hitsBy 0 = .ok (.iconst 0, 1) := by decide +kernel
theorem dX12_hitsBy_1 : decode cX12_hitsBy 1 = .ok (.istore_n 2, 1) := by decide +kernel
theorem dX12_hitsBy_2 : decode cX12_hitsBy 2 = .ok (.iconst 0, 1) := by decide +kernel
theorem dX12_hitsBy_3 : decode cX12_hitsBy 3 = .ok (.istore_n 3, 1) := by decide +kernel
theorem dX12_hitsBy_4 : decode cX12_hitsBy 4 = .ok (.iload_n 3, 1) := by decide +kernel
theorem dX12_hitsBy_5 : decode cX12_hitsBy 5 = .ok (.aload_n 0, 1) := by decide +kernel
theorem dX12_hitsBy_6 : decode cX12_hitsBy 6 = .ok (.getfield 362, 3) := by decide +kernel
theorem dX12_hitsBy_9 : decode cX12_hitsBy 9 = .ok (.if_icmp .ge 78, 3) := by decide +kernel
theorem dX12_hitsBy_12 : decode cX12_hitsBy 12 = .ok (.iload_n 2, 1) := by decide +kernel
theorem dX12_hitsBy_13 : decode cX12_hitsBy 13 = .ok (.iload_n 1, 1) := by decide +kernel
theorem dX12_hitsBy_14 : decode cX12_hitsBy 14 = .ok (.ifCond .ge 35, 3) := by decide +kernel
theorem dX12_hitsBy_17 : decode cX12_hitsBy 17 = .ok (.aload_n 0, 1) := by decide +kernel
theorem dX12_hitsBy_18 : decode cX12_hitsBy 18 = .ok (.aload_n 0, 1) := by decide +kernel
theorem dX12_hitsBy_19 : decode cX12_hitsBy 19 = .ok (.getfield 123, 3) := by decide +kernel
theorem dX12_hitsBy_22 : decode cX12_hitsBy 22 = .ok (.iload_n 3, 1) := by decide +kernel
theorem dX12_hitsBy_23 : decode cX12_hitsBy 23 = .ok (.iaload, 1) := by decide +kernel
theorem dX12_hitsBy_24 : decode cX12_hitsBy 24 = .ok (.aload_n 0, 1) := by decide +kernel
theorem dX12_hitsBy_25 : decode cX12_hitsBy 25 = .ok (.getfield 123, 3) := by decide +kernel
theorem dX12_hitsBy_28 : decode cX12_hitsBy 28 = .ok (.aload_n 0, 1) := by decide +kernel
theorem dX12_hitsBy_29 : decode cX12_hitsBy 29 = .ok (.getfield 126, 3) := by decide +kernel
theorem dX12_hitsBy_32 : decode cX12_hitsBy 32 = .ok (.iload_n 3, 1) := by decide +kernel
theorem dX12_hitsBy_33 : decode cX12_hitsBy 33 = .ok (.iaload, 1) := by decide +kernel
theorem dX12_hitsBy_34 : decode cX12_hitsBy 34 = .ok (.iaload, 1) := by decide +kernel
theorem dX12_hitsBy_35 : decode cX12_hitsBy 35 = .ok (.invokevirtual 365, 3) := by decide +kernel
theorem dX12_hitsBy_38 : decode cX12_hitsBy 38 = .ok (.ifCond .eq 7, 3) := by decide +kernel
theorem dX12_hitsBy_41 : decode cX12_hitsBy 41 = .ok (.iconst 1, 1) := by decide +kernel
theorem dX12_hitsBy_42 : decode cX12_hitsBy 42 = .ok (.goto 37, 3) := by decide +kernel
theorem dX12_hitsBy_45 : decode cX12_hitsBy 45 = .ok (.iconst 0, 1) := by decide +kernel
theorem dX12_hitsBy_46 : decode cX12_hitsBy 46 = .ok (.goto 33, 3) := by decide +kernel
theorem dX12_hitsBy_49 : decode cX12_hitsBy 49 = .ok (.aload_n 0, 1) := by decide +kernel
theorem dX12_hitsBy_50 : decode cX12_hitsBy 50 = .ok (.aload_n 0, 1) := by decide +kernel
theorem dX12_hitsBy_51 : decode cX12_hitsBy 51 = .ok (.getfield 123, 3) := by decide +kernel
theorem dX12_hitsBy_54 : decode cX12_hitsBy 54 = .ok (.iload_n 3, 1) := by decide +kernel
theorem dX12_hitsBy_55 : decode cX12_hitsBy 55 = .ok (.iaload, 1) := by decide +kernel
theorem dX12_hitsBy_56 : decode cX12_hitsBy 56 = .ok (.aload_n 0, 1) := by decide +kernel
theorem dX12_hitsBy_57 : decode cX12_hitsBy 57 = .ok (.getfield 123, 3) := by decide +kernel
theorem dX12_hitsBy_60 : decode cX12_hitsBy 60 = .ok (.aload_n 0, 1) := by decide +kernel
theorem dX12_hitsBy_61 : decode cX12_hitsBy 61 = .ok (.getfield 126, 3) := by decide +kernel
theorem dX12_hitsBy_64 : decode cX12_hitsBy 64 = .ok (.iload_n 3, 1) := by decide +kernel
theorem dX12_hitsBy_65 : decode cX12_hitsBy 65 = .ok (.iaload, 1) := by decide +kernel
theorem dX12_hitsBy_66 : decode cX12_hitsBy 66 = .ok (.iaload, 1) := by decide +kernel
theorem dX12_hitsBy_67 : decode cX12_hitsBy 67 = .ok (.iload_n 1, 1) := by decide +kernel
theorem dX12_hitsBy_68 : decode cX12_hitsBy 68 = .ok (.invokevirtual 368, 3) := by decide +kernel
theorem dX12_hitsBy_71 : decode cX12_hitsBy 71 = .ok (.ifCond .eq 7, 3) := by decide +kernel
theorem dX12_hitsBy_74 : decode cX12_hitsBy 74 = .ok (.iconst 1, 1) := by decide +kernel
theorem dX12_hitsBy_75 : decode cX12_hitsBy 75 = .ok (.goto 4, 3) := by decide +kernel
theorem dX12_hitsBy_78 : decode cX12_hitsBy 78 = .ok (.iconst 0, 1) := by decide +kernel
theorem dX12_hitsBy_79 : decode cX12_hitsBy 79 = .ok (.iadd, 1) := by decide +kernel
theorem dX12_hitsBy_80 : decode cX12_hitsBy 80 = .ok (.istore_n 2, 1) := by decide +kernel
theorem dX12_hitsBy_81 : decode cX12_hitsBy 81 = .ok (.iinc 3 1, 3) := by decide +kernel
theorem dX12_hitsBy_84 : decode cX12_hitsBy 84 = .ok (.goto (-80), 3) := by decide +kernel
theorem dX12_hitsBy_87 : decode cX12_hitsBy 87 = .ok (.iload_n 2, 1) := by decide +kernel
theorem dX12_hitsBy_88 : decode cX12_hitsBy 88 = .ok (.ireturn, 1) := by decide +kernel
set_option maxRecDepth 20000 in
theorem ggX12_turns_X12_swaps : GoodIn wsX12_turns wsX12_swaps := goodIn_r _ [7, 2, 8, 9, 10, 11, 12, 13, 14, 15, 16, 17, 18, 19, 20, 21, 22, 23, 24, 25, 26, 27, 28, 29, 30, 31, 32, 33, 34, 35, 36, 37, 38, 39, 40, 41, 42, 43, 44, 45, 46, 47, 48, 49, 50, 51, 52, 53, 54, 55, 56, 57, 58, 59, 60, 61, 62, 63, 64, 65] (by decide +kernel) (by decide +kernel)
set_option maxRecDepth 20000 in
theorem gX12_turns_X12_swaps : GoodIn wsX12_turns (wsV RX12 371 RX12 yX12_swaps wsX12_swaps) := goodIn_app (goodIn_of _ (by decide +kernel)) ggX12_turns_X12_swaps
theorem dX12_turns_0 : decode cX12_turns 0 = .ok (.aload_n 0, 1) := by decide +kernel
theorem dX12_turns_1 : decode cX12_turns 1 = .ok (.getfield 362, 3) := by decide +kernel
theorem dX12_turns_4 : decode cX12_turns 4 = .ok (.iconst 2, 1) := by decide +kernel
theorem dX12_turns_5 : decode cX12_turns 5 = .ok (.isub, 1) := by decide +kernel
theorem dX12_turns_6 : decode cX12_turns 6 = .ok (.istore_n 1, 1) := by decide +kernel
theorem dX12_turns_7 : decode cX12_turns 7 = .ok (.iload_n 1, 1) := by decide +kernel
theorem dX12_turns_8 : decode cX12_turns 8 = .ok (.ifCond .lt 26, 3) := by decide +kernel
theorem dX12_turns_11 : decode cX12_turns 11 = .ok (.aload_n 0, 1) := by decide +kernel
theorem dX12_turns_12 : decode cX12_turns 12 = .ok (.getfield 126, 3) := by decide +kernel
theorem dX12_turns_15 : decode cX12_turns 15 = .ok (.iload_n 1, 1) := by decide +kernel
theorem dX12_turns_16 : decode cX12_turns 16 = .ok (.iaload, 1) := by decide +kernel
theorem dX12_turns_17 : decode cX12_turns 17 = .ok (.aload_n 0, 1) := by decide +kernel
theorem dX12_turns_18 : decode cX12_turns 18 = .ok (.getfield 126, 3) := by decide +kernel
theorem dX12_turns_21 : decode cX12_turns 21 = .ok (.iload_n 1, 1) := by decide +kernel
theorem dX12_turns_22 : decode cX12_turns 22 = .ok (.iconst 1, 1) := by decide +kernel
theorem dX12_turns_23 : decode cX12_turns 23 = .ok (.iadd, 1) := by decide +kernel
theorem dX12_turns_24 : decode cX12_turns 24 = .ok (.iaload, 1) := by decide +kernel
theorem dX12_turns_25 : decode cX12_turns 25 = .ok (.if_icmp .le 9, 3) := by decide +kernel
theorem dX12_turns_28 : decode cX12_turns 28 = .ok (.iinc 1 (-1), 3) := by decide +kernel
theorem dX12_turns_31 : decode cX12_turns 31 = .ok (.goto (-24), 3) := by decide +kernel
theorem dX12_turns_34 : decode cX12_turns 34 = .ok (.iload_n 1, 1) := by decide +kernel
theorem dX12_turns_35 : decode cX12_turns 35 = .ok (.ifCond .ge 5, 3) := by decide +kernel
theorem dX12_turns_38 : decode cX12_turns 38 = .ok (.iconst 0, 1) := by decide +kernel
theorem dX12_turns_39 : decode cX12_turns 39 = .ok (.ireturn, 1) := by decide +kernel
theorem dX12_turns_40 : decode cX12_turns 40 = .ok (.aload_n 0, 1) := by decide +kernel
theorem dX12_turns_41 : decode cX12_turns 41 = .ok (.getfield 362, 3) := by decide +kernel
theorem dX12_turns_44 : decode cX12_turns 44 = .ok (.iconst 1, 1) := by decide +kernel
theorem dX12_turns_45 : decode cX12_turns 45 = .ok (.isub, 1) := by decide +kernel
theorem dX12_turns_46 : decode cX12_turns 46 = .ok (.istore_n 2, 1) := by decide +kernel
theorem dX12_turns_47 : decode cX12_turns 47 = .ok (.aload_n 0, 1) := by decide +kernel
theorem dX12_turns_48 : decode cX12_turns 48 = .ok (.getfield 126, 3) := by decide +kernel
theorem dX12_turns_51 : decode cX12_turns 51 = .ok (.iload_n 2, 1) := by decide +kernel
theorem dX12_turns_52 : decode cX12_turns 52 = .ok (.iaload, 1) := by decide +kernel
theorem dX12_turns_53 : decode cX12_turns 53 = .ok (.aload_n 0, 1) := by decide +kernel
theorem dX12_turns_54 : decode cX12_turns 54 = .ok (.getfield 126, 3) := by decide +kernel
theorem dX12_turns_57 : decode cX12_turns 57 = .ok (.iload_n 1, 1) := by decide +kernel
theorem dX12_turns_58 : decode cX12_turns 58 = .ok (.iaload, 1) := by decide +kernel
theorem dX12_turns_59 : decode cX12_turns 59 = .ok (.if_icmp .ge 9, 3) := by decide +kernel
theorem dX12_turns_62 : decode cX12_turns 62 = .ok (.iinc 2 (-1), 3) := by decide +kernel
theorem dX12_turns_65 : decode cX12_turns 65 = .ok (.goto (-18), 3) := by decide +kernel
theorem dX12_turns_68 : decode cX12_turns 68 = .ok (.aload_n 0, 1) := by decide +kernel
theorem dX12_turns_69 : decode cX12_turns 69 = .ok (.iload_n 1, 1) := by decide +kernel
theorem dX12_turns_70 : decode cX12_turns 70 = .ok (.iload_n 2, 1) := by decide +kernel
theorem dX12_turns_71 : decode cX12_turns 71 = .ok (.invokevirtual 371, 3) := by decide +kernel
theorem dX12_turns_74 : decode cX12_turns 74 = .ok (.iload_n 1, 1) := by decide +kernel
theorem dX12_turns_75 : decode cX12_turns 75 = .ok (.iconst 1, 1) := by decide +kernel
theorem dX12_turns_76 : decode cX12_turns 76 = .ok (.iadd, 1) := by decide +kernel
theorem dX12_turns_77 : decode cX12_turns 77 = .ok (.istore_n 3, 1) := by decide +kernel
theorem dX12_turns_78 : decode cX12_turns 78 = .ok (.aload_n 0, 1) := by decide +kernel
theorem dX12_turns_79 : decode cX12_turns 79 = .ok (.getfield 362, 3) := by decide +kernel
theorem dX12_turns_82 : decode cX12_turns 82 = .ok (.iconst 1, 1) := by decide +kernel
theorem dX12_turns_83 : decode cX12_turns 83 = .ok (.isub, 1) := by decide +kernel
theorem dX12_turns_84 : decode cX12_turns 84 = .ok (.istore 4, 2) := by decide +kernel
theorem dX12_turns_86 : decode cX12_turns 86 = .ok (.iload_n 3, 1) := by decide +kernel
theorem dX12_turns_87 : decode cX12_turns 87 = .ok (.iload 4, 2) := by decide +kernel
theorem dX12_turns_89 : decode cX12_turns 89 = .ok (.if_icmp .ge 19, 3) := by decide +kernel
theorem dX12_turns_92 : decode cX12_turns 92 = .ok (.aload_n 0, 1) := by decide +kernel
theorem dX12_turns_93 : decode cX12_turns 93 = .ok (.iload_n 3, 1) := by decide +kernel
theorem dX12_turns_94 : decode cX12_turns 94 = .ok (.iload 4, 2) := by decide +kernel
theorem dX12_turns_96 : decode cX12_turns 96 = .ok (.invokevirtual 371, 3) := by decide +kernel
theorem dX12_turns_99 : decode cX12_turns 99 = .ok (.iinc 3 1, 3) := by decide +kernel
theorem dX12_turns_102 : decode cX12_turns 102 = .ok (.iinc 4 (-1), 3) := by decide +kernel
theorem dX12_turns_105 : decode cX12_turns 105 = .ok (.goto (-19), 3) := by decide +kernel
theorem dX12_turns_108 : decode cX12_turns 108 = .ok (.iconst 1, 1) := by decide +kernel
theorem dX12_turns_109 : decode cX12_turns 109 = .ok (.ireturn, 1) := by decide +kernel
theorem dX12_swaps_0 : decode cX12_swaps 0 = .ok (.aload_n 0, 1) := by decide +kernel
theorem dX12_swaps_1 : decode cX12_swaps 1 = .ok (.getfield 126, 3) := by decide +kernel
theorem dX12_swaps_4 : decode cX12_swaps 4 = .ok (.iload_n 1, 1) := by decide +kernel
theorem dX12_swaps_5 : decode cX12_swaps 5 = .ok (.iaload, 1) := by decide +kernel
theorem dX12_swaps_6 : decode cX12_swaps 6 = .ok (.istore_n 3, 1) := by decide +kernel
theorem dX12_swaps_7 : decode cX12_swaps 7 = .ok (.aload_n 0, 1) := by decide +kernel
theorem dX12_swaps_8 : decode cX12_swaps 8 = .ok (.getfield 126, 3) := by decide +kernel
theorem dX12_swaps_11 : decode cX12_swaps 11 = .ok (.iload_n 1, 1) := by decide +kernel
theorem dX12_swaps_12 : decode cX12_swaps 12 = .ok (.aload_n 0, 1) := by decide +kernel
theorem dX12_swaps_13 : decode cX12_swaps 13 = .ok (.getfield 126, 3) := by decide +kernel
theorem dX12_swaps_16 : decode cX12_swaps 16 = .ok (.iload_n 2, 1) := by decide +kernel
theorem dX12_swaps_17 : decode cX12_swaps 17 = .ok (.iaload, 1) := by decide +kernel
theorem dX12_swaps_18 : decode cX12_swaps 18 = .ok (.iastore, 1) := by decide +kernel
theorem dX12_swaps_19 : decode cX12_swaps 19 = .ok (.aload_n 0, 1) := by decide +kernel
theorem dX12_swaps_20 : decode cX12_swaps 20 = .ok (.getfield 126, 3) := by decide +kernel
theorem dX12_swaps_23 : decode cX12_swaps 23 = .ok (.iload_n 2, 1) := by decide +kernel
theorem dX12_swaps_24 : decode cX12_swaps 24 = .ok (.iload_n 3, 1) := by decide +kernel
theorem dX12_swaps_25 : decode cX12_swaps 25 = .ok (.iastore, 1) := by decide +kernel
theorem dX12_swaps_26 : decode cX12_swaps 26 = .ok (.return_, 1) := by decide +kernel
set_option maxRecDepth 20000 in
theorem ggX12_asks_X12_hitsBy : GoodIn wsX12_asks wsX12_hitsBy := goodIn_r _ [8, 1, 2, 3, 9, 10, 11, 7, 12, 13, 14, 15, 16, 17, 18, 19, 20, 21, 22, 23, 24, 33, 34, 35, 36, 37, 38, 39, 40, 41, 42, 43, 44, 45, 46, 47, 48, 49, 50, 51, 52, 53, 54, 55, 56, 57, 58, 59, 60, 61, 62, 63, 64, 65, 66, 67, 68, 69, 70, 71, 72, 73, 74, 75, 76, 77, 78, 79, 80, 81, 82, 83, 84, 85, 86, 87, 88, 89, 90] (by decide +kernel) (by decide +kernel)
set_option maxRecDepth 20000 in
theorem gX12_asks_X12_hitsBy : GoodIn wsX12_asks (wsV RX12 375 RX12 yX12_hitsBy wsX12_hitsBy) := goodIn_app (goodIn_of _ (by decide +kernel)) ggX12_asks_X12_hitsBy
set_option maxRecDepth 20000 in
theorem ggX12_asks_X12_turns : GoodIn wsX12_asks wsX12_turns := goodIn_r _ [28, 1, 3, 29, 30, 31, 7, 32, 33, 34, 35, 36, 37, 38, 39, 40, 41, 42, 43, 44, 45, 46, 47, 48, 49, 50, 51, 52, 53, 54, 55, 56, 57, 58, 59, 60, 61, 62, 63, 64, 65, 66, 67, 68, 69, 70, 71, 72, 73, 74, 75, 76, 77, 78, 79, 80, 81, 82, 83, 84, 85, 86, 87, 88, 89, 90] (by decide +kernel) (by decide +kernel)
set_option maxRecDepth 20000 in
theorem gX12_asks_X12_turns : GoodIn wsX12_asks (wsV RX12 378 RX12 yX12_turns wsX12_turns) := goodIn_app (goodIn_of _ (by decide +kernel)) ggX12_asks_X12_turns
theorem dX12_asks_0 : decode cX12_asks 0 = .ok (.aload_n 0, 1) := by decide +kernel
theorem dX12_asks_1 : decode cX12_asks 1 = .ok (.iconst 0, 1) := by decide +kernel
theorem dX12_asks_2 : decode cX12_asks 2 = .ok (.putfield 362, 3) := by decide +kernel
theorem dX12_asks_5 : decode cX12_asks 5 = .ok (.iconst 0, 1) := by decide +kernel
theorem dX12_asks_6 : decode cX12_asks 6 = .ok (.istore 4, 2) := by decide +kernel
theorem dX12_asks_8 : decode cX12_asks 8 = .ok (.iload 4, 2) := by decide +kernel
theorem dX12_asks_10 : decode cX12_asks 10 = .ok (.bipush 20, 2) := by decide +kernel
theorem dX12_asks_12 : decode cX12_asks 12 = .ok (.if_icmp .ge 54, 3) := by decide +kernel
theorem dX12_asks_15 : decode cX12_asks 15 = .ok (.aload_n 1, 1) := by decide +kernel
theorem dX12_asks_16 : decode cX12_asks 16 = .ok (.iload 4, 2) := by decide +kernel
theorem dX12_asks_18 : decode cX12_asks 18 = .ok (.iaload, 1) := by decide +kernel
theorem dX12_asks_19 : decode cX12_asks 19 = .ok (.iconst (-1), 1) := by decide +kernel
theorem dX12_asks_20 : decode cX12_asks 20 = .ok (.if_icmp .ne 6, 3) := by decide +kernel
theorem dX12_asks_23 : decode cX12_asks 23 = .ok (.goto 37, 3) := by decide +kernel
theorem dX12_asks_26 : decode cX12_asks 26 = .ok (.aload_n 0, 1) := by decide +kernel
theorem dX12_asks_27 : decode cX12_asks 27 = .ok (.getfield 123, 3) := by decide +kernel
theorem dX12_asks_30 : decode cX12_asks 30 = .ok (.aload_n 0, 1) := by decide +kernel
theorem dX12_asks_31 : decode cX12_asks 31 = .ok (.getfield 362, 3) := by decide +kernel
theorem dX12_asks_34 : decode cX12_asks 34 = .ok (.iload 4, 2) := by decide +kernel
theorem dX12_asks_36 : decode cX12_asks 36 = .ok (.iastore, 1) := by decide +kernel
theorem dX12_asks_37 : decode cX12_asks 37 = .ok (.aload_n 0, 1) := by decide +kernel
theorem dX12_asks_38 : decode cX12_asks 38 = .ok (.getfield 126, 3) := by decide +kernel
theorem dX12_asks_41 : decode cX12_asks 41 = .ok (.aload_n 0, 1) := by decide +kernel
theorem dX12_asks_42 : decode cX12_asks 42 = .ok (.getfield 362, 3) := by decide +kernel
theorem dX12_asks_45 : decode cX12_asks 45 = .ok (.aload_n 0, 1) := by decide +kernel
theorem dX12_asks_46 : decode cX12_asks 46 = .ok (.getfield 362, 3) := by decide +kernel
theorem dX12_asks_49 : decode cX12_asks 49 = .ok (.iastore, 1) := by decide +kernel
theorem dX12_asks_50 : decode cX12_asks 50 = .ok (.aload_n 0, 1) := by decide +kernel
theorem dX12_asks_51 : decode cX12_asks 51 = .ok (.dup, 1) := by decide +kernel
theorem dX12_asks_52 : decode cX12_asks 52 = .ok (.getfield 362, 3) := by decide +kernel
theorem dX12_asks_55 : decode cX12_asks 55 = .ok (.iconst 1, 1) := by decide +kernel
theorem dX12_asks_56 : decode cX12_asks 56 = .ok (.iadd, 1) := by decide +kernel
theorem dX12_asks_57 : decode cX12_asks 57 = .ok (.putfield 362, 3) := by decide +kernel
theorem dX12_asks_60 : decode cX12_asks 60 = .ok (.iinc 4 1, 3) := by decide +kernel
theorem dX12_asks_63 : decode cX12_asks 63 = .ok (.goto (-55), 3) := by decide +kernel
theorem dX12_asks_66 : decode cX12_asks 66 = .ok (.aload_n 0, 1) := by decide +kernel
theorem dX12_asks_67 : decode cX12_asks 67 = .ok (.iload_n 3, 1) := by decide +kernel
theorem dX12_asks_68 : decode cX12_asks 68 = .ok (.invokevirtual 375, 3) := by decide +kernel
theorem dX12_asks_71 : decode cX12_asks 71 = .ok (.istore 4, 2) := by decide +kernel
theorem dX12_asks_73 : decode cX12_asks 73 = .ok (.iload_n 2, 1) := by decide +kernel
theorem dX12_asks_74 : decode cX12_asks 74 = .ok (.ifCond .ne 6, 3) := by decide +kernel
theorem dX12_asks_77 : decode cX12_asks 77 = .ok (.iload 4, 2) := by decide +kernel
theorem dX12_asks_79 : decode cX12_asks 79 = .ok (.ireturn, 1) := by decide +kernel
theorem dX12_asks_80 : decode cX12_asks 80 = .ok (.aload_n 0, 1) := by decide +kernel
theorem dX12_asks_81 : decode cX12_asks 81 = .ok (.getfield 362, 3) := by decide +kernel
theorem dX12_asks_84 : decode cX12_asks 84 = .ok (.bipush 8, 2) := by decide +kernel
theorem dX12_asks_86 : decode cX12_asks 86 = .ok (.if_icmp .le 5, 3) := by decide +kernel
theorem dX12_asks_89 : decode cX12_asks 89 = .ok (.iconst (-1), 1) := by decide +kernel
theorem dX12_asks_90 : decode cX12_asks 90 = .ok (.ireturn, 1) := by decide +kernel
theorem dX12_asks_91 : decode cX12_asks 91 = .ok (.iconst 0, 1) := by decide +kernel
theorem dX12_asks_92 : decode cX12_asks 92 = .ok (.istore 5, 2) := by decide +kernel
theorem dX12_asks_94 : decode cX12_asks 94 = .ok (.iconst 1, 1) := by decide +kernel
theorem dX12_asks_95 : decode cX12_asks 95 = .ok (.istore 6, 2) := by decide +kernel
theorem dX12_asks_97 : decode cX12_asks 97 = .ok (.iload 6, 2) := by decide +kernel
theorem dX12_asks_99 : decode cX12_asks 99 = .ok (.ifCond .eq 25, 3) := by decide +kernel
theorem dX12_asks_102 : decode cX12_asks 102 = .ok (.aload_n 0, 1) := by decide +kernel
theorem dX12_asks_103 : decode cX12_asks 103 = .ok (.iload_n 3, 1) := by decide +kernel
theorem dX12_asks_104 : decode cX12_asks 104 = .ok (.invokevirtual 375, 3) := by decide +kernel
theorem dX12_asks_107 : decode cX12_asks 107 = .ok (.iload 4, 2) := by decide +kernel
theorem dX12_asks_109 : decode cX12_asks 109 = .ok (.if_icmp .lt 6, 3) := by decide +kernel
theorem dX12_asks_112 : decode cX12_asks 112 = .ok (.iinc 5 1, 3) := by decide +kernel
theorem dX12_asks_115 : decode cX12_asks 115 = .ok (.aload_n 0, 1) := by decide +kernel
theorem dX12_asks_116 : decode cX12_asks 116 = .ok (.invokevirtual 378, 3) := by decide +kernel
theorem dX12_asks_119 : decode cX12_asks 119 = .ok (.istore 6, 2) := by decide +kernel
theorem dX12_asks_121 : decode cX12_asks 121 = .ok (.goto (-24), 3) := by decide +kernel
theorem dX12_asks_124 : decode cX12_asks 124 = .ok (.iload 5, 2) := by decide +kernel
theorem dX12_asks_126 : decode cX12_asks 126 = .ok (.ireturn, 1) := by decide +kernel
set_option maxRecDepth 20000 in
theorem ggX12_hits_X12_within : GoodIn wsX12_hits wsX12_within := goodIn_r _ [6] (by decide +kernel) (by decide +kernel)
set_option maxRecDepth 20000 in
theorem gX12_hits_X12_within : GoodIn wsX12_hits (va_wsS RX12 270 yX12_within wsX12_within) := goodIn_app (goodIn_of _ (by decide +kernel)) ggX12_hits_X12_within
set_option maxRecDepth 20000 in
theorem ggX12_hits_X12_right : GoodIn wsX12_hits wsX12_right := goodIn_r _ [10, 1, 45, 46, 47, 48, 49, 50, 51, 52, 53, 54, 55, 56, 57, 58, 59, 60, 61, 62, 63, 64, 65, 66, 67, 68, 69, 70, 71, 72, 73, 74, 75, 76, 77, 78, 79, 80, 81, 82, 83, 84, 85, 86, 87, 88, 89, 90, 91, 92, 93, 94, 95, 96, 97, 98, 99, 100, 101, 102] (by decide +kernel) (by decide +kernel)
set_option maxRecDepth 20000 in
theorem gX12_hits_X12_right : GoodIn wsX12_hits (wsV RX12 209 RX12 yX12_right wsX12_right) := goodIn_app (goodIn_of _ (by decide +kernel)) ggX12_hits_X12_right
set_option maxRecDepth 20000 in
theorem ggX12_hits_X12_asks : GoodIn wsX12_hits wsX12_asks := goodIn_r _ [14, 15, 16, 17, 18, 19, 20, 5, 21, 22, 23, 24, 25, 26, 27, 28, 29, 30, 31, 32, 33, 34, 35, 2, 36, 37, 38, 39, 40, 41, 42, 43, 44, 45, 46, 47, 48, 49, 50, 51, 52, 53, 54, 55, 56, 57, 58, 59, 60, 61, 62, 63, 64, 65, 66, 67, 68, 69, 70, 71, 72, 73, 74, 75, 76, 77, 78, 79, 80, 81, 82, 83, 84, 85, 86, 87, 88, 89, 90, 91, 92, 93, 94, 95, 96, 97, 98, 99, 100, 101, 102] (by decide +kernel) (by decide +kernel)
set_option maxRecDepth 20000 in
theorem gX12_hits_X12_asks : GoodIn wsX12_hits (wsV RX12 381 RX12 yX12_asks wsX12_asks) := goodIn_app (goodIn_of _ (by decide +kernel)) ggX12_hits_X12_asks
theorem dX12_hits_0 : decode cX12_hits 0 = .ok (.aload_n 0, 1) := by decide +kernel
theorem dX12_hits_1 : decode cX12_hits 1 = .ok (.iconst 0, 1) := by decide +kernel
theorem dX12_hits_2 : decode cX12_hits 2 = .ok (.putfield 129, 3) := by decide +kernel
theorem dX12_hits_5 : decode cX12_hits 5 = .ok (.aload_n 0, 1) := by decide +kernel
theorem dX12_hits_6 : decode cX12_hits 6 = .ok (.iload_n 1, 1) := by decide +kernel
theorem dX12_hits_7 : decode cX12_hits 7 = .ok (.ifCond .eq 8, 3) := by decide +kernel
theorem dX12_hits_10 : decode cX12_hits 10 = .ok (.iload_n 1, 1) := by decide +kernel
theorem dX12_hits_11 : decode cX12_hits 11 = .ok (.iconst 1, 1) := by decide +kernel
theorem dX12_hits_12 : decode cX12_hits 12 = .ok (.if_icmp .ne 17, 3) := by decide +kernel
theorem dX12_hits_15 : decode cX12_hits 15 = .ok (.iload_n 2, 1) := by decide +kernel
theorem dX12_hits_16 : decode cX12_hits 16 = .ok (.iconst 0, 1) := by decide +kernel
theorem dX12_hits_17 : decode cX12_hits 17 = .ok (.bipush 120, 2) := by decide +kernel
theorem dX12_hits_19 : decode cX12_hits 19 = .ok (.invokestatic 270, 3) := by decide +kernel
theorem dX12_hits_22 : decode cX12_hits 22 = .ok (.ifCond .eq 7, 3) := by decide +kernel
theorem dX12_hits_25 : decode cX12_hits 25 = .ok (.iconst 1, 1) := by decide +kernel
theorem dX12_hits_26 : decode cX12_hits 26 = .ok (.goto 4, 3) := by decide +kernel
theorem dX12_hits_29 : decode cX12_hits 29 = .ok (.iconst 0, 1) := by decide +kernel
theorem dX12_hits_30 : decode cX12_hits 30 = .ok (.iconst 1, 1) := by decide +kernel
theorem dX12_hits_31 : decode cX12_hits 31 = .ok (.invokevirtual 209, 3) := by decide +kernel
theorem dX12_hits_34 : decode cX12_hits 34 = .ok (.ifCond .ne 5, 3) := by decide +kernel
theorem dX12_hits_37 : decode cX12_hits 37 = .ok (.iconst 0, 1) := by decide +kernel
theorem dX12_hits_38 : decode cX12_hits 38 = .ok (.ireturn, 1) := by decide +kernel
theorem dX12_hits_39 : decode cX12_hits 39 = .ok (.aload_n 0, 1) := by decide +kernel
theorem dX12_hits_40 : decode cX12_hits 40 = .ok (.aload_n 0, 1) := by decide +kernel
theorem dX12_hits_41 : decode cX12_hits 41 = .ok (.getfield 114, 3) := by decide +kernel
theorem dX12_hits_44 : decode cX12_hits 44 = .ok (.iload_n 1, 1) := by decide +kernel
theorem dX12_hits_45 : decode cX12_hits 45 = .ok (.iload_n 2, 1) := by decide +kernel
theorem dX12_hits_46 : decode cX12_hits 46 = .ok (.invokevirtual 381, 3) := by decide +kernel
theorem dX12_hits_49 : decode cX12_hits 49 = .ok (.ireturn, 1) := by decide +kernel
set_option maxRecDepth 20000 in
theorem ggX12_fates_X12_right : GoodIn wsX12_fates wsX12_right := goodIn_r _ [7, 1, 42, 43, 44, 45, 46, 47, 48, 49, 50, 51, 52, 53, 54, 55, 56, 57, 58, 59, 60, 61, 62, 63, 64, 65, 66, 67, 68, 69, 70, 71, 72, 73, 74, 75, 76, 77, 78, 79, 80, 81, 82, 83, 84, 85, 86, 87, 88, 89, 90, 91, 92, 93, 94, 95, 96, 97, 98, 99] (by decide +kernel) (by decide +kernel)
set_option maxRecDepth 20000 in
theorem gX12_fates_X12_right : GoodIn wsX12_fates (wsV RX12 209 RX12 yX12_right wsX12_right) := goodIn_app (goodIn_of _ (by decide +kernel)) ggX12_fates_X12_right
set_option maxRecDepth 20000 in
theorem ggX12_fates_X12_asks : GoodIn wsX12_fates wsX12_asks := goodIn_r _ [11, 12, 13, 14, 15, 16, 17, 6, 18, 19, 20, 21, 22, 2, 23, 24, 25, 26, 27, 28, 29, 30, 31, 32, 33, 34, 35, 36, 37, 38, 39, 40, 41, 42, 43, 44, 45, 46, 47, 48, 49, 50, 51, 52, 53, 54, 55, 56, 57, 58, 59, 60, 61, 62, 63, 64, 65, 66, 67, 68, 69, 70, 71, 72, 73, 74, 75, 76, 77, 78, 79, 80, 81, 82, 83, 84, 85, 86, 87, 88, 89, 90, 91, 92, 93, 94, 95, 96, 97, 98, 99] (by decide +kernel) (by decide +kernel)
set_option maxRecDepth 20000 in
theorem gX12_fates_X12_asks : GoodIn wsX12_fates (wsV RX12 381 RX12 yX12_asks wsX12_asks) := goodIn_app (goodIn_of _ (by decide +kernel)) ggX12_fates_X12_asks
theorem dX12_fates_0 : decode cX12_fates 0 = .ok (.aload_n 0, 1) := by decide +kernel
theorem dX12_fates_1 : decode cX12_fates 1 = .ok (.iconst 0, 1) := by decide +kernel
theorem dX12_fates_2 : decode cX12_fates 2 = .ok (.putfield 129, 3) := by decide +kernel
theorem dX12_fates_5 : decode cX12_fates 5 = .ok (.aload_n 0, 1) := by decide +kernel
theorem dX12_fates_6 : decode cX12_fates 6 = .ok (.iload_n 1, 1) := by decide +kernel
theorem dX12_fates_7 : decode cX12_fates 7 = .ok (.ifCond .eq 8, 3) := by decide +kernel
theorem dX12_fates_10 : decode cX12_fates 10 = .ok (.iload_n 1, 1) := by decide +kernel
theorem dX12_fates_11 : decode cX12_fates 11 = .ok (.iconst 1, 1) := by decide +kernel
theorem dX12_fates_12 : decode cX12_fates 12 = .ok (.if_icmp .ne 7, 3) := by decide +kernel
theorem dX12_fates_15 : decode cX12_fates 15 = .ok (.iconst 1, 1) := by decide +kernel
theorem dX12_fates_16 : decode cX12_fates 16 = .ok (.goto 4, 3) := by decide +kernel
theorem dX12_fates_19 : decode cX12_fates 19 = .ok (.iconst 0, 1) := by decide +kernel
theorem dX12_fates_20 : decode cX12_fates 20 = .ok (.iconst 1, 1) := by decide +kernel
theorem dX12_fates_21 : decode cX12_fates 21 = .ok (.invokevirtual 209, 3) := by decide +kernel
theorem dX12_fates_24 : decode cX12_fates 24 = .ok (.ifCond .ne 5, 3) := by decide +kernel
theorem dX12_fates_27 : decode cX12_fates 27 = .ok (.iconst 0, 1) := by decide +kernel
theorem dX12_fates_28 : decode cX12_fates 28 = .ok (.ireturn, 1) := by decide +kernel
theorem dX12_fates_29 : decode cX12_fates 29 = .ok (.aload_n 0, 1) := by decide +kernel
theorem dX12_fates_30 : decode cX12_fates 30 = .ok (.aload_n 0, 1) := by decide +kernel
theorem dX12_fates_31 : decode cX12_fates 31 = .ok (.getfield 120, 3) := by decide +kernel
theorem dX12_fates_34 : decode cX12_fates 34 = .ok (.iload_n 1, 1) := by decide +kernel
theorem dX12_fates_35 : decode cX12_fates 35 = .ok (.iconst (-1), 1) := by decide +kernel
theorem dX12_fates_36 : decode cX12_fates 36 = .ok (.invokevirtual 381, 3) := by decide +kernel
theorem dX12_fates_39 : decode cX12_fates 39 = .ok (.ireturn, 1) := by decide +kernel
