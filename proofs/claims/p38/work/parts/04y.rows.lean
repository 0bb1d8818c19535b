set_option maxRecDepth 20000 in
theorem ggX1_readEntries_J7_fill_53178 : GoodIn wsX1_readEntries wsJ7_fill_53178 := goodIn_r _ [5] (by decide +kernel) (by decide +kernel)
set_option maxRecDepth 20000 in
theorem gX1_readEntries_J7_fill_53178 : GoodIn wsX1_readEntries (va_wsS RX1 18 yJ7_fill_53178 wsJ7_fill_53178) := goodIn_app (goodIn_of _ (by decide +kernel)) ggX1_readEntries_J7_fill_53178
set_option maxRecDepth 20000 in
theorem ggX1_readEntries_X9_isAtEnd : GoodIn wsX1_readEntries wsX9_isAtEnd := goodIn_r _ [10, 11, 133, 134, 135, 136, 137, 138, 139, 140, 141, 142] (by decide +kernel) (by decide +kernel)
set_option maxRecDepth 20000 in
theorem gX1_readEntries_X9_isAtEnd : GoodIn wsX1_readEntries (wsV RX1 32 RX9 yX9_isAtEnd wsX9_isAtEnd) := goodIn_app (goodIn_of _ (by decide +kernel)) ggX1_readEntries_X9_isAtEnd
set_option maxRecDepth 20000 in
theorem ggX1_readEntries_X1_readEntry : GoodIn wsX1_readEntries wsX1_readEntry := goodIn_r _ [16, 17, 18, 19, 20, 9, 21, 11, 22, 23, 24, 25, 26, 27, 28, 29, 30, 31, 32, 33, 34, 35, 36, 37, 38, 39, 40, 41, 42, 43, 44, 45, 46, 47, 48, 49, 50, 51, 52, 53, 54, 55, 56, 57, 58, 59, 60, 61, 62, 63, 64, 65, 66, 67, 68, 69, 70, 71, 72, 73, 74, 75, 76, 77, 78, 79, 80, 81, 82, 83, 84, 85, 86, 87, 88, 89, 90, 91, 92, 93, 94, 95, 96, 97, 98, 99, 100, 101, 102, 15, 103, 1, 104, 105, 106, 107, 108, 109, 110, 111, 112, 113, 114, 115, 116, 117, 118, 119, 120, 121, 122, 123, 124, 125, 126, 127, 128, 129, 130, 133, 134, 135, 136, 137, 138, 139, 140, 141, 142, 131, 132] (by decide +kernel) (by decide +kernel)
set_option maxRecDepth 20000 in
theorem gX1_readEntries_X1_readEntry : GoodIn wsX1_readEntries (wsV RX1 36 RX1 yX1_readEntry wsX1_readEntry) := goodIn_app (goodIn_of _ (by decide +kernel)) ggX1_readEntries_X1_readEntry
theorem dX1_readEntries_0 : decode cX1_readEntries 0 = .ok (.aload_n 0, 1) := by decide +kernel
theorem dX1_readEntries_1 : decode cX1_readEntries 1 = .ok (.getfield 15, 3) := by decide +kernel
theorem dX1_readEntries_4 : decode cX1_readEntries 4 = .ok (.iconst (-1), 1) := by decide +kernel
theorem dX1_readEntries_5 : decode cX1_readEntries 5 = .ok (.invokestatic 18, 3) := by decide +kernel
theorem dX1_readEntries_8 : decode cX1_readEntries 8 = .ok (.iconst 0, 1) := by decide +kernel
theorem dX1_readEntries_9 : decode cX1_readEntries 9 = .ok (.istore_n 2, 1) := by decide +kernel
theorem dX1_readEntries_10 : decode cX1_readEntries 10 = .ok (.iload_n 2, 1) := by decide +kernel
theorem dX1_readEntries_11 : decode cX1_readEntries 11 = .ok (.sipush 600, 3) := by decide +kernel
theorem dX1_readEntries_14 : decode cX1_readEntries 14 = .ok (.if_icmp .ge 26, 3) := by decide +kernel
theorem dX1_readEntries_17 : decode cX1_readEntries 17 = .ok (.aload_n 1, 1) := by decide +kernel
theorem dX1_readEntries_18 : decode cX1_readEntries 18 = .ok (.invokevirtual 32, 3) := by decide +kernel
theorem dX1_readEntries_21 : decode cX1_readEntries 21 = .ok (.ifCond .ne 19, 3) := by decide +kernel
theorem dX1_readEntries_24 : decode cX1_readEntries 24 = .ok (.aload_n 0, 1) := by decide +kernel
theorem dX1_readEntries_25 : decode cX1_readEntries 25 = .ok (.aload_n 1, 1) := by decide +kernel
theorem dX1_readEntries_26 : decode cX1_readEntries 26 = .ok (.invokevirtual 36, 3) := by decide +kernel
theorem dX1_readEntries_29 : decode cX1_readEntries 29 = .ok (.ifCond .ne 5, 3) := by decide +kernel
theorem dX1_readEntries_32 : decode cX1_readEntries 32 = .ok (.iconst 0, 1) := by decide +kernel
theorem dX1_readEntries_33 : decode cX1_readEntries 33 = .ok (.ireturn, 1) := by decide +kernel
theorem dX1_readEntries_34 : decode cX1_readEntries 34 = .ok (.iinc 2 1, 3) := by decide +kernel
theorem dX1_readEntries_37 : decode cX1_readEntries 37 = .ok (.goto (-27), 3) := by decide +kernel
theorem dX1_readEntries_40 : decode cX1_readEntries 40 = .ok (.iconst 1, 1) := by decide +kernel
theorem dX1_readEntries_41 : decode cX1_readEntries 41 = .ok (.ireturn, 1) := by decide +kernel
set_option maxRecDepth 20000 in
theorem ggX1_readEntry_X9_isWord : GoodIn wsX1_readEntry wsX9_isWord := goodIn_r _ [6, 7, 8, 9, 10, 11, 12, 13, 14, 15, 16, 17, 18, 19, 20, 21, 22, 23, 24, 25, 26, 27, 28, 29, 30, 31, 32, 33, 34, 35, 36, 37, 38, 39, 40, 41, 42, 43, 44, 45, 46, 47, 48, 49, 50, 51, 52, 53, 54, 55, 56, 57, 58, 59, 119, 120, 121, 122, 123, 124, 125, 126, 127, 128] (by decide +kernel) (by decide +kernel)
set_option maxRecDepth 20000 in
theorem gX1_readEntry_X9_isWord : GoodIn wsX1_readEntry (wsV RX1 42 RX9 yX9_isWord wsX9_isWord) := goodIn_app (goodIn_of _ (by decide +kernel)) ggX1_readEntry_X9_isWord
set_option maxRecDepth 20000 in
theorem ggX1_readEntry_X9_step : GoodIn wsX1_readEntry wsX9_step := goodIn_r _ [63, 8, 64, 10, 9, 7, 65, 66, 67, 5, 68, 69, 70, 71, 72, 73, 74, 119, 120, 121, 122, 123, 124, 125, 126, 127, 128] (by decide +kernel) (by decide +kernel)
set_option maxRecDepth 20000 in
theorem gX1_readEntry_X9_step : GoodIn wsX1_readEntry (wsV RX1 46 RX9 yX9_step wsX9_step) := goodIn_app (goodIn_of _ (by decide +kernel)) ggX1_readEntry_X9_step
set_option maxRecDepth 20000 in
theorem ggX1_readEntry_X9_holdsNumber : GoodIn wsX1_readEntry wsX9_holdsNumber := goodIn_r _ [78, 7, 8, 9, 65, 79, 80, 81, 82, 5, 83, 84, 85, 119, 120, 121, 122, 123, 124, 125, 126, 127, 128] (by decide +kernel) (by decide +kernel)
set_option maxRecDepth 20000 in
theorem gX1_readEntry_X9_holdsNumber : GoodIn wsX1_readEntry (wsV RX1 49 RX9 yX9_holdsNumber wsX9_holdsNumber) := goodIn_app (goodIn_of _ (by decide +kernel)) ggX1_readEntry_X9_holdsNumber
set_option maxRecDepth 20000 in
theorem ggX1_readEntry_X1_readDegree : GoodIn wsX1_readEntry wsX1_readDegree := goodIn_r _ [90, 1, 91, 92, 93, 94, 89, 95, 96, 81, 82, 5, 83, 84, 9, 85, 60, 61, 62, 63, 8, 64, 10, 7, 65, 66, 67, 68, 69, 70, 71, 72, 73, 74, 97, 98, 99, 100, 101, 76, 77, 78, 79, 80, 102, 103, 104, 105, 106, 119, 120, 121, 122, 123, 124, 125, 126, 127, 128, 129, 130] (by decide +kernel) (by decide +kernel)
set_option maxRecDepth 20000 in
theorem gX1_readEntry_X1_readDegree : GoodIn wsX1_readEntry (wsV RX1 57 RX1 yX1_readDegree wsX1_readDegree) := goodIn_app (goodIn_of _ (by decide +kernel)) ggX1_readEntry_X1_readDegree
set_option maxRecDepth 20000 in
theorem ggX1_readEntry_X1_readDate : GoodIn wsX1_readEntry wsX1_readDate := goodIn_r _ [110, 1, 91, 92, 93, 94, 89, 95, 96, 81, 82, 5, 83, 84, 9, 85, 60, 61, 62, 63, 8, 64, 10, 7, 65, 66, 67, 68, 69, 70, 71, 72, 73, 74, 97, 98, 99, 100, 101, 76, 77, 78, 79, 80, 102, 103, 104, 105, 106, 119, 120, 121, 122, 123, 124, 125, 126, 127, 128, 129, 130] (by decide +kernel) (by decide +kernel)
set_option maxRecDepth 20000 in
theorem gX1_readEntry_X1_readDate : GoodIn wsX1_readEntry (wsV RX1 63 RX1 yX1_readDate wsX1_readDate) := goodIn_app (goodIn_of _ (by decide +kernel)) ggX1_readEntry_X1_readDate
set_option maxRecDepth 20000 in
theorem ggX1_readEntry_X9_namedOf : GoodIn wsX1_readEntry wsX9_namedOf := goodIn_r _ [114, 115, 116, 5, 117, 118, 3, 4, 6, 7, 8, 9, 10, 11, 12, 13, 14, 15, 16, 17, 18, 19, 20, 21, 22, 23, 24, 25, 26, 27, 28, 29, 30, 31, 32, 33, 34, 35, 36, 37, 38, 39, 40, 41, 42, 43, 44, 45, 46, 47, 48, 49, 50, 51, 52, 53, 54, 55, 56, 57, 58, 59, 119, 120, 121, 122, 123, 124, 125, 126, 127, 128] (by decide +kernel) (by decide +kernel)
set_option maxRecDepth 20000 in
theorem gX1_readEntry_X9_namedOf : GoodIn wsX1_readEntry (wsV RX1 66 RX9 yX9_namedOf wsX9_namedOf) := goodIn_app (goodIn_of _ (by decide +kernel)) ggX1_readEntry_X9_namedOf
set_option maxRecDepth 20000 in
theorem ggX1_readEntry_X9_refuse : GoodIn wsX1_readEntry wsX9_refuse := goodIn_r _ [83, 84, 9, 85, 119, 120, 121, 122, 123, 124, 125, 126, 127, 128] (by decide +kernel) (by decide +kernel)
set_option maxRecDepth 20000 in
theorem gX1_readEntry_X9_refuse : GoodIn wsX1_readEntry (wsV RX1 70 RX9 yX9_refuse wsX9_refuse) := goodIn_app (goodIn_of _ (by decide +kernel)) ggX1_readEntry_X9_refuse
theorem dX1_readEntry_0 : decode cX1_readEntry 0 = .ok (.aload_n 1, 1) := by decide +kernel
theorem dX1_readEntry_1 : decode cX1_readEntry 1 = .ok (.ldc 40, 2) := by decide +kernel
theorem dX1_readEntry_3 : decode cX1_readEntry 3 = .ok (.invokevirtual 42, 3) := by decide +kernel
theorem dX1_readEntry_6 : decode cX1_readEntry 6 = .ok (.ifCond .eq 38, 3) := by decide +kernel
theorem dX1_readEntry_9 : decode cX1_readEntry 9 = .ok (.aload_n 1, 1) := by decide +kernel
theorem dX1_readEntry_10 : decode cX1_readEntry 10 = .ok (.invokevirtual 46, 3) := by decide +kernel
theorem dX1_readEntry_13 : decode cX1_readEntry 13 = .ok (.aload_n 1, 1) := by decide +kernel
theorem dX1_readEntry_14 : decode cX1_readEntry 14 = .ok (.iconst 1, 1) := by decide +kernel
theorem dX1_readEntry_15 : decode cX1_readEntry 15 = .ok (.bipush 12, 2) := by decide +kernel
theorem dX1_readEntry_17 : decode cX1_readEntry 17 = .ok (.invokevirtual 49, 3) := by decide +kernel
theorem dX1_readEntry_20 : decode cX1_readEntry 20 = .ok (.ifCond .eq 22, 3) := by decide +kernel
theorem dX1_readEntry_23 : decode cX1_readEntry 23 = .ok (.aload_n 0, 1) := by decide +kernel
theorem dX1_readEntry_24 : decode cX1_readEntry 24 = .ok (.aload_n 1, 1) := by decide +kernel
theorem dX1_readEntry_25 : decode cX1_readEntry 25 = .ok (.bipush 8, 2) := by decide +kernel
theorem dX1_readEntry_27 : decode cX1_readEntry 27 = .ok (.aload_n 1, 1) := by decide +kernel
theorem dX1_readEntry_28 : decode cX1_readEntry 28 = .ok (.getfield 53, 3) := by decide +kernel
theorem dX1_readEntry_31 : decode cX1_readEntry 31 = .ok (.iadd, 1) := by decide +kernel
theorem dX1_readEntry_32 : decode cX1_readEntry 32 = .ok (.invokevirtual 57, 3) := by decide +kernel
theorem dX1_readEntry_35 : decode cX1_readEntry 35 = .ok (.ifCond .eq 7, 3) := by decide +kernel
theorem dX1_readEntry_38 : decode cX1_readEntry 38 = .ok (.iconst 1, 1) := by decide +kernel
theorem dX1_readEntry_39 : decode cX1_readEntry 39 = .ok (.goto 4, 3) := by decide +kernel
theorem dX1_readEntry_42 : decode cX1_readEntry 42 = .ok (.iconst 0, 1) := by decide +kernel
theorem dX1_readEntry_43 : decode cX1_readEntry 43 = .ok (.ireturn, 1) := by decide +kernel
theorem dX1_readEntry_44 : decode cX1_readEntry 44 = .ok (.aload_n 1, 1) := by decide +kernel
theorem dX1_readEntry_45 : decode cX1_readEntry 45 = .ok (.ldc 61, 2) := by decide +kernel
theorem dX1_readEntry_47 : decode cX1_readEntry 47 = .ok (.invokevirtual 42, 3) := by decide +kernel
theorem dX1_readEntry_50 : decode cX1_readEntry 50 = .ok (.ifCond .eq 9, 3) := by decide +kernel
theorem dX1_readEntry_53 : decode cX1_readEntry 53 = .ok (.aload_n 0, 1) := by decide +kernel
theorem dX1_readEntry_54 : decode cX1_readEntry 54 = .ok (.aload_n 1, 1) := by decide +kernel
theorem dX1_readEntry_55 : decode cX1_readEntry 55 = .ok (.invokevirtual 63, 3) := by decide +kernel
theorem dX1_readEntry_58 : decode cX1_readEntry 58 = .ok (.ireturn, 1) := by decide +kernel
theorem dX1_readEntry_59 : decode cX1_readEntry 59 = .ok (.aload_n 1, 1) := by decide +kernel
theorem dX1_readEntry_60 : decode cX1_readEntry 60 = .ok (.bipush 9, 2) := by decide +kernel
theorem dX1_readEntry_62 : decode cX1_readEntry 62 = .ok (.invokevirtual 66, 3) := by decide +kernel
theorem dX1_readEntry_65 : decode cX1_readEntry 65 = .ok (.istore_n 2, 1) := by decide +kernel
theorem dX1_readEntry_66 : decode cX1_readEntry 66 = .ok (.iload_n 2, 1) := by decide +kernel
theorem dX1_readEntry_67 : decode cX1_readEntry 67 = .ok (.iconst (-1), 1) := by decide +kernel
theorem dX1_readEntry_68 : decode cX1_readEntry 68 = .ok (.if_icmp .ne 11, 3) := by decide +kernel
theorem dX1_readEntry_71 : decode cX1_readEntry 71 = .ok (.aload_n 1, 1) := by decide +kernel
theorem dX1_readEntry_72 : decode cX1_readEntry 72 = .ok (.iconst 1, 1) := by decide +kernel
theorem dX1_readEntry_73 : decode cX1_readEntry 73 = .ok (.invokevirtual 70, 3) := by decide +kernel
theorem dX1_readEntry_76 : decode cX1_readEntry 76 = .ok (.goto 9, 3) := by decide +kernel
theorem dX1_readEntry_79 : decode cX1_readEntry 79 = .ok (.aload_n 0, 1) := by decide +kernel
theorem dX1_readEntry_80 : decode cX1_readEntry 80 = .ok (.aload_n 1, 1) := by decide +kernel
theorem dX1_readEntry_81 : decode cX1_readEntry 81 = .ok (.iload_n 2, 1) := by decide +kernel
theorem dX1_readEntry_82 : decode cX1_readEntry 82 = .ok (.invokevirtual 57, 3) := by decide +kernel
theorem dX1_readEntry_85 : decode cX1_readEntry 85 = .ok (.ireturn, 1) := by decide +kernel
set_option maxRecDepth 20000 in
theorem ggX1_isNew_X9_refuse : GoodIn wsX1_isNew wsX9_refuse := goodIn_r _ [6, 7, 8, 9, 30, 31, 32, 33, 34, 35, 36, 37, 38, 39] (by decide +kernel) (by decide +kernel)
set_option maxRecDepth 20000 in
theorem gX1_isNew_X9_refuse : GoodIn wsX1_isNew (wsV RX1 70 RX9 yX9_refuse wsX9_refuse) := goodIn_app (goodIn_of _ (by decide +kernel)) ggX1_isNew_X9_refuse
set_option maxRecDepth 20000 in
theorem ggX1_isNew_X9_step : GoodIn wsX1_isNew wsX9_step := goodIn_r _ [13, 14, 15, 16, 8, 17, 18, 19, 20, 5, 21, 22, 23, 24, 25, 26, 27, 30, 31, 32, 33, 34, 35, 36, 37, 38, 39] (by decide +kernel) (by decide +kernel)
set_option maxRecDepth 20000 in
theorem gX1_isNew_X9_step : GoodIn wsX1_isNew (wsV RX1 46 RX9 yX9_step wsX9_step) := goodIn_app (goodIn_of _ (by decide +kernel)) ggX1_isNew_X9_step
theorem dX1_isNew_0 : decode cX1_isNew 0 = .ok (.aload_n 0, 1) := by decide +kernel
theorem dX1_isNew_1 : decode cX1_isNew 1 = .ok (.getfield 15, 3) := by decide +kernel
theorem dX1_isNew_4 : decode cX1_isNew 4 = .ok (.iload_n 2, 1) := by decide +kernel
theorem dX1_isNew_5 : decode cX1_isNew 5 = .ok (.iaload, 1) := by decide +kernel
theorem dX1_isNew_6 : decode cX1_isNew 6 = .ok (.iconst (-1), 1) := by decide +kernel
theorem dX1_isNew_7 : decode cX1_isNew 7 = .ok (.if_icmp .eq 9, 3) := by decide +kernel
theorem dX1_isNew_10 : decode cX1_isNew 10 = .ok (.aload_n 1, 1) := by decide +kernel
theorem dX1_isNew_11 : decode cX1_isNew 11 = .ok (.iconst 3, 1) := by decide +kernel
theorem dX1_isNew_12 : decode cX1_isNew 12 = .ok (.invokevirtual 70, 3) := by decide +kernel
theorem dX1_isNew_15 : decode cX1_isNew 15 = .ok (.ireturn, 1) := by decide +kernel
theorem dX1_isNew_16 : decode cX1_isNew 16 = .ok (.aload_n 1, 1) := by decide +kernel
theorem dX1_isNew_17 : decode cX1_isNew 17 = .ok (.invokevirtual 46, 3) := by decide +kernel
theorem dX1_isNew_20 : decode cX1_isNew 20 = .ok (.iconst 1, 1) := by decide +kernel
theorem dX1_isNew_21 : decode cX1_isNew 21 = .ok (.ireturn, 1) := by decide +kernel
set_option maxRecDepth 20000 in
theorem ggX1_readDegree_X1_isNew : GoodIn wsX1_readDegree wsX1_isNew := goodIn_r _ [7, 2, 8, 9, 10, 11, 12, 13, 14, 15, 16, 17, 18, 19, 20, 21, 22, 23, 24, 25, 26, 27, 28, 29, 30, 31, 32, 33, 59, 60, 49, 50, 51, 52, 53, 54, 55, 56, 57, 58] (by decide +kernel) (by decide +kernel)
set_option maxRecDepth 20000 in
theorem gX1_readDegree_X1_isNew : GoodIn wsX1_readDegree (wsV RX1 74 RX1 yX1_isNew wsX1_isNew) := goodIn_app (goodIn_of _ (by decide +kernel)) ggX1_readDegree_X1_isNew
set_option maxRecDepth 20000 in
theorem ggX1_readDegree_X9_takeNumber : GoodIn wsX1_readDegree wsX9_takeNumber := goodIn_r _ [37, 38, 39, 40, 11, 41, 23, 20, 14, 24, 42, 43, 9, 10, 12, 13, 15, 44, 17, 18, 19, 21, 22, 25, 26, 27, 28, 29, 30, 31, 32, 33, 49, 50, 51, 52, 53, 54, 55, 56, 57, 58] (by decide +kernel) (by decide +kernel)
set_option maxRecDepth 20000 in
theorem gX1_readDegree_X9_takeNumber : GoodIn wsX1_readDegree (wsV RX1 77 RX9 yX9_takeNumber wsX9_takeNumber) := goodIn_app (goodIn_of _ (by decide +kernel)) ggX1_readDegree_X9_takeNumber
set_option maxRecDepth 20000 in
theorem ggX1_readDegree_X9_takeStop : GoodIn wsX1_readDegree wsX9_takeStop := goodIn_r _ [48, 23, 43, 9, 10, 11, 12, 13, 14, 15, 44, 17, 18, 19, 20, 21, 22, 24, 25, 26, 27, 28, 29, 30, 31, 32, 33, 49, 50, 51, 52, 53, 54, 55, 56, 57, 58] (by decide +kernel) (by decide +kernel)
set_option maxRecDepth 20000 in
theorem gX1_readDegree_X9_takeStop : GoodIn wsX1_readDegree (wsV RX1 80 RX9 yX9_takeStop wsX9_takeStop) := goodIn_app (goodIn_of _ (by decide +kernel)) ggX1_readDegree_X9_takeStop
theorem dX1_readDegree_0 : decode cX1_readDegree 0 = .ok (.aload_n 0, 1) := by decide +kernel
theorem dX1_readDegree_1 : decode cX1_readDegree 1 = .ok (.aload_n 1, 1) := by decide +kernel
theorem dX1_readDegree_2 : decode cX1_readDegree 2 = .ok (.iload_n 2, 1) := by decide +kernel
theorem dX1_readDegree_3 : decode cX1_readDegree 3 = .ok (.invokevirtual 74, 3) := by decide +kernel
theorem dX1_readDegree_6 : decode cX1_readDegree 6 = .ok (.ifCond .eq 13, 3) := by decide +kernel
theorem dX1_readDegree_9 : decode cX1_readDegree 9 = .ok (.aload_n 1, 1) := by decide +kernel
theorem dX1_readDegree_10 : decode cX1_readDegree 10 = .ok (.iconst 0, 1) := by decide +kernel
theorem dX1_readDegree_11 : decode cX1_readDegree 11 = .ok (.bipush 11, 2) := by decide +kernel
theorem dX1_readDegree_13 : decode cX1_readDegree 13 = .ok (.invokevirtual 77, 3) := by decide +kernel
theorem dX1_readDegree_16 : decode cX1_readDegree 16 = .ok (.ifCond .ne 5, 3) := by decide +kernel
theorem dX1_readDegree_19 : decode cX1_readDegree 19 = .ok (.iconst 0, 1) := by decide +kernel
theorem dX1_readDegree_20 : decode cX1_readDegree 20 = .ok (.ireturn, 1) := by decide +kernel
theorem dX1_readDegree_21 : decode cX1_readDegree 21 = .ok (.aload_n 1, 1) := by decide +kernel
theorem dX1_readDegree_22 : decode cX1_readDegree 22 = .ok (.getfield 53, 3) := by decide +kernel
theorem dX1_readDegree_25 : decode cX1_readDegree 25 = .ok (.istore_n 3, 1) := by decide +kernel
theorem dX1_readDegree_26 : decode cX1_readDegree 26 = .ok (.aload_n 1, 1) := by decide +kernel
theorem dX1_readDegree_27 : decode cX1_readDegree 27 = .ok (.iconst 0, 1) := by decide +kernel
theorem dX1_readDegree_28 : decode cX1_readDegree 28 = .ok (.bipush 29, 2) := by decide +kernel
theorem dX1_readDegree_30 : decode cX1_readDegree 30 = .ok (.invokevirtual 77, 3) := by decide +kernel
theorem dX1_readDegree_33 : decode cX1_readDegree 33 = .ok (.ifCond .ne 5, 3) := by decide +kernel
theorem dX1_readDegree_36 : decode cX1_readDegree 36 = .ok (.iconst 0, 1) := by decide +kernel
theorem dX1_readDegree_37 : decode cX1_readDegree 37 = .ok (.ireturn, 1) := by decide +kernel
theorem dX1_readDegree_38 : decode cX1_readDegree 38 = .ok (.aload_n 0, 1) := by decide +kernel
theorem dX1_readDegree_39 : decode cX1_readDegree 39 = .ok (.getfield 15, 3) := by decide +kernel
theorem dX1_readDegree_42 : decode cX1_readDegree 42 = .ok (.iload_n 2, 1) := by decide +kernel
theorem dX1_readDegree_43 : decode cX1_readDegree 43 = .ok (.bipush 30, 2) := by decide +kernel
theorem dX1_readDegree_45 : decode cX1_readDegree 45 = .ok (.iload_n 3, 1) := by decide +kernel
theorem dX1_readDegree_46 : decode cX1_readDegree 46 = .ok (.imul, 1) := by decide +kernel
theorem dX1_readDegree_47 : decode cX1_readDegree 47 = .ok (.aload_n 1, 1) := by decide +kernel
theorem dX1_readDegree_48 : decode cX1_readDegree 48 = .ok (.getfield 53, 3) := by decide +kernel
theorem dX1_readDegree_51 : decode cX1_readDegree 51 = .ok (.iadd, 1) := by decide +kernel
theorem dX1_readDegree_52 : decode cX1_readDegree 52 = .ok (.iastore, 1) := by decide +kernel
theorem dX1_readDegree_53 : decode cX1_readDegree 53 = .ok (.aload_n 1, 1) := by decide +kernel
theorem dX1_readDegree_54 : decode cX1_readDegree 54 = .ok (.invokevirtual 80, 3) := by decide +kernel
theorem dX1_readDegree_57 : decode cX1_readDegree 57 = .ok (.ireturn, 1) := by decide +kernel
set_option maxRecDepth 20000 in
theorem ggX1_readDate_X1_isNew : GoodIn wsX1_readDate wsX1_isNew := goodIn_r _ [7, 2, 8, 9, 10, 11, 12, 13, 14, 15, 16, 17, 18, 19, 20, 21, 22, 23, 24, 25, 26, 27, 28, 29, 30, 31, 32, 33, 59, 60, 49, 50, 51, 52, 53, 54, 55, 56, 57, 58] (by decide +kernel) (by decide +kernel)
set_option maxRecDepth 20000 in
theorem gX1_readDate_X1_isNew : GoodIn wsX1_readDate (wsV RX1 74 RX1 yX1_isNew wsX1_isNew) := goodIn_app (goodIn_of _ (by decide +kernel)) ggX1_readDate_X1_isNew
set_option maxRecDepth 20000 in
theorem ggX1_readDate_X9_takeNumber : GoodIn wsX1_readDate wsX9_takeNumber := goodIn_r _ [37, 38, 39, 40, 11, 41, 23, 20, 14, 24, 42, 43, 9, 10, 12, 13, 15, 44, 17, 18, 19, 21, 22, 25, 26, 27, 28, 29, 30, 31, 32, 33, 49, 50, 51, 52, 53, 54, 55, 56, 57, 58] (by decide +kernel) (by decide +kernel)
set_option maxRecDepth 20000 in
theorem gX1_readDate_X9_takeNumber : GoodIn wsX1_readDate (wsV RX1 77 RX9 yX9_takeNumber wsX9_takeNumber) := goodIn_app (goodIn_of _ (by decide +kernel)) ggX1_readDate_X9_takeNumber
set_option maxRecDepth 20000 in
theorem ggX1_readDate_X9_takeStop : GoodIn wsX1_readDate wsX9_takeStop := goodIn_r _ [48, 23, 43, 9, 10, 11, 12, 13, 14, 15, 44, 17, 18, 19, 20, 21, 22, 24, 25, 26, 27, 28, 29, 30, 31, 32, 33, 49, 50, 51, 52, 53, 54, 55, 56, 57, 58] (by decide +kernel) (by decide +kernel)
set_option maxRecDepth 20000 in
theorem gX1_readDate_X9_takeStop : GoodIn wsX1_readDate (wsV RX1 80 RX9 yX9_takeStop wsX9_takeStop) := goodIn_app (goodIn_of _ (by decide +kernel)) ggX1_readDate_X9_takeStop
theorem dX1_readDate_0 : decode cX1_readDate 0 = .ok (.aload_n 0, 1) := by decide +kernel
theorem dX1_readDate_1 : decode cX1_readDate 1 = .ok (.aload_n 1, 1) := by decide +kernel
theorem dX1_readDate_2 : decode cX1_readDate 2 = .ok (.bipush 21, 2) := by decide +kernel
theorem dX1_readDate_4 : decode cX1_readDate 4 = .ok (.invokevirtual 74, 3) := by decide +kernel
theorem dX1_readDate_7 : decode cX1_readDate 7 = .ok (.ifCond .eq 13, 3) := by decide +kernel
theorem dX1_readDate_10 : decode cX1_readDate 10 = .ok (.aload_n 1, 1) := by decide +kernel
theorem dX1_readDate_11 : decode cX1_readDate 11 = .ok (.iconst 0, 1) := by decide +kernel
theorem dX1_readDate_12 : decode cX1_readDate 12 = .ok (.bipush 12, 2) := by decide +kernel
theorem dX1_readDate_14 : decode cX1_readDate 14 = .ok (.invokevirtual 77, 3) := by decide +kernel
theorem dX1_readDate_17 : decode cX1_readDate 17 = .ok (.ifCond .ne 5, 3) := by decide +kernel
theorem dX1_readDate_20 : decode cX1_readDate 20 = .ok (.iconst 0, 1) := by decide +kernel
theorem dX1_readDate_21 : decode cX1_readDate 21 = .ok (.ireturn, 1) := by decide +kernel
theorem dX1_readDate_22 : decode cX1_readDate 22 = .ok (.aload_n 1, 1) := by decide +kernel
theorem dX1_readDate_23 : decode cX1_readDate 23 = .ok (.getfield 53, 3) := by decide +kernel
theorem dX1_readDate_26 : decode cX1_readDate 26 = .ok (.istore_n 2, 1) := by decide +kernel
theorem dX1_readDate_27 : decode cX1_readDate 27 = .ok (.aload_n 1, 1) := by decide +kernel
theorem dX1_readDate_28 : decode cX1_readDate 28 = .ok (.iconst 0, 1) := by decide +kernel
theorem dX1_readDate_29 : decode cX1_readDate 29 = .ok (.iload_n 2, 1) := by decide +kernel
theorem dX1_readDate_30 : decode cX1_readDate 30 = .ok (.bipush 12, 2) := by decide +kernel
theorem dX1_readDate_32 : decode cX1_readDate 32 = .ok (.if_icmp .ne 7, 3) := by decide +kernel
theorem dX1_readDate_35 : decode cX1_readDate 35 = .ok (.iconst 4, 1) := by decide +kernel
theorem dX1_readDate_36 : decode cX1_readDate 36 = .ok (.goto 5, 3) := by decide +kernel
theorem dX1_readDate_39 : decode cX1_readDate 39 = .ok (.bipush 29, 2) := by decide +kernel
theorem dX1_readDate_41 : decode cX1_readDate 41 = .ok (.invokevirtual 77, 3) := by decide +kernel
theorem dX1_readDate_44 : decode cX1_readDate 44 = .ok (.ifCond .ne 5, 3) := by decide +kernel
theorem dX1_readDate_47 : decode cX1_readDate 47 = .ok (.iconst 0, 1) := by decide +kernel
theorem dX1_readDate_48 : decode cX1_readDate 48 = .ok (.ireturn, 1) := by decide +kernel
theorem dX1_readDate_49 : decode cX1_readDate 49 = .ok (.aload_n 0, 1) := by decide +kernel
theorem dX1_readDate_50 : decode cX1_readDate 50 = .ok (.getfield 15, 3) := by decide +kernel
theorem dX1_readDate_53 : decode cX1_readDate 53 = .ok (.bipush 21, 2) := by decide +kernel
theorem dX1_readDate_55 : decode cX1_readDate 55 = .ok (.bipush 30, 2) := by decide +kernel
theorem dX1_readDate_57 : decode cX1_readDate 57 = .ok (.iload_n 2, 1) := by decide +kernel
theorem dX1_readDate_58 : decode cX1_readDate 58 = .ok (.imul, 1) := by decide +kernel
theorem dX1_readDate_59 : decode cX1_readDate 59 = .ok (.aload_n 1, 1) := by decide +kernel
theorem dX1_readDate_60 : decode cX1_readDate 60 = .ok (.getfield 53, 3) := by decide +kernel
theorem dX1_readDate_63 : decode cX1_readDate 63 = .ok (.iadd, 1) := by decide +kernel
theorem dX1_readDate_64 : decode cX1_readDate 64 = .ok (.iastore, 1) := by decide +kernel
theorem dX1_readDate_65 : decode cX1_readDate 65 = .ok (.aload_n 1, 1) := by decide +kernel
theorem dX1_readDate_66 : decode cX1_readDate 66 = .ok (.invokevirtual 80, 3) := by decide +kernel
theorem dX1_readDate_69 : decode cX1_readDate 69 = .ok (.ireturn, 1) := by decide +kernel
set_option maxRecDepth 20000 in
theorem ggX2_readClimate_X9_refuse : GoodIn wsX2_readClimate wsX9_refuse := goodIn_r _ [6, 7, 8, 9, 57, 58, 59, 60, 61, 62, 63, 64, 65, 66] (by decide +kernel) (by decide +kernel)
set_option maxRecDepth 20000 in
theorem gX2_readClimate_X9_refuse : GoodIn wsX2_readClimate (wsV RX2 27 RX9 yX9_refuse wsX9_refuse) := goodIn_app (goodIn_of _ (by decide +kernel)) ggX2_readClimate_X9_refuse
set_option maxRecDepth 20000 in
theorem ggX2_readClimate_X9_step : GoodIn wsX2_readClimate wsX9_step := goodIn_r _ [13, 14, 15, 16, 8, 17, 18, 19, 20, 5, 21, 22, 23, 24, 25, 26, 27, 57, 58, 59, 60, 61, 62, 63, 64, 65, 66] (by decide +kernel) (by decide +kernel)
set_option maxRecDepth 20000 in
theorem gX2_readClimate_X9_step : GoodIn wsX2_readClimate (wsV RX2 31 RX9 yX9_step wsX9_step) := goodIn_app (goodIn_of _ (by decide +kernel)) ggX2_readClimate_X9_step
set_option maxRecDepth 20000 in
theorem ggX2_readClimate_X9_takeNumber : GoodIn wsX2_readClimate wsX9_takeNumber := goodIn_r _ [31, 32, 33, 34, 5, 35, 17, 14, 8, 18, 36, 37, 3, 4, 6, 7, 9, 38, 11, 12, 13, 15, 16, 19, 20, 21, 22, 23, 24, 25, 26, 27, 57, 58, 59, 60, 61, 62, 63, 64, 65, 66] (by decide +kernel) (by decide +kernel)
set_option maxRecDepth 20000 in
theorem gX2_readClimate_X9_takeNumber : GoodIn wsX2_readClimate (wsV RX2 34 RX9 yX9_takeNumber wsX9_takeNumber) := goodIn_app (goodIn_of _ (by decide +kernel)) ggX2_readClimate_X9_takeNumber
set_option maxRecDepth 20000 in
theorem ggX2_readClimate_X2_readRising : GoodIn wsX2_readClimate wsX2_readRising := goodIn_r _ [43, 44, 45, 46, 47, 48, 49, 50, 1, 28, 29, 30, 5, 31, 32, 33, 34, 35, 17, 14, 8, 18, 36, 37, 3, 4, 6, 7, 9, 38, 11, 12, 13, 15, 16, 19, 20, 21, 22, 23, 24, 25, 26, 27, 57, 58, 59, 60, 61, 62, 63, 64, 65, 66, 55, 56] (by decide +kernel) (by decide +kernel)
set_option maxRecDepth 20000 in
theorem gX2_readClimate_X2_readRising : GoodIn wsX2_readClimate (wsV RX2 38 RX2 yX2_readRising wsX2_readRising) := goodIn_app (goodIn_of _ (by decide +kernel)) ggX2_readClimate_X2_readRising
set_option maxRecDepth 20000 in
theorem ggX2_readClimate_X9_takeStop : GoodIn wsX2_readClimate wsX9_takeStop := goodIn_r _ [54, 17, 37, 3, 4, 5, 6, 7, 8, 9, 38, 11, 12, 13, 14, 15, 16, 18, 19, 20, 21, 22, 23, 24, 25, 26, 27, 57, 58, 59, 60, 61, 62, 63, 64, 65, 66] (by decide +kernel) (by decide +kernel)
set_option maxRecDepth 20000 in
theorem gX2_readClimate_X9_takeStop : GoodIn wsX2_readClimate (wsV RX2 42 RX9 yX9_takeStop wsX9_takeStop) := goodIn_app (goodIn_of _ (by decide +kernel)) ggX2_readClimate_X9_takeStop
theorem dX2_readClimate_0 : decode cX2_readClimate 0 = .ok (.aload_n 0, 1) := by decide +kernel
theorem dX2_readClimate_1 : decode cX2_readClimate 1 = .ok (.getfield 21, 3) := by decide +kernel
theorem dX2_readClimate_4 : decode cX2_readClimate 4 = .ok (.bipush 7, 2) := by decide +kernel
theorem dX2_readClimate_6 : decode cX2_readClimate 6 = .ok (.if_icmp .lt 9, 3) := by decide +kernel
theorem dX2_readClimate_9 : decode cX2_readClimate 9 = .ok (.aload_n 1, 1) := by decide +kernel
theorem dX2_readClimate_10 : decode cX2_readClimate 10 = .ok (.iconst 2, 1) := by decide +kernel
theorem dX2_readClimate_11 : decode cX2_readClimate 11 = .ok (.invokevirtual 27, 3) := by decide +kernel
theorem dX2_readClimate_14 : decode cX2_readClimate 14 = .ok (.ireturn, 1) := by decide +kernel
theorem dX2_readClimate_15 : decode cX2_readClimate 15 = .ok (.aload_n 1, 1) := by decide +kernel
theorem dX2_readClimate_16 : decode cX2_readClimate 16 = .ok (.invokevirtual 31, 3) := by decide +kernel
theorem dX2_readClimate_19 : decode cX2_readClimate 19 = .ok (.aload_n 1, 1) := by decide +kernel
theorem dX2_readClimate_20 : decode cX2_readClimate 20 = .ok (.aload_n 0, 1) := by decide +kernel
theorem dX2_readClimate_21 : decode cX2_readClimate 21 = .ok (.getfield 21, 3) := by decide +kernel
theorem dX2_readClimate_24 : decode cX2_readClimate 24 = .ok (.aload_n 0, 1) := by decide +kernel
theorem dX2_readClimate_25 : decode cX2_readClimate 25 = .ok (.getfield 21, 3) := by decide +kernel
theorem dX2_readClimate_28 : decode cX2_readClimate 28 = .ok (.invokevirtual 34, 3) := by decide +kernel
theorem dX2_readClimate_31 : decode cX2_readClimate 31 = .ok (.ifCond .eq 11, 3) := by decide +kernel
theorem dX2_readClimate_34 : decode cX2_readClimate 34 = .ok (.aload_n 0, 1) := by decide +kernel
theorem dX2_readClimate_35 : decode cX2_readClimate 35 = .ok (.aload_n 1, 1) := by decide +kernel
theorem dX2_readClimate_36 : decode cX2_readClimate 36 = .ok (.invokevirtual 38, 3) := by decide +kernel
theorem dX2_readClimate_39 : decode cX2_readClimate 39 = .ok (.ifCond .ne 5, 3) := by decide +kernel
theorem dX2_readClimate_42 : decode cX2_readClimate 42 = .ok (.iconst 0, 1) := by decide +kernel
theorem dX2_readClimate_43 : decode cX2_readClimate 43 = .ok (.ireturn, 1) := by decide +kernel
theorem dX2_readClimate_44 : decode cX2_readClimate 44 = .ok (.aload_n 0, 1) := by decide +kernel
theorem dX2_readClimate_45 : decode cX2_readClimate 45 = .ok (.dup, 1) := by decide +kernel
theorem dX2_readClimate_46 : decode cX2_readClimate 46 = .ok (.getfield 21, 3) := by decide +kernel
theorem dX2_readClimate_49 : decode cX2_readClimate 49 = .ok (.iconst 1, 1) := by decide +kernel
theorem dX2_readClimate_50 : decode cX2_readClimate 50 = .ok (.iadd, 1) := by decide +kernel
theorem dX2_readClimate_51 : decode cX2_readClimate 51 = .ok (.putfield 21, 3) := by decide +kernel
theorem dX2_readClimate_54 : decode cX2_readClimate 54 = .ok (.aload_n 1, 1) := by decide +kernel
theorem dX2_readClimate_55 : decode cX2_readClimate 55 = .ok (.invokevirtual 42, 3) := by decide +kernel
theorem dX2_readClimate_58 : decode cX2_readClimate 58 = .ok (.ireturn, 1) := by decide +kernel
set_option maxRecDepth 20000 in
theorem ggX2_readRising_X9_takeNumber : GoodIn wsX2_readRising wsX9_takeNumber := goodIn_r _ [13, 14, 15, 16, 12, 17, 18, 19, 20, 21, 22, 23, 24, 25, 26, 27, 28, 29, 30, 31, 32, 33, 34, 35, 36, 37, 38, 39, 40, 41, 42, 43, 44, 45, 46, 47, 48, 49, 50, 51, 52, 53] (by decide +kernel) (by decide +kernel)
set_option maxRecDepth 20000 in
theorem gX2_readRising_X9_takeNumber : GoodIn wsX2_readRising (wsV RX2 34 RX9 yX9_takeNumber wsX9_takeNumber) := goodIn_app (goodIn_of _ (by decide +kernel)) ggX2_readRising_X9_takeNumber
theorem dX2_readRising_0 : decode cX2_readRising 0 = .ok (.iconst 0, 1) := by decide +kernel
theorem dX2_readRising_1 : decode cX2_readRising 1 = .ok (.istore_n 2, 1) := by decide +kernel
theorem dX2_readRising_2 : decode cX2_readRising 2 = .ok (.iconst 0, 1) := by decide +kernel
theorem dX2_readRising_3 : decode cX2_readRising 3 = .ok (.istore_n 3, 1) := by decide +kernel
theorem dX2_readRising_4 : decode cX2_readRising 4 = .ok (.iload_n 3, 1) := by decide +kernel
theorem dX2_readRising_5 : decode cX2_readRising 5 = .ok (.bipush 12, 2) := by decide +kernel
theorem dX2_readRising_7 : decode cX2_readRising 7 = .ok (.if_icmp .ge 89, 3) := by decide +kernel
theorem dX2_readRising_10 : decode cX2_readRising 10 = .ok (.sipush 3600, 3) := by decide +kernel
theorem dX2_readRising_13 : decode cX2_readRising 13 = .ok (.iload_n 2, 1) := by decide +kernel
theorem dX2_readRising_14 : decode cX2_readRising 14 = .ok (.isub, 1) := by decide +kernel
theorem dX2_readRising_15 : decode cX2_readRising 15 = .ok (.istore 4, 2) := by decide +kernel
theorem dX2_readRising_17 : decode cX2_readRising 17 = .ok (.iload_n 3, 1) := by decide +kernel
theorem dX2_readRising_18 : decode cX2_readRising 18 = .ok (.bipush 11, 2) := by decide +kernel
theorem dX2_readRising_20 : decode cX2_readRising 20 = .ok (.if_icmp .ne 7, 3) := by decide +kernel
theorem dX2_readRising_23 : decode cX2_readRising 23 = .ok (.iconst 1, 1) := by decide +kernel
theorem dX2_readRising_24 : decode cX2_readRising 24 = .ok (.goto 4, 3) := by decide +kernel
theorem dX2_readRising_27 : decode cX2_readRising 27 = .ok (.iconst 0, 1) := by decide +kernel
theorem dX2_readRising_28 : decode cX2_readRising 28 = .ok (.istore 5, 2) := by decide +kernel
theorem dX2_readRising_30 : decode cX2_readRising 30 = .ok (.aload_n 1, 1) := by decide +kernel
theorem dX2_readRising_31 : decode cX2_readRising 31 = .ok (.iload 5, 2) := by decide +kernel
theorem dX2_readRising_33 : decode cX2_readRising 33 = .ok (.ifCond .eq 12, 3) := by decide +kernel
theorem dX2_readRising_36 : decode cX2_readRising 36 = .ok (.iconst 1, 1) := by decide +kernel
theorem dX2_readRising_37 : decode cX2_readRising 37 = .ok (.iload 4, 2) := by decide +kernel
theorem dX2_readRising_39 : decode cX2_readRising 39 = .ok (.invokestatic 46, 3) := by decide +kernel
theorem dX2_readRising_42 : decode cX2_readRising 42 = .ok (.goto 4, 3) := by decide +kernel
theorem dX2_readRising_45 : decode cX2_readRising 45 = .ok (.iconst 1, 1) := by decide +kernel
theorem dX2_readRising_46 : decode cX2_readRising 46 = .ok (.iload 5, 2) := by decide +kernel
theorem dX2_readRising_48 : decode cX2_readRising 48 = .ok (.ifCond .eq 8, 3) := by decide +kernel
theorem dX2_readRising_51 : decode cX2_readRising 51 = .ok (.iload 4, 2) := by decide +kernel
theorem dX2_readRising_53 : decode cX2_readRising 53 = .ok (.goto 5, 3) := by decide +kernel
theorem dX2_readRising_56 : decode cX2_readRising 56 = .ok (.ldc 52, 2) := by decide +kernel
theorem dX2_readRising_58 : decode cX2_readRising 58 = .ok (.invokevirtual 34, 3) := by decide +kernel
theorem dX2_readRising_61 : decode cX2_readRising 61 = .ok (.ifCond .ne 5, 3) := by decide +kernel
theorem dX2_readRising_64 : decode cX2_readRising 64 = .ok (.iconst 0, 1) := by decide +kernel
theorem dX2_readRising_65 : decode cX2_readRising 65 = .ok (.ireturn, 1) := by decide +kernel
theorem dX2_readRising_66 : decode cX2_readRising 66 = .ok (.iload_n 2, 1) := by decide +kernel
theorem dX2_readRising_67 : decode cX2_readRising 67 = .ok (.aload_n 1, 1) := by decide +kernel
theorem dX2_readRising_68 : decode cX2_readRising 68 = .ok (.getfield 53, 3) := by decide +kernel
theorem dX2_readRising_71 : decode cX2_readRising 71 = .ok (.iadd, 1) := by decide +kernel
theorem dX2_readRising_72 : decode cX2_readRising 72 = .ok (.istore_n 2, 1) := by decide +kernel
theorem dX2_readRising_73 : decode cX2_readRising 73 = .ok (.aload_n 0, 1) := by decide +kernel
theorem dX2_readRising_74 : decode cX2_readRising 74 = .ok (.getfield 11, 3) := by decide +kernel
theorem dX2_readRising_77 : decode cX2_readRising 77 = .ok (.bipush 13, 2) := by decide +kernel
theorem dX2_readRising_79 : decode cX2_readRising 79 = .ok (.aload_n 0, 1) := by decide +kernel
theorem dX2_readRising_80 : decode cX2_readRising 80 = .ok (.getfield 21, 3) := by decide +kernel
theorem dX2_readRising_83 : decode cX2_readRising 83 = .ok (.imul, 1) := by decide +kernel
theorem dX2_readRising_84 : decode cX2_readRising 84 = .ok (.iload_n 3, 1) := by decide +kernel
theorem dX2_readRising_85 : decode cX2_readRising 85 = .ok (.iadd, 1) := by decide +kernel
theorem dX2_readRising_86 : decode cX2_readRising 86 = .ok (.iconst 1, 1) := by decide +kernel
theorem dX2_readRising_87 : decode cX2_readRising 87 = .ok (.iadd, 1) := by decide +kernel
theorem dX2_readRising_88 : decode cX2_readRising 88 = .ok (.iload_n 2, 1) := by decide +kernel
theorem dX2_readRising_89 : decode cX2_readRising 89 = .ok (.iastore, 1) := by decide +kernel
theorem dX2_readRising_90 : decode cX2_readRising 90 = .ok (.iinc 3 1, 3) := by decide +kernel
theorem dX2_readRising_93 : decode cX2_readRising 93 = .ok (.goto (-89), 3) := by decide +kernel
theorem dX2_readRising_96 : decode cX2_readRising 96 = .ok (.iconst 1, 1) := by decide +kernel
theorem dX2_readRising_97 : decode cX2_readRising 97 = .ok (.ireturn, 1) := by decide +kernel
set_option maxRecDepth 20000 in
theorem ggX4_readHand_X9_refuse : GoodIn wsX4_readHand wsX9_refuse := goodIn_r _ [8, 9, 10, 11, 104, 105, 106, 107, 108, 109, 110, 111, 112, 113] (by decide +kernel) (by decide +kernel)
set_option maxRecDepth 20000 in
theorem gX4_readHand_X9_refuse : GoodIn wsX4_readHand (wsV RX4 27 RX9 yX9_refuse wsX9_refuse) := goodIn_app (goodIn_of _ (by decide +kernel)) ggX4_readHand_X9_refuse
set_option maxRecDepth 20000 in
theorem ggX4_readHand_X9_step : GoodIn wsX4_readHand wsX9_step := goodIn_r _ [15, 16, 17, 18, 10, 19, 20, 21, 22, 7, 23, 24, 25, 26, 27, 28, 29, 104, 105, 106, 107, 108, 109, 110, 111, 112, 113] (by decide +kernel) (by decide +kernel)
set_option maxRecDepth 20000 in
theorem gX4_readHand_X9_step : GoodIn wsX4_readHand (wsV RX4 31 RX9 yX9_step wsX9_step) := goodIn_app (goodIn_of _ (by decide +kernel)) ggX4_readHand_X9_step
set_option maxRecDepth 20000 in
theorem ggX4_readHand_X9_takeNumber : GoodIn wsX4_readHand wsX9_takeNumber := goodIn_r _ [33, 34, 35, 36, 7, 37, 19, 16, 10, 20, 38, 39, 5, 6, 8, 9, 11, 40, 13, 14, 15, 17, 18, 21, 22, 23, 24, 25, 26, 27, 28, 29, 104, 105, 106, 107, 108, 109, 110, 111, 112, 113] (by decide +kernel) (by decide +kernel)
set_option maxRecDepth 20000 in
theorem gX4_readHand_X9_takeNumber : GoodIn wsX4_readHand (wsV RX4 34 RX9 yX9_takeNumber wsX9_takeNumber) := goodIn_app (goodIn_of _ (by decide +kernel)) ggX4_readHand_X9_takeNumber
set_option maxRecDepth 20000 in
theorem ggX4_readHand_X9_takeWord : GoodIn wsX4_readHand wsX9_takeWord := goodIn_r _ [44, 45, 46, 47, 7, 48, 19, 16, 10, 18, 49, 50, 51, 52, 53, 54, 55, 56, 57, 58, 59, 60, 61, 62, 63, 64, 65, 66, 67, 68, 69, 70, 71, 72, 73, 74, 75, 76, 77, 78, 79, 80, 81, 82, 83, 84, 85, 86, 87, 88, 89, 90, 91, 92, 93, 94, 95, 96, 97, 39, 5, 6, 8, 9, 11, 40, 13, 14, 15, 17, 20, 21, 22, 23, 24, 25, 26, 27, 28, 29, 104, 105, 106, 107, 108, 109, 110, 111, 112, 113] (by decide +kernel) (by decide +kernel)
set_option maxRecDepth 20000 in
theorem gX4_readHand_X9_takeWord : GoodIn wsX4_readHand (wsV RX4 43 RX9 yX9_takeWord wsX9_takeWord) := goodIn_app (goodIn_of _ (by decide +kernel)) ggX4_readHand_X9_takeWord
set_option maxRecDepth 20000 in
theorem ggX4_readHand_X9_takeStop : GoodIn wsX4_readHand wsX9_takeStop := goodIn_r _ [101, 19, 39, 5, 6, 7, 8, 9, 10, 11, 40, 13, 14, 15, 16, 17, 18, 20, 21, 22, 23, 24, 25, 26, 27, 28, 29, 104, 105, 106, 107, 108, 109, 110, 111, 112, 113] (by decide +kernel) (by decide +kernel)
set_option maxRecDepth 20000 in
theorem gX4_readHand_X9_takeStop : GoodIn wsX4_readHand (wsV RX4 47 RX9 yX9_takeStop wsX9_takeStop) := goodIn_app (goodIn_of _ (by decide +kernel)) ggX4_readHand_X9_takeStop
theorem dX4_readHand_0 : decode cX4_readHand 0 = .ok (.aload_n 0, 1) := by decide +kernel
theorem dX4_readHand_1 : decode cX4_readHand 1 = .ok (.getfield 21, 3) := by decide +kernel
theorem dX4_readHand_4 : decode cX4_readHand 4 = .ok (.bipush 30, 2) := by decide +kernel
theorem dX4_readHand_6 : decode cX4_readHand 6 = .ok (.if_icmp .lt 9, 3) := by decide +kernel
theorem dX4_readHand_9 : decode cX4_readHand 9 = .ok (.aload_n 1, 1) := by decide +kernel
theorem dX4_readHand_10 : decode cX4_readHand 10 = .ok (.iconst 2, 1) := by decide +kernel
theorem dX4_readHand_11 : decode cX4_readHand 11 = .ok (.invokevirtual 27, 3) := by decide +kernel
theorem dX4_readHand_14 : decode cX4_readHand 14 = .ok (.ireturn, 1) := by decide +kernel
theorem dX4_readHand_15 : decode cX4_readHand 15 = .ok (.aload_n 1, 1) := by decide +kernel
theorem dX4_readHand_16 : decode cX4_readHand 16 = .ok (.invokevirtual 31, 3) := by decide +kernel
theorem dX4_readHand_19 : decode cX4_readHand 19 = .ok (.aload_n 1, 1) := by decide +kernel
theorem dX4_readHand_20 : decode cX4_readHand 20 = .ok (.iconst 0, 1) := by decide +kernel
theorem dX4_readHand_21 : decode cX4_readHand 21 = .ok (.bipush 29, 2) := by decide +kernel
theorem dX4_readHand_23 : decode cX4_readHand 23 = .ok (.invokevirtual 34, 3) := by decide +kernel
theorem dX4_readHand_26 : decode cX4_readHand 26 = .ok (.ifCond .ne 5, 3) := by decide +kernel
theorem dX4_readHand_29 : decode cX4_readHand 29 = .ok (.iconst 0, 1) := by decide +kernel
theorem dX4_readHand_30 : decode cX4_readHand 30 = .ok (.ireturn, 1) := by decide +kernel
theorem dX4_readHand_31 : decode cX4_readHand 31 = .ok (.aload_n 1, 1) := by decide +kernel
theorem dX4_readHand_32 : decode cX4_readHand 32 = .ok (.getfield 38, 3) := by decide +kernel
theorem dX4_readHand_35 : decode cX4_readHand 35 = .ok (.istore_n 2, 1) := by decide +kernel
theorem dX4_readHand_36 : decode cX4_readHand 36 = .ok (.aload_n 1, 1) := by decide +kernel
theorem dX4_readHand_37 : decode cX4_readHand 37 = .ok (.ldc 41, 2) := by decide +kernel
theorem dX4_readHand_39 : decode cX4_readHand 39 = .ok (.invokevirtual 43, 3) := by decide +kernel
theorem dX4_readHand_42 : decode cX4_readHand 42 = .ok (.ifCond .eq 13, 3) := by decide +kernel
theorem dX4_readHand_45 : decode cX4_readHand 45 = .ok (.aload_n 1, 1) := by decide +kernel
theorem dX4_readHand_46 : decode cX4_readHand 46 = .ok (.iconst 0, 1) := by decide +kernel
theorem dX4_readHand_47 : decode cX4_readHand 47 = .ok (.bipush 29, 2) := by decide +kernel
theorem dX4_readHand_49 : decode cX4_readHand 49 = .ok (.invokevirtual 34, 3) := by decide +kernel
theorem dX4_readHand_52 : decode cX4_readHand 52 = .ok (.ifCond .ne 5, 3) := by decide +kernel
theorem dX4_readHand_55 : decode cX4_readHand 55 = .ok (.iconst 0, 1) := by decide +kernel
theorem dX4_readHand_56 : decode cX4_readHand 56 = .ok (.ireturn, 1) := by decide +kernel
theorem dX4_readHand_57 : decode cX4_readHand 57 = .ok (.aload_n 0, 1) := by decide +kernel
theorem dX4_readHand_58 : decode cX4_readHand 58 = .ok (.getfield 9, 3) := by decide +kernel
theorem dX4_readHand_61 : decode cX4_readHand 61 = .ok (.iload_n 2, 1) := by decide +kernel
theorem dX4_readHand_62 : decode cX4_readHand 62 = .ok (.dup2, 1) := by decide +kernel
theorem dX4_readHand_63 : decode cX4_readHand 63 = .ok (.iaload, 1) := by decide +kernel
theorem dX4_readHand_64 : decode cX4_readHand 64 = .ok (.iconst 1, 1) := by decide +kernel
theorem dX4_readHand_65 : decode cX4_readHand 65 = .ok (.aload_n 1, 1) := by decide +kernel
theorem dX4_readHand_66 : decode cX4_readHand 66 = .ok (.getfield 38, 3) := by decide +kernel
theorem dX4_readHand_69 : decode cX4_readHand 69 = .ok (.ishl, 1) := by decide +kernel
theorem dX4_readHand_70 : decode cX4_readHand 70 = .ok (.ior, 1) := by decide +kernel
theorem dX4_readHand_71 : decode cX4_readHand 71 = .ok (.iastore, 1) := by decide +kernel
theorem dX4_readHand_72 : decode cX4_readHand 72 = .ok (.aload_n 0, 1) := by decide +kernel
theorem dX4_readHand_73 : decode cX4_readHand 73 = .ok (.dup, 1) := by decide +kernel
theorem dX4_readHand_74 : decode cX4_readHand 74 = .ok (.getfield 21, 3) := by decide +kernel
theorem dX4_readHand_77 : decode cX4_readHand 77 = .ok (.iconst 1, 1) := by decide +kernel
theorem dX4_readHand_78 : decode cX4_readHand 78 = .ok (.iadd, 1) := by decide +kernel
theorem dX4_readHand_79 : decode cX4_readHand 79 = .ok (.putfield 21, 3) := by decide +kernel
theorem dX4_readHand_82 : decode cX4_readHand 82 = .ok (.aload_n 1, 1) := by decide +kernel
theorem dX4_readHand_83 : decode cX4_readHand 83 = .ok (.invokevirtual 47, 3) := by decide +kernel
theorem dX4_readHand_86 : decode cX4_readHand 86 = .ok (.ireturn, 1) := by decide +kernel
set_option maxRecDepth 20000 in
theorem ggX5_readLines_X9_isAtEnd : GoodIn wsX5_readLines wsX9_isAtEnd := goodIn_r _ [7, 8, 169, 170, 171, 172, 173, 174, 175, 176, 177, 178] (by decide +kernel) (by decide +kernel)
set_option maxRecDepth 20000 in
theorem gX5_readLines_X9_isAtEnd : GoodIn wsX5_readLines (wsV RX5 59 RX9 yX9_isAtEnd wsX9_isAtEnd) := goodIn_app (goodIn_of _ (by decide +kernel)) ggX5_readLines_X9_isAtEnd
set_option maxRecDepth 20000 in
theorem ggX5_readLines_X9_isWord : GoodIn wsX5_readLines wsX9_isWord := goodIn_r _ [12, 8, 13, 14, 15, 16, 17, 18, 19, 20, 21, 22, 23, 24, 25, 26, 27, 28, 29, 30, 31, 32, 33, 34, 35, 36, 37, 38, 39, 40, 41, 42, 43, 44, 45, 46, 47, 48, 49, 50, 51, 52, 53, 54, 55, 56, 57, 58, 59, 60, 61, 62, 63, 64, 169, 170, 171, 172, 173, 174, 175, 176, 177, 178] (by decide +kernel) (by decide +kernel)
set_option maxRecDepth 20000 in
theorem gX5_readLines_X9_isWord : GoodIn wsX5_readLines (wsV RX5 65 RX9 yX9_isWord wsX9_isWord) := goodIn_app (goodIn_of _ (by decide +kernel)) ggX5_readLines_X9_isWord
set_option maxRecDepth 20000 in
theorem ggX5_readLines_X5_readSet : GoodIn wsX5_readLines wsX5_readSet := goodIn_r _ [69, 70, 71, 72, 73, 6, 74, 13, 75, 15, 14, 8, 76, 77, 78, 79, 80, 81, 82, 83, 84, 85, 86, 87, 88, 89, 90, 91, 92, 93, 94, 95, 96, 97, 98, 99, 100, 101, 102, 103, 104, 105, 106, 107, 108, 109, 10, 11, 12, 16, 17, 18, 19, 20, 21, 22, 23, 24, 25, 26, 27, 28, 29, 30, 31, 32, 33, 34, 35, 36, 37, 38, 39, 40, 41, 42, 43, 44, 45, 46, 47, 48, 49, 50, 51, 52, 53, 54, 55, 56, 57, 58, 59, 60, 61, 62, 63, 64, 110, 111, 112, 113, 68, 114, 115, 116, 117, 118, 119, 120, 121, 122, 123, 124, 9, 125, 126, 127, 128, 169, 170, 171, 172, 173, 174, 175, 176, 177, 178, 163, 164, 165, 166, 167, 168] (by decide +kernel) (by decide +kernel)
set_option maxRecDepth 20000 in
theorem gX5_readLines_X5_readSet : GoodIn wsX5_readLines (wsV RX5 69 RX5 yX5_readSet wsX5_readSet) := goodIn_app (goodIn_of _ (by decide +kernel)) ggX5_readLines_X5_readSet
set_option maxRecDepth 20000 in
theorem ggX5_readLines_X2_readClimate : GoodIn wsX5_readLines wsX2_readClimate := goodIn_r _ [133, 134, 135, 96, 97, 6, 98, 99, 14, 100, 136, 72, 73, 74, 13, 75, 15, 8, 76, 77, 78, 79, 80, 81, 82, 83, 84, 85, 137, 87, 88, 89, 90, 91, 92, 93, 94, 95, 101, 138, 139, 140, 132, 141, 142, 143, 144, 145, 146, 147, 148, 149, 126, 127, 128, 179, 180, 169, 170, 171, 172, 173, 174, 175, 176, 177, 178] (by decide +kernel) (by decide +kernel)
set_option maxRecDepth 20000 in
theorem gX5_readLines_X2_readClimate : GoodIn wsX5_readLines (wsV RX5 75 RX2 yX2_readClimate wsX2_readClimate) := goodIn_app (goodIn_of _ (by decide +kernel)) ggX5_readLines_X2_readClimate
set_option maxRecDepth 20000 in
theorem ggX5_readLines_X4_readHand : GoodIn wsX5_readLines wsX4_readHand := goodIn_r _ [154, 155, 156, 157, 158, 96, 97, 6, 98, 99, 14, 100, 159, 72, 73, 74, 13, 75, 15, 8, 76, 77, 78, 79, 80, 81, 82, 83, 84, 85, 160, 87, 88, 89, 90, 91, 92, 93, 94, 95, 101, 161, 122, 123, 124, 109, 10, 11, 12, 16, 17, 18, 19, 20, 21, 22, 23, 24, 25, 26, 27, 28, 29, 30, 31, 32, 33, 34, 35, 36, 37, 38, 39, 40, 41, 42, 43, 44, 45, 46, 47, 48, 49, 50, 51, 52, 53, 54, 55, 56, 57, 58, 59, 60, 61, 62, 63, 64, 162, 126, 127, 128, 181, 182, 169, 170, 171, 172, 173, 174, 175, 176, 177, 178] (by decide +kernel) (by decide +kernel)
set_option maxRecDepth 20000 in
theorem gX5_readLines_X4_readHand : GoodIn wsX5_readLines (wsV RX5 80 RX4 yX4_readHand wsX4_readHand) := goodIn_app (goodIn_of _ (by decide +kernel)) ggX5_readLines_X4_readHand
set_option maxRecDepth 20000 in
theorem ggX5_readLines_X9_refuse : GoodIn wsX5_readLines wsX9_refuse := goodIn_r _ [98, 99, 14, 100, 169, 170, 171, 172, 173, 174, 175, 176, 177, 178] (by decide +kernel) (by decide +kernel)
set_option maxRecDepth 20000 in
theorem gX5_readLines_X9_refuse : GoodIn wsX5_readLines (wsV RX5 83 RX9 yX9_refuse wsX9_refuse) := goodIn_app (goodIn_of _ (by decide +kernel)) ggX5_readLines_X9_refuse
theorem dX5_readLines_0 : decode cX5_readLines 0 = .ok (.iconst 1, 1) := by decide +kernel
theorem dX5_readLines_1 : decode cX5_readLines 1 = .ok (.istore_n 2, 1) := by decide +kernel
theorem dX5_readLines_2 : decode cX5_readLines 2 = .ok (.iconst 0, 1) := by decide +kernel
theorem dX5_readLines_3 : decode cX5_readLines 3 = .ok (.istore_n 3, 1) := by decide +kernel
theorem dX5_readLines_4 : decode cX5_readLines 4 = .ok (.iload_n 3, 1) := by decide +kernel
theorem dX5_readLines_5 : decode cX5_readLines 5 = .ok (.sipush 600, 3) := by decide +kernel
theorem dX5_readLines_8 : decode cX5_readLines 8 = .ok (.if_icmp .ge 86, 3) := by decide +kernel
theorem dX5_readLines_11 : decode cX5_readLines 11 = .ok (.iload_n 2, 1) := by decide +kernel
theorem dX5_readLines_12 : decode cX5_readLines 12 = .ok (.ifCond .eq 82, 3) := by decide +kernel
theorem dX5_readLines_15 : decode cX5_readLines 15 = .ok (.aload_n 1, 1) := by decide +kernel
theorem dX5_readLines_16 : decode cX5_readLines 16 = .ok (.invokevirtual 59, 3) := by decide +kernel
theorem dX5_readLines_19 : decode cX5_readLines 19 = .ok (.ifCond .ne 75, 3) := by decide +kernel
theorem dX5_readLines_22 : decode cX5_readLines 22 = .ok (.aload_n 1, 1) := by decide +kernel
theorem dX5_readLines_23 : decode cX5_readLines 23 = .ok (.ldc 63, 2) := by decide +kernel
theorem dX5_readLines_25 : decode cX5_readLines 25 = .ok (.invokevirtual 65, 3) := by decide +kernel
theorem dX5_readLines_28 : decode cX5_readLines 28 = .ok (.ifCond .eq 12, 3) := by decide +kernel
theorem dX5_readLines_31 : decode cX5_readLines 31 = .ok (.aload_n 0, 1) := by decide +kernel
theorem dX5_readLines_32 : decode cX5_readLines 32 = .ok (.aload_n 1, 1) := by decide +kernel
theorem dX5_readLines_33 : decode cX5_readLines 33 = .ok (.invokevirtual 69, 3) := by decide +kernel
theorem dX5_readLines_36 : decode cX5_readLines 36 = .ok (.istore_n 2, 1) := by decide +kernel
theorem dX5_readLines_37 : decode cX5_readLines 37 = .ok (.goto 51, 3) := by decide +kernel
theorem dX5_readLines_40 : decode cX5_readLines 40 = .ok (.aload_n 1, 1) := by decide +kernel
theorem dX5_readLines_41 : decode cX5_readLines 41 = .ok (.ldc 73, 2) := by decide +kernel
theorem dX5_readLines_43 : decode cX5_readLines 43 = .ok (.invokevirtual 65, 3) := by decide +kernel
theorem dX5_readLines_46 : decode cX5_readLines 46 = .ok (.ifCond .eq 15, 3) := by decide +kernel
theorem dX5_readLines_49 : decode cX5_readLines 49 = .ok (.aload_n 0, 1) := by decide +kernel
theorem dX5_readLines_50 : decode cX5_readLines 50 = .ok (.getfield 27, 3) := by decide +kernel
theorem dX5_readLines_53 : decode cX5_readLines 53 = .ok (.aload_n 1, 1) := by decide +kernel
theorem dX5_readLines_54 : decode cX5_readLines 54 = .ok (.invokevirtual 75, 3) := by decide +kernel
theorem dX5_readLines_57 : decode cX5_readLines 57 = .ok (.istore_n 2, 1) := by decide +kernel
theorem dX5_readLines_58 : decode cX5_readLines 58 = .ok (.goto 30, 3) := by decide +kernel
theorem dX5_readLines_61 : decode cX5_readLines 61 = .ok (.aload_n 1, 1) := by decide +kernel
theorem dX5_readLines_62 : decode cX5_readLines 62 = .ok (.ldc 78, 2) := by decide +kernel
theorem dX5_readLines_64 : decode cX5_readLines 64 = .ok (.invokevirtual 65, 3) := by decide +kernel
theorem dX5_readLines_67 : decode cX5_readLines 67 = .ok (.ifCond .eq 15, 3) := by decide +kernel
theorem dX5_readLines_70 : decode cX5_readLines 70 = .ok (.aload_n 0, 1) := by decide +kernel
theorem dX5_readLines_71 : decode cX5_readLines 71 = .ok (.getfield 34, 3) := by decide +kernel
theorem dX5_readLines_74 : decode cX5_readLines 74 = .ok (.aload_n 1, 1) := by decide +kernel
theorem dX5_readLines_75 : decode cX5_readLines 75 = .ok (.invokevirtual 80, 3) := by decide +kernel
theorem dX5_readLines_78 : decode cX5_readLines 78 = .ok (.istore_n 2, 1) := by decide +kernel
theorem dX5_readLines_79 : decode cX5_readLines 79 = .ok (.goto 9, 3) := by decide +kernel
theorem dX5_readLines_82 : decode cX5_readLines 82 = .ok (.aload_n 1, 1) := by decide +kernel
theorem dX5_readLines_83 : decode cX5_readLines 83 = .ok (.iconst 1, 1) := by decide +kernel
theorem dX5_readLines_84 : decode cX5_readLines 84 = .ok (.invokevirtual 83, 3) := by decide +kernel
theorem dX5_readLines_87 : decode cX5_readLines 87 = .ok (.istore_n 2, 1) := by decide +kernel
theorem dX5_readLines_88 : decode cX5_readLines 88 = .ok (.iinc 3 1, 3) := by decide +kernel
theorem dX5_readLines_91 : decode cX5_readLines 91 = .ok (.goto (-87), 3) := by decide +kernel
theorem dX5_readLines_94 : decode cX5_readLines 94 = .ok (.iload_n 2, 1) := by decide +kernel
theorem dX5_readLines_95 : decode cX5_readLines 95 = .ok (.ireturn, 1) := by decide +kernel
set_option maxRecDepth 20000 in
theorem ggX5_readSet_X9_step : GoodIn wsX5_readSet wsX9_step := goodIn_r _ [6, 7, 8, 9, 10, 11, 12, 13, 14, 5, 15, 16, 17, 18, 19, 20, 21, 119, 120, 121, 122, 123, 124, 125, 126, 127, 128] (by decide +kernel) (by decide +kernel)
set_option maxRecDepth 20000 in
theorem gX5_readSet_X9_step : GoodIn wsX5_readSet (wsV RX5 87 RX9 yX9_step wsX9_step) := goodIn_app (goodIn_of _ (by decide +kernel)) ggX5_readSet_X9_step
set_option maxRecDepth 20000 in
theorem ggX5_readSet_X9_takeNumber : GoodIn wsX5_readSet wsX9_takeNumber := goodIn_r _ [25, 26, 27, 28, 5, 29, 11, 7, 10, 12, 30, 31, 32, 33, 34, 35, 36, 37, 3, 4, 6, 8, 9, 13, 14, 15, 16, 17, 18, 19, 20, 21, 119, 120, 121, 122, 123, 124, 125, 126, 127, 128] (by decide +kernel) (by decide +kernel)
set_option maxRecDepth 20000 in
theorem gX5_readSet_X9_takeNumber : GoodIn wsX5_readSet (wsV RX5 90 RX9 yX9_takeNumber wsX9_takeNumber) := goodIn_app (goodIn_of _ (by decide +kernel)) ggX5_readSet_X9_takeNumber
set_option maxRecDepth 20000 in
theorem ggX5_readSet_X9_namedOf : GoodIn wsX5_readSet wsX9_namedOf := goodIn_r _ [41, 42, 43, 5, 44, 45, 46, 47, 48, 11, 7, 10, 9, 49, 50, 51, 52, 53, 54, 55, 56, 57, 58, 59, 60, 61, 62, 63, 64, 65, 66, 67, 68, 69, 70, 71, 72, 73, 74, 75, 76, 77, 78, 79, 80, 81, 82, 83, 84, 85, 86, 87, 88, 89, 90, 91, 92, 93, 94, 95, 96, 97, 119, 120, 121, 122, 123, 124, 125, 126, 127, 128] (by decide +kernel) (by decide +kernel)
set_option maxRecDepth 20000 in
theorem gX5_readSet_X9_namedOf : GoodIn wsX5_readSet (wsV RX5 98 RX9 yX9_namedOf wsX9_namedOf) := goodIn_app (goodIn_of _ (by decide +kernel)) ggX5_readSet_X9_namedOf
set_option maxRecDepth 20000 in
theorem ggX5_readSet_X9_refuse : GoodIn wsX5_readSet wsX9_refuse := goodIn_r _ [34, 35, 10, 36, 119, 120, 121, 122, 123, 124, 125, 126, 127, 128] (by decide +kernel) (by decide +kernel)
set_option maxRecDepth 20000 in
theorem gX5_readSet_X9_refuse : GoodIn wsX5_readSet (wsV RX5 83 RX9 yX9_refuse wsX9_refuse) := goodIn_app (goodIn_of _ (by decide +kernel)) ggX5_readSet_X9_refuse
set_option maxRecDepth 20000 in
theorem ggX5_readSet_X5_readTable : GoodIn wsX5_readSet wsX5_readTable := goodIn_r _ [103, 104, 1, 105, 106, 107, 108, 109, 110, 111, 112, 5, 113, 45, 46, 47, 48, 11, 7, 10, 9, 49, 50, 51, 52, 53, 54, 55, 56, 57, 58, 59, 60, 61, 62, 63, 64, 65, 66, 67, 68, 69, 70, 71, 72, 73, 74, 75, 76, 77, 78, 79, 80, 81, 82, 83, 84, 85, 86, 87, 88, 89, 90, 91, 92, 93, 94, 95, 96, 97, 31, 32, 33, 34, 35, 36, 37, 3, 4, 6, 8, 12, 13, 14, 15, 16, 17, 18, 19, 20, 21, 22, 23, 24, 25, 26, 27, 28, 29, 30, 114, 2, 129, 130, 131, 132, 133, 134, 119, 120, 121, 122, 123, 124, 125, 126, 127, 128] (by decide +kernel) (by decide +kernel)
set_option maxRecDepth 20000 in
theorem gX5_readSet_X5_readTable : GoodIn wsX5_readSet (wsV RX5 102 RX5 yX5_readTable wsX5_readTable) := goodIn_app (goodIn_of _ (by decide +kernel)) ggX5_readSet_X5_readTable
set_option maxRecDepth 20000 in
theorem ggX5_readSet_X9_takeStop : GoodIn wsX5_readSet wsX9_takeStop := goodIn_r _ [118, 11, 31, 32, 33, 5, 34, 35, 10, 36, 37, 3, 4, 6, 7, 8, 9, 12, 13, 14, 15, 16, 17, 18, 19, 20, 21, 119, 120, 121, 122, 123, 124, 125, 126, 127, 128] (by decide +kernel) (by decide +kernel)
set_option maxRecDepth 20000 in
theorem gX5_readSet_X9_takeStop : GoodIn wsX5_readSet (wsV RX5 106 RX9 yX9_takeStop wsX9_takeStop) := goodIn_app (goodIn_of _ (by decide +kernel)) ggX5_readSet_X9_takeStop
theorem dX5_readSet_0 : decode cX5_readSet 0 = .ok (.aload_n 1, 1) := by decide +kernel
theorem dX5_readSet_1 : decode cX5_readSet 1 = .ok (.invokevirtual 87, 3) := by decide +kernel
theorem dX5_readSet_4 : decode cX5_readSet 4 = .ok (.aload_n 1, 1) := by decide +kernel
theorem dX5_readSet_5 : decode cX5_readSet 5 = .ok (.iconst 0, 1) := by decide +kernel
theorem dX5_readSet_6 : decode cX5_readSet 6 = .ok (.iconst 3, 1) := by decide +kernel
theorem dX5_readSet_7 : decode cX5_readSet 7 = .ok (.invokevirtual 90, 3) := by decide +kernel
theorem dX5_readSet_10 : decode cX5_readSet 10 = .ok (.ifCond .ne 5, 3) := by decide +kernel
theorem dX5_readSet_13 : decode cX5_readSet 13 = .ok (.iconst 0, 1) := by decide +kernel
theorem dX5_readSet_14 : decode cX5_readSet 14 = .ok (.ireturn, 1) := by decide +kernel
theorem dX5_readSet_15 : decode cX5_readSet 15 = .ok (.aload_n 1, 1) := by decide +kernel
theorem dX5_readSet_16 : decode cX5_readSet 16 = .ok (.getfield 94, 3) := by decide +kernel
theorem dX5_readSet_19 : decode cX5_readSet 19 = .ok (.istore_n 2, 1) := by decide +kernel
theorem dX5_readSet_20 : decode cX5_readSet 20 = .ok (.aload_n 1, 1) := by decide +kernel
theorem dX5_readSet_21 : decode cX5_readSet 21 = .ok (.bipush 7, 2) := by decide +kernel
theorem dX5_readSet_23 : decode cX5_readSet 23 = .ok (.invokevirtual 98, 3) := by decide +kernel
theorem dX5_readSet_26 : decode cX5_readSet 26 = .ok (.istore_n 3, 1) := by decide +kernel
theorem dX5_readSet_27 : decode cX5_readSet 27 = .ok (.iload_n 3, 1) := by decide +kernel
theorem dX5_readSet_28 : decode cX5_readSet 28 = .ok (.iconst (-1), 1) := by decide +kernel
theorem dX5_readSet_29 : decode cX5_readSet 29 = .ok (.if_icmp .ne 9, 3) := by decide +kernel
theorem dX5_readSet_32 : decode cX5_readSet 32 = .ok (.aload_n 1, 1) := by decide +kernel
theorem dX5_readSet_33 : decode cX5_readSet 33 = .ok (.iconst 1, 1) := by decide +kernel
theorem dX5_readSet_34 : decode cX5_readSet 34 = .ok (.invokevirtual 83, 3) := by decide +kernel
theorem dX5_readSet_37 : decode cX5_readSet 37 = .ok (.ireturn, 1) := by decide +kernel
theorem dX5_readSet_38 : decode cX5_readSet 38 = .ok (.aload_n 1, 1) := by decide +kernel
theorem dX5_readSet_39 : decode cX5_readSet 39 = .ok (.invokevirtual 87, 3) := by decide +kernel
theorem dX5_readSet_42 : decode cX5_readSet 42 = .ok (.aload_n 0, 1) := by decide +kernel
theorem dX5_readSet_43 : decode cX5_readSet 43 = .ok (.aload_n 1, 1) := by decide +kernel
theorem dX5_readSet_44 : decode cX5_readSet 44 = .ok (.bipush 7, 2) := by decide +kernel
theorem dX5_readSet_46 : decode cX5_readSet 46 = .ok (.iload_n 2, 1) := by decide +kernel
theorem dX5_readSet_47 : decode cX5_readSet 47 = .ok (.imul, 1) := by decide +kernel
theorem dX5_readSet_48 : decode cX5_readSet 48 = .ok (.iload_n 3, 1) := by decide +kernel
theorem dX5_readSet_49 : decode cX5_readSet 49 = .ok (.iadd, 1) := by decide +kernel
theorem dX5_readSet_50 : decode cX5_readSet 50 = .ok (.invokevirtual 102, 3) := by decide +kernel
theorem dX5_readSet_53 : decode cX5_readSet 53 = .ok (.ifCond .eq 14, 3) := by decide +kernel
theorem dX5_readSet_56 : decode cX5_readSet 56 = .ok (.aload_n 1, 1) := by decide +kernel
theorem dX5_readSet_57 : decode cX5_readSet 57 = .ok (.invokevirtual 106, 3) := by decide +kernel
theorem dX5_readSet_60 : decode cX5_readSet 60 = .ok (.ifCond .eq 7, 3) := by decide +kernel
theorem dX5_readSet_63 : decode cX5_readSet 63 = .ok (.iconst 1, 1) := by decide +kernel
theorem dX5_readSet_64 : decode cX5_readSet 64 = .ok (.goto 4, 3) := by decide +kernel
theorem dX5_readSet_67 : decode cX5_readSet 67 = .ok (.iconst 0, 1) := by decide +kernel
theorem dX5_readSet_68 : decode cX5_readSet 68 = .ok (.ireturn, 1) := by decide +kernel
set_option maxRecDepth 20000 in
theorem ggX5_readTable_X9_takeWord : GoodIn wsX5_readTable wsX9_takeWord := goodIn_r _ [12, 13, 14, 15, 11, 16, 17, 18, 19, 20, 21, 22, 23, 24, 25, 26, 27, 28, 29, 30, 31, 32, 33, 34, 35, 36, 37, 38, 39, 40, 41, 42, 43, 44, 45, 46, 47, 48, 49, 50, 51, 52, 53, 54, 55, 56, 57, 58, 59, 60, 61, 62, 63, 64, 65, 66, 67, 68, 69, 70, 71, 72, 73, 74, 75, 76, 77, 78, 79, 80, 81, 82, 83, 84, 85, 86, 87, 88, 89, 90, 108, 109, 110, 111, 112, 113, 114, 115, 116, 117] (by decide +kernel) (by decide +kernel)
set_option maxRecDepth 20000 in
theorem gX5_readTable_X9_takeWord : GoodIn wsX5_readTable (wsV RX5 110 RX9 yX9_takeWord wsX9_takeWord) := goodIn_app (goodIn_of _ (by decide +kernel)) ggX5_readTable_X9_takeWord
set_option maxRecDepth 20000 in
theorem ggX5_readTable_X9_takeNumber : GoodIn wsX5_readTable wsX9_takeNumber := goodIn_r _ [94, 95, 96, 97, 11, 98, 17, 18, 19, 81, 99, 70, 71, 72, 73, 74, 75, 76, 77, 78, 79, 80, 20, 82, 83, 84, 85, 86, 87, 88, 89, 90, 108, 109, 110, 111, 112, 113, 114, 115, 116, 117] (by decide +kernel) (by decide +kernel)
set_option maxRecDepth 20000 in
theorem gX5_readTable_X9_takeNumber : GoodIn wsX5_readTable (wsV RX5 90 RX9 yX9_takeNumber wsX9_takeNumber) := goodIn_app (goodIn_of _ (by decide +kernel)) ggX5_readTable_X9_takeNumber
set_option maxRecDepth 20000 in
theorem ggX5_readTable_X9_isWord : GoodIn wsX5_readTable wsX9_isWord := goodIn_r _ [16, 17, 18, 19, 20, 21, 22, 23, 24, 25, 26, 27, 28, 29, 30, 31, 32, 33, 34, 35, 36, 37, 38, 39, 40, 41, 42, 43, 44, 45, 46, 47, 48, 49, 50, 51, 52, 53, 54, 55, 56, 57, 58, 59, 60, 61, 62, 63, 64, 65, 66, 67, 68, 69, 108, 109, 110, 111, 112, 113, 114, 115, 116, 117] (by decide +kernel) (by decide +kernel)
set_option maxRecDepth 20000 in
theorem gX5_readTable_X9_isWord : GoodIn wsX5_readTable (wsV RX5 65 RX9 yX9_isWord wsX9_isWord) := goodIn_app (goodIn_of _ (by decide +kernel)) ggX5_readTable_X9_isWord
set_option maxRecDepth 20000 in
theorem ggX5_readTable_X9_step : GoodIn wsX5_readTable wsX9_step := goodIn_r _ [79, 18, 80, 20, 19, 17, 81, 82, 83, 11, 84, 85, 86, 87, 88, 89, 90, 108, 109, 110, 111, 112, 113, 114, 115, 116, 117] (by decide +kernel) (by decide +kernel)
set_option maxRecDepth 20000 in
theorem gX5_readTable_X9_step : GoodIn wsX5_readTable (wsV RX5 87 RX9 yX9_step wsX9_step) := goodIn_app (goodIn_of _ (by decide +kernel)) ggX5_readTable_X9_step
theorem dX5_readTable_0 : decode cX5_readTable 0 = .ok (.aload_n 1, 1) := by decide +kernel
theorem dX5_readTable_1 : decode cX5_readTable 1 = .ok (.ldc 109, 2) := by decide +kernel
theorem dX5_readTable_3 : decode cX5_readTable 3 = .ok (.invokevirtual 110, 3) := by decide +kernel
theorem dX5_readTable_6 : decode cX5_readTable 6 = .ok (.ifCond .eq 14, 3) := by decide +kernel
theorem dX5_readTable_9 : decode cX5_readTable 9 = .ok (.aload_n 1, 1) := by decide +kernel
theorem dX5_readTable_10 : decode cX5_readTable 10 = .ok (.iconst 0, 1) := by decide +kernel
theorem dX5_readTable_11 : decode cX5_readTable 11 = .ok (.sipush 21599, 3) := by decide +kernel
theorem dX5_readTable_14 : decode cX5_readTable 14 = .ok (.invokevirtual 90, 3) := by decide +kernel
theorem dX5_readTable_17 : decode cX5_readTable 17 = .ok (.ifCond .ne 5, 3) := by decide +kernel
theorem dX5_readTable_20 : decode cX5_readTable 20 = .ok (.iconst 0, 1) := by decide +kernel
theorem dX5_readTable_21 : decode cX5_readTable 21 = .ok (.ireturn, 1) := by decide +kernel
theorem dX5_readTable_22 : decode cX5_readTable 22 = .ok (.aload_n 0, 1) := by decide +kernel
theorem dX5_readTable_23 : decode cX5_readTable 23 = .ok (.getfield 11, 3) := by decide +kernel
theorem dX5_readTable_26 : decode cX5_readTable 26 = .ok (.iload_n 2, 1) := by decide +kernel
theorem dX5_readTable_27 : decode cX5_readTable 27 = .ok (.aload_n 1, 1) := by decide +kernel
theorem dX5_readTable_28 : decode cX5_readTable 28 = .ok (.getfield 94, 3) := by decide +kernel
theorem dX5_readTable_31 : decode cX5_readTable 31 = .ok (.iastore, 1) := by decide +kernel
theorem dX5_readTable_32 : decode cX5_readTable 32 = .ok (.aload_n 1, 1) := by decide +kernel
theorem dX5_readTable_33 : decode cX5_readTable 33 = .ok (.ldc 113, 2) := by decide +kernel
theorem dX5_readTable_35 : decode cX5_readTable 35 = .ok (.invokevirtual 110, 3) := by decide +kernel
theorem dX5_readTable_38 : decode cX5_readTable 38 = .ok (.ifCond .eq 13, 3) := by decide +kernel
theorem dX5_readTable_41 : decode cX5_readTable 41 = .ok (.aload_n 1, 1) := by decide +kernel
theorem dX5_readTable_42 : decode cX5_readTable 42 = .ok (.iconst 0, 1) := by decide +kernel
theorem dX5_readTable_43 : decode cX5_readTable 43 = .ok (.ldc 114, 2) := by decide +kernel
theorem dX5_readTable_45 : decode cX5_readTable 45 = .ok (.invokevirtual 90, 3) := by decide +kernel
theorem dX5_readTable_48 : decode cX5_readTable 48 = .ok (.ifCond .ne 5, 3) := by decide +kernel
theorem dX5_readTable_51 : decode cX5_readTable 51 = .ok (.iconst 0, 1) := by decide +kernel
theorem dX5_readTable_52 : decode cX5_readTable 52 = .ok (.ireturn, 1) := by decide +kernel
theorem dX5_readTable_53 : decode cX5_readTable 53 = .ok (.aload_n 0, 1) := by decide +kernel
theorem dX5_readTable_54 : decode cX5_readTable 54 = .ok (.getfield 15, 3) := by decide +kernel
theorem dX5_readTable_57 : decode cX5_readTable 57 = .ok (.iload_n 2, 1) := by decide +kernel
theorem dX5_readTable_58 : decode cX5_readTable 58 = .ok (.aload_n 1, 1) := by decide +kernel
theorem dX5_readTable_59 : decode cX5_readTable 59 = .ok (.getfield 94, 3) := by decide +kernel
theorem dX5_readTable_62 : decode cX5_readTable 62 = .ok (.iastore, 1) := by decide +kernel
theorem dX5_readTable_63 : decode cX5_readTable 63 = .ok (.aload_n 0, 1) := by decide +kernel
theorem dX5_readTable_64 : decode cX5_readTable 64 = .ok (.getfield 18, 3) := by decide +kernel
theorem dX5_readTable_67 : decode cX5_readTable 67 = .ok (.iload_n 2, 1) := by decide +kernel
theorem dX5_readTable_68 : decode cX5_readTable 68 = .ok (.iconst 0, 1) := by decide +kernel
theorem dX5_readTable_69 : decode cX5_readTable 69 = .ok (.iastore, 1) := by decide +kernel
theorem dX5_readTable_70 : decode cX5_readTable 70 = .ok (.aload_n 0, 1) := by decide +kernel
theorem dX5_readTable_71 : decode cX5_readTable 71 = .ok (.getfield 21, 3) := by decide +kernel
theorem dX5_readTable_74 : decode cX5_readTable 74 = .ok (.iload_n 2, 1) := by decide +kernel
theorem dX5_readTable_75 : decode cX5_readTable 75 = .ok (.iconst 1, 1) := by decide +kernel
theorem dX5_readTable_76 : decode cX5_readTable 76 = .ok (.iastore, 1) := by decide +kernel
theorem dX5_readTable_77 : decode cX5_readTable 77 = .ok (.aload_n 1, 1) := by decide +kernel
theorem dX5_readTable_78 : decode cX5_readTable 78 = .ok (.ldc 115, 2) := by decide +kernel
theorem dX5_readTable_80 : decode cX5_readTable 80 = .ok (.invokevirtual 65, 3) := by decide +kernel
theorem dX5_readTable_83 : decode cX5_readTable 83 = .ok (.ifCond .ne 5, 3) := by decide +kernel
theorem dX5_readTable_86 : decode cX5_readTable 86 = .ok (.iconst 1, 1) := by decide +kernel
theorem dX5_readTable_87 : decode cX5_readTable 87 = .ok (.ireturn, 1) := by decide +kernel
theorem dX5_readTable_88 : decode cX5_readTable 88 = .ok (.aload_n 1, 1) := by decide +kernel
theorem dX5_readTable_89 : decode cX5_readTable 89 = .ok (.invokevirtual 87, 3) := by decide +kernel
theorem dX5_readTable_92 : decode cX5_readTable 92 = .ok (.aload_n 1, 1) := by decide +kernel
theorem dX5_readTable_93 : decode cX5_readTable 93 = .ok (.iconst 0, 1) := by decide +kernel
theorem dX5_readTable_94 : decode cX5_readTable 94 = .ok (.sipush 10800, 3) := by decide +kernel
theorem dX5_readTable_97 : decode cX5_readTable 97 = .ok (.invokevirtual 90, 3) := by decide +kernel
theorem dX5_readTable_100 : decode cX5_readTable 100 = .ok (.ifCond .ne 5, 3) := by decide +kernel
theorem dX5_readTable_103 : decode cX5_readTable 103 = .ok (.iconst 0, 1) := by decide +kernel
theorem dX5_readTable_104 : decode cX5_readTable 104 = .ok (.ireturn, 1) := by decide +kernel
theorem dX5_readTable_105 : decode cX5_readTable 105 = .ok (.aload_n 0, 1) := by decide +kernel
theorem dX5_readTable_106 : decode cX5_readTable 106 = .ok (.getfield 18, 3) := by decide +kernel
theorem dX5_readTable_109 : decode cX5_readTable 109 = .ok (.iload_n 2, 1) := by decide +kernel
theorem dX5_readTable_110 : decode cX5_readTable 110 = .ok (.aload_n 1, 1) := by decide +kernel
theorem dX5_readTable_111 : decode cX5_readTable 111 = .ok (.getfield 94, 3) := by decide +kernel
theorem dX5_readTable_114 : decode cX5_readTable 114 = .ok (.iastore, 1) := by decide +kernel
theorem dX5_readTable_115 : decode cX5_readTable 115 = .ok (.aload_n 1, 1) := by decide +kernel
theorem dX5_readTable_116 : decode cX5_readTable 116 = .ok (.ldc 116, 2) := by decide +kernel
theorem dX5_readTable_118 : decode cX5_readTable 118 = .ok (.invokevirtual 110, 3) := by decide +kernel
theorem dX5_readTable_121 : decode cX5_readTable 121 = .ok (.ifCond .eq 13, 3) := by decide +kernel
theorem dX5_readTable_124 : decode cX5_readTable 124 = .ok (.aload_n 1, 1) := by decide +kernel
theorem dX5_readTable_125 : decode cX5_readTable 125 = .ok (.iconst 2, 1) := by decide +kernel
theorem dX5_readTable_126 : decode cX5_readTable 126 = .ok (.ldc 118, 2) := by decide +kernel
theorem dX5_readTable_128 : decode cX5_readTable 128 = .ok (.invokevirtual 90, 3) := by decide +kernel
theorem dX5_readTable_131 : decode cX5_readTable 131 = .ok (.ifCond .ne 5, 3) := by decide +kernel
theorem dX5_readTable_134 : decode cX5_readTable 134 = .ok (.iconst 0, 1) := by decide +kernel
theorem dX5_readTable_135 : decode cX5_readTable 135 = .ok (.ireturn, 1) := by decide +kernel
theorem dX5_readTable_136 : decode cX5_readTable 136 = .ok (.aload_n 0, 1) := by decide +kernel
theorem dX5_readTable_137 : decode cX5_readTable 137 = .ok (.getfield 21, 3) := by decide +kernel
theorem dX5_readTable_140 : decode cX5_readTable 140 = .ok (.iload_n 2, 1) := by decide +kernel
theorem dX5_readTable_141 : decode cX5_readTable 141 = .ok (.aload_n 1, 1) := by decide +kernel
theorem dX5_readTable_142 : decode cX5_readTable 142 = .ok (.getfield 94, 3) := by decide +kernel
theorem dX5_readTable_145 : decode cX5_readTable 145 = .ok (.iastore, 1) := by decide +kernel
theorem dX5_readTable_146 : decode cX5_readTable 146 = .ok (.iconst 1, 1) := by decide +kernel
theorem dX5_readTable_147 : decode cX5_readTable 147 = .ok (.ireturn, 1) := by decide +kernel
theorem dX9_isAtEnd_0 : decode cX9_isAtEnd 0 = .ok (.aload_n 0, 1) := by decide +kernel
theorem dX9_isAtEnd_1 : decode cX9_isAtEnd 1 = .ok (.getfield 40, 3) := by decide +kernel
theorem dX9_isAtEnd_4 : decode cX9_isAtEnd 4 = .ok (.ifCond .ne 7, 3) := by decide +kernel
theorem dX9_isAtEnd_7 : decode cX9_isAtEnd 7 = .ok (.iconst 1, 1) := by decide +kernel
theorem dX9_isAtEnd_8 : decode cX9_isAtEnd 8 = .ok (.goto 4, 3) := by decide +kernel
theorem dX9_isAtEnd_11 : decode cX9_isAtEnd 11 = .ok (.iconst 0, 1) := by decide +kernel
theorem dX9_isAtEnd_12 : decode cX9_isAtEnd 12 = .ok (.ireturn, 1) := by decide +kernel
set_option maxRecDepth 20000 in
theorem ggX9_step_X9_isBlank : GoodIn wsX9_step wsX9_isBlank := goodIn_r _ [10] (by decide +kernel) (by decide +kernel)
set_option maxRecDepth 20000 in
theorem gX9_step_X9_isBlank : GoodIn wsX9_step (va_wsS RX9 43 yX9_isBlank wsX9_isBlank) := goodIn_app (goodIn_of _ (by decide +kernel)) ggX9_step_X9_isBlank
set_option maxRecDepth 20000 in
theorem ggX9_step_X9_isLetter : GoodIn wsX9_step wsX9_isLetter := goodIn_r _ [13] (by decide +kernel) (by decide +kernel)
set_option maxRecDepth 20000 in
theorem gX9_step_X9_isLetter : GoodIn wsX9_step (va_wsS RX9 50 yX9_isLetter wsX9_isLetter) := goodIn_app (goodIn_of _ (by decide +kernel)) ggX9_step_X9_isLetter
set_option maxRecDepth 20000 in
theorem ggX9_step_X9_isDigit : GoodIn wsX9_step wsX9_isDigit := goodIn_r _ [16] (by decide +kernel) (by decide +kernel)
set_option maxRecDepth 20000 in
theorem gX9_step_X9_isDigit : GoodIn wsX9_step (va_wsS RX9 53 yX9_isDigit wsX9_isDigit) := goodIn_app (goodIn_of _ (by decide +kernel)) ggX9_step_X9_isDigit
theorem dX9_step_0 : decode cX9_step 0 = .ok (.aload_n 0, 1) := by decide +kernel
theorem dX9_step_1 : decode cX9_step 1 = .ok (.getfield 31, 3) := by decide +kernel
theorem dX9_step_4 : decode cX9_step 4 = .ok (.aload_n 0, 1) := by decide +kernel
theorem dX9_step_5 : decode cX9_step 5 = .ok (.getfield 28, 3) := by decide +kernel
theorem dX9_step_8 : decode cX9_step 8 = .ok (.if_icmp .ge 31, 3) := by decide +kernel
theorem dX9_step_11 : decode cX9_step 11 = .ok (.aload_n 0, 1) := by decide +kernel
theorem dX9_step_12 : decode cX9_step 12 = .ok (.getfield 11, 3) := by decide +kernel
theorem dX9_step_15 : decode cX9_step 15 = .ok (.aload_n 0, 1) := by decide +kernel
theorem dX9_step_16 : decode cX9_step 16 = .ok (.getfield 31, 3) := by decide +kernel
theorem dX9_step_19 : decode cX9_step 19 = .ok (.baload, 1) := by decide +kernel
theorem dX9_step_20 : decode cX9_step 20 = .ok (.invokestatic 43, 3) := by decide +kernel
theorem dX9_step_23 : decode cX9_step 23 = .ok (.ifCond .eq 16, 3) := by decide +kernel
theorem dX9_step_26 : decode cX9_step 26 = .ok (.aload_n 0, 1) := by decide +kernel
theorem dX9_step_27 : decode cX9_step 27 = .ok (.dup, 1) := by decide +kernel
theorem dX9_step_28 : decode cX9_step 28 = .ok (.getfield 31, 3) := by decide +kernel
theorem dX9_step_31 : decode cX9_step 31 = .ok (.iconst 1, 1) := by decide +kernel
theorem dX9_step_32 : decode cX9_step 32 = .ok (.iadd, 1) := by decide +kernel
theorem dX9_step_33 : decode cX9_step 33 = .ok (.putfield 31, 3) := by decide +kernel
theorem dX9_step_36 : decode cX9_step 36 = .ok (.goto (-36), 3) := by decide +kernel
theorem dX9_step_39 : decode cX9_step 39 = .ok (.aload_n 0, 1) := by decide +kernel
theorem dX9_step_40 : decode cX9_step 40 = .ok (.aload_n 0, 1) := by decide +kernel
theorem dX9_step_41 : decode cX9_step 41 = .ok (.getfield 31, 3) := by decide +kernel
theorem dX9_step_44 : decode cX9_step 44 = .ok (.putfield 47, 3) := by decide +kernel
theorem dX9_step_47 : decode cX9_step 47 = .ok (.aload_n 0, 1) := by decide +kernel
theorem dX9_step_48 : decode cX9_step 48 = .ok (.getfield 31, 3) := by decide +kernel
theorem dX9_step_51 : decode cX9_step 51 = .ok (.aload_n 0, 1) := by decide +kernel
theorem dX9_step_52 : decode cX9_step 52 = .ok (.getfield 28, 3) := by decide +kernel
theorem dX9_step_55 : decode cX9_step 55 = .ok (.if_icmp .lt 11, 3) := by decide +kernel
theorem dX9_step_58 : decode cX9_step 58 = .ok (.aload_n 0, 1) := by decide +kernel
theorem dX9_step_59 : decode cX9_step 59 = .ok (.iconst 0, 1) := by decide +kernel
theorem dX9_step_60 : decode cX9_step 60 = .ok (.putfield 40, 3) := by decide +kernel
theorem dX9_step_63 : decode cX9_step 63 = .ok (.goto 204, 3) := by decide +kernel
theorem dX9_step_66 : decode cX9_step 66 = .ok (.aload_n 0, 1) := by decide +kernel
theorem dX9_step_67 : decode cX9_step 67 = .ok (.getfield 11, 3) := by decide +kernel
theorem dX9_step_70 : decode cX9_step 70 = .ok (.aload_n 0, 1) := by decide +kernel
theorem dX9_step_71 : decode cX9_step 71 = .ok (.getfield 31, 3) := by decide +kernel
theorem dX9_step_74 : decode cX9_step 74 = .ok (.baload, 1) := by decide +kernel
theorem dX9_step_75 : decode cX9_step 75 = .ok (.invokestatic 50, 3) := by decide +kernel
theorem dX9_step_78 : decode cX9_step 78 = .ok (.ifCond .eq 47, 3) := by decide +kernel
theorem dX9_step_81 : decode cX9_step 81 = .ok (.aload_n 0, 1) := by decide +kernel
theorem dX9_step_82 : decode cX9_step 82 = .ok (.iconst 1, 1) := by decide +kernel
theorem dX9_step_83 : decode cX9_step 83 = .ok (.putfield 40, 3) := by decide +kernel
theorem dX9_step_86 : decode cX9_step 86 = .ok (.aload_n 0, 1) := by decide +kernel
theorem dX9_step_87 : decode cX9_step 87 = .ok (.getfield 31, 3) := by decide +kernel
theorem dX9_step_90 : decode cX9_step 90 = .ok (.aload_n 0, 1) := by decide +kernel
theorem dX9_step_91 : decode cX9_step 91 = .ok (.getfield 28, 3) := by decide +kernel
theorem dX9_step_94 : decode cX9_step 94 = .ok (.if_icmp .ge 173, 3) := by decide +kernel
theorem dX9_step_97 : decode cX9_step 97 = .ok (.aload_n 0, 1) := by decide +kernel
theorem dX9_step_98 : decode cX9_step 98 = .ok (.getfield 11, 3) := by decide +kernel
theorem dX9_step_101 : decode cX9_step 101 = .ok (.aload_n 0, 1) := by decide +kernel
theorem dX9_step_102 : decode cX9_step 102 = .ok (.getfield 31, 3) := by decide +kernel
theorem dX9_step_105 : decode cX9_step 105 = .ok (.baload, 1) := by decide +kernel
theorem dX9_step_106 : decode cX9_step 106 = .ok (.invokestatic 50, 3) := by decide +kernel
theorem dX9_step_109 : decode cX9_step 109 = .ok (.ifCond .eq 158, 3) := by decide +kernel
theorem dX9_step_112 : decode cX9_step 112 = .ok (.aload_n 0, 1) := by decide +kernel
theorem dX9_step_113 : decode cX9_step 113 = .ok (.dup, 1) := by decide +kernel
theorem dX9_step_114 : decode cX9_step 114 = .ok (.getfield 31, 3) := by decide +kernel
theorem dX9_step_117 : decode cX9_step 117 = .ok (.iconst 1, 1) := by decide +kernel
theorem dX9_step_118 : decode cX9_step 118 = .ok (.iadd, 1) := by decide +kernel
theorem dX9_step_119 : decode cX9_step 119 = .ok (.putfield 31, 3) := by decide +kernel
theorem dX9_step_122 : decode cX9_step 122 = .ok (.goto (-36), 3) := by decide +kernel
theorem dX9_step_125 : decode cX9_step 125 = .ok (.aload_n 0, 1) := by decide +kernel
theorem dX9_step_126 : decode cX9_step 126 = .ok (.getfield 11, 3) := by decide +kernel
theorem dX9_step_129 : decode cX9_step 129 = .ok (.aload_n 0, 1) := by decide +kernel
theorem dX9_step_130 : decode cX9_step 130 = .ok (.getfield 31, 3) := by decide +kernel
theorem dX9_step_133 : decode cX9_step 133 = .ok (.baload, 1) := by decide +kernel
theorem dX9_step_134 : decode cX9_step 134 = .ok (.invokestatic 53, 3) := by decide +kernel
theorem dX9_step_137 : decode cX9_step 137 = .ok (.ifCond .eq 97, 3) := by decide +kernel
theorem dX9_step_140 : decode cX9_step 140 = .ok (.aload_n 0, 1) := by decide +kernel
theorem dX9_step_141 : decode cX9_step 141 = .ok (.iconst 2, 1) := by decide +kernel
theorem dX9_step_142 : decode cX9_step 142 = .ok (.putfield 40, 3) := by decide +kernel
theorem dX9_step_145 : decode cX9_step 145 = .ok (.aload_n 0, 1) := by decide +kernel
theorem dX9_step_146 : decode cX9_step 146 = .ok (.iconst 0, 1) := by decide +kernel
theorem dX9_step_147 : decode cX9_step 147 = .ok (.putfield 56, 3) := by decide +kernel
theorem dX9_step_150 : decode cX9_step 150 = .ok (.aload_n 0, 1) := by decide +kernel
theorem dX9_step_151 : decode cX9_step 151 = .ok (.getfield 31, 3) := by decide +kernel
theorem dX9_step_154 : decode cX9_step 154 = .ok (.aload_n 0, 1) := by decide +kernel
theorem dX9_step_155 : decode cX9_step 155 = .ok (.getfield 28, 3) := by decide +kernel
theorem dX9_step_158 : decode cX9_step 158 = .ok (.if_icmp .ge 109, 3) := by decide +kernel
theorem dX9_step_161 : decode cX9_step 161 = .ok (.aload_n 0, 1) := by decide +kernel
theorem dX9_step_162 : decode cX9_step 162 = .ok (.getfield 11, 3) := by decide +kernel
theorem dX9_step_165 : decode cX9_step 165 = .ok (.aload_n 0, 1) := by decide +kernel
theorem dX9_step_166 : decode cX9_step 166 = .ok (.getfield 31, 3) := by decide +kernel
theorem dX9_step_169 : decode cX9_step 169 = .ok (.baload, 1) := by decide +kernel
theorem dX9_step_170 : decode cX9_step 170 = .ok (.invokestatic 53, 3) := by decide +kernel
theorem dX9_step_173 : decode cX9_step 173 = .ok (.ifCond .eq 94, 3) := by decide +kernel
theorem dX9_step_176 : decode cX9_step 176 = .ok (.aload_n 0, 1) := by decide +kernel
theorem dX9_step_177 : decode cX9_step 177 = .ok (.aload_n 0, 1) := by decide +kernel
theorem dX9_step_178 : decode cX9_step 178 = .ok (.getfield 31, 3) := by decide +kernel
theorem dX9_step_181 : decode cX9_step 181 = .ok (.aload_n 0, 1) := by decide +kernel
theorem dX9_step_182 : decode cX9_step 182 = .ok (.getfield 47, 3) := by decide +kernel
theorem dX9_step_185 : decode cX9_step 185 = .ok (.isub, 1) := by decide +kernel
theorem dX9_step_186 : decode cX9_step 186 = .ok (.bipush 7, 2) := by decide +kernel
theorem dX9_step_188 : decode cX9_step 188 = .ok (.if_icmp .ge 26, 3) := by decide +kernel
theorem dX9_step_191 : decode cX9_step 191 = .ok (.bipush 10, 2) := by decide +kernel
theorem dX9_step_193 : decode cX9_step 193 = .ok (.aload_n 0, 1) := by decide +kernel
theorem dX9_step_194 : decode cX9_step 194 = .ok (.getfield 56, 3) := by decide +kernel
theorem dX9_step_197 : decode cX9_step 197 = .ok (.imul, 1) := by decide +kernel
theorem dX9_step_198 : decode cX9_step 198 = .ok (.aload_n 0, 1) := by decide +kernel
theorem dX9_step_199 : decode cX9_step 199 = .ok (.getfield 11, 3) := by decide +kernel
theorem dX9_step_202 : decode cX9_step 202 = .ok (.aload_n 0, 1) := by decide +kernel
theorem dX9_step_203 : decode cX9_step 203 = .ok (.getfield 31, 3) := by decide +kernel
theorem dX9_step_206 : decode cX9_step 206 = .ok (.baload, 1) := by decide +kernel
theorem dX9_step_207 : decode cX9_step 207 = .ok (.iadd, 1) := by decide +kernel
theorem dX9_step_208 : decode cX9_step 208 = .ok (.bipush 48, 2) := by decide +kernel
theorem dX9_step_210 : decode cX9_step 210 = .ok (.isub, 1) := by decide +kernel
theorem dX9_step_211 : decode cX9_step 211 = .ok (.goto 7, 3) := by decide +kernel
theorem dX9_step_214 : decode cX9_step 214 = .ok (.aload_n 0, 1) := by decide +kernel
theorem dX9_step_215 : decode cX9_step 215 = .ok (.getfield 56, 3) := by decide +kernel
theorem dX9_step_218 : decode cX9_step 218 = .ok (.putfield 56, 3) := by decide +kernel
theorem dX9_step_221 : decode cX9_step 221 = .ok (.aload_n 0, 1) := by decide +kernel
theorem dX9_step_222 : decode cX9_step 222 = .ok (.dup, 1) := by decide +kernel
theorem dX9_step_223 : decode cX9_step 223 = .ok (.getfield 31, 3) := by decide +kernel
theorem dX9_step_226 : decode cX9_step 226 = .ok (.iconst 1, 1) := by decide +kernel
theorem dX9_step_227 : decode cX9_step 227 = .ok (.iadd, 1) := by decide +kernel
theorem dX9_step_228 : decode cX9_step 228 = .ok (.putfield 31, 3) := by decide +kernel
theorem dX9_step_231 : decode cX9_step 231 = .ok (.goto (-81), 3) := by decide +kernel
theorem dX9_step_234 : decode cX9_step 234 = .ok (.aload_n 0, 1) := by decide +kernel
theorem dX9_step_235 : decode cX9_step 235 = .ok (.aload_n 0, 1) := by decide +kernel
theorem dX9_step_236 : decode cX9_step 236 = .ok (.getfield 11, 3) := by decide +kernel
theorem dX9_step_239 : decode cX9_step 239 = .ok (.aload_n 0, 1) := by decide +kernel
theorem dX9_step_240 : decode cX9_step 240 = .ok (.getfield 31, 3) := by decide +kernel
theorem dX9_step_243 : decode cX9_step 243 = .ok (.baload, 1) := by decide +kernel
theorem dX9_step_244 : decode cX9_step 244 = .ok (.bipush 59, 2) := by decide +kernel
theorem dX9_step_246 : decode cX9_step 246 = .ok (.if_icmp .ne 7, 3) := by decide +kernel
theorem dX9_step_249 : decode cX9_step 249 = .ok (.iconst 3, 1) := by decide +kernel
theorem dX9_step_250 : decode cX9_step 250 = .ok (.goto 4, 3) := by decide +kernel
theorem dX9_step_253 : decode cX9_step 253 = .ok (.iconst 4, 1) := by decide +kernel
theorem dX9_step_254 : decode cX9_step 254 = .ok (.putfield 40, 3) := by decide +kernel
theorem dX9_step_257 : decode cX9_step 257 = .ok (.aload_n 0, 1) := by decide +kernel
theorem dX9_step_258 : decode cX9_step 258 = .ok (.dup, 1) := by decide +kernel
theorem dX9_step_259 : decode cX9_step 259 = .ok (.getfield 31, 3) := by decide +kernel
theorem dX9_step_262 : decode cX9_step 262 = .ok (.iconst 1, 1) := by decide +kernel
theorem dX9_step_263 : decode cX9_step 263 = .ok (.iadd, 1) := by decide +kernel
theorem dX9_step_264 : decode cX9_step 264 = .ok (.putfield 31, 3) := by decide +kernel
theorem dX9_step_267 : decode cX9_step 267 = .ok (.return_, 1) := by decide +kernel
theorem dX9_isBlank_0 : decode cX9_isBlank 0 = .ok (.iload_n 0, 1) := by decide +kernel
theorem dX9_isBlank_1 : decode cX9_isBlank 1 = .ok (.bipush 32, 2) := by decide +kernel
theorem dX9_isBlank_3 : decode cX9_isBlank 3 = .ok (.if_icmp .eq 9, 3) := by decide +kernel
theorem dX9_isBlank_6 : decode cX9_isBlank 6 = .ok (.iload_n 0, 1) := by decide +kernel
theorem dX9_isBlank_7 : decode cX9_isBlank 7 = .ok (.bipush 10, 2) := by decide +kernel
theorem dX9_isBlank_9 : decode cX9_isBlank 9 = .ok (.if_icmp .ne 7, 3) := by decide +kernel
theorem dX9_isBlank_12 : decode cX9_isBlank 12 = .ok (.iconst 1, 1) := by decide +kernel
theorem dX9_isBlank_13 : decode cX9_isBlank 13 = .ok (.goto 4, 3) := by decide +kernel
theorem dX9_isBlank_16 : decode cX9_isBlank 16 = .ok (.iconst 0, 1) := by decide +kernel
theorem dX9_isBlank_17 : decode cX9_isBlank 17 = .ok (.ireturn, 1) := by decide +kernel
theorem dX9_isLetter_0 : decode cX9_isLetter 0 = .ok (.iload_n 0, 1) := by decide +kernel
theorem dX9_isLetter_1 : decode cX9_isLetter 1 = .ok (.bipush 97, 2) := by decide +kernel
theorem dX9_isLetter_3 : decode cX9_isLetter 3 = .ok (.if_icmp .lt 13, 3) := by decide +kernel
theorem dX9_isLetter_6 : decode cX9_isLetter 6 = .ok (.iload_n 0, 1) := by decide +kernel
theorem dX9_isLetter_7 : decode cX9_isLetter 7 = .ok (.bipush 122, 2) := by decide +kernel
theorem dX9_isLetter_9 : decode cX9_isLetter 9 = .ok (.if_icmp .gt 7, 3) := by decide +kernel
theorem dX9_isLetter_12 : decode cX9_isLetter 12 = .ok (.iconst 1, 1) := by decide +kernel
theorem dX9_isLetter_13 : decode cX9_isLetter 13 = .ok (.goto 4, 3) := by decide +kernel
theorem dX9_isLetter_16 : decode cX9_isLetter 16 = .ok (.iconst 0, 1) := by decide +kernel
theorem dX9_isLetter_17 : decode cX9_isLetter 17 = .ok (.ireturn, 1) := by decide +kernel
theorem dX9_isDigit_0 : decode cX9_isDigit 0 = .ok (.iload_n 0, 1) := by decide +kernel
theorem dX9_isDigit_1 : decode cX9_isDigit 1 = .ok (.bipush 48, 2) := by decide +kernel
theorem dX9_isDigit_3 : decode cX9_isDigit 3 = .ok (.if_icmp .lt 13, 3) := by decide +kernel
theorem dX9_isDigit_6 : decode cX9_isDigit 6 = .ok (.iload_n 0, 1) := by decide +kernel
theorem dX9_isDigit_7 : decode cX9_isDigit 7 = .ok (.bipush 57, 2) := by decide +kernel
theorem dX9_isDigit_9 : decode cX9_isDigit 9 = .ok (.if_icmp .gt 7, 3) := by decide +kernel
theorem dX9_isDigit_12 : decode cX9_isDigit 12 = .ok (.iconst 1, 1) := by decide +kernel
theorem dX9_isDigit_13 : decode cX9_isDigit 13 = .ok (.goto 4, 3) := by decide +kernel
theorem dX9_isDigit_16 : decode cX9_isDigit 16 = .ok (.iconst 0, 1) := by decide +kernel
theorem dX9_isDigit_17 : decode cX9_isDigit 17 = .ok (.ireturn, 1) := by decide +kernel
set_option maxRecDepth 20000 in
theorem ggX9_isWord_J0_length_8abf5 : GoodIn wsX9_isWord wsJ0_length_8abf5 := goodIn_r _ [9, 10, 11, 12, 13, 8, 14, 15, 16] (by decide +kernel) (by decide +kernel)
set_option maxRecDepth 20000 in
theorem gX9_isWord_J0_length_8abf5 : GoodIn wsX9_isWord (wsV RX9 59 RJ0 yJ0_length_8abf5 wsJ0_length_8abf5) := goodIn_app (goodIn_of _ (by decide +kernel)) ggX9_isWord_J0_length_8abf5
set_option maxRecDepth 20000 in
theorem ggX9_isWord_J0_charAt_5068e : GoodIn wsX9_isWord wsJ0_charAt_5068e := goodIn_r _ [20, 10, 21, 22, 23, 8, 24, 15, 16, 25, 26, 27, 28, 29, 30, 31, 32, 33, 34, 35, 36, 37, 38, 39, 40, 41, 42, 43, 44, 45, 46, 47, 48, 49, 50, 51, 52, 53] (by decide +kernel) (by decide +kernel)
set_option maxRecDepth 20000 in
theorem gX9_isWord_J0_charAt_5068e : GoodIn wsX9_isWord (wsV RX9 64 RJ0 yJ0_charAt_5068e wsJ0_charAt_5068e) := goodIn_app (goodIn_of _ (by decide +kernel)) ggX9_isWord_J0_charAt_5068e
theorem dX9_isWord_0 : decode cX9_isWord 0 = .ok (.aload_n 0, 1) := by decide +kernel
theorem dX9_isWord_1 : decode cX9_isWord 1 = .ok (.getfield 40, 3) := by decide +kernel
theorem dX9_isWord_4 : decode cX9_isWord 4 = .ok (.iconst 1, 1) := by decide +kernel
theorem dX9_isWord_5 : decode cX9_isWord 5 = .ok (.if_icmp .ne 19, 3) := by decide +kernel
theorem dX9_isWord_8 : decode cX9_isWord 8 = .ok (.aload_n 0, 1) := by decide +kernel
theorem dX9_isWord_9 : decode cX9_isWord 9 = .ok (.getfield 31, 3) := by decide +kernel
theorem dX9_isWord_12 : decode cX9_isWord 12 = .ok (.aload_n 0, 1) := by decide +kernel
theorem dX9_isWord_13 : decode cX9_isWord 13 = .ok (.getfield 47, 3) := by decide +kernel
theorem dX9_isWord_16 : decode cX9_isWord 16 = .ok (.isub, 1) := by decide +kernel
theorem dX9_isWord_17 : decode cX9_isWord 17 = .ok (.aload_n 1, 1) := by decide +kernel
theorem dX9_isWord_18 : decode cX9_isWord 18 = .ok (.invokevirtual 59, 3) := by decide +kernel
theorem dX9_isWord_21 : decode cX9_isWord 21 = .ok (.if_icmp .eq 5, 3) := by decide +kernel
theorem dX9_isWord_24 : decode cX9_isWord 24 = .ok (.iconst 0, 1) := by decide +kernel
theorem dX9_isWord_25 : decode cX9_isWord 25 = .ok (.ireturn, 1) := by decide +kernel
theorem dX9_isWord_26 : decode cX9_isWord 26 = .ok (.iconst 0, 1) := by decide +kernel
theorem dX9_isWord_27 : decode cX9_isWord 27 = .ok (.istore_n 2, 1) := by decide +kernel
theorem dX9_isWord_28 : decode cX9_isWord 28 = .ok (.iload_n 2, 1) := by decide +kernel
theorem dX9_isWord_29 : decode cX9_isWord 29 = .ok (.aload_n 1, 1) := by decide +kernel
theorem dX9_isWord_30 : decode cX9_isWord 30 = .ok (.invokevirtual 59, 3) := by decide +kernel
theorem dX9_isWord_33 : decode cX9_isWord 33 = .ok (.if_icmp .ge 30, 3) := by decide +kernel
theorem dX9_isWord_36 : decode cX9_isWord 36 = .ok (.aload_n 0, 1) := by decide +kernel
theorem dX9_isWord_37 : decode cX9_isWord 37 = .ok (.getfield 11, 3) := by decide +kernel
theorem dX9_isWord_40 : decode cX9_isWord 40 = .ok (.aload_n 0, 1) := by decide +kernel
theorem dX9_isWord_41 : decode cX9_isWord 41 = .ok (.getfield 47, 3) := by decide +kernel
theorem dX9_isWord_44 : decode cX9_isWord 44 = .ok (.iload_n 2, 1) := by decide +kernel
theorem dX9_isWord_45 : decode cX9_isWord 45 = .ok (.iadd, 1) := by decide +kernel
theorem dX9_isWord_46 : decode cX9_isWord 46 = .ok (.baload, 1) := by decide +kernel
theorem dX9_isWord_47 : decode cX9_isWord 47 = .ok (.aload_n 1, 1) := by decide +kernel
theorem dX9_isWord_48 : decode cX9_isWord 48 = .ok (.iload_n 2, 1) := by decide +kernel
theorem dX9_isWord_49 : decode cX9_isWord 49 = .ok (.invokevirtual 64, 3) := by decide +kernel
theorem dX9_isWord_52 : decode cX9_isWord 52 = .ok (.if_icmp .eq 5, 3) := by decide +kernel
theorem dX9_isWord_55 : decode cX9_isWord 55 = .ok (.iconst 0, 1) := by decide +kernel
theorem dX9_isWord_56 : decode cX9_isWord 56 = .ok (.ireturn, 1) := by decide +kernel
theorem dX9_isWord_57 : decode cX9_isWord 57 = .ok (.iinc 2 1, 3) := by decide +kernel
theorem dX9_isWord_60 : decode cX9_isWord 60 = .ok (.goto (-32), 3) := by decide +kernel
theorem dX9_isWord_63 : decode cX9_isWord 63 = .ok (.iconst 1, 1) := by decide +kernel
theorem dX9_isWord_64 : decode cX9_isWord 64 = .ok (.ireturn, 1) := by decide +kernel
set_option maxRecDepth 20000 in
theorem ggX9_namedOf_X9_nameOf : GoodIn wsX9_namedOf wsX9_nameOf := goodIn_r _ [4] (by decide +kernel) (by decide +kernel)
set_option maxRecDepth 20000 in
theorem gX9_namedOf_X9_nameOf : GoodIn wsX9_namedOf (va_wsS RX9 68 yX9_nameOf wsX9_nameOf) := goodIn_app (goodIn_of _ (by decide +kernel)) ggX9_namedOf_X9_nameOf
set_option maxRecDepth 20000 in
theorem ggX9_namedOf_X9_isWord : GoodIn wsX9_namedOf wsX9_isWord := goodIn_r _ [8, 9, 10, 11, 12, 13, 14, 15, 16, 17, 18, 19, 20, 21, 22, 23, 24, 25, 26, 27, 28, 29, 30, 31, 32, 33, 34, 35, 36, 37, 38, 39, 40, 41, 42, 43, 44, 45, 46, 47, 48, 49, 50, 51, 52, 53, 54, 55, 56, 57, 58, 59, 60, 61, 62, 63, 64, 65, 66, 67, 68, 69, 70, 71] (by decide +kernel) (by decide +kernel)
set_option maxRecDepth 20000 in
theorem gX9_namedOf_X9_isWord : GoodIn wsX9_namedOf (wsV RX9 72 RX9 yX9_isWord wsX9_isWord) := goodIn_app (goodIn_of _ (by decide +kernel)) ggX9_namedOf_X9_isWord
theorem dX9_namedOf_0 : decode cX9_namedOf 0 = .ok (.iconst 0, 1) := by decide +kernel
theorem dX9_namedOf_1 : decode cX9_namedOf 1 = .ok (.istore_n 2, 1) := by decide +kernel
theorem dX9_namedOf_2 : decode cX9_namedOf 2 = .ok (.iload_n 2, 1) := by decide +kernel
theorem dX9_namedOf_3 : decode cX9_namedOf 3 = .ok (.iload_n 1, 1) := by decide +kernel
theorem dX9_namedOf_4 : decode cX9_namedOf 4 = .ok (.if_icmp .ge 22, 3) := by decide +kernel
theorem dX9_namedOf_7 : decode cX9_namedOf 7 = .ok (.aload_n 0, 1) := by decide +kernel
theorem dX9_namedOf_8 : decode cX9_namedOf 8 = .ok (.iload_n 2, 1) := by decide +kernel
theorem dX9_namedOf_9 : decode cX9_namedOf 9 = .ok (.invokestatic 68, 3) := by decide +kernel
theorem dX9_namedOf_12 : decode cX9_namedOf 12 = .ok (.invokevirtual 72, 3) := by decide +kernel
theorem dX9_namedOf_15 : decode cX9_namedOf 15 = .ok (.ifCond .eq 5, 3) := by decide +kernel
theorem dX9_namedOf_18 : decode cX9_namedOf 18 = .ok (.iload_n 2, 1) := by decide +kernel
theorem dX9_namedOf_19 : decode cX9_namedOf 19 = .ok (.ireturn, 1) := by decide +kernel
theorem dX9_namedOf_20 : decode cX9_namedOf 20 = .ok (.iinc 2 1, 3) := by decide +kernel
theorem dX9_namedOf_23 : decode cX9_namedOf 23 = .ok (.goto (-21), 3) := by decide +kernel
theorem dX9_namedOf_26 : decode cX9_namedOf 26 = .ok (.iconst (-1), 1) := by decide +kernel
theorem dX9_namedOf_27 : decode cX9_namedOf 27 = .ok (.ireturn, 1) := by decide +kernel
theorem dX9_nameOf_0 : decode cX9_nameOf 0 = .ok (.iload_n 0, 1) := by decide +kernel
theorem dX9_nameOf_1 : decode cX9_nameOf 1 = .ok (.tableswitch 71 0 7 #[47, 50, 53, 56, 59, 62, 65, 68], 47) := by decide +kernel
theorem dX9_nameOf_48 : decode cX9_nameOf 48 = .ok (.ldc 76, 2) := by decide +kernel
theorem dX9_nameOf_50 : decode cX9_nameOf 50 = .ok (.areturn, 1) := by decide +kernel
theorem dX9_nameOf_51 : decode cX9_nameOf 51 = .ok (.ldc 78, 2) := by decide +kernel
theorem dX9_nameOf_53 : decode cX9_nameOf 53 = .ok (.areturn, 1) := by decide +kernel
theorem dX9_nameOf_54 : decode cX9_nameOf 54 = .ok (.ldc 80, 2) := by decide +kernel
theorem dX9_nameOf_56 : decode cX9_nameOf 56 = .ok (.areturn, 1) := by decide +kernel
theorem dX9_nameOf_57 : decode cX9_nameOf 57 = .ok (.ldc 82, 2) := by decide +kernel
theorem dX9_nameOf_59 : decode cX9_nameOf 59 = .ok (.areturn, 1) := by decide +kernel
theorem dX9_nameOf_60 : decode cX9_nameOf 60 = .ok (.ldc 84, 2) := by decide +kernel
theorem dX9_nameOf_62 : decode cX9_nameOf 62 = .ok (.areturn, 1) := by decide +kernel
theorem dX9_nameOf_63 : decode cX9_nameOf 63 = .ok (.ldc 86, 2) := by decide +kernel
theorem dX9_nameOf_65 : decode cX9_nameOf 65 = .ok (.areturn, 1) := by decide +kernel
theorem dX9_nameOf_66 : decode cX9_nameOf 66 = .ok (.ldc 88, 2) := by decide +kernel
theorem dX9_nameOf_68 : decode cX9_nameOf 68 = .ok (.areturn, 1) := by decide +kernel
theorem dX9_nameOf_69 : decode cX9_nameOf 69 = .ok (.ldc 90, 2) := by decide +kernel
theorem dX9_nameOf_71 : decode cX9_nameOf 71 = .ok (.areturn, 1) := by decide +kernel
theorem dX9_nameOf_72 : decode cX9_nameOf 72 = .ok (.ldc 92, 2) := by decide +kernel
theorem dX9_nameOf_74 : decode cX9_nameOf 74 = .ok (.areturn, 1) := by decide +kernel
theorem dX9_refuse_0 : decode cX9_refuse 0 = .ok (.aload_n 0, 1) := by decide +kernel
theorem dX9_refuse_1 : decode cX9_refuse 1 = .ok (.iload_n 1, 1) := by decide +kernel
theorem dX9_refuse_2 : decode cX9_refuse 2 = .ok (.putfield 34, 3) := by decide +kernel
theorem dX9_refuse_5 : decode cX9_refuse 5 = .ok (.aload_n 0, 1) := by decide +kernel
theorem dX9_refuse_6 : decode cX9_refuse 6 = .ok (.aload_n 0, 1) := by decide +kernel
theorem dX9_refuse_7 : decode cX9_refuse 7 = .ok (.getfield 47, 3) := by decide +kernel
theorem dX9_refuse_10 : decode cX9_refuse 10 = .ok (.putfield 15, 3) := by decide +kernel
theorem dX9_refuse_13 : decode cX9_refuse 13 = .ok (.iconst 0, 1) := by decide +kernel
theorem dX9_refuse_14 : decode cX9_refuse 14 = .ok (.ireturn, 1) := by decide +kernel
set_option maxRecDepth 20000 in
theorem ggX9_takeWord_X9_isWord : GoodIn wsX9_takeWord wsX9_isWord := goodIn_r _ [5, 6, 7, 8, 9, 10, 11, 12, 13, 14, 15, 16, 17, 18, 19, 20, 21, 22, 23, 24, 25, 26, 27, 28, 29, 30, 31, 32, 33, 34, 35, 36, 37, 38, 39, 40, 41, 42, 43, 44, 45, 46, 47, 48, 49, 50, 51, 52, 53, 54, 55, 56, 57, 58, 80, 81, 82, 83, 84, 85, 86, 87, 88, 89] (by decide +kernel) (by decide +kernel)
set_option maxRecDepth 20000 in
theorem gX9_takeWord_X9_isWord : GoodIn wsX9_takeWord (wsV RX9 72 RX9 yX9_isWord wsX9_isWord) := goodIn_app (goodIn_of _ (by decide +kernel)) ggX9_takeWord_X9_isWord
set_option maxRecDepth 20000 in
theorem ggX9_takeWord_X9_refuse : GoodIn wsX9_takeWord wsX9_refuse := goodIn_r _ [62, 63, 8, 64, 80, 81, 82, 83, 84, 85, 86, 87, 88, 89] (by decide +kernel) (by decide +kernel)
set_option maxRecDepth 20000 in
theorem gX9_takeWord_X9_refuse : GoodIn wsX9_takeWord (wsV RX9 94 RX9 yX9_refuse wsX9_refuse) := goodIn_app (goodIn_of _ (by decide +kernel)) ggX9_takeWord_X9_refuse
set_option maxRecDepth 20000 in
theorem ggX9_takeWord_X9_step : GoodIn wsX9_takeWord wsX9_step := goodIn_r _ [68, 7, 69, 9, 8, 6, 70, 71, 72, 4, 73, 74, 75, 76, 77, 78, 79, 80, 81, 82, 83, 84, 85, 86, 87, 88, 89] (by decide +kernel) (by decide +kernel)
set_option maxRecDepth 20000 in
theorem gX9_takeWord_X9_step : GoodIn wsX9_takeWord (wsV RX9 37 RX9 yX9_step wsX9_step) := goodIn_app (goodIn_of _ (by decide +kernel)) ggX9_takeWord_X9_step
theorem dX9_takeWord_0 : decode cX9_takeWord 0 = .ok (.aload_n 0, 1) := by decide +kernel
theorem dX9_takeWord_1 : decode cX9_takeWord 1 = .ok (.aload_n 1, 1) := by decide +kernel
theorem dX9_takeWord_2 : decode cX9_takeWord 2 = .ok (.invokevirtual 72, 3) := by decide +kernel
theorem dX9_takeWord_5 : decode cX9_takeWord 5 = .ok (.ifCond .ne 9, 3) := by decide +kernel
theorem dX9_takeWord_8 : decode cX9_takeWord 8 = .ok (.aload_n 0, 1) := by decide +kernel
theorem dX9_takeWord_9 : decode cX9_takeWord 9 = .ok (.iconst 1, 1) := by decide +kernel
theorem dX9_takeWord_10 : decode cX9_takeWord 10 = .ok (.invokevirtual 94, 3) := by decide +kernel
theorem dX9_takeWord_13 : decode cX9_takeWord 13 = .ok (.ireturn, 1) := by decide +kernel
theorem dX9_takeWord_14 : decode cX9_takeWord 14 = .ok (.aload_n 0, 1) := by decide +kernel
theorem dX9_takeWord_15 : decode cX9_takeWord 15 = .ok (.invokevirtual 37, 3) := by decide +kernel
theorem dX9_takeWord_18 : decode cX9_takeWord 18 = .ok (.iconst 1, 1) := by decide +kernel
theorem dX9_takeWord_19 : decode cX9_takeWord 19 = .ok (.ireturn, 1) := by decide +kernel
set_option maxRecDepth 20000 in
theorem ggX9_takeStop_X9_refuse : GoodIn wsX9_takeStop wsX9_refuse := goodIn_r _ [6, 7, 8, 9, 27, 28, 29, 30, 31, 32, 33, 34, 35, 36] (by decide +kernel) (by decide +kernel)
set_option maxRecDepth 20000 in
theorem gX9_takeStop_X9_refuse : GoodIn wsX9_takeStop (wsV RX9 94 RX9 yX9_refuse wsX9_refuse) := goodIn_app (goodIn_of _ (by decide +kernel)) ggX9_takeStop_X9_refuse
set_option maxRecDepth 20000 in
theorem ggX9_takeStop_X9_step : GoodIn wsX9_takeStop wsX9_step := goodIn_r _ [13, 14, 15, 16, 8, 1, 17, 18, 19, 5, 20, 21, 22, 23, 24, 25, 26, 27, 28, 29, 30, 31, 32, 33, 34, 35, 36] (by decide +kernel) (by decide +kernel)
set_option maxRecDepth 20000 in
theorem gX9_takeStop_X9_step : GoodIn wsX9_takeStop (wsV RX9 37 RX9 yX9_step wsX9_step) := goodIn_app (goodIn_of _ (by decide +kernel)) ggX9_takeStop_X9_step
theorem dX9_takeStop_0 : decode cX9_takeStop 0 = .ok (.aload_n 0, 1) := by decide +kernel
theorem dX9_takeStop_1 : decode cX9_takeStop 1 = .ok (.getfield 40, 3) := by decide +kernel
theorem dX9_takeStop_4 : decode cX9_takeStop 4 = .ok (.iconst 3, 1) := by decide +kernel
theorem dX9_takeStop_5 : decode cX9_takeStop 5 = .ok (.if_icmp .eq 9, 3) := by decide +kernel
theorem dX9_takeStop_8 : decode cX9_takeStop 8 = .ok (.aload_n 0, 1) := by decide +kernel
theorem dX9_takeStop_9 : decode cX9_takeStop 9 = .ok (.iconst 1, 1) := by decide +kernel
theorem dX9_takeStop_10 : decode cX9_takeStop 10 = .ok (.invokevirtual 94, 3) := by decide +kernel
theorem dX9_takeStop_13 : decode cX9_takeStop 13 = .ok (.ireturn, 1) := by decide +kernel
theorem dX9_takeStop_14 : decode cX9_takeStop 14 = .ok (.aload_n 0, 1) := by decide +kernel
theorem dX9_takeStop_15 : decode cX9_takeStop 15 = .ok (.invokevirtual 37, 3) := by decide +kernel
theorem dX9_takeStop_18 : decode cX9_takeStop 18 = .ok (.iconst 1, 1) := by decide +kernel
theorem dX9_takeStop_19 : decode cX9_takeStop 19 = .ok (.ireturn, 1) := by decide +kernel
set_option maxRecDepth 20000 in
theorem ggX9_holdsNumber_X9_refuse : GoodIn wsX9_holdsNumber wsX9_refuse := goodIn_r _ [10, 11, 3, 12, 13, 14, 15, 16, 17, 18, 19, 20, 21, 22] (by decide +kernel) (by decide +kernel)
set_option maxRecDepth 20000 in
theorem gX9_holdsNumber_X9_refuse : GoodIn wsX9_holdsNumber (wsV RX9 94 RX9 yX9_refuse wsX9_refuse) := goodIn_app (goodIn_of _ (by decide +kernel)) ggX9_holdsNumber_X9_refuse
theorem dX9_holdsNumber_0 : decode cX9_holdsNumber 0 = .ok (.aload_n 0, 1) := by decide +kernel
theorem dX9_holdsNumber_1 : decode cX9_holdsNumber 1 = .ok (.getfield 40, 3) := by decide +kernel
theorem dX9_holdsNumber_4 : decode cX9_holdsNumber 4 = .ok (.iconst 2, 1) := by decide +kernel
theorem dX9_holdsNumber_5 : decode cX9_holdsNumber 5 = .ok (.if_icmp .eq 9, 3) := by decide +kernel
theorem dX9_holdsNumber_8 : decode cX9_holdsNumber 8 = .ok (.aload_n 0, 1) := by decide +kernel
theorem dX9_holdsNumber_9 : decode cX9_holdsNumber 9 = .ok (.iconst 1, 1) := by decide +kernel
theorem dX9_holdsNumber_10 : decode cX9_holdsNumber 10 = .ok (.invokevirtual 94, 3) := by decide +kernel
theorem dX9_holdsNumber_13 : decode cX9_holdsNumber 13 = .ok (.ireturn, 1) := by decide +kernel
theorem dX9_holdsNumber_14 : decode cX9_holdsNumber 14 = .ok (.aload_n 0, 1) := by decide +kernel
theorem dX9_holdsNumber_15 : decode cX9_holdsNumber 15 = .ok (.getfield 31, 3) := by decide +kernel
theorem dX9_holdsNumber_18 : decode cX9_holdsNumber 18 = .ok (.aload_n 0, 1) := by decide +kernel
theorem dX9_holdsNumber_19 : decode cX9_holdsNumber 19 = .ok (.getfield 47, 3) := by decide +kernel
theorem dX9_holdsNumber_22 : decode cX9_holdsNumber 22 = .ok (.isub, 1) := by decide +kernel
theorem dX9_holdsNumber_23 : decode cX9_holdsNumber 23 = .ok (.bipush 7, 2) := by decide +kernel
theorem dX9_holdsNumber_25 : decode cX9_holdsNumber 25 = .ok (.if_icmp .gt 19, 3) := by decide +kernel
theorem dX9_holdsNumber_28 : decode cX9_holdsNumber 28 = .ok (.aload_n 0, 1) := by decide +kernel
theorem dX9_holdsNumber_29 : decode cX9_holdsNumber 29 = .ok (.getfield 56, 3) := by decide +kernel
theorem dX9_holdsNumber_32 : decode cX9_holdsNumber 32 = .ok (.iload_n 1, 1) := by decide +kernel
theorem dX9_holdsNumber_33 : decode cX9_holdsNumber 33 = .ok (.if_icmp .lt 11, 3) := by decide +kernel
theorem dX9_holdsNumber_36 : decode cX9_holdsNumber 36 = .ok (.aload_n 0, 1) := by decide +kernel
theorem dX9_holdsNumber_37 : decode cX9_holdsNumber 37 = .ok (.getfield 56, 3) := by decide +kernel
theorem dX9_holdsNumber_40 : decode cX9_holdsNumber 40 = .ok (.iload_n 2, 1) := by decide +kernel
theorem dX9_holdsNumber_41 : decode cX9_holdsNumber 41 = .ok (.if_icmp .le 9, 3) := by decide +kernel
theorem dX9_holdsNumber_44 : decode cX9_holdsNumber 44 = .ok (.aload_n 0, 1) := by decide +kernel
theorem dX9_holdsNumber_45 : decode cX9_holdsNumber 45 = .ok (.iconst 2, 1) := by decide +kernel
theorem dX9_holdsNumber_46 : decode cX9_holdsNumber 46 = .ok (.invokevirtual 94, 3) := by decide +kernel
theorem dX9_holdsNumber_49 : decode cX9_holdsNumber 49 = .ok (.ireturn, 1) := by decide +kernel
theorem dX9_holdsNumber_50 : decode cX9_holdsNumber 50 = .ok (.aload_n 0, 1) := by decide +kernel
theorem dX9_holdsNumber_51 : decode cX9_holdsNumber 51 = .ok (.aload_n 0, 1) := by decide +kernel
theorem dX9_holdsNumber_52 : decode cX9_holdsNumber 52 = .ok (.getfield 56, 3) := by decide +kernel
theorem dX9_holdsNumber_55 : decode cX9_holdsNumber 55 = .ok (.putfield 97, 3) := by decide +kernel
theorem dX9_holdsNumber_58 : decode cX9_holdsNumber 58 = .ok (.iconst 1, 1) := by decide +kernel
theorem dX9_holdsNumber_59 : decode cX9_holdsNumber 59 = .ok (.ireturn, 1) := by decide +kernel
set_option maxRecDepth 20000 in
theorem ggX9_takeNumber_X9_holdsNumber : GoodIn wsX9_takeNumber wsX9_holdsNumber := goodIn_r _ [5, 6, 7, 8, 9, 10, 11, 12, 13, 4, 14, 15, 16, 32, 33, 34, 35, 36, 37, 38, 39, 40, 41] (by decide +kernel) (by decide +kernel)
set_option maxRecDepth 20000 in
theorem gX9_takeNumber_X9_holdsNumber : GoodIn wsX9_takeNumber (wsV RX9 100 RX9 yX9_holdsNumber wsX9_holdsNumber) := goodIn_app (goodIn_of _ (by decide +kernel)) ggX9_takeNumber_X9_holdsNumber
set_option maxRecDepth 20000 in
theorem ggX9_takeNumber_X9_step : GoodIn wsX9_takeNumber wsX9_step := goodIn_r _ [20, 7, 21, 22, 8, 6, 9, 23, 24, 4, 25, 26, 27, 28, 29, 30, 31, 32, 33, 34, 35, 36, 37, 38, 39, 40, 41] (by decide +kernel) (by decide +kernel)
set_option maxRecDepth 20000 in
theorem gX9_takeNumber_X9_step : GoodIn wsX9_takeNumber (wsV RX9 37 RX9 yX9_step wsX9_step) := goodIn_app (goodIn_of _ (by decide +kernel)) ggX9_takeNumber_X9_step
theorem dX9_takeNumber_0 : decode cX9_takeNumber 0 = .ok (.aload_n 0, 1) := by decide +kernel
theorem dX9_takeNumber_1 : decode cX9_takeNumber 1 = .ok (.iload_n 1, 1) := by decide +kernel
theorem dX9_takeNumber_2 : decode cX9_takeNumber 2 = .ok (.iload_n 2, 1) := by decide +kernel
theorem dX9_takeNumber_3 : decode cX9_takeNumber 3 = .ok (.invokevirtual 100, 3) := by decide +kernel
theorem dX9_takeNumber_6 : decode cX9_takeNumber 6 = .ok (.ifCond .ne 5, 3) := by decide +kernel
theorem dX9_takeNumber_9 : decode cX9_takeNumber 9 = .ok (.iconst 0, 1) := by decide +kernel
theorem dX9_takeNumber_10 : decode cX9_takeNumber 10 = .ok (.ireturn, 1) := by decide +kernel
theorem dX9_takeNumber_11 : decode cX9_takeNumber 11 = .ok (.aload_n 0, 1) := by decide +kernel
theorem dX9_takeNumber_12 : decode cX9_takeNumber 12 = .ok (.invokevirtual 37, 3) := by decide +kernel
theorem dX9_takeNumber_15 : decode cX9_takeNumber 15 = .ok (.iconst 1, 1) := by decide +kernel
theorem dX9_takeNumber_16 : decode cX9_takeNumber 16 = .ok (.ireturn, 1) := by decide +kernel
theorem dJ7_fill_53178_0 : decode cJ7_fill_53178 0 = .ok (.iconst 0, 1) := by decide +kernel
theorem dJ7_fill_53178_1 : decode cJ7_fill_53178 1 = .ok (.istore_n 2, 1) := by decide +kernel
theorem dJ7_fill_53178_2 : decode cJ7_fill_53178 2 = .ok (.aload_n 0, 1) := by decide +kernel
theorem dJ7_fill_53178_3 : decode cJ7_fill_53178 3 = .ok (.arraylength, 1) := by decide +kernel
theorem dJ7_fill_53178_4 : decode cJ7_fill_53178 4 = .ok (.istore_n 3, 1) := by decide +kernel
theorem dJ7_fill_53178_5 : decode cJ7_fill_53178 5 = .ok (.iload_n 2, 1) := by decide +kernel
theorem dJ7_fill_53178_6 : decode cJ7_fill_53178 6 = .ok (.iload_n 3, 1) := by decide +kernel
theorem dJ7_fill_53178_7 : decode cJ7_fill_53178 7 = .ok (.if_icmp .ge 13, 3) := by decide +kernel
theorem dJ7_fill_53178_10 : decode cJ7_fill_53178 10 = .ok (.aload_n 0, 1) := by decide +kernel
theorem dJ7_fill_53178_11 : decode cJ7_fill_53178 11 = .ok (.iload_n 2, 1) := by decide +kernel
theorem dJ7_fill_53178_12 : decode cJ7_fill_53178 12 = .ok (.iload_n 1, 1) := by decide +kernel
theorem dJ7_fill_53178_13 : decode cJ7_fill_53178 13 = .ok (.iastore, 1) := by decide +kernel
theorem dJ7_fill_53178_14 : decode cJ7_fill_53178 14 = .ok (.iinc 2 1, 3) := by decide +kernel
theorem dJ7_fill_53178_17 : decode cJ7_fill_53178 17 = .ok (.goto (-12), 3) := by decide +kernel
theorem dJ7_fill_53178_20 : decode cJ7_fill_53178 20 = .ok (.return_, 1) := by decide +kernel
