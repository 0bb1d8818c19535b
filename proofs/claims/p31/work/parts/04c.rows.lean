theorem dX11_fate_28 : decode cX11_fate 28 = .ok (.invokevirtual 354, 3) := dc_182 (a0 := 1) (b0 := 98) aX11_fate_28
theorem dX11_fate_31 : decode cX11_fate 31 = .ok (.iconst 1, 1) := dc_4 aX11_fate_31
theorem dX11_fate_32 : decode cX11_fate 32 = .ok (.ireturn, 1) := dc_172 aX11_fate_32
set_option maxRecDepth 20000 in
theorem ggX11_fates_X11_within : GoodIn wsX11_fates wsX11_within := goodIn_k _ [[6]] (by rfl) (by decide +kernel)
set_option maxRecDepth 20000 in
theorem gX11_fates_X11_within : GoodIn wsX11_fates (va_wsS RX11 96 yX11_within wsX11_within) := goodIn_app (goodIn_of _ (by decide +kernel)) ggX11_fates_X11_within
set_option maxRecDepth 20000 in
theorem ggX11_fates_X11_need : GoodIn wsX11_fates wsX11_need := goodIn_ca (goodIn_k _ [[9, 0, 0]] (by rfl) (by decide +kernel)) (goodIn_sub (fun _ h => List.mem_cons_of_mem _ (List.mem_append_right _ h)) (by decide +kernel))
set_option maxRecDepth 20000 in
theorem gX11_fates_X11_need : GoodIn wsX11_fates (va_wsS RX11 168 yX11_need wsX11_need) := goodIn_app (goodIn_of _ (by decide +kernel)) ggX11_fates_X11_need
set_option maxRecDepth 20000 in
theorem ggX11_fates_X7_howManyToldByLot : GoodIn wsX11_fates wsX7_howManyToldByLot := goodIn_k _ [[16, 0, 0, 0, 0, 0], [15, 6, 0, 0, 0, 0, 0, 0, 0, 0, 0, 39, 0, 0, 0, 0, 0, 0, 0]] (by rfl) (by decide +kernel)
set_option maxRecDepth 20000 in
theorem gX11_fates_X7_howManyToldByLot : GoodIn wsX11_fates (wsV RX11 358 RX7 yX7_howManyToldByLot wsX7_howManyToldByLot) := goodIn_app (goodIn_of _ (by decide +kernel)) ggX11_fates_X7_howManyToldByLot
set_option maxRecDepth 20000 in
theorem ggX11_fates_X7_chanceOfFates : GoodIn wsX11_fates wsX7_chanceOfFates := goodIn_k _ [[35], [17, 18], [18, 0, 0, 0], [15, 6, 0, 0, 0, 0, 0, 0, 0, 0, 0, 5], [13, 0, 1, 21, 0, 0, 0, 0, 0, 0, 0, 0, 0, 0, 0, 0, 0, 0, 0, 0, 0, 0, 0, 13, 0, 0, 0, 0, 0, 0, 0]] (by rfl) (by decide +kernel)
set_option maxRecDepth 20000 in
theorem gX11_fates_X7_chanceOfFates : GoodIn wsX11_fates (wsV RX11 361 RX7 yX7_chanceOfFates wsX7_chanceOfFates) := goodIn_app (goodIn_of _ (by decide +kernel)) ggX11_fates_X7_chanceOfFates
noncomputable def sX11_fates_38 : List Nat := 172 :: []
noncomputable def sX11_fates_35 : List Nat := 182 :: 1 :: 105 :: sX11_fates_38
noncomputable def sX11_fates_32 : List Nat := 180 :: 0 :: 29 :: sX11_fates_35
noncomputable def sX11_fates_31 : List Nat := 42 :: sX11_fates_32
noncomputable def sX11_fates_28 : List Nat := 180 :: 0 :: 80 :: sX11_fates_31
noncomputable def sX11_fates_27 : List Nat := 42 :: sX11_fates_28
noncomputable def sX11_fates_24 : List Nat := 167 :: 0 :: 14 :: sX11_fates_27
noncomputable def sX11_fates_21 : List Nat := 182 :: 1 :: 102 :: sX11_fates_24
noncomputable def sX11_fates_18 : List Nat := 180 :: 0 :: 29 :: sX11_fates_21
noncomputable def sX11_fates_17 : List Nat := 42 :: sX11_fates_18
noncomputable def sX11_fates_14 : List Nat := 180 :: 0 :: 80 :: sX11_fates_17
noncomputable def sX11_fates_13 : List Nat := 42 :: sX11_fates_14
noncomputable def sX11_fates_10 : List Nat := 154 :: 0 :: 17 :: sX11_fates_13
noncomputable def sX11_fates_9 : List Nat := 27 :: sX11_fates_10
noncomputable def sX11_fates_6 : List Nat := 184 :: 0 :: 168 :: sX11_fates_9
noncomputable def sX11_fates_3 : List Nat := 184 :: 0 :: 96 :: sX11_fates_6
noncomputable def sX11_fates_2 : List Nat := 4 :: sX11_fates_3
noncomputable def sX11_fates_1 : List Nat := 3 :: sX11_fates_2
noncomputable def sX11_fates_0 : List Nat := 27 :: sX11_fates_1
theorem aX11_fates_0 : dc_at cX11_fates 0 sX11_fates_0 := dc_base (by decide +kernel)
theorem aX11_fates_1 : dc_at cX11_fates 1 sX11_fates_1 := dc_n1 aX11_fates_0
theorem aX11_fates_2 : dc_at cX11_fates 2 sX11_fates_2 := dc_n1 aX11_fates_1
theorem aX11_fates_3 : dc_at cX11_fates 3 sX11_fates_3 := dc_n1 aX11_fates_2
theorem aX11_fates_6 : dc_at cX11_fates 6 sX11_fates_6 := dc_n3 aX11_fates_3
theorem aX11_fates_9 : dc_at cX11_fates 9 sX11_fates_9 := dc_n3 aX11_fates_6
theorem aX11_fates_10 : dc_at cX11_fates 10 sX11_fates_10 := dc_n1 aX11_fates_9
theorem aX11_fates_13 : dc_at cX11_fates 13 sX11_fates_13 := dc_n3 aX11_fates_10
theorem aX11_fates_14 : dc_at cX11_fates 14 sX11_fates_14 := dc_n1 aX11_fates_13
theorem aX11_fates_17 : dc_at cX11_fates 17 sX11_fates_17 := dc_n3 aX11_fates_14
theorem aX11_fates_18 : dc_at cX11_fates 18 sX11_fates_18 := dc_n1 aX11_fates_17
theorem aX11_fates_21 : dc_at cX11_fates 21 sX11_fates_21 := dc_n3 aX11_fates_18
theorem aX11_fates_24 : dc_at cX11_fates 24 sX11_fates_24 := dc_n3 aX11_fates_21
theorem aX11_fates_27 : dc_at cX11_fates 27 sX11_fates_27 := dc_n3 aX11_fates_24
theorem aX11_fates_28 : dc_at cX11_fates 28 sX11_fates_28 := dc_n1 aX11_fates_27
theorem aX11_fates_31 : dc_at cX11_fates 31 sX11_fates_31 := dc_n3 aX11_fates_28
theorem aX11_fates_32 : dc_at cX11_fates 32 sX11_fates_32 := dc_n1 aX11_fates_31
theorem aX11_fates_35 : dc_at cX11_fates 35 sX11_fates_35 := dc_n3 aX11_fates_32
theorem aX11_fates_38 : dc_at cX11_fates 38 sX11_fates_38 := dc_n3 aX11_fates_35
theorem dX11_fates_0 : decode cX11_fates 0 = .ok (.iload_n 1, 1) := dc_27 aX11_fates_0
theorem dX11_fates_1 : decode cX11_fates 1 = .ok (.iconst 0, 1) := dc_3 aX11_fates_1
theorem dX11_fates_2 : decode cX11_fates 2 = .ok (.iconst 1, 1) := dc_4 aX11_fates_2
theorem dX11_fates_3 : decode cX11_fates 3 = .ok (.invokestatic 96, 3) := dc_184 (a0 := 0) (b0 := 96) aX11_fates_3
theorem dX11_fates_6 : decode cX11_fates 6 = .ok (.invokestatic 168, 3) := dc_184 (a0 := 0) (b0 := 168) aX11_fates_6
theorem dX11_fates_9 : decode cX11_fates 9 = .ok (.iload_n 1, 1) := dc_27 aX11_fates_9
theorem dX11_fates_10 : decode cX11_fates 10 = .ok (.ifCond .ne 17, 3) := dc_154 (a0 := 0) (b0 := 17) aX11_fates_10 (by decide)
theorem dX11_fates_13 : decode cX11_fates 13 = .ok (.aload_n 0, 1) := dc_42 aX11_fates_13
theorem dX11_fates_14 : decode cX11_fates 14 = .ok (.getfield 80, 3) := dc_180 (a0 := 0) (b0 := 80) aX11_fates_14
theorem dX11_fates_17 : decode cX11_fates 17 = .ok (.aload_n 0, 1) := dc_42 aX11_fates_17
theorem dX11_fates_18 : decode cX11_fates 18 = .ok (.getfield 29, 3) := dc_180 (a0 := 0) (b0 := 29) aX11_fates_18
theorem dX11_fates_21 : decode cX11_fates 21 = .ok (.invokevirtual 358, 3) := dc_182 (a0 := 1) (b0 := 102) aX11_fates_21
theorem dX11_fates_24 : decode cX11_fates 24 = .ok (.goto 14, 3) := dc_167 (a0 := 0) (b0 := 14) aX11_fates_24 (by decide)
theorem dX11_fates_27 : decode cX11_fates 27 = .ok (.aload_n 0, 1) := dc_42 aX11_fates_27
theorem dX11_fates_28 : decode cX11_fates 28 = .ok (.getfield 80, 3) := dc_180 (a0 := 0) (b0 := 80) aX11_fates_28
theorem dX11_fates_31 : decode cX11_fates 31 = .ok (.aload_n 0, 1) := dc_42 aX11_fates_31
theorem dX11_fates_32 : decode cX11_fates 32 = .ok (.getfield 29, 3) := dc_180 (a0 := 0) (b0 := 29) aX11_fates_32
theorem dX11_fates_35 : decode cX11_fates 35 = .ok (.invokevirtual 361, 3) := dc_182 (a0 := 1) (b0 := 105) aX11_fates_35
theorem dX11_fates_38 : decode cX11_fates 38 = .ok (.ireturn, 1) := dc_172 aX11_fates_38
set_option maxRecDepth 20000 in
theorem ggX11_hits_X11_within : GoodIn wsX11_hits wsX11_within := goodIn_k _ [[5]] (by rfl) (by decide +kernel)
set_option maxRecDepth 20000 in
theorem gX11_hits_X11_within : GoodIn wsX11_hits (va_wsS RX11 96 yX11_within wsX11_within) := goodIn_app (goodIn_of _ (by decide +kernel)) ggX11_hits_X11_within
set_option maxRecDepth 20000 in
theorem ggX11_hits_X11_need : GoodIn wsX11_hits wsX11_need := goodIn_ca (goodIn_k _ [[8, 0, 0]] (by rfl) (by decide +kernel)) (goodIn_sub (fun _ h => List.mem_cons_of_mem _ (List.mem_append_right _ h)) (by decide +kernel))
set_option maxRecDepth 20000 in
theorem gX11_hits_X11_need : GoodIn wsX11_hits (va_wsS RX11 168 yX11_need wsX11_need) := goodIn_app (goodIn_of _ (by decide +kernel)) ggX11_hits_X11_need
set_option maxRecDepth 20000 in
theorem ggX11_hits_X7_howManyHits : GoodIn wsX11_hits wsX7_howManyHits := goodIn_k _ [[15, 0, 0, 0, 0, 0, 0], [14, 7, 0, 0, 0, 0, 0, 0, 0, 0, 39, 0, 0, 0, 0, 0]] (by rfl) (by decide +kernel)
set_option maxRecDepth 20000 in
theorem gX11_hits_X7_howManyHits : GoodIn wsX11_hits (wsV RX11 364 RX7 yX7_howManyHits wsX7_howManyHits) := goodIn_app (goodIn_of _ (by decide +kernel)) ggX11_hits_X7_howManyHits
set_option maxRecDepth 20000 in
theorem ggX11_hits_X7_chanceOfLives : GoodIn wsX11_hits wsX7_chanceOfLives := goodIn_k _ [[34], [16, 18], [17, 0, 0, 0, 0], [14, 7, 0, 0, 0, 0, 0, 0, 0, 0, 5], [12, 0, 1, 21, 0, 0, 0, 0, 0, 0, 0, 0, 0, 0, 0, 0, 0, 0, 0, 0, 0, 0, 0, 13, 0, 0, 0, 0, 0]] (by rfl) (by decide +kernel)
set_option maxRecDepth 20000 in
theorem gX11_hits_X7_chanceOfLives : GoodIn wsX11_hits (wsV RX11 367 RX7 yX7_chanceOfLives wsX7_chanceOfLives) := goodIn_app (goodIn_of _ (by decide +kernel)) ggX11_hits_X7_chanceOfLives
noncomputable def sX11_hits_50 : List Nat := 172 :: []
noncomputable def sX11_hits_47 : List Nat := 182 :: 1 :: 111 :: sX11_hits_50
noncomputable def sX11_hits_46 : List Nat := 28 :: sX11_hits_47
noncomputable def sX11_hits_43 : List Nat := 180 :: 0 :: 80 :: sX11_hits_46
noncomputable def sX11_hits_42 : List Nat := 42 :: sX11_hits_43
noncomputable def sX11_hits_39 : List Nat := 167 :: 0 :: 11 :: sX11_hits_42
noncomputable def sX11_hits_36 : List Nat := 182 :: 1 :: 108 :: sX11_hits_39
noncomputable def sX11_hits_35 : List Nat := 28 :: sX11_hits_36
noncomputable def sX11_hits_32 : List Nat := 180 :: 0 :: 80 :: sX11_hits_35
noncomputable def sX11_hits_31 : List Nat := 42 :: sX11_hits_32
noncomputable def sX11_hits_28 : List Nat := 154 :: 0 :: 14 :: sX11_hits_31
noncomputable def sX11_hits_27 : List Nat := 27 :: sX11_hits_28
noncomputable def sX11_hits_24 : List Nat := 184 :: 0 :: 168 :: sX11_hits_27
noncomputable def sX11_hits_23 : List Nat := 3 :: sX11_hits_24
noncomputable def sX11_hits_20 : List Nat := 167 :: 0 :: 4 :: sX11_hits_23
noncomputable def sX11_hits_19 : List Nat := 4 :: sX11_hits_20
noncomputable def sX11_hits_16 : List Nat := 153 :: 0 :: 7 :: sX11_hits_19
noncomputable def sX11_hits_13 : List Nat := 184 :: 0 :: 96 :: sX11_hits_16
noncomputable def sX11_hits_11 : List Nat := 16 :: 120 :: sX11_hits_13
noncomputable def sX11_hits_10 : List Nat := 3 :: sX11_hits_11
noncomputable def sX11_hits_9 : List Nat := 28 :: sX11_hits_10
noncomputable def sX11_hits_6 : List Nat := 153 :: 0 :: 17 :: sX11_hits_9
noncomputable def sX11_hits_3 : List Nat := 184 :: 0 :: 96 :: sX11_hits_6
noncomputable def sX11_hits_2 : List Nat := 4 :: sX11_hits_3
noncomputable def sX11_hits_1 : List Nat := 3 :: sX11_hits_2
noncomputable def sX11_hits_0 : List Nat := 27 :: sX11_hits_1
theorem aX11_hits_0 : dc_at cX11_hits 0 sX11_hits_0 := dc_base (by decide +kernel)
theorem aX11_hits_1 : dc_at cX11_hits 1 sX11_hits_1 := dc_n1 aX11_hits_0
theorem aX11_hits_2 : dc_at cX11_hits 2 sX11_hits_2 := dc_n1 aX11_hits_1
theorem aX11_hits_3 : dc_at cX11_hits 3 sX11_hits_3 := dc_n1 aX11_hits_2
theorem aX11_hits_6 : dc_at cX11_hits 6 sX11_hits_6 := dc_n3 aX11_hits_3
theorem aX11_hits_9 : dc_at cX11_hits 9 sX11_hits_9 := dc_n3 aX11_hits_6
theorem aX11_hits_10 : dc_at cX11_hits 10 sX11_hits_10 := dc_n1 aX11_hits_9
theorem aX11_hits_11 : dc_at cX11_hits 11 sX11_hits_11 := dc_n1 aX11_hits_10
theorem aX11_hits_13 : dc_at cX11_hits 13 sX11_hits_13 := dc_n2 aX11_hits_11
theorem aX11_hits_16 : dc_at cX11_hits 16 sX11_hits_16 := dc_n3 aX11_hits_13
theorem aX11_hits_19 : dc_at cX11_hits 19 sX11_hits_19 := dc_n3 aX11_hits_16
theorem aX11_hits_20 : dc_at cX11_hits 20 sX11_hits_20 := dc_n1 aX11_hits_19
theorem aX11_hits_23 : dc_at cX11_hits 23 sX11_hits_23 := dc_n3 aX11_hits_20
theorem aX11_hits_24 : dc_at cX11_hits 24 sX11_hits_24 := dc_n1 aX11_hits_23
theorem aX11_hits_27 : dc_at cX11_hits 27 sX11_hits_27 := dc_n3 aX11_hits_24
theorem aX11_hits_28 : dc_at cX11_hits 28 sX11_hits_28 := dc_n1 aX11_hits_27
theorem aX11_hits_31 : dc_at cX11_hits 31 sX11_hits_31 := dc_n3 aX11_hits_28
theorem aX11_hits_32 : dc_at cX11_hits 32 sX11_hits_32 := dc_n1 aX11_hits_31
theorem aX11_hits_35 : dc_at cX11_hits 35 sX11_hits_35 := dc_n3 aX11_hits_32
theorem aX11_hits_36 : dc_at cX11_hits 36 sX11_hits_36 := dc_n1 aX11_hits_35
theorem aX11_hits_39 : dc_at cX11_hits 39 sX11_hits_39 := dc_n3 aX11_hits_36
theorem aX11_hits_42 : dc_at cX11_hits 42 sX11_hits_42 := dc_n3 aX11_hits_39
theorem aX11_hits_43 : dc_at cX11_hits 43 sX11_hits_43 := dc_n1 aX11_hits_42
theorem aX11_hits_46 : dc_at cX11_hits 46 sX11_hits_46 := dc_n3 aX11_hits_43
theorem aX11_hits_47 : dc_at cX11_hits 47 sX11_hits_47 := dc_n1 aX11_hits_46
theorem aX11_hits_50 : dc_at cX11_hits 50 sX11_hits_50 := dc_n3 aX11_hits_47
theorem dX11_hits_0 : decode cX11_hits 0 = .ok (.iload_n 1, 1) := dc_27 aX11_hits_0
theorem dX11_hits_1 : decode cX11_hits 1 = .ok (.iconst 0, 1) := dc_3 aX11_hits_1
theorem dX11_hits_2 : decode cX11_hits 2 = .ok (.iconst 1, 1) := dc_4 aX11_hits_2
theorem dX11_hits_3 : decode cX11_hits 3 = .ok (.invokestatic 96, 3) := dc_184 (a0 := 0) (b0 := 96) aX11_hits_3
theorem dX11_hits_6 : decode cX11_hits 6 = .ok (.ifCond .eq 17, 3) := dc_153 (a0 := 0) (b0 := 17) aX11_hits_6 (by decide)
theorem dX11_hits_9 : decode cX11_hits 9 = .ok (.iload_n 2, 1) := dc_28 aX11_hits_9
theorem dX11_hits_10 : decode cX11_hits 10 = .ok (.iconst 0, 1) := dc_3 aX11_hits_10
theorem dX11_hits_11 : decode cX11_hits 11 = .ok (.bipush 120, 2) := dc_16 (a0 := 120) aX11_hits_11 (by decide)
theorem dX11_hits_13 : decode cX11_hits 13 = .ok (.invokestatic 96, 3) := dc_184 (a0 := 0) (b0 := 96) aX11_hits_13
theorem dX11_hits_16 : decode cX11_hits 16 = .ok (.ifCond .eq 7, 3) := dc_153 (a0 := 0) (b0 := 7) aX11_hits_16 (by decide)
theorem dX11_hits_19 : decode cX11_hits 19 = .ok (.iconst 1, 1) := dc_4 aX11_hits_19
theorem dX11_hits_20 : decode cX11_hits 20 = .ok (.goto 4, 3) := dc_167 (a0 := 0) (b0 := 4) aX11_hits_20 (by decide)
theorem dX11_hits_23 : decode cX11_hits 23 = .ok (.iconst 0, 1) := dc_3 aX11_hits_23
theorem dX11_hits_24 : decode cX11_hits 24 = .ok (.invokestatic 168, 3) := dc_184 (a0 := 0) (b0 := 168) aX11_hits_24
theorem dX11_hits_27 : decode cX11_hits 27 = .ok (.iload_n 1, 1) := dc_27 aX11_hits_27
theorem dX11_hits_28 : decode cX11_hits 28 = .ok (.ifCond .ne 14, 3) := dc_154 (a0 := 0) (b0 := 14) aX11_hits_28 (by decide)
theorem dX11_hits_31 : decode cX11_hits 31 = .ok (.aload_n 0, 1) := dc_42 aX11_hits_31
theorem dX11_hits_32 : decode cX11_hits 32 = .ok (.getfield 80, 3) := dc_180 (a0 := 0) (b0 := 80) aX11_hits_32
theorem dX11_hits_35 : decode cX11_hits 35 = .ok (.iload_n 2, 1) := dc_28 aX11_hits_35
theorem dX11_hits_36 : decode cX11_hits 36 = .ok (.invokevirtual 364, 3) := dc_182 (a0 := 1) (b0 := 108) aX11_hits_36
theorem dX11_hits_39 : decode cX11_hits 39 = .ok (.goto 11, 3) := dc_167 (a0 := 0) (b0 := 11) aX11_hits_39 (by decide)
theorem dX11_hits_42 : decode cX11_hits 42 = .ok (.aload_n 0, 1) := dc_42 aX11_hits_42
theorem dX11_hits_43 : decode cX11_hits 43 = .ok (.getfield 80, 3) := dc_180 (a0 := 0) (b0 := 80) aX11_hits_43
theorem dX11_hits_46 : decode cX11_hits 46 = .ok (.iload_n 2, 1) := dc_28 aX11_hits_46
theorem dX11_hits_47 : decode cX11_hits 47 = .ok (.invokevirtual 367, 3) := dc_182 (a0 := 1) (b0 := 111) aX11_hits_47
theorem dX11_hits_50 : decode cX11_hits 50 = .ok (.ireturn, 1) := dc_172 aX11_hits_50
noncomputable def sX11_within_15 : List Nat := 172 :: []
noncomputable def sX11_within_14 : List Nat := 3 :: sX11_within_15
noncomputable def sX11_within_11 : List Nat := 167 :: 0 :: 4 :: sX11_within_14
noncomputable def sX11_within_10 : List Nat := 4 :: sX11_within_11
noncomputable def sX11_within_7 : List Nat := 163 :: 0 :: 7 :: sX11_within_10
noncomputable def sX11_within_6 : List Nat := 28 :: sX11_within_7
noncomputable def sX11_within_5 : List Nat := 26 :: sX11_within_6
noncomputable def sX11_within_2 : List Nat := 161 :: 0 :: 12 :: sX11_within_5
noncomputable def sX11_within_1 : List Nat := 27 :: sX11_within_2
noncomputable def sX11_within_0 : List Nat := 26 :: sX11_within_1
theorem aX11_within_0 : dc_at cX11_within 0 sX11_within_0 := dc_base (by decide +kernel)
theorem aX11_within_1 : dc_at cX11_within 1 sX11_within_1 := dc_n1 aX11_within_0
theorem aX11_within_2 : dc_at cX11_within 2 sX11_within_2 := dc_n1 aX11_within_1
theorem aX11_within_5 : dc_at cX11_within 5 sX11_within_5 := dc_n3 aX11_within_2
theorem aX11_within_6 : dc_at cX11_within 6 sX11_within_6 := dc_n1 aX11_within_5
theorem aX11_within_7 : dc_at cX11_within 7 sX11_within_7 := dc_n1 aX11_within_6
theorem aX11_within_10 : dc_at cX11_within 10 sX11_within_10 := dc_n3 aX11_within_7
theorem aX11_within_11 : dc_at cX11_within 11 sX11_within_11 := dc_n1 aX11_within_10
theorem aX11_within_14 : dc_at cX11_within 14 sX11_within_14 := dc_n3 aX11_within_11
theorem aX11_within_15 : dc_at cX11_within 15 sX11_within_15 := dc_n1 aX11_within_14
theorem dX11_within_0 : decode cX11_within 0 = .ok (.iload_n 0, 1) := dc_26 aX11_within_0
theorem dX11_within_1 : decode cX11_within 1 = .ok (.iload_n 1, 1) := dc_27 aX11_within_1
theorem dX11_within_2 : decode cX11_within 2 = .ok (.if_icmp .lt 12, 3) := dc_161 (a0 := 0) (b0 := 12) aX11_within_2 (by decide)
theorem dX11_within_5 : decode cX11_within 5 = .ok (.iload_n 0, 1) := dc_26 aX11_within_5
theorem dX11_within_6 : decode cX11_within 6 = .ok (.iload_n 2, 1) := dc_28 aX11_within_6
theorem dX11_within_7 : decode cX11_within 7 = .ok (.if_icmp .gt 7, 3) := dc_163 (a0 := 0) (b0 := 7) aX11_within_7 (by decide)
theorem dX11_within_10 : decode cX11_within 10 = .ok (.iconst 1, 1) := dc_4 aX11_within_10
theorem dX11_within_11 : decode cX11_within 11 = .ok (.goto 4, 3) := dc_167 (a0 := 0) (b0 := 4) aX11_within_11 (by decide)
theorem dX11_within_14 : decode cX11_within 14 = .ok (.iconst 0, 1) := dc_3 aX11_within_14
theorem dX11_within_15 : decode cX11_within 15 = .ok (.ireturn, 1) := dc_172 aX11_within_15
set_option maxRecDepth 20000 in
theorem ggX11_isBook_X11_within : GoodIn wsX11_isBook wsX11_within := goodIn_k _ [[4]] (by rfl) (by decide +kernel)
set_option maxRecDepth 20000 in
theorem gX11_isBook_X11_within : GoodIn wsX11_isBook (va_wsS RX11 96 yX11_within wsX11_within) := goodIn_app (goodIn_of _ (by decide +kernel)) ggX11_isBook_X11_within
noncomputable def sX11_isBook_6 : List Nat := 172 :: []
noncomputable def sX11_isBook_3 : List Nat := 184 :: 0 :: 96 :: sX11_isBook_6
noncomputable def sX11_isBook_2 : List Nat := 8 :: sX11_isBook_3
noncomputable def sX11_isBook_1 : List Nat := 3 :: sX11_isBook_2
noncomputable def sX11_isBook_0 : List Nat := 26 :: sX11_isBook_1
theorem aX11_isBook_0 : dc_at cX11_isBook 0 sX11_isBook_0 := dc_base (by decide +kernel)
theorem aX11_isBook_1 : dc_at cX11_isBook 1 sX11_isBook_1 := dc_n1 aX11_isBook_0
theorem aX11_isBook_2 : dc_at cX11_isBook 2 sX11_isBook_2 := dc_n1 aX11_isBook_1
theorem aX11_isBook_3 : dc_at cX11_isBook 3 sX11_isBook_3 := dc_n1 aX11_isBook_2
theorem aX11_isBook_6 : dc_at cX11_isBook 6 sX11_isBook_6 := dc_n3 aX11_isBook_3
theorem dX11_isBook_0 : decode cX11_isBook 0 = .ok (.iload_n 0, 1) := dc_26 aX11_isBook_0
theorem dX11_isBook_1 : decode cX11_isBook 1 = .ok (.iconst 0, 1) := dc_3 aX11_isBook_1
theorem dX11_isBook_2 : decode cX11_isBook 2 = .ok (.iconst 5, 1) := dc_8 aX11_isBook_2
theorem dX11_isBook_3 : decode cX11_isBook 3 = .ok (.invokestatic 96, 3) := dc_184 (a0 := 0) (b0 := 96) aX11_isBook_3
theorem dX11_isBook_6 : decode cX11_isBook 6 = .ok (.ireturn, 1) := dc_172 aX11_isBook_6
set_option maxRecDepth 20000 in
theorem ggX11_isNumber_X11_within : GoodIn wsX11_isNumber wsX11_within := goodIn_k _ [[4]] (by rfl) (by decide +kernel)
set_option maxRecDepth 20000 in
theorem gX11_isNumber_X11_within : GoodIn wsX11_isNumber (va_wsS RX11 96 yX11_within wsX11_within) := goodIn_app (goodIn_of _ (by decide +kernel)) ggX11_isNumber_X11_within
noncomputable def sX11_isNumber_7 : List Nat := 172 :: []
noncomputable def sX11_isNumber_4 : List Nat := 184 :: 0 :: 96 :: sX11_isNumber_7
noncomputable def sX11_isNumber_2 : List Nat := 16 :: 119 :: sX11_isNumber_4
noncomputable def sX11_isNumber_1 : List Nat := 3 :: sX11_isNumber_2
noncomputable def sX11_isNumber_0 : List Nat := 26 :: sX11_isNumber_1
theorem aX11_isNumber_0 : dc_at cX11_isNumber 0 sX11_isNumber_0 := dc_base (by decide +kernel)
theorem aX11_isNumber_1 : dc_at cX11_isNumber 1 sX11_isNumber_1 := dc_n1 aX11_isNumber_0
theorem aX11_isNumber_2 : dc_at cX11_isNumber 2 sX11_isNumber_2 := dc_n1 aX11_isNumber_1
theorem aX11_isNumber_4 : dc_at cX11_isNumber 4 sX11_isNumber_4 := dc_n2 aX11_isNumber_2
theorem aX11_isNumber_7 : dc_at cX11_isNumber 7 sX11_isNumber_7 := dc_n3 aX11_isNumber_4
theorem dX11_isNumber_0 : decode cX11_isNumber 0 = .ok (.iload_n 0, 1) := dc_26 aX11_isNumber_0
theorem dX11_isNumber_1 : decode cX11_isNumber 1 = .ok (.iconst 0, 1) := dc_3 aX11_isNumber_1
theorem dX11_isNumber_2 : decode cX11_isNumber 2 = .ok (.bipush 119, 2) := dc_16 (a0 := 119) aX11_isNumber_2 (by decide)
theorem dX11_isNumber_4 : decode cX11_isNumber 4 = .ok (.invokestatic 96, 3) := dc_184 (a0 := 0) (b0 := 96) aX11_isNumber_4
theorem dX11_isNumber_7 : decode cX11_isNumber 7 = .ok (.ireturn, 1) := dc_172 aX11_isNumber_7
set_option maxRecDepth 20000 in
theorem ggX11_isDay_X11_within : GoodIn wsX11_isDay wsX11_within := goodIn_k _ [[5]] (by rfl) (by decide +kernel)
set_option maxRecDepth 20000 in
theorem gX11_isDay_X11_within : GoodIn wsX11_isDay (va_wsS RX11 96 yX11_within wsX11_within) := goodIn_app (goodIn_of _ (by decide +kernel)) ggX11_isDay_X11_within
noncomputable def sX11_isDay_8 : List Nat := 172 :: []
noncomputable def sX11_isDay_5 : List Nat := 184 :: 0 :: 96 :: sX11_isDay_8
noncomputable def sX11_isDay_2 : List Nat := 19 :: 1 :: 114 :: sX11_isDay_5
noncomputable def sX11_isDay_1 : List Nat := 3 :: sX11_isDay_2
noncomputable def sX11_isDay_0 : List Nat := 26 :: sX11_isDay_1
theorem aX11_isDay_0 : dc_at cX11_isDay 0 sX11_isDay_0 := dc_base (by decide +kernel)
theorem aX11_isDay_1 : dc_at cX11_isDay 1 sX11_isDay_1 := dc_n1 aX11_isDay_0
theorem aX11_isDay_2 : dc_at cX11_isDay 2 sX11_isDay_2 := dc_n1 aX11_isDay_1
theorem aX11_isDay_5 : dc_at cX11_isDay 5 sX11_isDay_5 := dc_n3 aX11_isDay_2
theorem aX11_isDay_8 : dc_at cX11_isDay 8 sX11_isDay_8 := dc_n3 aX11_isDay_5
theorem dX11_isDay_0 : decode cX11_isDay 0 = .ok (.iload_n 0, 1) := dc_26 aX11_isDay_0
theorem dX11_isDay_1 : decode cX11_isDay 1 = .ok (.iconst 0, 1) := dc_3 aX11_isDay_1
theorem dX11_isDay_2 : decode cX11_isDay 2 = .ok (.ldc_w 370, 3) := dc_19 (a0 := 1) (b0 := 114) aX11_isDay_2
theorem dX11_isDay_5 : decode cX11_isDay 5 = .ok (.invokestatic 96, 3) := dc_184 (a0 := 0) (b0 := 96) aX11_isDay_5
theorem dX11_isDay_8 : decode cX11_isDay 8 = .ok (.ireturn, 1) := dc_172 aX11_isDay_8
set_option maxRecDepth 20000 in
theorem ggX11_isSpan_X11_within : GoodIn wsX11_isSpan wsX11_within := goodIn_k _ [[6]] (by rfl) (by decide +kernel)
set_option maxRecDepth 20000 in
theorem gX11_isSpan_X11_within : GoodIn wsX11_isSpan (va_wsS RX11 96 yX11_within wsX11_within) := goodIn_app (goodIn_of _ (by decide +kernel)) ggX11_isSpan_X11_within
noncomputable def sX11_isSpan_25 : List Nat := 172 :: []
noncomputable def sX11_isSpan_24 : List Nat := 3 :: sX11_isSpan_25
noncomputable def sX11_isSpan_21 : List Nat := 167 :: 0 :: 4 :: sX11_isSpan_24
noncomputable def sX11_isSpan_20 : List Nat := 4 :: sX11_isSpan_21
noncomputable def sX11_isSpan_17 : List Nat := 163 :: 0 :: 7 :: sX11_isSpan_20
noncomputable def sX11_isSpan_16 : List Nat := 100 :: sX11_isSpan_17
noncomputable def sX11_isSpan_15 : List Nat := 26 :: sX11_isSpan_16
noncomputable def sX11_isSpan_12 : List Nat := 19 :: 1 :: 114 :: sX11_isSpan_15
noncomputable def sX11_isSpan_11 : List Nat := 27 :: sX11_isSpan_12
noncomputable def sX11_isSpan_8 : List Nat := 153 :: 0 :: 16 :: sX11_isSpan_11
noncomputable def sX11_isSpan_5 : List Nat := 184 :: 0 :: 96 :: sX11_isSpan_8
noncomputable def sX11_isSpan_2 : List Nat := 19 :: 1 :: 1 :: sX11_isSpan_5
noncomputable def sX11_isSpan_1 : List Nat := 3 :: sX11_isSpan_2
noncomputable def sX11_isSpan_0 : List Nat := 27 :: sX11_isSpan_1
theorem aX11_isSpan_0 : dc_at cX11_isSpan 0 sX11_isSpan_0 := dc_base (by decide +kernel)
theorem aX11_isSpan_1 : dc_at cX11_isSpan 1 sX11_isSpan_1 := dc_n1 aX11_isSpan_0
theorem aX11_isSpan_2 : dc_at cX11_isSpan 2 sX11_isSpan_2 := dc_n1 aX11_isSpan_1
theorem aX11_isSpan_5 : dc_at cX11_isSpan 5 sX11_isSpan_5 := dc_n3 aX11_isSpan_2
theorem aX11_isSpan_8 : dc_at cX11_isSpan 8 sX11_isSpan_8 := dc_n3 aX11_isSpan_5
theorem aX11_isSpan_11 : dc_at cX11_isSpan 11 sX11_isSpan_11 := dc_n3 aX11_isSpan_8
theorem aX11_isSpan_12 : dc_at cX11_isSpan 12 sX11_isSpan_12 := dc_n1 aX11_isSpan_11
theorem aX11_isSpan_15 : dc_at cX11_isSpan 15 sX11_isSpan_15 := dc_n3 aX11_isSpan_12
theorem aX11_isSpan_16 : dc_at cX11_isSpan 16 sX11_isSpan_16 := dc_n1 aX11_isSpan_15
theorem aX11_isSpan_17 : dc_at cX11_isSpan 17 sX11_isSpan_17 := dc_n1 aX11_isSpan_16
theorem aX11_isSpan_20 : dc_at cX11_isSpan 20 sX11_isSpan_20 := dc_n3 aX11_isSpan_17
theorem aX11_isSpan_21 : dc_at cX11_isSpan 21 sX11_isSpan_21 := dc_n1 aX11_isSpan_20
theorem aX11_isSpan_24 : dc_at cX11_isSpan 24 sX11_isSpan_24 := dc_n3 aX11_isSpan_21
theorem aX11_isSpan_25 : dc_at cX11_isSpan 25 sX11_isSpan_25 := dc_n1 aX11_isSpan_24
theorem dX11_isSpan_0 : decode cX11_isSpan 0 = .ok (.iload_n 1, 1) := dc_27 aX11_isSpan_0
theorem dX11_isSpan_1 : decode cX11_isSpan 1 = .ok (.iconst 0, 1) := dc_3 aX11_isSpan_1
theorem dX11_isSpan_2 : decode cX11_isSpan 2 = .ok (.ldc_w 257, 3) := dc_19 (a0 := 1) (b0 := 1) aX11_isSpan_2
theorem dX11_isSpan_5 : decode cX11_isSpan 5 = .ok (.invokestatic 96, 3) := dc_184 (a0 := 0) (b0 := 96) aX11_isSpan_5
theorem dX11_isSpan_8 : decode cX11_isSpan 8 = .ok (.ifCond .eq 16, 3) := dc_153 (a0 := 0) (b0 := 16) aX11_isSpan_8 (by decide)
theorem dX11_isSpan_11 : decode cX11_isSpan 11 = .ok (.iload_n 1, 1) := dc_27 aX11_isSpan_11
theorem dX11_isSpan_12 : decode cX11_isSpan 12 = .ok (.ldc_w 370, 3) := dc_19 (a0 := 1) (b0 := 114) aX11_isSpan_12
theorem dX11_isSpan_15 : decode cX11_isSpan 15 = .ok (.iload_n 0, 1) := dc_26 aX11_isSpan_15
theorem dX11_isSpan_16 : decode cX11_isSpan 16 = .ok (.isub, 1) := dc_100 aX11_isSpan_16
theorem dX11_isSpan_17 : decode cX11_isSpan 17 = .ok (.if_icmp .gt 7, 3) := dc_163 (a0 := 0) (b0 := 7) aX11_isSpan_17 (by decide)
theorem dX11_isSpan_20 : decode cX11_isSpan 20 = .ok (.iconst 1, 1) := dc_4 aX11_isSpan_20
theorem dX11_isSpan_21 : decode cX11_isSpan 21 = .ok (.goto 4, 3) := dc_167 (a0 := 0) (b0 := 4) aX11_isSpan_21 (by decide)
theorem dX11_isSpan_24 : decode cX11_isSpan 24 = .ok (.iconst 0, 1) := dc_3 aX11_isSpan_24
theorem dX11_isSpan_25 : decode cX11_isSpan 25 = .ok (.ireturn, 1) := dc_172 aX11_isSpan_25
set_option maxRecDepth 20000 in
theorem ggX11_isClimate_X11_within : GoodIn wsX11_isClimate wsX11_within := goodIn_k _ [[7]] (by rfl) (by decide +kernel)
set_option maxRecDepth 20000 in
theorem gX11_isClimate_X11_within : GoodIn wsX11_isClimate (va_wsS RX11 96 yX11_within wsX11_within) := goodIn_app (goodIn_of _ (by decide +kernel)) ggX11_isClimate_X11_within
noncomputable def sX11_isClimate_17 : List Nat := 172 :: []
noncomputable def sX11_isClimate_14 : List Nat := 184 :: 0 :: 96 :: sX11_isClimate_17
noncomputable def sX11_isClimate_13 : List Nat := 100 :: sX11_isClimate_14
noncomputable def sX11_isClimate_12 : List Nat := 4 :: sX11_isClimate_13
noncomputable def sX11_isClimate_9 : List Nat := 180 :: 0 :: 135 :: sX11_isClimate_12
noncomputable def sX11_isClimate_6 : List Nat := 180 :: 0 :: 131 :: sX11_isClimate_9
noncomputable def sX11_isClimate_3 : List Nat := 180 :: 0 :: 19 :: sX11_isClimate_6
noncomputable def sX11_isClimate_2 : List Nat := 42 :: sX11_isClimate_3
noncomputable def sX11_isClimate_1 : List Nat := 3 :: sX11_isClimate_2
noncomputable def sX11_isClimate_0 : List Nat := 27 :: sX11_isClimate_1
theorem aX11_isClimate_0 : dc_at cX11_isClimate 0 sX11_isClimate_0 := dc_base (by decide +kernel)
theorem aX11_isClimate_1 : dc_at cX11_isClimate 1 sX11_isClimate_1 := dc_n1 aX11_isClimate_0
theorem aX11_isClimate_2 : dc_at cX11_isClimate 2 sX11_isClimate_2 := dc_n1 aX11_isClimate_1
theorem aX11_isClimate_3 : dc_at cX11_isClimate 3 sX11_isClimate_3 := dc_n1 aX11_isClimate_2
theorem aX11_isClimate_6 : dc_at cX11_isClimate 6 sX11_isClimate_6 := dc_n3 aX11_isClimate_3
theorem aX11_isClimate_9 : dc_at cX11_isClimate 9 sX11_isClimate_9 := dc_n3 aX11_isClimate_6
theorem aX11_isClimate_12 : dc_at cX11_isClimate 12 sX11_isClimate_12 := dc_n3 aX11_isClimate_9
theorem aX11_isClimate_13 : dc_at cX11_isClimate 13 sX11_isClimate_13 := dc_n1 aX11_isClimate_12
theorem aX11_isClimate_14 : dc_at cX11_isClimate 14 sX11_isClimate_14 := dc_n1 aX11_isClimate_13
theorem aX11_isClimate_17 : dc_at cX11_isClimate 17 sX11_isClimate_17 := dc_n3 aX11_isClimate_14
theorem dX11_isClimate_0 : decode cX11_isClimate 0 = .ok (.iload_n 1, 1) := dc_27 aX11_isClimate_0
theorem dX11_isClimate_1 : decode cX11_isClimate 1 = .ok (.iconst 0, 1) := dc_3 aX11_isClimate_1
theorem dX11_isClimate_2 : decode cX11_isClimate 2 = .ok (.aload_n 0, 1) := dc_42 aX11_isClimate_2
theorem dX11_isClimate_3 : decode cX11_isClimate 3 = .ok (.getfield 19, 3) := dc_180 (a0 := 0) (b0 := 19) aX11_isClimate_3
theorem dX11_isClimate_6 : decode cX11_isClimate 6 = .ok (.getfield 131, 3) := dc_180 (a0 := 0) (b0 := 131) aX11_isClimate_6
theorem dX11_isClimate_9 : decode cX11_isClimate 9 = .ok (.getfield 135, 3) := dc_180 (a0 := 0) (b0 := 135) aX11_isClimate_9
theorem dX11_isClimate_12 : decode cX11_isClimate 12 = .ok (.iconst 1, 1) := dc_4 aX11_isClimate_12
theorem dX11_isClimate_13 : decode cX11_isClimate 13 = .ok (.isub, 1) := dc_100 aX11_isClimate_13
theorem dX11_isClimate_14 : decode cX11_isClimate 14 = .ok (.invokestatic 96, 3) := dc_184 (a0 := 0) (b0 := 96) aX11_isClimate_14
theorem dX11_isClimate_17 : decode cX11_isClimate 17 = .ok (.ireturn, 1) := dc_172 aX11_isClimate_17
set_option maxRecDepth 20000 in
theorem ggX11_isWay_X11_within : GoodIn wsX11_isWay wsX11_within := goodIn_k _ [[4]] (by rfl) (by decide +kernel)
set_option maxRecDepth 20000 in
theorem gX11_isWay_X11_within : GoodIn wsX11_isWay (va_wsS RX11 96 yX11_within wsX11_within) := goodIn_app (goodIn_of _ (by decide +kernel)) ggX11_isWay_X11_within
set_option maxRecDepth 20000 in
theorem ggX11_isWay_X11_isClimate : GoodIn wsX11_isWay wsX11_isClimate := goodIn_k _ [[8, 0, 0, 0], [1, 0, 0, 0, 7, 0, 0, 0, 0, 0, 0, 0, 0, 0, 0, 0, 0, 0, 0, 0, 0, 0, 0, 0, 0]] (by rfl) (by decide +kernel)
set_option maxRecDepth 20000 in
theorem gX11_isWay_X11_isClimate : GoodIn wsX11_isWay (wsV RX11 212 RX11 yX11_isClimate wsX11_isClimate) := goodIn_app (goodIn_of _ (by decide +kernel)) ggX11_isWay_X11_isClimate
noncomputable def sX11_isWay_27 : List Nat := 172 :: []
noncomputable def sX11_isWay_26 : List Nat := 3 :: sX11_isWay_27
noncomputable def sX11_isWay_23 : List Nat := 167 :: 0 :: 4 :: sX11_isWay_26
noncomputable def sX11_isWay_22 : List Nat := 4 :: sX11_isWay_23
noncomputable def sX11_isWay_19 : List Nat := 153 :: 0 :: 7 :: sX11_isWay_22
noncomputable def sX11_isWay_16 : List Nat := 182 :: 0 :: 212 :: sX11_isWay_19
noncomputable def sX11_isWay_15 : List Nat := 28 :: sX11_isWay_16
noncomputable def sX11_isWay_14 : List Nat := 42 :: sX11_isWay_15
noncomputable def sX11_isWay_11 : List Nat := 160 :: 0 :: 15 :: sX11_isWay_14
noncomputable def sX11_isWay_10 : List Nat := 5 :: sX11_isWay_11
noncomputable def sX11_isWay_9 : List Nat := 27 :: sX11_isWay_10
noncomputable def sX11_isWay_6 : List Nat := 154 :: 0 :: 16 :: sX11_isWay_9
noncomputable def sX11_isWay_3 : List Nat := 184 :: 0 :: 96 :: sX11_isWay_6
noncomputable def sX11_isWay_2 : List Nat := 4 :: sX11_isWay_3
noncomputable def sX11_isWay_1 : List Nat := 3 :: sX11_isWay_2
noncomputable def sX11_isWay_0 : List Nat := 27 :: sX11_isWay_1
theorem aX11_isWay_0 : dc_at cX11_isWay 0 sX11_isWay_0 := dc_base (by decide +kernel)
theorem aX11_isWay_1 : dc_at cX11_isWay 1 sX11_isWay_1 := dc_n1 aX11_isWay_0
theorem aX11_isWay_2 : dc_at cX11_isWay 2 sX11_isWay_2 := dc_n1 aX11_isWay_1
theorem aX11_isWay_3 : dc_at cX11_isWay 3 sX11_isWay_3 := dc_n1 aX11_isWay_2
theorem aX11_isWay_6 : dc_at cX11_isWay 6 sX11_isWay_6 := dc_n3 aX11_isWay_3
theorem aX11_isWay_9 : dc_at cX11_isWay 9 sX11_isWay_9 := dc_n3 aX11_isWay_6
theorem aX11_isWay_10 : dc_at cX11_isWay 10 sX11_isWay_10 := dc_n1 aX11_isWay_9
theorem aX11_isWay_11 : dc_at cX11_isWay 11 sX11_isWay_11 := dc_n1 aX11_isWay_10
theorem aX11_isWay_14 : dc_at cX11_isWay 14 sX11_isWay_14 := dc_n3 aX11_isWay_11
theorem aX11_isWay_15 : dc_at cX11_isWay 15 sX11_isWay_15 := dc_n1 aX11_isWay_14
theorem aX11_isWay_16 : dc_at cX11_isWay 16 sX11_isWay_16 := dc_n1 aX11_isWay_15
theorem aX11_isWay_19 : dc_at cX11_isWay 19 sX11_isWay_19 := dc_n3 aX11_isWay_16
theorem aX11_isWay_22 : dc_at cX11_isWay 22 sX11_isWay_22 := dc_n3 aX11_isWay_19
theorem aX11_isWay_23 : dc_at cX11_isWay 23 sX11_isWay_23 := dc_n1 aX11_isWay_22
theorem aX11_isWay_26 : dc_at cX11_isWay 26 sX11_isWay_26 := dc_n3 aX11_isWay_23
theorem aX11_isWay_27 : dc_at cX11_isWay 27 sX11_isWay_27 := dc_n1 aX11_isWay_26
theorem dX11_isWay_0 : decode cX11_isWay 0 = .ok (.iload_n 1, 1) := dc_27 aX11_isWay_0
theorem dX11_isWay_1 : decode cX11_isWay 1 = .ok (.iconst 0, 1) := dc_3 aX11_isWay_1
theorem dX11_isWay_2 : decode cX11_isWay 2 = .ok (.iconst 1, 1) := dc_4 aX11_isWay_2
theorem dX11_isWay_3 : decode cX11_isWay 3 = .ok (.invokestatic 96, 3) := dc_184 (a0 := 0) (b0 := 96) aX11_isWay_3
theorem dX11_isWay_6 : decode cX11_isWay 6 = .ok (.ifCond .ne 16, 3) := dc_154 (a0 := 0) (b0 := 16) aX11_isWay_6 (by decide)
theorem dX11_isWay_9 : decode cX11_isWay 9 = .ok (.iload_n 1, 1) := dc_27 aX11_isWay_9
theorem dX11_isWay_10 : decode cX11_isWay 10 = .ok (.iconst 2, 1) := dc_5 aX11_isWay_10
theorem dX11_isWay_11 : decode cX11_isWay 11 = .ok (.if_icmp .ne 15, 3) := dc_160 (a0 := 0) (b0 := 15) aX11_isWay_11 (by decide)
theorem dX11_isWay_14 : decode cX11_isWay 14 = .ok (.aload_n 0, 1) := dc_42 aX11_isWay_14
theorem dX11_isWay_15 : decode cX11_isWay 15 = .ok (.iload_n 2, 1) := dc_28 aX11_isWay_15
theorem dX11_isWay_16 : decode cX11_isWay 16 = .ok (.invokevirtual 212, 3) := dc_182 (a0 := 0) (b0 := 212) aX11_isWay_16
theorem dX11_isWay_19 : decode cX11_isWay 19 = .ok (.ifCond .eq 7, 3) := dc_153 (a0 := 0) (b0 := 7) aX11_isWay_19 (by decide)
theorem dX11_isWay_22 : decode cX11_isWay 22 = .ok (.iconst 1, 1) := dc_4 aX11_isWay_22
theorem dX11_isWay_23 : decode cX11_isWay 23 = .ok (.goto 4, 3) := dc_167 (a0 := 0) (b0 := 4) aX11_isWay_23 (by decide)
theorem dX11_isWay_26 : decode cX11_isWay 26 = .ok (.iconst 0, 1) := dc_3 aX11_isWay_26
theorem dX11_isWay_27 : decode cX11_isWay 27 = .ok (.ireturn, 1) := dc_172 aX11_isWay_27
noncomputable def sX11_need_15 : List Nat := 177 :: []
noncomputable def sX11_need_14 : List Nat := 191 :: sX11_need_15
noncomputable def sX11_need_11 : List Nat := 183 :: 0 :: 161 :: sX11_need_14
noncomputable def sX11_need_8 : List Nat := 19 :: 1 :: 115 :: sX11_need_11
noncomputable def sX11_need_7 : List Nat := 89 :: sX11_need_8
noncomputable def sX11_need_4 : List Nat := 187 :: 0 :: 157 :: sX11_need_7
noncomputable def sX11_need_1 : List Nat := 154 :: 0 :: 14 :: sX11_need_4
noncomputable def sX11_need_0 : List Nat := 26 :: sX11_need_1
theorem aX11_need_0 : dc_at cX11_need 0 sX11_need_0 := dc_base (by decide +kernel)
theorem aX11_need_1 : dc_at cX11_need 1 sX11_need_1 := dc_n1 aX11_need_0
theorem aX11_need_4 : dc_at cX11_need 4 sX11_need_4 := dc_n3 aX11_need_1
theorem aX11_need_7 : dc_at cX11_need 7 sX11_need_7 := dc_n3 aX11_need_4
theorem aX11_need_8 : dc_at cX11_need 8 sX11_need_8 := dc_n1 aX11_need_7
theorem aX11_need_11 : dc_at cX11_need 11 sX11_need_11 := dc_n3 aX11_need_8
theorem aX11_need_14 : dc_at cX11_need 14 sX11_need_14 := dc_n3 aX11_need_11
theorem aX11_need_15 : dc_at cX11_need 15 sX11_need_15 := dc_n1 aX11_need_14
theorem dX11_need_0 : decode cX11_need 0 = .ok (.iload_n 0, 1) := dc_26 aX11_need_0
theorem dX11_need_1 : decode cX11_need 1 = .ok (.ifCond .ne 14, 3) := dc_154 (a0 := 0) (b0 := 14) aX11_need_1 (by decide)
theorem dX11_need_4 : decode cX11_need 4 = .ok (.new 157, 3) := dc_187 (a0 := 0) (b0 := 157) aX11_need_4
theorem dX11_need_7 : decode cX11_need 7 = .ok (.dup, 1) := dc_89 aX11_need_7
theorem dX11_need_8 : decode cX11_need 8 = .ok (.ldc_w 371, 3) := dc_19 (a0 := 1) (b0 := 115) aX11_need_8
theorem dX11_need_11 : decode cX11_need 11 = .ok (.invokespecial 161, 3) := dc_183 (a0 := 0) (b0 := 161) aX11_need_11
theorem dX11_need_14 : decode cX11_need 14 = .ok (.athrow, 1) := dc_191 aX11_need_14
theorem dX11_need_15 : decode cX11_need 15 = .ok (.return_, 1) := dc_177 aX11_need_15
noncomputable def sX11_allow_15 : List Nat := 177 :: []
noncomputable def sX11_allow_14 : List Nat := 191 :: sX11_allow_15
noncomputable def sX11_allow_11 : List Nat := 183 :: 1 :: 121 :: sX11_allow_14
noncomputable def sX11_allow_8 : List Nat := 19 :: 1 :: 119 :: sX11_allow_11
noncomputable def sX11_allow_7 : List Nat := 89 :: sX11_allow_8
noncomputable def sX11_allow_4 : List Nat := 187 :: 1 :: 117 :: sX11_allow_7
noncomputable def sX11_allow_1 : List Nat := 154 :: 0 :: 14 :: sX11_allow_4
noncomputable def sX11_allow_0 : List Nat := 26 :: sX11_allow_1
theorem aX11_allow_0 : dc_at cX11_allow 0 sX11_allow_0 := dc_base (by decide +kernel)
theorem aX11_allow_1 : dc_at cX11_allow 1 sX11_allow_1 := dc_n1 aX11_allow_0
theorem aX11_allow_4 : dc_at cX11_allow 4 sX11_allow_4 := dc_n3 aX11_allow_1
theorem aX11_allow_7 : dc_at cX11_allow 7 sX11_allow_7 := dc_n3 aX11_allow_4
theorem aX11_allow_8 : dc_at cX11_allow 8 sX11_allow_8 := dc_n1 aX11_allow_7
theorem aX11_allow_11 : dc_at cX11_allow 11 sX11_allow_11 := dc_n3 aX11_allow_8
theorem aX11_allow_14 : dc_at cX11_allow 14 sX11_allow_14 := dc_n3 aX11_allow_11
theorem aX11_allow_15 : dc_at cX11_allow 15 sX11_allow_15 := dc_n1 aX11_allow_14
theorem dX11_allow_0 : decode cX11_allow 0 = .ok (.iload_n 0, 1) := dc_26 aX11_allow_0
theorem dX11_allow_1 : decode cX11_allow 1 = .ok (.ifCond .ne 14, 3) := dc_154 (a0 := 0) (b0 := 14) aX11_allow_1 (by decide)
theorem dX11_allow_4 : decode cX11_allow 4 = .ok (.new 373, 3) := dc_187 (a0 := 1) (b0 := 117) aX11_allow_4
theorem dX11_allow_7 : decode cX11_allow 7 = .ok (.dup, 1) := dc_89 aX11_allow_7
theorem dX11_allow_8 : decode cX11_allow 8 = .ok (.ldc_w 375, 3) := dc_19 (a0 := 1) (b0 := 119) aX11_allow_8
theorem dX11_allow_11 : decode cX11_allow 11 = .ok (.invokespecial 377, 3) := dc_183 (a0 := 1) (b0 := 121) aX11_allow_11
theorem dX11_allow_14 : decode cX11_allow 14 = .ok (.athrow, 1) := dc_191 aX11_allow_14
theorem dX11_allow_15 : decode cX11_allow 15 = .ok (.return_, 1) := dc_177 aX11_allow_15
set_option maxRecDepth 20000 in
theorem ggX11_numberOf_X11_isBook : GoodIn wsX11_numberOf wsX11_isBook := goodIn_k _ [[4, 0, 0], [3, 3]] (by rfl) (by decide +kernel)
set_option maxRecDepth 20000 in
theorem gX11_numberOf_X11_isBook : GoodIn wsX11_numberOf (va_wsS RX11 250 yX11_isBook wsX11_isBook) := goodIn_app (goodIn_of _ (by decide +kernel)) ggX11_numberOf_X11_isBook
set_option maxRecDepth 20000 in
theorem ggX11_numberOf_X11_within : GoodIn wsX11_numberOf wsX11_within := goodIn_k _ [[7]] (by rfl) (by decide +kernel)
set_option maxRecDepth 20000 in
theorem gX11_numberOf_X11_within : GoodIn wsX11_numberOf (va_wsS RX11 96 yX11_within wsX11_within) := goodIn_app (goodIn_of _ (by decide +kernel)) ggX11_numberOf_X11_within
set_option maxRecDepth 20000 in
theorem ggX11_numberOf_X11_need : GoodIn wsX11_numberOf wsX11_need := goodIn_ca (goodIn_k _ [[10, 0, 0]] (by rfl) (by decide +kernel)) (goodIn_sub (fun _ h => List.mem_cons_of_mem _ (List.mem_append_right _ h)) (by decide +kernel))
set_option maxRecDepth 20000 in
theorem gX11_numberOf_X11_need : GoodIn wsX11_numberOf (va_wsS RX11 168 yX11_need wsX11_need) := goodIn_app (goodIn_of _ (by decide +kernel)) ggX11_numberOf_X11_need
noncomputable def sX11_numberOf_31 : List Nat := 172 :: []
noncomputable def sX11_numberOf_30 : List Nat := 96 :: sX11_numberOf_31
noncomputable def sX11_numberOf_29 : List Nat := 27 :: sX11_numberOf_30
noncomputable def sX11_numberOf_28 : List Nat := 104 :: sX11_numberOf_29
noncomputable def sX11_numberOf_27 : List Nat := 26 :: sX11_numberOf_28
noncomputable def sX11_numberOf_25 : List Nat := 16 :: 20 :: sX11_numberOf_27
noncomputable def sX11_numberOf_22 : List Nat := 184 :: 0 :: 168 :: sX11_numberOf_25
noncomputable def sX11_numberOf_21 : List Nat := 3 :: sX11_numberOf_22
noncomputable def sX11_numberOf_18 : List Nat := 167 :: 0 :: 4 :: sX11_numberOf_21
noncomputable def sX11_numberOf_17 : List Nat := 4 :: sX11_numberOf_18
noncomputable def sX11_numberOf_14 : List Nat := 153 :: 0 :: 7 :: sX11_numberOf_17
noncomputable def sX11_numberOf_11 : List Nat := 184 :: 0 :: 96 :: sX11_numberOf_14
noncomputable def sX11_numberOf_9 : List Nat := 16 :: 19 :: sX11_numberOf_11
noncomputable def sX11_numberOf_8 : List Nat := 3 :: sX11_numberOf_9
noncomputable def sX11_numberOf_7 : List Nat := 27 :: sX11_numberOf_8
noncomputable def sX11_numberOf_4 : List Nat := 153 :: 0 :: 17 :: sX11_numberOf_7
noncomputable def sX11_numberOf_1 : List Nat := 184 :: 0 :: 250 :: sX11_numberOf_4
noncomputable def sX11_numberOf_0 : List Nat := 26 :: sX11_numberOf_1
theorem aX11_numberOf_0 : dc_at cX11_numberOf 0 sX11_numberOf_0 := dc_base (by decide +kernel)
theorem aX11_numberOf_1 : dc_at cX11_numberOf 1 sX11_numberOf_1 := dc_n1 aX11_numberOf_0
theorem aX11_numberOf_4 : dc_at cX11_numberOf 4 sX11_numberOf_4 := dc_n3 aX11_numberOf_1
theorem aX11_numberOf_7 : dc_at cX11_numberOf 7 sX11_numberOf_7 := dc_n3 aX11_numberOf_4
theorem aX11_numberOf_8 : dc_at cX11_numberOf 8 sX11_numberOf_8 := dc_n1 aX11_numberOf_7
theorem aX11_numberOf_9 : dc_at cX11_numberOf 9 sX11_numberOf_9 := dc_n1 aX11_numberOf_8
theorem aX11_numberOf_11 : dc_at cX11_numberOf 11 sX11_numberOf_11 := dc_n2 aX11_numberOf_9
theorem aX11_numberOf_14 : dc_at cX11_numberOf 14 sX11_numberOf_14 := dc_n3 aX11_numberOf_11
theorem aX11_numberOf_17 : dc_at cX11_numberOf 17 sX11_numberOf_17 := dc_n3 aX11_numberOf_14
theorem aX11_numberOf_18 : dc_at cX11_numberOf 18 sX11_numberOf_18 := dc_n1 aX11_numberOf_17
theorem aX11_numberOf_21 : dc_at cX11_numberOf 21 sX11_numberOf_21 := dc_n3 aX11_numberOf_18
theorem aX11_numberOf_22 : dc_at cX11_numberOf 22 sX11_numberOf_22 := dc_n1 aX11_numberOf_21
theorem aX11_numberOf_25 : dc_at cX11_numberOf 25 sX11_numberOf_25 := dc_n3 aX11_numberOf_22
theorem aX11_numberOf_27 : dc_at cX11_numberOf 27 sX11_numberOf_27 := dc_n2 aX11_numberOf_25
theorem aX11_numberOf_28 : dc_at cX11_numberOf 28 sX11_numberOf_28 := dc_n1 aX11_numberOf_27
theorem aX11_numberOf_29 : dc_at cX11_numberOf 29 sX11_numberOf_29 := dc_n1 aX11_numberOf_28
theorem aX11_numberOf_30 : dc_at cX11_numberOf 30 sX11_numberOf_30 := dc_n1 aX11_numberOf_29
theorem aX11_numberOf_31 : dc_at cX11_numberOf 31 sX11_numberOf_31 := dc_n1 aX11_numberOf_30
theorem dX11_numberOf_0 : decode cX11_numberOf 0 = .ok (.iload_n 0, 1) := dc_26 aX11_numberOf_0
theorem dX11_numberOf_1 : decode cX11_numberOf 1 = .ok (.invokestatic 250, 3) := dc_184 (a0 := 0) (b0 := 250) aX11_numberOf_1
theorem dX11_numberOf_4 : decode cX11_numberOf 4 = .ok (.ifCond .eq 17, 3) := dc_153 (a0 := 0) (b0 := 17) aX11_numberOf_4 (by decide)
theorem dX11_numberOf_7 : decode cX11_numberOf 7 = .ok (.iload_n 1, 1) := dc_27 aX11_numberOf_7
theorem dX11_numberOf_8 : decode cX11_numberOf 8 = .ok (.iconst 0, 1) := dc_3 aX11_numberOf_8
theorem dX11_numberOf_9 : decode cX11_numberOf 9 = .ok (.bipush 19, 2) := dc_16 (a0 := 19) aX11_numberOf_9 (by decide)
theorem dX11_numberOf_11 : decode cX11_numberOf 11 = .ok (.invokestatic 96, 3) := dc_184 (a0 := 0) (b0 := 96) aX11_numberOf_11
theorem dX11_numberOf_14 : decode cX11_numberOf 14 = .ok (.ifCond .eq 7, 3) := dc_153 (a0 := 0) (b0 := 7) aX11_numberOf_14 (by decide)
theorem dX11_numberOf_17 : decode cX11_numberOf 17 = .ok (.iconst 1, 1) := dc_4 aX11_numberOf_17
theorem dX11_numberOf_18 : decode cX11_numberOf 18 = .ok (.goto 4, 3) := dc_167 (a0 := 0) (b0 := 4) aX11_numberOf_18 (by decide)
theorem dX11_numberOf_21 : decode cX11_numberOf 21 = .ok (.iconst 0, 1) := dc_3 aX11_numberOf_21
theorem dX11_numberOf_22 : decode cX11_numberOf 22 = .ok (.invokestatic 168, 3) := dc_184 (a0 := 0) (b0 := 168) aX11_numberOf_22
theorem dX11_numberOf_25 : decode cX11_numberOf 25 = .ok (.bipush 20, 2) := dc_16 (a0 := 20) aX11_numberOf_25 (by decide)
theorem dX11_numberOf_27 : decode cX11_numberOf 27 = .ok (.iload_n 0, 1) := dc_26 aX11_numberOf_27
theorem dX11_numberOf_28 : decode cX11_numberOf 28 = .ok (.imul, 1) := dc_104 aX11_numberOf_28
theorem dX11_numberOf_29 : decode cX11_numberOf 29 = .ok (.iload_n 1, 1) := dc_27 aX11_numberOf_29
theorem dX11_numberOf_30 : decode cX11_numberOf 30 = .ok (.iadd, 1) := dc_96 aX11_numberOf_30
theorem dX11_numberOf_31 : decode cX11_numberOf 31 = .ok (.ireturn, 1) := dc_172 aX11_numberOf_31
set_option maxRecDepth 20000 in
theorem ggX11_waysThatCanBe_X1_howManyDiffer : GoodIn wsX11_waysThatCanBe wsX1_howManyDiffer := goodIn_k _ [[9, 0, 0, 0], [8, 4, 0, 0, 0, 0, 0, 0, 0, 0, 0, 0, 0, 0, 0, 0, 0, 0, 0, 0, 0, 0, 0, 0, 0, 0, 0, 0, 0, 0, 0, 21, 0], [62, 0]] (by rfl) (by decide +kernel)
set_option maxRecDepth 20000 in
theorem gX11_waysThatCanBe_X1_howManyDiffer : GoodIn wsX11_waysThatCanBe (wsV RX11 240 RX1 yX1_howManyDiffer wsX1_howManyDiffer) := goodIn_app (goodIn_of _ (by decide +kernel)) ggX11_waysThatCanBe_X1_howManyDiffer
noncomputable def sX11_waysThatCanBe_97 : List Nat := 172 :: []
noncomputable def sX11_waysThatCanBe_96 : List Nat := 28 :: sX11_waysThatCanBe_97
noncomputable def sX11_waysThatCanBe_93 : List Nat := 167 :: 255 :: 215 :: sX11_waysThatCanBe_96
noncomputable def sX11_waysThatCanBe_90 : List Nat := 132 :: 3 :: 1 :: sX11_waysThatCanBe_93
noncomputable def sX11_waysThatCanBe_89 : List Nat := 61 :: sX11_waysThatCanBe_90
noncomputable def sX11_waysThatCanBe_88 : List Nat := 128 :: sX11_waysThatCanBe_89
noncomputable def sX11_waysThatCanBe_87 : List Nat := 7 :: sX11_waysThatCanBe_88
noncomputable def sX11_waysThatCanBe_86 : List Nat := 28 :: sX11_waysThatCanBe_87
noncomputable def sX11_waysThatCanBe_83 : List Nat := 154 :: 0 :: 7 :: sX11_waysThatCanBe_86
noncomputable def sX11_waysThatCanBe_80 : List Nat := 182 :: 0 :: 240 :: sX11_waysThatCanBe_83
noncomputable def sX11_waysThatCanBe_79 : List Nat := 29 :: sX11_waysThatCanBe_80
noncomputable def sX11_waysThatCanBe_78 : List Nat := 5 :: sX11_waysThatCanBe_79
noncomputable def sX11_waysThatCanBe_77 : List Nat := 27 :: sX11_waysThatCanBe_78
noncomputable def sX11_waysThatCanBe_74 : List Nat := 180 :: 0 :: 131 :: sX11_waysThatCanBe_77
noncomputable def sX11_waysThatCanBe_71 : List Nat := 180 :: 0 :: 19 :: sX11_waysThatCanBe_74
noncomputable def sX11_waysThatCanBe_70 : List Nat := 42 :: sX11_waysThatCanBe_71
noncomputable def sX11_waysThatCanBe_67 : List Nat := 180 :: 0 :: 29 :: sX11_waysThatCanBe_70
noncomputable def sX11_waysThatCanBe_66 : List Nat := 42 :: sX11_waysThatCanBe_67
noncomputable def sX11_waysThatCanBe_63 : List Nat := 162 :: 0 :: 33 :: sX11_waysThatCanBe_66
noncomputable def sX11_waysThatCanBe_60 : List Nat := 180 :: 0 :: 135 :: sX11_waysThatCanBe_63
noncomputable def sX11_waysThatCanBe_57 : List Nat := 180 :: 0 :: 131 :: sX11_waysThatCanBe_60
noncomputable def sX11_waysThatCanBe_54 : List Nat := 180 :: 0 :: 19 :: sX11_waysThatCanBe_57
noncomputable def sX11_waysThatCanBe_53 : List Nat := 42 :: sX11_waysThatCanBe_54
noncomputable def sX11_waysThatCanBe_52 : List Nat := 29 :: sX11_waysThatCanBe_53
noncomputable def sX11_waysThatCanBe_51 : List Nat := 62 :: sX11_waysThatCanBe_52
noncomputable def sX11_waysThatCanBe_50 : List Nat := 3 :: sX11_waysThatCanBe_51
noncomputable def sX11_waysThatCanBe_49 : List Nat := 61 :: sX11_waysThatCanBe_50
noncomputable def sX11_waysThatCanBe_48 : List Nat := 128 :: sX11_waysThatCanBe_49
noncomputable def sX11_waysThatCanBe_47 : List Nat := 5 :: sX11_waysThatCanBe_48
noncomputable def sX11_waysThatCanBe_46 : List Nat := 28 :: sX11_waysThatCanBe_47
noncomputable def sX11_waysThatCanBe_43 : List Nat := 154 :: 0 :: 7 :: sX11_waysThatCanBe_46
noncomputable def sX11_waysThatCanBe_40 : List Nat := 182 :: 0 :: 240 :: sX11_waysThatCanBe_43
noncomputable def sX11_waysThatCanBe_39 : List Nat := 3 :: sX11_waysThatCanBe_40
noncomputable def sX11_waysThatCanBe_38 : List Nat := 4 :: sX11_waysThatCanBe_39
noncomputable def sX11_waysThatCanBe_37 : List Nat := 27 :: sX11_waysThatCanBe_38
noncomputable def sX11_waysThatCanBe_34 : List Nat := 180 :: 0 :: 131 :: sX11_waysThatCanBe_37
noncomputable def sX11_waysThatCanBe_31 : List Nat := 180 :: 0 :: 19 :: sX11_waysThatCanBe_34
noncomputable def sX11_waysThatCanBe_30 : List Nat := 42 :: sX11_waysThatCanBe_31
noncomputable def sX11_waysThatCanBe_27 : List Nat := 180 :: 0 :: 29 :: sX11_waysThatCanBe_30
noncomputable def sX11_waysThatCanBe_26 : List Nat := 42 :: sX11_waysThatCanBe_27
noncomputable def sX11_waysThatCanBe_25 : List Nat := 61 :: sX11_waysThatCanBe_26
noncomputable def sX11_waysThatCanBe_24 : List Nat := 128 :: sX11_waysThatCanBe_25
noncomputable def sX11_waysThatCanBe_23 : List Nat := 4 :: sX11_waysThatCanBe_24
noncomputable def sX11_waysThatCanBe_22 : List Nat := 28 :: sX11_waysThatCanBe_23
noncomputable def sX11_waysThatCanBe_19 : List Nat := 154 :: 0 :: 7 :: sX11_waysThatCanBe_22
noncomputable def sX11_waysThatCanBe_16 : List Nat := 182 :: 0 :: 240 :: sX11_waysThatCanBe_19
noncomputable def sX11_waysThatCanBe_15 : List Nat := 3 :: sX11_waysThatCanBe_16
noncomputable def sX11_waysThatCanBe_14 : List Nat := 3 :: sX11_waysThatCanBe_15
noncomputable def sX11_waysThatCanBe_13 : List Nat := 27 :: sX11_waysThatCanBe_14
noncomputable def sX11_waysThatCanBe_10 : List Nat := 180 :: 0 :: 131 :: sX11_waysThatCanBe_13
noncomputable def sX11_waysThatCanBe_7 : List Nat := 180 :: 0 :: 19 :: sX11_waysThatCanBe_10
noncomputable def sX11_waysThatCanBe_6 : List Nat := 42 :: sX11_waysThatCanBe_7
noncomputable def sX11_waysThatCanBe_3 : List Nat := 180 :: 0 :: 29 :: sX11_waysThatCanBe_6
noncomputable def sX11_waysThatCanBe_2 : List Nat := 42 :: sX11_waysThatCanBe_3
noncomputable def sX11_waysThatCanBe_1 : List Nat := 61 :: sX11_waysThatCanBe_2
noncomputable def sX11_waysThatCanBe_0 : List Nat := 3 :: sX11_waysThatCanBe_1
theorem aX11_waysThatCanBe_0 : dc_at cX11_waysThatCanBe 0 sX11_waysThatCanBe_0 := dc_base (by decide +kernel)
theorem aX11_waysThatCanBe_1 : dc_at cX11_waysThatCanBe 1 sX11_waysThatCanBe_1 := dc_n1 aX11_waysThatCanBe_0
theorem aX11_waysThatCanBe_2 : dc_at cX11_waysThatCanBe 2 sX11_waysThatCanBe_2 := dc_n1 aX11_waysThatCanBe_1
theorem aX11_waysThatCanBe_3 : dc_at cX11_waysThatCanBe 3 sX11_waysThatCanBe_3 := dc_n1 aX11_waysThatCanBe_2
theorem aX11_waysThatCanBe_6 : dc_at cX11_waysThatCanBe 6 sX11_waysThatCanBe_6 := dc_n3 aX11_waysThatCanBe_3
theorem aX11_waysThatCanBe_7 : dc_at cX11_waysThatCanBe 7 sX11_waysThatCanBe_7 := dc_n1 aX11_waysThatCanBe_6
theorem aX11_waysThatCanBe_10 : dc_at cX11_waysThatCanBe 10 sX11_waysThatCanBe_10 := dc_n3 aX11_waysThatCanBe_7
theorem aX11_waysThatCanBe_13 : dc_at cX11_waysThatCanBe 13 sX11_waysThatCanBe_13 := dc_n3 aX11_waysThatCanBe_10
theorem aX11_waysThatCanBe_14 : dc_at cX11_waysThatCanBe 14 sX11_waysThatCanBe_14 := dc_n1 aX11_waysThatCanBe_13
theorem aX11_waysThatCanBe_15 : dc_at cX11_waysThatCanBe 15 sX11_waysThatCanBe_15 := dc_n1 aX11_waysThatCanBe_14
theorem aX11_waysThatCanBe_16 : dc_at cX11_waysThatCanBe 16 sX11_waysThatCanBe_16 := dc_n1 aX11_waysThatCanBe_15
theorem aX11_waysThatCanBe_19 : dc_at cX11_waysThatCanBe 19 sX11_waysThatCanBe_19 := dc_n3 aX11_waysThatCanBe_16
theorem aX11_waysThatCanBe_22 : dc_at cX11_waysThatCanBe 22 sX11_waysThatCanBe_22 := dc_n3 aX11_waysThatCanBe_19
theorem aX11_waysThatCanBe_23 : dc_at cX11_waysThatCanBe 23 sX11_waysThatCanBe_23 := dc_n1 aX11_waysThatCanBe_22
theorem aX11_waysThatCanBe_24 : dc_at cX11_waysThatCanBe 24 sX11_waysThatCanBe_24 := dc_n1 aX11_waysThatCanBe_23
theorem aX11_waysThatCanBe_25 : dc_at cX11_waysThatCanBe 25 sX11_waysThatCanBe_25 := dc_n1 aX11_waysThatCanBe_24
theorem aX11_waysThatCanBe_26 : dc_at cX11_waysThatCanBe 26 sX11_waysThatCanBe_26 := dc_n1 aX11_waysThatCanBe_25
theorem aX11_waysThatCanBe_27 : dc_at cX11_waysThatCanBe 27 sX11_waysThatCanBe_27 := dc_n1 aX11_waysThatCanBe_26
theorem aX11_waysThatCanBe_30 : dc_at cX11_waysThatCanBe 30 sX11_waysThatCanBe_30 := dc_n3 aX11_waysThatCanBe_27
theorem aX11_waysThatCanBe_31 : dc_at cX11_waysThatCanBe 31 sX11_waysThatCanBe_31 := dc_n1 aX11_waysThatCanBe_30
theorem aX11_waysThatCanBe_34 : dc_at cX11_waysThatCanBe 34 sX11_waysThatCanBe_34 := dc_n3 aX11_waysThatCanBe_31
theorem aX11_waysThatCanBe_37 : dc_at cX11_waysThatCanBe 37 sX11_waysThatCanBe_37 := dc_n3 aX11_waysThatCanBe_34
theorem aX11_waysThatCanBe_38 : dc_at cX11_waysThatCanBe 38 sX11_waysThatCanBe_38 := dc_n1 aX11_waysThatCanBe_37
theorem aX11_waysThatCanBe_39 : dc_at cX11_waysThatCanBe 39 sX11_waysThatCanBe_39 := dc_n1 aX11_waysThatCanBe_38
theorem aX11_waysThatCanBe_40 : dc_at cX11_waysThatCanBe 40 sX11_waysThatCanBe_40 := dc_n1 aX11_waysThatCanBe_39
theorem aX11_waysThatCanBe_43 : dc_at cX11_waysThatCanBe 43 sX11_waysThatCanBe_43 := dc_n3 aX11_waysThatCanBe_40
theorem aX11_waysThatCanBe_46 : dc_at cX11_waysThatCanBe 46 sX11_waysThatCanBe_46 := dc_n3 aX11_waysThatCanBe_43
theorem aX11_waysThatCanBe_47 : dc_at cX11_waysThatCanBe 47 sX11_waysThatCanBe_47 := dc_n1 aX11_waysThatCanBe_46
theorem aX11_waysThatCanBe_48 : dc_at cX11_waysThatCanBe 48 sX11_waysThatCanBe_48 := dc_n1 aX11_waysThatCanBe_47
theorem aX11_waysThatCanBe_49 : dc_at cX11_waysThatCanBe 49 sX11_waysThatCanBe_49 := dc_n1 aX11_waysThatCanBe_48
theorem aX11_waysThatCanBe_50 : dc_at cX11_waysThatCanBe 50 sX11_waysThatCanBe_50 := dc_n1 aX11_waysThatCanBe_49
theorem aX11_waysThatCanBe_51 : dc_at cX11_waysThatCanBe 51 sX11_waysThatCanBe_51 := dc_n1 aX11_waysThatCanBe_50
theorem aX11_waysThatCanBe_52 : dc_at cX11_waysThatCanBe 52 sX11_waysThatCanBe_52 := dc_n1 aX11_waysThatCanBe_51
theorem aX11_waysThatCanBe_53 : dc_at cX11_waysThatCanBe 53 sX11_waysThatCanBe_53 := dc_n1 aX11_waysThatCanBe_52
theorem aX11_waysThatCanBe_54 : dc_at cX11_waysThatCanBe 54 sX11_waysThatCanBe_54 := dc_n1 aX11_waysThatCanBe_53
theorem aX11_waysThatCanBe_57 : dc_at cX11_waysThatCanBe 57 sX11_waysThatCanBe_57 := dc_n3 aX11_waysThatCanBe_54
theorem aX11_waysThatCanBe_60 : dc_at cX11_waysThatCanBe 60 sX11_waysThatCanBe_60 := dc_n3 aX11_waysThatCanBe_57
theorem aX11_waysThatCanBe_63 : dc_at cX11_waysThatCanBe 63 sX11_waysThatCanBe_63 := dc_n3 aX11_waysThatCanBe_60
theorem aX11_waysThatCanBe_66 : dc_at cX11_waysThatCanBe 66 sX11_waysThatCanBe_66 := dc_n3 aX11_waysThatCanBe_63
theorem aX11_waysThatCanBe_67 : dc_at cX11_waysThatCanBe 67 sX11_waysThatCanBe_67 := dc_n1 aX11_waysThatCanBe_66
theorem aX11_waysThatCanBe_70 : dc_at cX11_waysThatCanBe 70 sX11_waysThatCanBe_70 := dc_n3 aX11_waysThatCanBe_67
theorem aX11_waysThatCanBe_71 : dc_at cX11_waysThatCanBe 71 sX11_waysThatCanBe_71 := dc_n1 aX11_waysThatCanBe_70
theorem aX11_waysThatCanBe_74 : dc_at cX11_waysThatCanBe 74 sX11_waysThatCanBe_74 := dc_n3 aX11_waysThatCanBe_71
theorem aX11_waysThatCanBe_77 : dc_at cX11_waysThatCanBe 77 sX11_waysThatCanBe_77 := dc_n3 aX11_waysThatCanBe_74
theorem aX11_waysThatCanBe_78 : dc_at cX11_waysThatCanBe 78 sX11_waysThatCanBe_78 := dc_n1 aX11_waysThatCanBe_77
theorem aX11_waysThatCanBe_79 : dc_at cX11_waysThatCanBe 79 sX11_waysThatCanBe_79 := dc_n1 aX11_waysThatCanBe_78
theorem aX11_waysThatCanBe_80 : dc_at cX11_waysThatCanBe 80 sX11_waysThatCanBe_80 := dc_n1 aX11_waysThatCanBe_79
theorem aX11_waysThatCanBe_83 : dc_at cX11_waysThatCanBe 83 sX11_waysThatCanBe_83 := dc_n3 aX11_waysThatCanBe_80
theorem aX11_waysThatCanBe_86 : dc_at cX11_waysThatCanBe 86 sX11_waysThatCanBe_86 := dc_n3 aX11_waysThatCanBe_83
theorem aX11_waysThatCanBe_87 : dc_at cX11_waysThatCanBe 87 sX11_waysThatCanBe_87 := dc_n1 aX11_waysThatCanBe_86
theorem aX11_waysThatCanBe_88 : dc_at cX11_waysThatCanBe 88 sX11_waysThatCanBe_88 := dc_n1 aX11_waysThatCanBe_87
theorem aX11_waysThatCanBe_89 : dc_at cX11_waysThatCanBe 89 sX11_waysThatCanBe_89 := dc_n1 aX11_waysThatCanBe_88
theorem aX11_waysThatCanBe_90 : dc_at cX11_waysThatCanBe 90 sX11_waysThatCanBe_90 := dc_n1 aX11_waysThatCanBe_89
theorem aX11_waysThatCanBe_93 : dc_at cX11_waysThatCanBe 93 sX11_waysThatCanBe_93 := dc_n3 aX11_waysThatCanBe_90
theorem aX11_waysThatCanBe_96 : dc_at cX11_waysThatCanBe 96 sX11_waysThatCanBe_96 := dc_n3 aX11_waysThatCanBe_93
theorem aX11_waysThatCanBe_97 : dc_at cX11_waysThatCanBe 97 sX11_waysThatCanBe_97 := dc_n1 aX11_waysThatCanBe_96
theorem dX11_waysThatCanBe_0 : decode cX11_waysThatCanBe 0 = .ok (.iconst 0, 1) := dc_3 aX11_waysThatCanBe_0
theorem dX11_waysThatCanBe_1 : decode cX11_waysThatCanBe 1 = .ok (.istore_n 2, 1) := dc_61 aX11_waysThatCanBe_1
theorem dX11_waysThatCanBe_2 : decode cX11_waysThatCanBe 2 = .ok (.aload_n 0, 1) := dc_42 aX11_waysThatCanBe_2
theorem dX11_waysThatCanBe_3 : decode cX11_waysThatCanBe 3 = .ok (.getfield 29, 3) := dc_180 (a0 := 0) (b0 := 29) aX11_waysThatCanBe_3
theorem dX11_waysThatCanBe_6 : decode cX11_waysThatCanBe 6 = .ok (.aload_n 0, 1) := dc_42 aX11_waysThatCanBe_6
theorem dX11_waysThatCanBe_7 : decode cX11_waysThatCanBe 7 = .ok (.getfield 19, 3) := dc_180 (a0 := 0) (b0 := 19) aX11_waysThatCanBe_7
theorem dX11_waysThatCanBe_10 : decode cX11_waysThatCanBe 10 = .ok (.getfield 131, 3) := dc_180 (a0 := 0) (b0 := 131) aX11_waysThatCanBe_10
theorem dX11_waysThatCanBe_13 : decode cX11_waysThatCanBe 13 = .ok (.iload_n 1, 1) := dc_27 aX11_waysThatCanBe_13
theorem dX11_waysThatCanBe_14 : decode cX11_waysThatCanBe 14 = .ok (.iconst 0, 1) := dc_3 aX11_waysThatCanBe_14
theorem dX11_waysThatCanBe_15 : decode cX11_waysThatCanBe 15 = .ok (.iconst 0, 1) := dc_3 aX11_waysThatCanBe_15
theorem dX11_waysThatCanBe_16 : decode cX11_waysThatCanBe 16 = .ok (.invokevirtual 240, 3) := dc_182 (a0 := 0) (b0 := 240) aX11_waysThatCanBe_16
theorem dX11_waysThatCanBe_19 : decode cX11_waysThatCanBe 19 = .ok (.ifCond .ne 7, 3) := dc_154 (a0 := 0) (b0 := 7) aX11_waysThatCanBe_19 (by decide)
theorem dX11_waysThatCanBe_22 : decode cX11_waysThatCanBe 22 = .ok (.iload_n 2, 1) := dc_28 aX11_waysThatCanBe_22
theorem dX11_waysThatCanBe_23 : decode cX11_waysThatCanBe 23 = .ok (.iconst 1, 1) := dc_4 aX11_waysThatCanBe_23
theorem dX11_waysThatCanBe_24 : decode cX11_waysThatCanBe 24 = .ok (.ior, 1) := dc_128 aX11_waysThatCanBe_24
theorem dX11_waysThatCanBe_25 : decode cX11_waysThatCanBe 25 = .ok (.istore_n 2, 1) := dc_61 aX11_waysThatCanBe_25
theorem dX11_waysThatCanBe_26 : decode cX11_waysThatCanBe 26 = .ok (.aload_n 0, 1) := dc_42 aX11_waysThatCanBe_26
theorem dX11_waysThatCanBe_27 : decode cX11_waysThatCanBe 27 = .ok (.getfield 29, 3) := dc_180 (a0 := 0) (b0 := 29) aX11_waysThatCanBe_27
theorem dX11_waysThatCanBe_30 : decode cX11_waysThatCanBe 30 = .ok (.aload_n 0, 1) := dc_42 aX11_waysThatCanBe_30
theorem dX11_waysThatCanBe_31 : decode cX11_waysThatCanBe 31 = .ok (.getfield 19, 3) := dc_180 (a0 := 0) (b0 := 19) aX11_waysThatCanBe_31
theorem dX11_waysThatCanBe_34 : decode cX11_waysThatCanBe 34 = .ok (.getfield 131, 3) := dc_180 (a0 := 0) (b0 := 131) aX11_waysThatCanBe_34
theorem dX11_waysThatCanBe_37 : decode cX11_waysThatCanBe 37 = .ok (.iload_n 1, 1) := dc_27 aX11_waysThatCanBe_37
theorem dX11_waysThatCanBe_38 : decode cX11_waysThatCanBe 38 = .ok (.iconst 1, 1) := dc_4 aX11_waysThatCanBe_38
theorem dX11_waysThatCanBe_39 : decode cX11_waysThatCanBe 39 = .ok (.iconst 0, 1) := dc_3 aX11_waysThatCanBe_39
theorem dX11_waysThatCanBe_40 : decode cX11_waysThatCanBe 40 = .ok (.invokevirtual 240, 3) := dc_182 (a0 := 0) (b0 := 240) aX11_waysThatCanBe_40
theorem dX11_waysThatCanBe_43 : decode cX11_waysThatCanBe 43 = .ok (.ifCond .ne 7, 3) := dc_154 (a0 := 0) (b0 := 7) aX11_waysThatCanBe_43 (by decide)
theorem dX11_waysThatCanBe_46 : decode cX11_waysThatCanBe 46 = .ok (.iload_n 2, 1) := dc_28 aX11_waysThatCanBe_46
theorem dX11_waysThatCanBe_47 : decode cX11_waysThatCanBe 47 = .ok (.iconst 2, 1) := dc_5 aX11_waysThatCanBe_47
theorem dX11_waysThatCanBe_48 : decode cX11_waysThatCanBe 48 = .ok (.ior, 1) := dc_128 aX11_waysThatCanBe_48
theorem dX11_waysThatCanBe_49 : decode cX11_waysThatCanBe 49 = .ok (.istore_n 2, 1) := dc_61 aX11_waysThatCanBe_49
theorem dX11_waysThatCanBe_50 : decode cX11_waysThatCanBe 50 = .ok (.iconst 0, 1) := dc_3 aX11_waysThatCanBe_50
theorem dX11_waysThatCanBe_51 : decode cX11_waysThatCanBe 51 = .ok (.istore_n 3, 1) := dc_62 aX11_waysThatCanBe_51
theorem dX11_waysThatCanBe_52 : decode cX11_waysThatCanBe 52 = .ok (.iload_n 3, 1) := dc_29 aX11_waysThatCanBe_52
theorem dX11_waysThatCanBe_53 : decode cX11_waysThatCanBe 53 = .ok (.aload_n 0, 1) := dc_42 aX11_waysThatCanBe_53
theorem dX11_waysThatCanBe_54 : decode cX11_waysThatCanBe 54 = .ok (.getfield 19, 3) := dc_180 (a0 := 0) (b0 := 19) aX11_waysThatCanBe_54
theorem dX11_waysThatCanBe_57 : decode cX11_waysThatCanBe 57 = .ok (.getfield 131, 3) := dc_180 (a0 := 0) (b0 := 131) aX11_waysThatCanBe_57
theorem dX11_waysThatCanBe_60 : decode cX11_waysThatCanBe 60 = .ok (.getfield 135, 3) := dc_180 (a0 := 0) (b0 := 135) aX11_waysThatCanBe_60
theorem dX11_waysThatCanBe_63 : decode cX11_waysThatCanBe 63 = .ok (.if_icmp .ge 33, 3) := dc_162 (a0 := 0) (b0 := 33) aX11_waysThatCanBe_63 (by decide)
theorem dX11_waysThatCanBe_66 : decode cX11_waysThatCanBe 66 = .ok (.aload_n 0, 1) := dc_42 aX11_waysThatCanBe_66
theorem dX11_waysThatCanBe_67 : decode cX11_waysThatCanBe 67 = .ok (.getfield 29, 3) := dc_180 (a0 := 0) (b0 := 29) aX11_waysThatCanBe_67
theorem dX11_waysThatCanBe_70 : decode cX11_waysThatCanBe 70 = .ok (.aload_n 0, 1) := dc_42 aX11_waysThatCanBe_70
theorem dX11_waysThatCanBe_71 : decode cX11_waysThatCanBe 71 = .ok (.getfield 19, 3) := dc_180 (a0 := 0) (b0 := 19) aX11_waysThatCanBe_71
theorem dX11_waysThatCanBe_74 : decode cX11_waysThatCanBe 74 = .ok (.getfield 131, 3) := dc_180 (a0 := 0) (b0 := 131) aX11_waysThatCanBe_74
theorem dX11_waysThatCanBe_77 : decode cX11_waysThatCanBe 77 = .ok (.iload_n 1, 1) := dc_27 aX11_waysThatCanBe_77
theorem dX11_waysThatCanBe_78 : decode cX11_waysThatCanBe 78 = .ok (.iconst 2, 1) := dc_5 aX11_waysThatCanBe_78
theorem dX11_waysThatCanBe_79 : decode cX11_waysThatCanBe 79 = .ok (.iload_n 3, 1) := dc_29 aX11_waysThatCanBe_79
theorem dX11_waysThatCanBe_80 : decode cX11_waysThatCanBe 80 = .ok (.invokevirtual 240, 3) := dc_182 (a0 := 0) (b0 := 240) aX11_waysThatCanBe_80
theorem dX11_waysThatCanBe_83 : decode cX11_waysThatCanBe 83 = .ok (.ifCond .ne 7, 3) := dc_154 (a0 := 0) (b0 := 7) aX11_waysThatCanBe_83 (by decide)
theorem dX11_waysThatCanBe_86 : decode cX11_waysThatCanBe 86 = .ok (.iload_n 2, 1) := dc_28 aX11_waysThatCanBe_86
theorem dX11_waysThatCanBe_87 : decode cX11_waysThatCanBe 87 = .ok (.iconst 4, 1) := dc_7 aX11_waysThatCanBe_87
theorem dX11_waysThatCanBe_88 : decode cX11_waysThatCanBe 88 = .ok (.ior, 1) := dc_128 aX11_waysThatCanBe_88
theorem dX11_waysThatCanBe_89 : decode cX11_waysThatCanBe 89 = .ok (.istore_n 2, 1) := dc_61 aX11_waysThatCanBe_89
theorem dX11_waysThatCanBe_90 : decode cX11_waysThatCanBe 90 = .ok (.iinc 3 1, 3) := dc_132 (a0 := 3) (a1 := 1) aX11_waysThatCanBe_90 (by decide)
theorem dX11_waysThatCanBe_93 : decode cX11_waysThatCanBe 93 = .ok (.goto (-41), 3) := dc_167 (a0 := 255) (b0 := 215) aX11_waysThatCanBe_93 (by decide)
theorem dX11_waysThatCanBe_96 : decode cX11_waysThatCanBe 96 = .ok (.iload_n 2, 1) := dc_28 aX11_waysThatCanBe_96
theorem dX11_waysThatCanBe_97 : decode cX11_waysThatCanBe 97 = .ok (.ireturn, 1) := dc_172 aX11_waysThatCanBe_97
set_option maxRecDepth 20000 in
theorem ggX11_climatesThatCanBe_X1_degreeOf : GoodIn wsX11_climatesThatCanBe wsX1_degreeOf := goodIn_k _ [[9, 0, 66, 0]] (by rfl) (by decide +kernel)
set_option maxRecDepth 20000 in
theorem gX11_climatesThatCanBe_X1_degreeOf : GoodIn wsX11_climatesThatCanBe (wsV RX11 175 RX1 yX1_degreeOf wsX1_degreeOf) := goodIn_app (goodIn_of _ (by decide +kernel)) ggX11_climatesThatCanBe_X1_degreeOf
set_option maxRecDepth 20000 in
theorem ggX11_climatesThatCanBe_X1_howManyDiffer : GoodIn wsX11_climatesThatCanBe wsX1_howManyDiffer := goodIn_k _ [[14, 0], [6, 0, 0, 0, 0, 5, 0, 0, 0, 0, 0, 0, 0, 0, 0, 0, 0, 0, 0, 0, 0, 0, 0, 0, 0, 0, 0, 0, 0, 0, 0, 0, 0, 33, 0], [75, 0]] (by rfl) (by decide +kernel)
set_option maxRecDepth 20000 in
theorem gX11_climatesThatCanBe_X1_howManyDiffer : GoodIn wsX11_climatesThatCanBe (wsV RX11 240 RX1 yX1_howManyDiffer wsX1_howManyDiffer) := goodIn_app (goodIn_of _ (by decide +kernel)) ggX11_climatesThatCanBe_X1_howManyDiffer
set_option maxRecDepth 20000 in
theorem ggX11_climatesThatCanBe_X2_hasHour : GoodIn wsX11_climatesThatCanBe wsX2_hasHour := goodIn_k _ [[47, 0, 0, 0], [19, 31, 0, 0, 0, 0], [30, 0, 0, 0, 0, 0, 4, 0, 0, 0, 31, 0]] (by rfl) (by decide +kernel)
set_option maxRecDepth 20000 in
theorem gX11_climatesThatCanBe_X2_hasHour : GoodIn wsX11_climatesThatCanBe (wsV RX11 378 RX2 yX2_hasHour wsX2_hasHour) := goodIn_app (goodIn_of _ (by decide +kernel)) ggX11_climatesThatCanBe_X2_hasHour
noncomputable def sX11_climatesThatCanBe_109 : List Nat := 172 :: []
noncomputable def sX11_climatesThatCanBe_107 : List Nat := 21 :: 4 :: sX11_climatesThatCanBe_109
noncomputable def sX11_climatesThatCanBe_104 : List Nat := 167 :: 255 :: 179 :: sX11_climatesThatCanBe_107
noncomputable def sX11_climatesThatCanBe_101 : List Nat := 132 :: 5 :: 1 :: sX11_climatesThatCanBe_104
noncomputable def sX11_climatesThatCanBe_99 : List Nat := 54 :: 4 :: sX11_climatesThatCanBe_101
noncomputable def sX11_climatesThatCanBe_98 : List Nat := 128 :: sX11_climatesThatCanBe_99
noncomputable def sX11_climatesThatCanBe_97 : List Nat := 120 :: sX11_climatesThatCanBe_98
noncomputable def sX11_climatesThatCanBe_95 : List Nat := 21 :: 5 :: sX11_climatesThatCanBe_97
noncomputable def sX11_climatesThatCanBe_94 : List Nat := 4 :: sX11_climatesThatCanBe_95
noncomputable def sX11_climatesThatCanBe_92 : List Nat := 21 :: 4 :: sX11_climatesThatCanBe_94
noncomputable def sX11_climatesThatCanBe_89 : List Nat := 153 :: 0 :: 12 :: sX11_climatesThatCanBe_92
noncomputable def sX11_climatesThatCanBe_86 : List Nat := 182 :: 1 :: 122 :: sX11_climatesThatCanBe_89
noncomputable def sX11_climatesThatCanBe_85 : List Nat := 29 :: sX11_climatesThatCanBe_86
noncomputable def sX11_climatesThatCanBe_84 : List Nat := 28 :: sX11_climatesThatCanBe_85
noncomputable def sX11_climatesThatCanBe_82 : List Nat := 21 :: 5 :: sX11_climatesThatCanBe_84
noncomputable def sX11_climatesThatCanBe_79 : List Nat := 180 :: 0 :: 131 :: sX11_climatesThatCanBe_82
noncomputable def sX11_climatesThatCanBe_76 : List Nat := 180 :: 0 :: 19 :: sX11_climatesThatCanBe_79
noncomputable def sX11_climatesThatCanBe_75 : List Nat := 42 :: sX11_climatesThatCanBe_76
noncomputable def sX11_climatesThatCanBe_72 : List Nat := 153 :: 0 :: 29 :: sX11_climatesThatCanBe_75
noncomputable def sX11_climatesThatCanBe_70 : List Nat := 21 :: 6 :: sX11_climatesThatCanBe_72
noncomputable def sX11_climatesThatCanBe_68 : List Nat := 54 :: 6 :: sX11_climatesThatCanBe_70
noncomputable def sX11_climatesThatCanBe_67 : List Nat := 3 :: sX11_climatesThatCanBe_68
noncomputable def sX11_climatesThatCanBe_64 : List Nat := 167 :: 0 :: 4 :: sX11_climatesThatCanBe_67
noncomputable def sX11_climatesThatCanBe_63 : List Nat := 4 :: sX11_climatesThatCanBe_64
noncomputable def sX11_climatesThatCanBe_60 : List Nat := 154 :: 0 :: 7 :: sX11_climatesThatCanBe_63
noncomputable def sX11_climatesThatCanBe_57 : List Nat := 182 :: 0 :: 240 :: sX11_climatesThatCanBe_60
noncomputable def sX11_climatesThatCanBe_55 : List Nat := 21 :: 5 :: sX11_climatesThatCanBe_57
noncomputable def sX11_climatesThatCanBe_54 : List Nat := 5 :: sX11_climatesThatCanBe_55
noncomputable def sX11_climatesThatCanBe_53 : List Nat := 27 :: sX11_climatesThatCanBe_54
noncomputable def sX11_climatesThatCanBe_50 : List Nat := 180 :: 0 :: 131 :: sX11_climatesThatCanBe_53
noncomputable def sX11_climatesThatCanBe_47 : List Nat := 180 :: 0 :: 19 :: sX11_climatesThatCanBe_50
noncomputable def sX11_climatesThatCanBe_46 : List Nat := 42 :: sX11_climatesThatCanBe_47
noncomputable def sX11_climatesThatCanBe_43 : List Nat := 180 :: 0 :: 29 :: sX11_climatesThatCanBe_46
noncomputable def sX11_climatesThatCanBe_42 : List Nat := 42 :: sX11_climatesThatCanBe_43
noncomputable def sX11_climatesThatCanBe_39 : List Nat := 162 :: 0 :: 68 :: sX11_climatesThatCanBe_42
noncomputable def sX11_climatesThatCanBe_36 : List Nat := 180 :: 0 :: 135 :: sX11_climatesThatCanBe_39
noncomputable def sX11_climatesThatCanBe_33 : List Nat := 180 :: 0 :: 131 :: sX11_climatesThatCanBe_36
noncomputable def sX11_climatesThatCanBe_30 : List Nat := 180 :: 0 :: 19 :: sX11_climatesThatCanBe_33
noncomputable def sX11_climatesThatCanBe_29 : List Nat := 42 :: sX11_climatesThatCanBe_30
noncomputable def sX11_climatesThatCanBe_27 : List Nat := 21 :: 5 :: sX11_climatesThatCanBe_29
noncomputable def sX11_climatesThatCanBe_25 : List Nat := 54 :: 5 :: sX11_climatesThatCanBe_27
noncomputable def sX11_climatesThatCanBe_24 : List Nat := 3 :: sX11_climatesThatCanBe_25
noncomputable def sX11_climatesThatCanBe_22 : List Nat := 54 :: 4 :: sX11_climatesThatCanBe_24
noncomputable def sX11_climatesThatCanBe_21 : List Nat := 3 :: sX11_climatesThatCanBe_22
noncomputable def sX11_climatesThatCanBe_20 : List Nat := 62 :: sX11_climatesThatCanBe_21
noncomputable def sX11_climatesThatCanBe_17 : List Nat := 182 :: 0 :: 175 :: sX11_climatesThatCanBe_20
noncomputable def sX11_climatesThatCanBe_15 : List Nat := 16 :: 7 :: sX11_climatesThatCanBe_17
noncomputable def sX11_climatesThatCanBe_14 : List Nat := 27 :: sX11_climatesThatCanBe_15
noncomputable def sX11_climatesThatCanBe_11 : List Nat := 180 :: 0 :: 29 :: sX11_climatesThatCanBe_14
noncomputable def sX11_climatesThatCanBe_10 : List Nat := 42 :: sX11_climatesThatCanBe_11
noncomputable def sX11_climatesThatCanBe_9 : List Nat := 61 :: sX11_climatesThatCanBe_10
noncomputable def sX11_climatesThatCanBe_6 : List Nat := 182 :: 0 :: 175 :: sX11_climatesThatCanBe_9
noncomputable def sX11_climatesThatCanBe_5 : List Nat := 3 :: sX11_climatesThatCanBe_6
noncomputable def sX11_climatesThatCanBe_4 : List Nat := 27 :: sX11_climatesThatCanBe_5
noncomputable def sX11_climatesThatCanBe_1 : List Nat := 180 :: 0 :: 29 :: sX11_climatesThatCanBe_4
noncomputable def sX11_climatesThatCanBe_0 : List Nat := 42 :: sX11_climatesThatCanBe_1
theorem aX11_climatesThatCanBe_0 : dc_at cX11_climatesThatCanBe 0 sX11_climatesThatCanBe_0 := dc_base (by decide +kernel)
theorem aX11_climatesThatCanBe_1 : dc_at cX11_climatesThatCanBe 1 sX11_climatesThatCanBe_1 := dc_n1 aX11_climatesThatCanBe_0
theorem aX11_climatesThatCanBe_4 : dc_at cX11_climatesThatCanBe 4 sX11_climatesThatCanBe_4 := dc_n3 aX11_climatesThatCanBe_1
theorem aX11_climatesThatCanBe_5 : dc_at cX11_climatesThatCanBe 5 sX11_climatesThatCanBe_5 := dc_n1 aX11_climatesThatCanBe_4
theorem aX11_climatesThatCanBe_6 : dc_at cX11_climatesThatCanBe 6 sX11_climatesThatCanBe_6 := dc_n1 aX11_climatesThatCanBe_5
theorem aX11_climatesThatCanBe_9 : dc_at cX11_climatesThatCanBe 9 sX11_climatesThatCanBe_9 := dc_n3 aX11_climatesThatCanBe_6
theorem aX11_climatesThatCanBe_10 : dc_at cX11_climatesThatCanBe 10 sX11_climatesThatCanBe_10 := dc_n1 aX11_climatesThatCanBe_9
theorem aX11_climatesThatCanBe_11 : dc_at cX11_climatesThatCanBe 11 sX11_climatesThatCanBe_11 := dc_n1 aX11_climatesThatCanBe_10
theorem aX11_climatesThatCanBe_14 : dc_at cX11_climatesThatCanBe 14 sX11_climatesThatCanBe_14 := dc_n3 aX11_climatesThatCanBe_11
theorem aX11_climatesThatCanBe_15 : dc_at cX11_climatesThatCanBe 15 sX11_climatesThatCanBe_15 := dc_n1 aX11_climatesThatCanBe_14
theorem aX11_climatesThatCanBe_17 : dc_at cX11_climatesThatCanBe 17 sX11_climatesThatCanBe_17 := dc_n2 aX11_climatesThatCanBe_15
theorem aX11_climatesThatCanBe_20 : dc_at cX11_climatesThatCanBe 20 sX11_climatesThatCanBe_20 := dc_n3 aX11_climatesThatCanBe_17
theorem aX11_climatesThatCanBe_21 : dc_at cX11_climatesThatCanBe 21 sX11_climatesThatCanBe_21 := dc_n1 aX11_climatesThatCanBe_20
theorem aX11_climatesThatCanBe_22 : dc_at cX11_climatesThatCanBe 22 sX11_climatesThatCanBe_22 := dc_n1 aX11_climatesThatCanBe_21
theorem aX11_climatesThatCanBe_24 : dc_at cX11_climatesThatCanBe 24 sX11_climatesThatCanBe_24 := dc_n2 aX11_climatesThatCanBe_22
theorem aX11_climatesThatCanBe_25 : dc_at cX11_climatesThatCanBe 25 sX11_climatesThatCanBe_25 := dc_n1 aX11_climatesThatCanBe_24
theorem aX11_climatesThatCanBe_27 : dc_at cX11_climatesThatCanBe 27 sX11_climatesThatCanBe_27 := dc_n2 aX11_climatesThatCanBe_25
theorem aX11_climatesThatCanBe_29 : dc_at cX11_climatesThatCanBe 29 sX11_climatesThatCanBe_29 := dc_n2 aX11_climatesThatCanBe_27
theorem aX11_climatesThatCanBe_30 : dc_at cX11_climatesThatCanBe 30 sX11_climatesThatCanBe_30 := dc_n1 aX11_climatesThatCanBe_29
theorem aX11_climatesThatCanBe_33 : dc_at cX11_climatesThatCanBe 33 sX11_climatesThatCanBe_33 := dc_n3 aX11_climatesThatCanBe_30
theorem aX11_climatesThatCanBe_36 : dc_at cX11_climatesThatCanBe 36 sX11_climatesThatCanBe_36 := dc_n3 aX11_climatesThatCanBe_33
theorem aX11_climatesThatCanBe_39 : dc_at cX11_climatesThatCanBe 39 sX11_climatesThatCanBe_39 := dc_n3 aX11_climatesThatCanBe_36
theorem aX11_climatesThatCanBe_42 : dc_at cX11_climatesThatCanBe 42 sX11_climatesThatCanBe_42 := dc_n3 aX11_climatesThatCanBe_39
theorem aX11_climatesThatCanBe_43 : dc_at cX11_climatesThatCanBe 43 sX11_climatesThatCanBe_43 := dc_n1 aX11_climatesThatCanBe_42
theorem aX11_climatesThatCanBe_46 : dc_at cX11_climatesThatCanBe 46 sX11_climatesThatCanBe_46 := dc_n3 aX11_climatesThatCanBe_43
theorem aX11_climatesThatCanBe_47 : dc_at cX11_climatesThatCanBe 47 sX11_climatesThatCanBe_47 := dc_n1 aX11_climatesThatCanBe_46
theorem aX11_climatesThatCanBe_50 : dc_at cX11_climatesThatCanBe 50 sX11_climatesThatCanBe_50 := dc_n3 aX11_climatesThatCanBe_47
theorem aX11_climatesThatCanBe_53 : dc_at cX11_climatesThatCanBe 53 sX11_climatesThatCanBe_53 := dc_n3 aX11_climatesThatCanBe_50
theorem aX11_climatesThatCanBe_54 : dc_at cX11_climatesThatCanBe 54 sX11_climatesThatCanBe_54 := dc_n1 aX11_climatesThatCanBe_53
theorem aX11_climatesThatCanBe_55 : dc_at cX11_climatesThatCanBe 55 sX11_climatesThatCanBe_55 := dc_n1 aX11_climatesThatCanBe_54
theorem aX11_climatesThatCanBe_57 : dc_at cX11_climatesThatCanBe 57 sX11_climatesThatCanBe_57 := dc_n2 aX11_climatesThatCanBe_55
theorem aX11_climatesThatCanBe_60 : dc_at cX11_climatesThatCanBe 60 sX11_climatesThatCanBe_60 := dc_n3 aX11_climatesThatCanBe_57
theorem aX11_climatesThatCanBe_63 : dc_at cX11_climatesThatCanBe 63 sX11_climatesThatCanBe_63 := dc_n3 aX11_climatesThatCanBe_60
theorem aX11_climatesThatCanBe_64 : dc_at cX11_climatesThatCanBe 64 sX11_climatesThatCanBe_64 := dc_n1 aX11_climatesThatCanBe_63
theorem aX11_climatesThatCanBe_67 : dc_at cX11_climatesThatCanBe 67 sX11_climatesThatCanBe_67 := dc_n3 aX11_climatesThatCanBe_64
theorem aX11_climatesThatCanBe_68 : dc_at cX11_climatesThatCanBe 68 sX11_climatesThatCanBe_68 := dc_n1 aX11_climatesThatCanBe_67
theorem aX11_climatesThatCanBe_70 : dc_at cX11_climatesThatCanBe 70 sX11_climatesThatCanBe_70 := dc_n2 aX11_climatesThatCanBe_68
theorem aX11_climatesThatCanBe_72 : dc_at cX11_climatesThatCanBe 72 sX11_climatesThatCanBe_72 := dc_n2 aX11_climatesThatCanBe_70
theorem aX11_climatesThatCanBe_75 : dc_at cX11_climatesThatCanBe 75 sX11_climatesThatCanBe_75 := dc_n3 aX11_climatesThatCanBe_72
theorem aX11_climatesThatCanBe_76 : dc_at cX11_climatesThatCanBe 76 sX11_climatesThatCanBe_76 := dc_n1 aX11_climatesThatCanBe_75
theorem aX11_climatesThatCanBe_79 : dc_at cX11_climatesThatCanBe 79 sX11_climatesThatCanBe_79 := dc_n3 aX11_climatesThatCanBe_76
theorem aX11_climatesThatCanBe_82 : dc_at cX11_climatesThatCanBe 82 sX11_climatesThatCanBe_82 := dc_n3 aX11_climatesThatCanBe_79
theorem aX11_climatesThatCanBe_84 : dc_at cX11_climatesThatCanBe 84 sX11_climatesThatCanBe_84 := dc_n2 aX11_climatesThatCanBe_82
theorem aX11_climatesThatCanBe_85 : dc_at cX11_climatesThatCanBe 85 sX11_climatesThatCanBe_85 := dc_n1 aX11_climatesThatCanBe_84
theorem aX11_climatesThatCanBe_86 : dc_at cX11_climatesThatCanBe 86 sX11_climatesThatCanBe_86 := dc_n1 aX11_climatesThatCanBe_85
theorem aX11_climatesThatCanBe_89 : dc_at cX11_climatesThatCanBe 89 sX11_climatesThatCanBe_89 := dc_n3 aX11_climatesThatCanBe_86
theorem aX11_climatesThatCanBe_92 : dc_at cX11_climatesThatCanBe 92 sX11_climatesThatCanBe_92 := dc_n3 aX11_climatesThatCanBe_89
theorem aX11_climatesThatCanBe_94 : dc_at cX11_climatesThatCanBe 94 sX11_climatesThatCanBe_94 := dc_n2 aX11_climatesThatCanBe_92
theorem aX11_climatesThatCanBe_95 : dc_at cX11_climatesThatCanBe 95 sX11_climatesThatCanBe_95 := dc_n1 aX11_climatesThatCanBe_94
theorem aX11_climatesThatCanBe_97 : dc_at cX11_climatesThatCanBe 97 sX11_climatesThatCanBe_97 := dc_n2 aX11_climatesThatCanBe_95
theorem aX11_climatesThatCanBe_98 : dc_at cX11_climatesThatCanBe 98 sX11_climatesThatCanBe_98 := dc_n1 aX11_climatesThatCanBe_97
theorem aX11_climatesThatCanBe_99 : dc_at cX11_climatesThatCanBe 99 sX11_climatesThatCanBe_99 := dc_n1 aX11_climatesThatCanBe_98
theorem aX11_climatesThatCanBe_101 : dc_at cX11_climatesThatCanBe 101 sX11_climatesThatCanBe_101 := dc_n2 aX11_climatesThatCanBe_99
theorem aX11_climatesThatCanBe_104 : dc_at cX11_climatesThatCanBe 104 sX11_climatesThatCanBe_104 := dc_n3 aX11_climatesThatCanBe_101
theorem aX11_climatesThatCanBe_107 : dc_at cX11_climatesThatCanBe 107 sX11_climatesThatCanBe_107 := dc_n3 aX11_climatesThatCanBe_104
theorem aX11_climatesThatCanBe_109 : dc_at cX11_climatesThatCanBe 109 sX11_climatesThatCanBe_109 := dc_n2 aX11_climatesThatCanBe_107
theorem dX11_climatesThatCanBe_0 : decode cX11_climatesThatCanBe 0 = .ok (.aload_n 0, 1) := dc_42 aX11_climatesThatCanBe_0
theorem dX11_climatesThatCanBe_1 : decode cX11_climatesThatCanBe 1 = .ok (.getfield 29, 3) := dc_180 (a0 := 0) (b0 := 29) aX11_climatesThatCanBe_1
theorem dX11_climatesThatCanBe_4 : decode cX11_climatesThatCanBe 4 = .ok (.iload_n 1, 1) := dc_27 aX11_climatesThatCanBe_4
theorem dX11_climatesThatCanBe_5 : decode cX11_climatesThatCanBe 5 = .ok (.iconst 0, 1) := dc_3 aX11_climatesThatCanBe_5
theorem dX11_climatesThatCanBe_6 : decode cX11_climatesThatCanBe 6 = .ok (.invokevirtual 175, 3) := dc_182 (a0 := 0) (b0 := 175) aX11_climatesThatCanBe_6
theorem dX11_climatesThatCanBe_9 : decode cX11_climatesThatCanBe 9 = .ok (.istore_n 2, 1) := dc_61 aX11_climatesThatCanBe_9
theorem dX11_climatesThatCanBe_10 : decode cX11_climatesThatCanBe 10 = .ok (.aload_n 0, 1) := dc_42 aX11_climatesThatCanBe_10
theorem dX11_climatesThatCanBe_11 : decode cX11_climatesThatCanBe 11 = .ok (.getfield 29, 3) := dc_180 (a0 := 0) (b0 := 29) aX11_climatesThatCanBe_11
theorem dX11_climatesThatCanBe_14 : decode cX11_climatesThatCanBe 14 = .ok (.iload_n 1, 1) := dc_27 aX11_climatesThatCanBe_14
theorem dX11_climatesThatCanBe_15 : decode cX11_climatesThatCanBe 15 = .ok (.bipush 7, 2) := dc_16 (a0 := 7) aX11_climatesThatCanBe_15 (by decide)
theorem dX11_climatesThatCanBe_17 : decode cX11_climatesThatCanBe 17 = .ok (.invokevirtual 175, 3) := dc_182 (a0 := 0) (b0 := 175) aX11_climatesThatCanBe_17
theorem dX11_climatesThatCanBe_20 : decode cX11_climatesThatCanBe 20 = .ok (.istore_n 3, 1) := dc_62 aX11_climatesThatCanBe_20
theorem dX11_climatesThatCanBe_21 : decode cX11_climatesThatCanBe 21 = .ok (.iconst 0, 1) := dc_3 aX11_climatesThatCanBe_21
theorem dX11_climatesThatCanBe_22 : decode cX11_climatesThatCanBe 22 = .ok (.istore 4, 2) := dc_54 (a0 := 4) aX11_climatesThatCanBe_22
theorem dX11_climatesThatCanBe_24 : decode cX11_climatesThatCanBe 24 = .ok (.iconst 0, 1) := dc_3 aX11_climatesThatCanBe_24
theorem dX11_climatesThatCanBe_25 : decode cX11_climatesThatCanBe 25 = .ok (.istore 5, 2) := dc_54 (a0 := 5) aX11_climatesThatCanBe_25
theorem dX11_climatesThatCanBe_27 : decode cX11_climatesThatCanBe 27 = .ok (.iload 5, 2) := dc_21 (a0 := 5) aX11_climatesThatCanBe_27
theorem dX11_climatesThatCanBe_29 : decode cX11_climatesThatCanBe 29 = .ok (.aload_n 0, 1) := dc_42 aX11_climatesThatCanBe_29
theorem dX11_climatesThatCanBe_30 : decode cX11_climatesThatCanBe 30 = .ok (.getfield 19, 3) := dc_180 (a0 := 0) (b0 := 19) aX11_climatesThatCanBe_30
theorem dX11_climatesThatCanBe_33 : decode cX11_climatesThatCanBe 33 = .ok (.getfield 131, 3) := dc_180 (a0 := 0) (b0 := 131) aX11_climatesThatCanBe_33
theorem dX11_climatesThatCanBe_36 : decode cX11_climatesThatCanBe 36 = .ok (.getfield 135, 3) := dc_180 (a0 := 0) (b0 := 135) aX11_climatesThatCanBe_36
theorem dX11_climatesThatCanBe_39 : decode cX11_climatesThatCanBe 39 = .ok (.if_icmp .ge 68, 3) := dc_162 (a0 := 0) (b0 := 68) aX11_climatesThatCanBe_39 (by decide)
theorem dX11_climatesThatCanBe_42 : decode cX11_climatesThatCanBe 42 = .ok (.aload_n 0, 1) := dc_42 aX11_climatesThatCanBe_42
theorem dX11_climatesThatCanBe_43 : decode cX11_climatesThatCanBe 43 = .ok (.getfield 29, 3) := dc_180 (a0 := 0) (b0 := 29) aX11_climatesThatCanBe_43
theorem dX11_climatesThatCanBe_46 : decode cX11_climatesThatCanBe 46 = .ok (.aload_n 0, 1) := dc_42 aX11_climatesThatCanBe_46
theorem dX11_climatesThatCanBe_47 : decode cX11_climatesThatCanBe 47 = .ok (.getfield 19, 3) := dc_180 (a0 := 0) (b0 := 19) aX11_climatesThatCanBe_47
theorem dX11_climatesThatCanBe_50 : decode cX11_climatesThatCanBe 50 = .ok (.getfield 131, 3) := dc_180 (a0 := 0) (b0 := 131) aX11_climatesThatCanBe_50
theorem dX11_climatesThatCanBe_53 : decode cX11_climatesThatCanBe 53 = .ok (.iload_n 1, 1) := dc_27 aX11_climatesThatCanBe_53
theorem dX11_climatesThatCanBe_54 : decode cX11_climatesThatCanBe 54 = .ok (.iconst 2, 1) := dc_5 aX11_climatesThatCanBe_54
theorem dX11_climatesThatCanBe_55 : decode cX11_climatesThatCanBe 55 = .ok (.iload 5, 2) := dc_21 (a0 := 5) aX11_climatesThatCanBe_55
theorem dX11_climatesThatCanBe_57 : decode cX11_climatesThatCanBe 57 = .ok (.invokevirtual 240, 3) := dc_182 (a0 := 0) (b0 := 240) aX11_climatesThatCanBe_57
theorem dX11_climatesThatCanBe_60 : decode cX11_climatesThatCanBe 60 = .ok (.ifCond .ne 7, 3) := dc_154 (a0 := 0) (b0 := 7) aX11_climatesThatCanBe_60 (by decide)
theorem dX11_climatesThatCanBe_63 : decode cX11_climatesThatCanBe 63 = .ok (.iconst 1, 1) := dc_4 aX11_climatesThatCanBe_63
theorem dX11_climatesThatCanBe_64 : decode cX11_climatesThatCanBe 64 = .ok (.goto 4, 3) := dc_167 (a0 := 0) (b0 := 4) aX11_climatesThatCanBe_64 (by decide)
theorem dX11_climatesThatCanBe_67 : decode cX11_climatesThatCanBe 67 = .ok (.iconst 0, 1) := dc_3 aX11_climatesThatCanBe_67
theorem dX11_climatesThatCanBe_68 : decode cX11_climatesThatCanBe 68 = .ok (.istore 6, 2) := dc_54 (a0 := 6) aX11_climatesThatCanBe_68
theorem dX11_climatesThatCanBe_70 : decode cX11_climatesThatCanBe 70 = .ok (.iload 6, 2) := dc_21 (a0 := 6) aX11_climatesThatCanBe_70
theorem dX11_climatesThatCanBe_72 : decode cX11_climatesThatCanBe 72 = .ok (.ifCond .eq 29, 3) := dc_153 (a0 := 0) (b0 := 29) aX11_climatesThatCanBe_72 (by decide)
theorem dX11_climatesThatCanBe_75 : decode cX11_climatesThatCanBe 75 = .ok (.aload_n 0, 1) := dc_42 aX11_climatesThatCanBe_75
theorem dX11_climatesThatCanBe_76 : decode cX11_climatesThatCanBe 76 = .ok (.getfield 19, 3) := dc_180 (a0 := 0) (b0 := 19) aX11_climatesThatCanBe_76
theorem dX11_climatesThatCanBe_79 : decode cX11_climatesThatCanBe 79 = .ok (.getfield 131, 3) := dc_180 (a0 := 0) (b0 := 131) aX11_climatesThatCanBe_79
theorem dX11_climatesThatCanBe_82 : decode cX11_climatesThatCanBe 82 = .ok (.iload 5, 2) := dc_21 (a0 := 5) aX11_climatesThatCanBe_82
theorem dX11_climatesThatCanBe_84 : decode cX11_climatesThatCanBe 84 = .ok (.iload_n 2, 1) := dc_28 aX11_climatesThatCanBe_84
theorem dX11_climatesThatCanBe_85 : decode cX11_climatesThatCanBe 85 = .ok (.iload_n 3, 1) := dc_29 aX11_climatesThatCanBe_85
theorem dX11_climatesThatCanBe_86 : decode cX11_climatesThatCanBe 86 = .ok (.invokevirtual 378, 3) := dc_182 (a0 := 1) (b0 := 122) aX11_climatesThatCanBe_86
theorem dX11_climatesThatCanBe_89 : decode cX11_climatesThatCanBe 89 = .ok (.ifCond .eq 12, 3) := dc_153 (a0 := 0) (b0 := 12) aX11_climatesThatCanBe_89 (by decide)
theorem dX11_climatesThatCanBe_92 : decode cX11_climatesThatCanBe 92 = .ok (.iload 4, 2) := dc_21 (a0 := 4) aX11_climatesThatCanBe_92
theorem dX11_climatesThatCanBe_94 : decode cX11_climatesThatCanBe 94 = .ok (.iconst 1, 1) := dc_4 aX11_climatesThatCanBe_94
theorem dX11_climatesThatCanBe_95 : decode cX11_climatesThatCanBe 95 = .ok (.iload 5, 2) := dc_21 (a0 := 5) aX11_climatesThatCanBe_95
theorem dX11_climatesThatCanBe_97 : decode cX11_climatesThatCanBe 97 = .ok (.ishl, 1) := dc_120 aX11_climatesThatCanBe_97
theorem dX11_climatesThatCanBe_98 : decode cX11_climatesThatCanBe 98 = .ok (.ior, 1) := dc_128 aX11_climatesThatCanBe_98
theorem dX11_climatesThatCanBe_99 : decode cX11_climatesThatCanBe 99 = .ok (.istore 4, 2) := dc_54 (a0 := 4) aX11_climatesThatCanBe_99
theorem dX11_climatesThatCanBe_101 : decode cX11_climatesThatCanBe 101 = .ok (.iinc 5 1, 3) := dc_132 (a0 := 5) (a1 := 1) aX11_climatesThatCanBe_101 (by decide)
theorem dX11_climatesThatCanBe_104 : decode cX11_climatesThatCanBe 104 = .ok (.goto (-77), 3) := dc_167 (a0 := 255) (b0 := 179) aX11_climatesThatCanBe_104 (by decide)
theorem dX11_climatesThatCanBe_107 : decode cX11_climatesThatCanBe 107 = .ok (.iload 4, 2) := dc_21 (a0 := 4) aX11_climatesThatCanBe_107
theorem dX11_climatesThatCanBe_109 : decode cX11_climatesThatCanBe 109 = .ok (.ireturn, 1) := dc_172 aX11_climatesThatCanBe_109
noncomputable def sX12_init_380 : List Nat := 177 :: []
noncomputable def sX12_init_377 : List Nat := 167 :: 255 :: 233 :: sX12_init_380
noncomputable def sX12_init_374 : List Nat := 132 :: 1 :: 1 :: sX12_init_377
noncomputable def sX12_init_373 : List Nat := 79 :: sX12_init_374
noncomputable def sX12_init_372 : List Nat := 2 :: sX12_init_373
noncomputable def sX12_init_371 : List Nat := 27 :: sX12_init_372
noncomputable def sX12_init_368 : List Nat := 180 :: 0 :: 120 :: sX12_init_371
noncomputable def sX12_init_367 : List Nat := 42 :: sX12_init_368
noncomputable def sX12_init_366 : List Nat := 79 :: sX12_init_367
noncomputable def sX12_init_365 : List Nat := 2 :: sX12_init_366
noncomputable def sX12_init_364 : List Nat := 27 :: sX12_init_365
noncomputable def sX12_init_361 : List Nat := 180 :: 0 :: 114 :: sX12_init_364
noncomputable def sX12_init_360 : List Nat := 42 :: sX12_init_361
noncomputable def sX12_init_357 : List Nat := 162 :: 0 :: 23 :: sX12_init_360
noncomputable def sX12_init_355 : List Nat := 16 :: 20 :: sX12_init_357
noncomputable def sX12_init_354 : List Nat := 27 :: sX12_init_355
noncomputable def sX12_init_353 : List Nat := 60 :: sX12_init_354
noncomputable def sX12_init_352 : List Nat := 3 :: sX12_init_353
noncomputable def sX12_init_349 : List Nat := 167 :: 255 :: 239 :: sX12_init_352
noncomputable def sX12_init_346 : List Nat := 132 :: 1 :: 1 :: sX12_init_349
noncomputable def sX12_init_345 : List Nat := 79 :: sX12_init_346
noncomputable def sX12_init_344 : List Nat := 2 :: sX12_init_345
noncomputable def sX12_init_343 : List Nat := 27 :: sX12_init_344
noncomputable def sX12_init_340 : List Nat := 180 :: 0 :: 31 :: sX12_init_343
noncomputable def sX12_init_339 : List Nat := 42 :: sX12_init_340
noncomputable def sX12_init_336 : List Nat := 162 :: 0 :: 16 :: sX12_init_339
noncomputable def sX12_init_333 : List Nat := 17 :: 10 :: 80 :: sX12_init_336
noncomputable def sX12_init_332 : List Nat := 27 :: sX12_init_333
noncomputable def sX12_init_331 : List Nat := 60 :: sX12_init_332
noncomputable def sX12_init_330 : List Nat := 3 :: sX12_init_331
noncomputable def sX12_init_327 : List Nat := 167 :: 255 :: 240 :: sX12_init_330
noncomputable def sX12_init_324 : List Nat := 132 :: 1 :: 1 :: sX12_init_327
noncomputable def sX12_init_323 : List Nat := 79 :: sX12_init_324
noncomputable def sX12_init_322 : List Nat := 4 :: sX12_init_323
noncomputable def sX12_init_321 : List Nat := 27 :: sX12_init_322
noncomputable def sX12_init_318 : List Nat := 180 :: 0 :: 19 :: sX12_init_321
noncomputable def sX12_init_317 : List Nat := 42 :: sX12_init_318
noncomputable def sX12_init_314 : List Nat := 162 :: 0 :: 16 :: sX12_init_317
noncomputable def sX12_init_312 : List Nat := 16 :: 28 :: sX12_init_314
noncomputable def sX12_init_311 : List Nat := 27 :: sX12_init_312
noncomputable def sX12_init_310 : List Nat := 60 :: sX12_init_311
noncomputable def sX12_init_309 : List Nat := 3 :: sX12_init_310
noncomputable def sX12_init_306 : List Nat := 181 :: 0 :: 126 :: sX12_init_309
noncomputable def sX12_init_304 : List Nat := 188 :: 10 :: sX12_init_306
noncomputable def sX12_init_302 : List Nat := 16 :: 20 :: sX12_init_304
noncomputable def sX12_init_301 : List Nat := 42 :: sX12_init_302
noncomputable def sX12_init_298 : List Nat := 181 :: 0 :: 123 :: sX12_init_301
noncomputable def sX12_init_296 : List Nat := 188 :: 10 :: sX12_init_298
noncomputable def sX12_init_294 : List Nat := 16 :: 20 :: sX12_init_296
noncomputable def sX12_init_293 : List Nat := 42 :: sX12_init_294
noncomputable def sX12_init_290 : List Nat := 181 :: 0 :: 120 :: sX12_init_293
noncomputable def sX12_init_288 : List Nat := 188 :: 10 :: sX12_init_290
noncomputable def sX12_init_286 : List Nat := 16 :: 20 :: sX12_init_288
noncomputable def sX12_init_285 : List Nat := 42 :: sX12_init_286
noncomputable def sX12_init_282 : List Nat := 181 :: 0 :: 117 :: sX12_init_285
noncomputable def sX12_init_280 : List Nat := 188 :: 10 :: sX12_init_282
noncomputable def sX12_init_278 : List Nat := 16 :: 20 :: sX12_init_280
noncomputable def sX12_init_277 : List Nat := 42 :: sX12_init_278
noncomputable def sX12_init_274 : List Nat := 181 :: 0 :: 114 :: sX12_init_277
noncomputable def sX12_init_272 : List Nat := 188 :: 10 :: sX12_init_274
noncomputable def sX12_init_270 : List Nat := 16 :: 20 :: sX12_init_272
noncomputable def sX12_init_269 : List Nat := 42 :: sX12_init_270
noncomputable def sX12_init_266 : List Nat := 181 :: 0 :: 111 :: sX12_init_269
noncomputable def sX12_init_264 : List Nat := 188 :: 10 :: sX12_init_266
noncomputable def sX12_init_262 : List Nat := 16 :: 120 :: sX12_init_264
noncomputable def sX12_init_261 : List Nat := 42 :: sX12_init_262
noncomputable def sX12_init_258 : List Nat := 181 :: 0 :: 108 :: sX12_init_261
noncomputable def sX12_init_256 : List Nat := 188 :: 10 :: sX12_init_258
noncomputable def sX12_init_254 : List Nat := 16 :: 20 :: sX12_init_256
noncomputable def sX12_init_253 : List Nat := 42 :: sX12_init_254
noncomputable def sX12_init_250 : List Nat := 181 :: 0 :: 105 :: sX12_init_253
noncomputable def sX12_init_248 : List Nat := 188 :: 10 :: sX12_init_250
noncomputable def sX12_init_246 : List Nat := 16 :: 20 :: sX12_init_248
noncomputable def sX12_init_245 : List Nat := 42 :: sX12_init_246
noncomputable def sX12_init_242 : List Nat := 181 :: 0 :: 102 :: sX12_init_245
noncomputable def sX12_init_240 : List Nat := 188 :: 10 :: sX12_init_242
noncomputable def sX12_init_238 : List Nat := 16 :: 120 :: sX12_init_240
noncomputable def sX12_init_237 : List Nat := 42 :: sX12_init_238
noncomputable def sX12_init_234 : List Nat := 181 :: 0 :: 99 :: sX12_init_237
noncomputable def sX12_init_232 : List Nat := 188 :: 10 :: sX12_init_234
noncomputable def sX12_init_230 : List Nat := 16 :: 6 :: sX12_init_232
noncomputable def sX12_init_229 : List Nat := 42 :: sX12_init_230
noncomputable def sX12_init_226 : List Nat := 181 :: 0 :: 95 :: sX12_init_229
noncomputable def sX12_init_224 : List Nat := 188 :: 4 :: sX12_init_226
noncomputable def sX12_init_222 : List Nat := 16 :: 6 :: sX12_init_224
noncomputable def sX12_init_221 : List Nat := 42 :: sX12_init_222
noncomputable def sX12_init_218 : List Nat := 181 :: 0 :: 92 :: sX12_init_221
noncomputable def sX12_init_216 : List Nat := 188 :: 10 :: sX12_init_218
noncomputable def sX12_init_214 : List Nat := 16 :: 36 :: sX12_init_216
noncomputable def sX12_init_213 : List Nat := 42 :: sX12_init_214
noncomputable def sX12_init_210 : List Nat := 181 :: 0 :: 89 :: sX12_init_213
noncomputable def sX12_init_208 : List Nat := 188 :: 10 :: sX12_init_210
noncomputable def sX12_init_206 : List Nat := 16 :: 6 :: sX12_init_208
noncomputable def sX12_init_205 : List Nat := 42 :: sX12_init_206
noncomputable def sX12_init_202 : List Nat := 181 :: 0 :: 86 :: sX12_init_205
noncomputable def sX12_init_200 : List Nat := 188 :: 10 :: sX12_init_202
noncomputable def sX12_init_198 : List Nat := 16 :: 6 :: sX12_init_200
noncomputable def sX12_init_197 : List Nat := 42 :: sX12_init_198
noncomputable def sX12_init_194 : List Nat := 181 :: 0 :: 83 :: sX12_init_197
noncomputable def sX12_init_192 : List Nat := 188 :: 10 :: sX12_init_194
noncomputable def sX12_init_191 : List Nat := 7 :: sX12_init_192
noncomputable def sX12_init_190 : List Nat := 42 :: sX12_init_191
noncomputable def sX12_init_187 : List Nat := 181 :: 0 :: 80 :: sX12_init_190
noncomputable def sX12_init_185 : List Nat := 188 :: 10 :: sX12_init_187
noncomputable def sX12_init_184 : List Nat := 7 :: sX12_init_185
noncomputable def sX12_init_183 : List Nat := 42 :: sX12_init_184
noncomputable def sX12_init_180 : List Nat := 181 :: 0 :: 77 :: sX12_init_183
noncomputable def sX12_init_178 : List Nat := 188 :: 10 :: sX12_init_180
noncomputable def sX12_init_177 : List Nat := 7 :: sX12_init_178
noncomputable def sX12_init_176 : List Nat := 42 :: sX12_init_177
noncomputable def sX12_init_173 : List Nat := 181 :: 0 :: 74 :: sX12_init_176
noncomputable def sX12_init_171 : List Nat := 188 :: 10 :: sX12_init_173
noncomputable def sX12_init_169 : List Nat := 16 :: 7 :: sX12_init_171
noncomputable def sX12_init_168 : List Nat := 42 :: sX12_init_169
noncomputable def sX12_init_165 : List Nat := 181 :: 0 :: 71 :: sX12_init_168
noncomputable def sX12_init_163 : List Nat := 188 :: 10 :: sX12_init_165
noncomputable def sX12_init_161 : List Nat := 16 :: 7 :: sX12_init_163
noncomputable def sX12_init_160 : List Nat := 42 :: sX12_init_161
noncomputable def sX12_init_157 : List Nat := 181 :: 0 :: 68 :: sX12_init_160
noncomputable def sX12_init_155 : List Nat := 188 :: 10 :: sX12_init_157
noncomputable def sX12_init_153 : List Nat := 16 :: 20 :: sX12_init_155
noncomputable def sX12_init_152 : List Nat := 42 :: sX12_init_153
noncomputable def sX12_init_149 : List Nat := 181 :: 0 :: 65 :: sX12_init_152
noncomputable def sX12_init_148 : List Nat := 2 :: sX12_init_149
noncomputable def sX12_init_147 : List Nat := 42 :: sX12_init_148
noncomputable def sX12_init_144 : List Nat := 181 :: 0 :: 62 :: sX12_init_147
noncomputable def sX12_init_142 : List Nat := 188 :: 10 :: sX12_init_144
noncomputable def sX12_init_140 : List Nat := 16 :: 22 :: sX12_init_142
noncomputable def sX12_init_139 : List Nat := 42 :: sX12_init_140
noncomputable def sX12_init_136 : List Nat := 181 :: 0 :: 59 :: sX12_init_139
noncomputable def sX12_init_134 : List Nat := 188 :: 10 :: sX12_init_136
noncomputable def sX12_init_132 : List Nat := 16 :: 30 :: sX12_init_134
noncomputable def sX12_init_131 : List Nat := 42 :: sX12_init_132
noncomputable def sX12_init_128 : List Nat := 181 :: 0 :: 56 :: sX12_init_131
noncomputable def sX12_init_126 : List Nat := 188 :: 10 :: sX12_init_128
noncomputable def sX12_init_124 : List Nat := 16 :: 30 :: sX12_init_126
noncomputable def sX12_init_123 : List Nat := 42 :: sX12_init_124
noncomputable def sX12_init_120 : List Nat := 181 :: 0 :: 53 :: sX12_init_123
noncomputable def sX12_init_118 : List Nat := 188 :: 10 :: sX12_init_120
noncomputable def sX12_init_116 : List Nat := 16 :: 84 :: sX12_init_118
noncomputable def sX12_init_115 : List Nat := 42 :: sX12_init_116
noncomputable def sX12_init_112 : List Nat := 181 :: 0 :: 50 :: sX12_init_115
noncomputable def sX12_init_110 : List Nat := 188 :: 10 :: sX12_init_112
noncomputable def sX12_init_108 : List Nat := 16 :: 28 :: sX12_init_110
noncomputable def sX12_init_107 : List Nat := 42 :: sX12_init_108
noncomputable def sX12_init_104 : List Nat := 181 :: 0 :: 47 :: sX12_init_107
noncomputable def sX12_init_102 : List Nat := 188 :: 10 :: sX12_init_104
noncomputable def sX12_init_100 : List Nat := 16 :: 28 :: sX12_init_102
noncomputable def sX12_init_99 : List Nat := 42 :: sX12_init_100
noncomputable def sX12_init_96 : List Nat := 181 :: 0 :: 44 :: sX12_init_99
noncomputable def sX12_init_94 : List Nat := 188 :: 10 :: sX12_init_96
noncomputable def sX12_init_92 : List Nat := 16 :: 28 :: sX12_init_94
noncomputable def sX12_init_91 : List Nat := 42 :: sX12_init_92
noncomputable def sX12_init_88 : List Nat := 181 :: 0 :: 41 :: sX12_init_91
noncomputable def sX12_init_86 : List Nat := 188 :: 10 :: sX12_init_88
noncomputable def sX12_init_84 : List Nat := 16 :: 28 :: sX12_init_86
noncomputable def sX12_init_83 : List Nat := 42 :: sX12_init_84
noncomputable def sX12_init_80 : List Nat := 181 :: 0 :: 37 :: sX12_init_83
noncomputable def sX12_init_79 : List Nat := 2 :: sX12_init_80
noncomputable def sX12_init_78 : List Nat := 42 :: sX12_init_79
noncomputable def sX12_init_75 : List Nat := 181 :: 0 :: 34 :: sX12_init_78
noncomputable def sX12_init_73 : List Nat := 188 :: 10 :: sX12_init_75
noncomputable def sX12_init_70 : List Nat := 17 :: 2 :: 88 :: sX12_init_73
noncomputable def sX12_init_69 : List Nat := 42 :: sX12_init_70
noncomputable def sX12_init_66 : List Nat := 181 :: 0 :: 31 :: sX12_init_69
noncomputable def sX12_init_64 : List Nat := 188 :: 10 :: sX12_init_66
noncomputable def sX12_init_61 : List Nat := 17 :: 10 :: 80 :: sX12_init_64
noncomputable def sX12_init_60 : List Nat := 42 :: sX12_init_61
noncomputable def sX12_init_57 : List Nat := 181 :: 0 :: 28 :: sX12_init_60
noncomputable def sX12_init_55 : List Nat := 188 :: 10 :: sX12_init_57
noncomputable def sX12_init_53 : List Nat := 16 :: 30 :: sX12_init_55
noncomputable def sX12_init_52 : List Nat := 42 :: sX12_init_53
noncomputable def sX12_init_49 : List Nat := 181 :: 0 :: 25 :: sX12_init_52
noncomputable def sX12_init_47 : List Nat := 188 :: 10 :: sX12_init_49
noncomputable def sX12_init_45 : List Nat := 16 :: 30 :: sX12_init_47
noncomputable def sX12_init_44 : List Nat := 42 :: sX12_init_45
noncomputable def sX12_init_41 : List Nat := 181 :: 0 :: 22 :: sX12_init_44
noncomputable def sX12_init_39 : List Nat := 188 :: 10 :: sX12_init_41
noncomputable def sX12_init_37 : List Nat := 16 :: 84 :: sX12_init_39
noncomputable def sX12_init_36 : List Nat := 42 :: sX12_init_37
noncomputable def sX12_init_33 : List Nat := 181 :: 0 :: 19 :: sX12_init_36
noncomputable def sX12_init_31 : List Nat := 188 :: 10 :: sX12_init_33
noncomputable def sX12_init_29 : List Nat := 16 :: 28 :: sX12_init_31
noncomputable def sX12_init_28 : List Nat := 42 :: sX12_init_29
noncomputable def sX12_init_25 : List Nat := 181 :: 0 :: 16 :: sX12_init_28
noncomputable def sX12_init_23 : List Nat := 188 :: 10 :: sX12_init_25
noncomputable def sX12_init_21 : List Nat := 16 :: 28 :: sX12_init_23
noncomputable def sX12_init_20 : List Nat := 42 :: sX12_init_21
noncomputable def sX12_init_17 : List Nat := 181 :: 0 :: 13 :: sX12_init_20
noncomputable def sX12_init_15 : List Nat := 188 :: 10 :: sX12_init_17
noncomputable def sX12_init_13 : List Nat := 16 :: 28 :: sX12_init_15
noncomputable def sX12_init_12 : List Nat := 42 :: sX12_init_13
noncomputable def sX12_init_9 : List Nat := 181 :: 0 :: 7 :: sX12_init_12
noncomputable def sX12_init_7 : List Nat := 188 :: 10 :: sX12_init_9
noncomputable def sX12_init_5 : List Nat := 16 :: 28 :: sX12_init_7
noncomputable def sX12_init_4 : List Nat := 42 :: sX12_init_5
noncomputable def sX12_init_1 : List Nat := 183 :: 0 :: 1 :: sX12_init_4
noncomputable def sX12_init_0 : List Nat := 42 :: sX12_init_1
theorem aX12_init_0 : dc_at cX12_init 0 sX12_init_0 := dc_base (by decide +kernel)
theorem aX12_init_1 : dc_at cX12_init 1 sX12_init_1 := dc_n1 aX12_init_0
theorem aX12_init_4 : dc_at cX12_init 4 sX12_init_4 := dc_n3 aX12_init_1
theorem aX12_init_5 : dc_at cX12_init 5 sX12_init_5 := dc_n1 aX12_init_4
theorem aX12_init_7 : dc_at cX12_init 7 sX12_init_7 := dc_n2 aX12_init_5
theorem aX12_init_9 : dc_at cX12_init 9 sX12_init_9 := dc_n2 aX12_init_7
theorem aX12_init_12 : dc_at cX12_init 12 sX12_init_12 := dc_n3 aX12_init_9
theorem aX12_init_13 : dc_at cX12_init 13 sX12_init_13 := dc_n1 aX12_init_12
theorem aX12_init_15 : dc_at cX12_init 15 sX12_init_15 := dc_n2 aX12_init_13
theorem aX12_init_17 : dc_at cX12_init 17 sX12_init_17 := dc_n2 aX12_init_15
theorem aX12_init_20 : dc_at cX12_init 20 sX12_init_20 := dc_n3 aX12_init_17
theorem aX12_init_21 : dc_at cX12_init 21 sX12_init_21 := dc_n1 aX12_init_20
theorem aX12_init_23 : dc_at cX12_init 23 sX12_init_23 := dc_n2 aX12_init_21
theorem aX12_init_25 : dc_at cX12_init 25 sX12_init_25 := dc_n2 aX12_init_23
theorem aX12_init_28 : dc_at cX12_init 28 sX12_init_28 := dc_n3 aX12_init_25
theorem aX12_init_29 : dc_at cX12_init 29 sX12_init_29 := dc_n1 aX12_init_28
theorem aX12_init_31 : dc_at cX12_init 31 sX12_init_31 := dc_n2 aX12_init_29
theorem aX12_init_33 : dc_at cX12_init 33 sX12_init_33 := dc_n2 aX12_init_31
theorem aX12_init_36 : dc_at cX12_init 36 sX12_init_36 := dc_n3 aX12_init_33
theorem aX12_init_37 : dc_at cX12_init 37 sX12_init_37 := dc_n1 aX12_init_36
theorem aX12_init_39 : dc_at cX12_init 39 sX12_init_39 := dc_n2 aX12_init_37
theorem aX12_init_41 : dc_at cX12_init 41 sX12_init_41 := dc_n2 aX12_init_39
theorem aX12_init_44 : dc_at cX12_init 44 sX12_init_44 := dc_n3 aX12_init_41
theorem aX12_init_45 : dc_at cX12_init 45 sX12_init_45 := dc_n1 aX12_init_44
theorem aX12_init_47 : dc_at cX12_init 47 sX12_init_47 := dc_n2 aX12_init_45
theorem aX12_init_49 : dc_at cX12_init 49 sX12_init_49 := dc_n2 aX12_init_47
theorem aX12_init_52 : dc_at cX12_init 52 sX12_init_52 := dc_n3 aX12_init_49
theorem aX12_init_53 : dc_at cX12_init 53 sX12_init_53 := dc_n1 aX12_init_52
theorem aX12_init_55 : dc_at cX12_init 55 sX12_init_55 := dc_n2 aX12_init_53
theorem aX12_init_57 : dc_at cX12_init 57 sX12_init_57 := dc_n2 aX12_init_55
theorem aX12_init_60 : dc_at cX12_init 60 sX12_init_60 := dc_n3 aX12_init_57
theorem aX12_init_61 : dc_at cX12_init 61 sX12_init_61 := dc_n1 aX12_init_60
theorem aX12_init_64 : dc_at cX12_init 64 sX12_init_64 := dc_n3 aX12_init_61
theorem aX12_init_66 : dc_at cX12_init 66 sX12_init_66 := dc_n2 aX12_init_64
theorem aX12_init_69 : dc_at cX12_init 69 sX12_init_69 := dc_n3 aX12_init_66
theorem aX12_init_70 : dc_at cX12_init 70 sX12_init_70 := dc_n1 aX12_init_69
theorem aX12_init_73 : dc_at cX12_init 73 sX12_init_73 := dc_n3 aX12_init_70
theorem aX12_init_75 : dc_at cX12_init 75 sX12_init_75 := dc_n2 aX12_init_73
theorem aX12_init_78 : dc_at cX12_init 78 sX12_init_78 := dc_n3 aX12_init_75
theorem aX12_init_79 : dc_at cX12_init 79 sX12_init_79 := dc_n1 aX12_init_78
theorem aX12_init_80 : dc_at cX12_init 80 sX12_init_80 := dc_n1 aX12_init_79
theorem aX12_init_83 : dc_at cX12_init 83 sX12_init_83 := dc_n3 aX12_init_80
theorem aX12_init_84 : dc_at cX12_init 84 sX12_init_84 := dc_n1 aX12_init_83
theorem aX12_init_86 : dc_at cX12_init 86 sX12_init_86 := dc_n2 aX12_init_84
theorem aX12_init_88 : dc_at cX12_init 88 sX12_init_88 := dc_n2 aX12_init_86
theorem aX12_init_91 : dc_at cX12_init 91 sX12_init_91 := dc_n3 aX12_init_88
theorem aX12_init_92 : dc_at cX12_init 92 sX12_init_92 := dc_n1 aX12_init_91
theorem aX12_init_94 : dc_at cX12_init 94 sX12_init_94 := dc_n2 aX12_init_92
theorem aX12_init_96 : dc_at cX12_init 96 sX12_init_96 := dc_n2 aX12_init_94
theorem aX12_init_99 : dc_at cX12_init 99 sX12_init_99 := dc_n3 aX12_init_96
theorem aX12_init_100 : dc_at cX12_init 100 sX12_init_100 := dc_n1 aX12_init_99
theorem aX12_init_102 : dc_at cX12_init 102 sX12_init_102 := dc_n2 aX12_init_100
theorem aX12_init_104 : dc_at cX12_init 104 sX12_init_104 := dc_n2 aX12_init_102
theorem aX12_init_107 : dc_at cX12_init 107 sX12_init_107 := dc_n3 aX12_init_104
theorem aX12_init_108 : dc_at cX12_init 108 sX12_init_108 := dc_n1 aX12_init_107
theorem aX12_init_110 : dc_at cX12_init 110 sX12_init_110 := dc_n2 aX12_init_108
theorem aX12_init_112 : dc_at cX12_init 112 sX12_init_112 := dc_n2 aX12_init_110
theorem aX12_init_115 : dc_at cX12_init 115 sX12_init_115 := dc_n3 aX12_init_112
theorem aX12_init_116 : dc_at cX12_init 116 sX12_init_116 := dc_n1 aX12_init_115
theorem aX12_init_118 : dc_at cX12_init 118 sX12_init_118 := dc_n2 aX12_init_116
theorem aX12_init_120 : dc_at cX12_init 120 sX12_init_120 := dc_n2 aX12_init_118
theorem aX12_init_123 : dc_at cX12_init 123 sX12_init_123 := dc_n3 aX12_init_120
theorem aX12_init_124 : dc_at cX12_init 124 sX12_init_124 := dc_n1 aX12_init_123
theorem aX12_init_126 : dc_at cX12_init 126 sX12_init_126 := dc_n2 aX12_init_124
theorem aX12_init_128 : dc_at cX12_init 128 sX12_init_128 := dc_n2 aX12_init_126
theorem aX12_init_131 : dc_at cX12_init 131 sX12_init_131 := dc_n3 aX12_init_128
theorem aX12_init_132 : dc_at cX12_init 132 sX12_init_132 := dc_n1 aX12_init_131
theorem aX12_init_134 : dc_at cX12_init 134 sX12_init_134 := dc_n2 aX12_init_132
theorem aX12_init_136 : dc_at cX12_init 136 sX12_init_136 := dc_n2 aX12_init_134
theorem aX12_init_139 : dc_at cX12_init 139 sX12_init_139 := dc_n3 aX12_init_136
theorem aX12_init_140 : dc_at cX12_init 140 sX12_init_140 := dc_n1 aX12_init_139
theorem aX12_init_142 : dc_at cX12_init 142 sX12_init_142 := dc_n2 aX12_init_140
theorem aX12_init_144 : dc_at cX12_init 144 sX12_init_144 := dc_n2 aX12_init_142
theorem aX12_init_147 : dc_at cX12_init 147 sX12_init_147 := dc_n3 aX12_init_144
theorem aX12_init_148 : dc_at cX12_init 148 sX12_init_148 := dc_n1 aX12_init_147
theorem aX12_init_149 : dc_at cX12_init 149 sX12_init_149 := dc_n1 aX12_init_148
theorem aX12_init_152 : dc_at cX12_init 152 sX12_init_152 := dc_n3 aX12_init_149
theorem aX12_init_153 : dc_at cX12_init 153 sX12_init_153 := dc_n1 aX12_init_152
theorem aX12_init_155 : dc_at cX12_init 155 sX12_init_155 := dc_n2 aX12_init_153
theorem aX12_init_157 : dc_at cX12_init 157 sX12_init_157 := dc_n2 aX12_init_155
theorem aX12_init_160 : dc_at cX12_init 160 sX12_init_160 := dc_n3 aX12_init_157
theorem aX12_init_161 : dc_at cX12_init 161 sX12_init_161 := dc_n1 aX12_init_160
theorem aX12_init_163 : dc_at cX12_init 163 sX12_init_163 := dc_n2 aX12_init_161
theorem aX12_init_165 : dc_at cX12_init 165 sX12_init_165 := dc_n2 aX12_init_163
theorem aX12_init_168 : dc_at cX12_init 168 sX12_init_168 := dc_n3 aX12_init_165
theorem aX12_init_169 : dc_at cX12_init 169 sX12_init_169 := dc_n1 aX12_init_168
theorem aX12_init_171 : dc_at cX12_init 171 sX12_init_171 := dc_n2 aX12_init_169
theorem aX12_init_173 : dc_at cX12_init 173 sX12_init_173 := dc_n2 aX12_init_171
theorem aX12_init_176 : dc_at cX12_init 176 sX12_init_176 := dc_n3 aX12_init_173
theorem aX12_init_177 : dc_at cX12_init 177 sX12_init_177 := dc_n1 aX12_init_176
theorem aX12_init_178 : dc_at cX12_init 178 sX12_init_178 := dc_n1 aX12_init_177
theorem aX12_init_180 : dc_at cX12_init 180 sX12_init_180 := dc_n2 aX12_init_178
theorem aX12_init_183 : dc_at cX12_init 183 sX12_init_183 := dc_n3 aX12_init_180
theorem aX12_init_184 : dc_at cX12_init 184 sX12_init_184 := dc_n1 aX12_init_183
theorem aX12_init_185 : dc_at cX12_init 185 sX12_init_185 := dc_n1 aX12_init_184
theorem aX12_init_187 : dc_at cX12_init 187 sX12_init_187 := dc_n2 aX12_init_185
theorem aX12_init_190 : dc_at cX12_init 190 sX12_init_190 := dc_n3 aX12_init_187
theorem aX12_init_191 : dc_at cX12_init 191 sX12_init_191 := dc_n1 aX12_init_190
theorem aX12_init_192 : dc_at cX12_init 192 sX12_init_192 := dc_n1 aX12_init_191
theorem aX12_init_194 : dc_at cX12_init 194 sX12_init_194 := dc_n2 aX12_init_192
theorem aX12_init_197 : dc_at cX12_init 197 sX12_init_197 := dc_n3 aX12_init_194
theorem aX12_init_198 : dc_at cX12_init 198 sX12_init_198 := dc_n1 aX12_init_197
theorem aX12_init_200 : dc_at cX12_init 200 sX12_init_200 := dc_n2 aX12_init_198
theorem aX12_init_202 : dc_at cX12_init 202 sX12_init_202 := dc_n2 aX12_init_200
theorem aX12_init_205 : dc_at cX12_init 205 sX12_init_205 := dc_n3 aX12_init_202
theorem aX12_init_206 : dc_at cX12_init 206 sX12_init_206 := dc_n1 aX12_init_205
theorem aX12_init_208 : dc_at cX12_init 208 sX12_init_208 := dc_n2 aX12_init_206
theorem aX12_init_210 : dc_at cX12_init 210 sX12_init_210 := dc_n2 aX12_init_208
theorem aX12_init_213 : dc_at cX12_init 213 sX12_init_213 := dc_n3 aX12_init_210
theorem aX12_init_214 : dc_at cX12_init 214 sX12_init_214 := dc_n1 aX12_init_213
theorem aX12_init_216 : dc_at cX12_init 216 sX12_init_216 := dc_n2 aX12_init_214
theorem aX12_init_218 : dc_at cX12_init 218 sX12_init_218 := dc_n2 aX12_init_216
theorem aX12_init_221 : dc_at cX12_init 221 sX12_init_221 := dc_n3 aX12_init_218
theorem aX12_init_222 : dc_at cX12_init 222 sX12_init_222 := dc_n1 aX12_init_221
theorem aX12_init_224 : dc_at cX12_init 224 sX12_init_224 := dc_n2 aX12_init_222
theorem aX12_init_226 : dc_at cX12_init 226 sX12_init_226 := dc_n2 aX12_init_224
theorem aX12_init_229 : dc_at cX12_init 229 sX12_init_229 := dc_n3 aX12_init_226
theorem aX12_init_230 : dc_at cX12_init 230 sX12_init_230 := dc_n1 aX12_init_229
theorem aX12_init_232 : dc_at cX12_init 232 sX12_init_232 := dc_n2 aX12_init_230
theorem aX12_init_234 : dc_at cX12_init 234 sX12_init_234 := dc_n2 aX12_init_232
theorem aX12_init_237 : dc_at cX12_init 237 sX12_init_237 := dc_n3 aX12_init_234
theorem aX12_init_238 : dc_at cX12_init 238 sX12_init_238 := dc_n1 aX12_init_237
theorem aX12_init_240 : dc_at cX12_init 240 sX12_init_240 := dc_n2 aX12_init_238
theorem aX12_init_242 : dc_at cX12_init 242 sX12_init_242 := dc_n2 aX12_init_240
theorem aX12_init_245 : dc_at cX12_init 245 sX12_init_245 := dc_n3 aX12_init_242
theorem aX12_init_246 : dc_at cX12_init 246 sX12_init_246 := dc_n1 aX12_init_245
theorem aX12_init_248 : dc_at cX12_init 248 sX12_init_248 := dc_n2 aX12_init_246
theorem aX12_init_250 : dc_at cX12_init 250 sX12_init_250 := dc_n2 aX12_init_248
theorem aX12_init_253 : dc_at cX12_init 253 sX12_init_253 := dc_n3 aX12_init_250
theorem aX12_init_254 : dc_at cX12_init 254 sX12_init_254 := dc_n1 aX12_init_253
theorem aX12_init_256 : dc_at cX12_init 256 sX12_init_256 := dc_n2 aX12_init_254
theorem aX12_init_258 : dc_at cX12_init 258 sX12_init_258 := dc_n2 aX12_init_256
theorem aX12_init_261 : dc_at cX12_init 261 sX12_init_261 := dc_n3 aX12_init_258
theorem aX12_init_262 : dc_at cX12_init 262 sX12_init_262 := dc_n1 aX12_init_261
theorem aX12_init_264 : dc_at cX12_init 264 sX12_init_264 := dc_n2 aX12_init_262
theorem aX12_init_266 : dc_at cX12_init 266 sX12_init_266 := dc_n2 aX12_init_264
theorem aX12_init_269 : dc_at cX12_init 269 sX12_init_269 := dc_n3 aX12_init_266
theorem aX12_init_270 : dc_at cX12_init 270 sX12_init_270 := dc_n1 aX12_init_269
theorem aX12_init_272 : dc_at cX12_init 272 sX12_init_272 := dc_n2 aX12_init_270
theorem aX12_init_274 : dc_at cX12_init 274 sX12_init_274 := dc_n2 aX12_init_272
theorem aX12_init_277 : dc_at cX12_init 277 sX12_init_277 := dc_n3 aX12_init_274
theorem aX12_init_278 : dc_at cX12_init 278 sX12_init_278 := dc_n1 aX12_init_277
theorem aX12_init_280 : dc_at cX12_init 280 sX12_init_280 := dc_n2 aX12_init_278
theorem aX12_init_282 : dc_at cX12_init 282 sX12_init_282 := dc_n2 aX12_init_280
theorem aX12_init_285 : dc_at cX12_init 285 sX12_init_285 := dc_n3 aX12_init_282
theorem aX12_init_286 : dc_at cX12_init 286 sX12_init_286 := dc_n1 aX12_init_285
theorem aX12_init_288 : dc_at cX12_init 288 sX12_init_288 := dc_n2 aX12_init_286
theorem aX12_init_290 : dc_at cX12_init 290 sX12_init_290 := dc_n2 aX12_init_288
theorem aX12_init_293 : dc_at cX12_init 293 sX12_init_293 := dc_n3 aX12_init_290
theorem aX12_init_294 : dc_at cX12_init 294 sX12_init_294 := dc_n1 aX12_init_293
theorem aX12_init_296 : dc_at cX12_init 296 sX12_init_296 := dc_n2 aX12_init_294
theorem aX12_init_298 : dc_at cX12_init 298 sX12_init_298 := dc_n2 aX12_init_296
theorem aX12_init_301 : dc_at cX12_init 301 sX12_init_301 := dc_n3 aX12_init_298
theorem aX12_init_302 : dc_at cX12_init 302 sX12_init_302 := dc_n1 aX12_init_301
theorem aX12_init_304 : dc_at cX12_init 304 sX12_init_304 := dc_n2 aX12_init_302
theorem aX12_init_306 : dc_at cX12_init 306 sX12_init_306 := dc_n2 aX12_init_304
theorem aX12_init_309 : dc_at cX12_init 309 sX12_init_309 := dc_n3 aX12_init_306
theorem aX12_init_310 : dc_at cX12_init 310 sX12_init_310 := dc_n1 aX12_init_309
theorem aX12_init_311 : dc_at cX12_init 311 sX12_init_311 := dc_n1 aX12_init_310
theorem aX12_init_312 : dc_at cX12_init 312 sX12_init_312 := dc_n1 aX12_init_311
theorem aX12_init_314 : dc_at cX12_init 314 sX12_init_314 := dc_n2 aX12_init_312
theorem aX12_init_317 : dc_at cX12_init 317 sX12_init_317 := dc_n3 aX12_init_314
theorem aX12_init_318 : dc_at cX12_init 318 sX12_init_318 := dc_n1 aX12_init_317
theorem aX12_init_321 : dc_at cX12_init 321 sX12_init_321 := dc_n3 aX12_init_318
theorem aX12_init_322 : dc_at cX12_init 322 sX12_init_322 := dc_n1 aX12_init_321
theorem aX12_init_323 : dc_at cX12_init 323 sX12_init_323 := dc_n1 aX12_init_322
theorem aX12_init_324 : dc_at cX12_init 324 sX12_init_324 := dc_n1 aX12_init_323
theorem aX12_init_327 : dc_at cX12_init 327 sX12_init_327 := dc_n3 aX12_init_324
theorem aX12_init_330 : dc_at cX12_init 330 sX12_init_330 := dc_n3 aX12_init_327
theorem aX12_init_331 : dc_at cX12_init 331 sX12_init_331 := dc_n1 aX12_init_330
theorem aX12_init_332 : dc_at cX12_init 332 sX12_init_332 := dc_n1 aX12_init_331
theorem aX12_init_333 : dc_at cX12_init 333 sX12_init_333 := dc_n1 aX12_init_332
theorem aX12_init_336 : dc_at cX12_init 336 sX12_init_336 := dc_n3 aX12_init_333
theorem aX12_init_339 : dc_at cX12_init 339 sX12_init_339 := dc_n3 aX12_init_336
theorem aX12_init_340 : dc_at cX12_init 340 sX12_init_340 := dc_n1 aX12_init_339
theorem aX12_init_343 : dc_at cX12_init 343 sX12_init_343 := dc_n3 aX12_init_340
theorem aX12_init_344 : dc_at cX12_init 344 sX12_init_344 := dc_n1 aX12_init_343
theorem aX12_init_345 : dc_at cX12_init 345 sX12_init_345 := dc_n1 aX12_init_344
theorem aX12_init_346 : dc_at cX12_init 346 sX12_init_346 := dc_n1 aX12_init_345
theorem aX12_init_349 : dc_at cX12_init 349 sX12_init_349 := dc_n3 aX12_init_346
theorem aX12_init_352 : dc_at cX12_init 352 sX12_init_352 := dc_n3 aX12_init_349
theorem aX12_init_353 : dc_at cX12_init 353 sX12_init_353 := dc_n1 aX12_init_352
theorem aX12_init_354 : dc_at cX12_init 354 sX12_init_354 := dc_n1 aX12_init_353
theorem aX12_init_355 : dc_at cX12_init 355 sX12_init_355 := dc_n1 aX12_init_354
theorem aX12_init_357 : dc_at cX12_init 357 sX12_init_357 := dc_n2 aX12_init_355
theorem aX12_init_360 : dc_at cX12_init 360 sX12_init_360 := dc_n3 aX12_init_357
theorem aX12_init_361 : dc_at cX12_init 361 sX12_init_361 := dc_n1 aX12_init_360
theorem aX12_init_364 : dc_at cX12_init 364 sX12_init_364 := dc_n3 aX12_init_361
theorem aX12_init_365 : dc_at cX12_init 365 sX12_init_365 := dc_n1 aX12_init_364
theorem aX12_init_366 : dc_at cX12_init 366 sX12_init_366 := dc_n1 aX12_init_365
theorem aX12_init_367 : dc_at cX12_init 367 sX12_init_367 := dc_n1 aX12_init_366
theorem aX12_init_368 : dc_at cX12_init 368 sX12_init_368 := dc_n1 aX12_init_367
theorem aX12_init_371 : dc_at cX12_init 371 sX12_init_371 := dc_n3 aX12_init_368
theorem aX12_init_372 : dc_at cX12_init 372 sX12_init_372 := dc_n1 aX12_init_371
theorem aX12_init_373 : dc_at cX12_init 373 sX12_init_373 := dc_n1 aX12_init_372
theorem aX12_init_374 : dc_at cX12_init 374 sX12_init_374 := dc_n1 aX12_init_373
theorem aX12_init_377 : dc_at cX12_init 377 sX12_init_377 := dc_n3 aX12_init_374
theorem aX12_init_380 : dc_at cX12_init 380 sX12_init_380 := dc_n3 aX12_init_377
theorem dX12_init_0 : decode cX12_init 0 = .ok (.aload_n 0, 1) := dc_42 aX12_init_0
theorem dX12_init_1 : decode cX12_init 1 = .ok (.invokespecial 1, 3) := dc_183 (a0 := 0) (b0 := 1) aX12_init_1
theorem dX12_init_4 : decode cX12_init 4 = .ok (.aload_n 0, 1) := dc_42 aX12_init_4
theorem dX12_init_5 : decode cX12_init 5 = .ok (.bipush 28, 2) := dc_16 (a0 := 28) aX12_init_5 (by decide)
theorem dX12_init_7 : decode cX12_init 7 = .ok (.newarray .int, 2) := dc_188_10 aX12_init_7
theorem dX12_init_9 : decode cX12_init 9 = .ok (.putfield 7, 3) := dc_181 (a0 := 0) (b0 := 7) aX12_init_9
theorem dX12_init_12 : decode cX12_init 12 = .ok (.aload_n 0, 1) := dc_42 aX12_init_12
theorem dX12_init_13 : decode cX12_init 13 = .ok (.bipush 28, 2) := dc_16 (a0 := 28) aX12_init_13 (by decide)
theorem dX12_init_15 : decode cX12_init 15 = .ok (.newarray .int, 2) := dc_188_10 aX12_init_15
theorem dX12_init_17 : decode cX12_init 17 = .ok (.putfield 13, 3) := dc_181 (a0 := 0) (b0 := 13) aX12_init_17
theorem dX12_init_20 : decode cX12_init 20 = .ok (.aload_n 0, 1) := dc_42 aX12_init_20
theorem dX12_init_21 : decode cX12_init 21 = .ok (.bipush 28, 2) := dc_16 (a0 := 28) aX12_init_21 (by decide)
theorem dX12_init_23 : decode cX12_init 23 = .ok (.newarray .int, 2) := dc_188_10 aX12_init_23
theorem dX12_init_25 : decode cX12_init 25 = .ok (.putfield 16, 3) := dc_181 (a0 := 0) (b0 := 16) aX12_init_25
theorem dX12_init_28 : decode cX12_init 28 = .ok (.aload_n 0, 1) := dc_42 aX12_init_28
theorem dX12_init_29 : decode cX12_init 29 = .ok (.bipush 28, 2) := dc_16 (a0 := 28) aX12_init_29 (by decide)
theorem dX12_init_31 : decode cX12_init 31 = .ok (.newarray .int, 2) := dc_188_10 aX12_init_31
theorem dX12_init_33 : decode cX12_init 33 = .ok (.putfield 19, 3) := dc_181 (a0 := 0) (b0 := 19) aX12_init_33
theorem dX12_init_36 : decode cX12_init 36 = .ok (.aload_n 0, 1) := dc_42 aX12_init_36
theorem dX12_init_37 : decode cX12_init 37 = .ok (.bipush 84, 2) := dc_16 (a0 := 84) aX12_init_37 (by decide)
theorem dX12_init_39 : decode cX12_init 39 = .ok (.newarray .int, 2) := dc_188_10 aX12_init_39
theorem dX12_init_41 : decode cX12_init 41 = .ok (.putfield 22, 3) := dc_181 (a0 := 0) (b0 := 22) aX12_init_41
theorem dX12_init_44 : decode cX12_init 44 = .ok (.aload_n 0, 1) := dc_42 aX12_init_44
theorem dX12_init_45 : decode cX12_init 45 = .ok (.bipush 30, 2) := dc_16 (a0 := 30) aX12_init_45 (by decide)
theorem dX12_init_47 : decode cX12_init 47 = .ok (.newarray .int, 2) := dc_188_10 aX12_init_47
theorem dX12_init_49 : decode cX12_init 49 = .ok (.putfield 25, 3) := dc_181 (a0 := 0) (b0 := 25) aX12_init_49
theorem dX12_init_52 : decode cX12_init 52 = .ok (.aload_n 0, 1) := dc_42 aX12_init_52
theorem dX12_init_53 : decode cX12_init 53 = .ok (.bipush 30, 2) := dc_16 (a0 := 30) aX12_init_53 (by decide)
theorem dX12_init_55 : decode cX12_init 55 = .ok (.newarray .int, 2) := dc_188_10 aX12_init_55
theorem dX12_init_57 : decode cX12_init 57 = .ok (.putfield 28, 3) := dc_181 (a0 := 0) (b0 := 28) aX12_init_57
theorem dX12_init_60 : decode cX12_init 60 = .ok (.aload_n 0, 1) := dc_42 aX12_init_60
theorem dX12_init_61 : decode cX12_init 61 = .ok (.sipush 2640, 3) := dc_17 (a0 := 10) (b0 := 80) aX12_init_61 (by decide)
theorem dX12_init_64 : decode cX12_init 64 = .ok (.newarray .int, 2) := dc_188_10 aX12_init_64
theorem dX12_init_66 : decode cX12_init 66 = .ok (.putfield 31, 3) := dc_181 (a0 := 0) (b0 := 31) aX12_init_66
theorem dX12_init_69 : decode cX12_init 69 = .ok (.aload_n 0, 1) := dc_42 aX12_init_69
theorem dX12_init_70 : decode cX12_init 70 = .ok (.sipush 600, 3) := dc_17 (a0 := 2) (b0 := 88) aX12_init_70 (by decide)
theorem dX12_init_73 : decode cX12_init 73 = .ok (.newarray .int, 2) := dc_188_10 aX12_init_73
theorem dX12_init_75 : decode cX12_init 75 = .ok (.putfield 34, 3) := dc_181 (a0 := 0) (b0 := 34) aX12_init_75
theorem dX12_init_78 : decode cX12_init 78 = .ok (.aload_n 0, 1) := dc_42 aX12_init_78
theorem dX12_init_79 : decode cX12_init 79 = .ok (.iconst (-1), 1) := dc_2 aX12_init_79
theorem dX12_init_80 : decode cX12_init 80 = .ok (.putfield 37, 3) := dc_181 (a0 := 0) (b0 := 37) aX12_init_80
theorem dX12_init_83 : decode cX12_init 83 = .ok (.aload_n 0, 1) := dc_42 aX12_init_83
theorem dX12_init_84 : decode cX12_init 84 = .ok (.bipush 28, 2) := dc_16 (a0 := 28) aX12_init_84 (by decide)
theorem dX12_init_86 : decode cX12_init 86 = .ok (.newarray .int, 2) := dc_188_10 aX12_init_86
theorem dX12_init_88 : decode cX12_init 88 = .ok (.putfield 41, 3) := dc_181 (a0 := 0) (b0 := 41) aX12_init_88
theorem dX12_init_91 : decode cX12_init 91 = .ok (.aload_n 0, 1) := dc_42 aX12_init_91
theorem dX12_init_92 : decode cX12_init 92 = .ok (.bipush 28, 2) := dc_16 (a0 := 28) aX12_init_92 (by decide)
theorem dX12_init_94 : decode cX12_init 94 = .ok (.newarray .int, 2) := dc_188_10 aX12_init_94
theorem dX12_init_96 : decode cX12_init 96 = .ok (.putfield 44, 3) := dc_181 (a0 := 0) (b0 := 44) aX12_init_96
theorem dX12_init_99 : decode cX12_init 99 = .ok (.aload_n 0, 1) := dc_42 aX12_init_99
theorem dX12_init_100 : decode cX12_init 100 = .ok (.bipush 28, 2) := dc_16 (a0 := 28) aX12_init_100 (by decide)
theorem dX12_init_102 : decode cX12_init 102 = .ok (.newarray .int, 2) := dc_188_10 aX12_init_102
theorem dX12_init_104 : decode cX12_init 104 = .ok (.putfield 47, 3) := dc_181 (a0 := 0) (b0 := 47) aX12_init_104
theorem dX12_init_107 : decode cX12_init 107 = .ok (.aload_n 0, 1) := dc_42 aX12_init_107
theorem dX12_init_108 : decode cX12_init 108 = .ok (.bipush 28, 2) := dc_16 (a0 := 28) aX12_init_108 (by decide)
theorem dX12_init_110 : decode cX12_init 110 = .ok (.newarray .int, 2) := dc_188_10 aX12_init_110
theorem dX12_init_112 : decode cX12_init 112 = .ok (.putfield 50, 3) := dc_181 (a0 := 0) (b0 := 50) aX12_init_112
theorem dX12_init_115 : decode cX12_init 115 = .ok (.aload_n 0, 1) := dc_42 aX12_init_115
theorem dX12_init_116 : decode cX12_init 116 = .ok (.bipush 84, 2) := dc_16 (a0 := 84) aX12_init_116 (by decide)
theorem dX12_init_118 : decode cX12_init 118 = .ok (.newarray .int, 2) := dc_188_10 aX12_init_118
theorem dX12_init_120 : decode cX12_init 120 = .ok (.putfield 53, 3) := dc_181 (a0 := 0) (b0 := 53) aX12_init_120
theorem dX12_init_123 : decode cX12_init 123 = .ok (.aload_n 0, 1) := dc_42 aX12_init_123
theorem dX12_init_124 : decode cX12_init 124 = .ok (.bipush 30, 2) := dc_16 (a0 := 30) aX12_init_124 (by decide)
theorem dX12_init_126 : decode cX12_init 126 = .ok (.newarray .int, 2) := dc_188_10 aX12_init_126
theorem dX12_init_128 : decode cX12_init 128 = .ok (.putfield 56, 3) := dc_181 (a0 := 0) (b0 := 56) aX12_init_128
theorem dX12_init_131 : decode cX12_init 131 = .ok (.aload_n 0, 1) := dc_42 aX12_init_131
theorem dX12_init_132 : decode cX12_init 132 = .ok (.bipush 30, 2) := dc_16 (a0 := 30) aX12_init_132 (by decide)
theorem dX12_init_134 : decode cX12_init 134 = .ok (.newarray .int, 2) := dc_188_10 aX12_init_134
theorem dX12_init_136 : decode cX12_init 136 = .ok (.putfield 59, 3) := dc_181 (a0 := 0) (b0 := 59) aX12_init_136
theorem dX12_init_139 : decode cX12_init 139 = .ok (.aload_n 0, 1) := dc_42 aX12_init_139
theorem dX12_init_140 : decode cX12_init 140 = .ok (.bipush 22, 2) := dc_16 (a0 := 22) aX12_init_140 (by decide)
theorem dX12_init_142 : decode cX12_init 142 = .ok (.newarray .int, 2) := dc_188_10 aX12_init_142
theorem dX12_init_144 : decode cX12_init 144 = .ok (.putfield 62, 3) := dc_181 (a0 := 0) (b0 := 62) aX12_init_144
theorem dX12_init_147 : decode cX12_init 147 = .ok (.aload_n 0, 1) := dc_42 aX12_init_147
theorem dX12_init_148 : decode cX12_init 148 = .ok (.iconst (-1), 1) := dc_2 aX12_init_148
theorem dX12_init_149 : decode cX12_init 149 = .ok (.putfield 65, 3) := dc_181 (a0 := 0) (b0 := 65) aX12_init_149
theorem dX12_init_152 : decode cX12_init 152 = .ok (.aload_n 0, 1) := dc_42 aX12_init_152
theorem dX12_init_153 : decode cX12_init 153 = .ok (.bipush 20, 2) := dc_16 (a0 := 20) aX12_init_153 (by decide)
theorem dX12_init_155 : decode cX12_init 155 = .ok (.newarray .int, 2) := dc_188_10 aX12_init_155
theorem dX12_init_157 : decode cX12_init 157 = .ok (.putfield 68, 3) := dc_181 (a0 := 0) (b0 := 68) aX12_init_157
theorem dX12_init_160 : decode cX12_init 160 = .ok (.aload_n 0, 1) := dc_42 aX12_init_160
theorem dX12_init_161 : decode cX12_init 161 = .ok (.bipush 7, 2) := dc_16 (a0 := 7) aX12_init_161 (by decide)
theorem dX12_init_163 : decode cX12_init 163 = .ok (.newarray .int, 2) := dc_188_10 aX12_init_163
theorem dX12_init_165 : decode cX12_init 165 = .ok (.putfield 71, 3) := dc_181 (a0 := 0) (b0 := 71) aX12_init_165
theorem dX12_init_168 : decode cX12_init 168 = .ok (.aload_n 0, 1) := dc_42 aX12_init_168
theorem dX12_init_169 : decode cX12_init 169 = .ok (.bipush 7, 2) := dc_16 (a0 := 7) aX12_init_169 (by decide)
theorem dX12_init_171 : decode cX12_init 171 = .ok (.newarray .int, 2) := dc_188_10 aX12_init_171
theorem dX12_init_173 : decode cX12_init 173 = .ok (.putfield 74, 3) := dc_181 (a0 := 0) (b0 := 74) aX12_init_173
theorem dX12_init_176 : decode cX12_init 176 = .ok (.aload_n 0, 1) := dc_42 aX12_init_176
theorem dX12_init_177 : decode cX12_init 177 = .ok (.iconst 4, 1) := dc_7 aX12_init_177
theorem dX12_init_178 : decode cX12_init 178 = .ok (.newarray .int, 2) := dc_188_10 aX12_init_178
theorem dX12_init_180 : decode cX12_init 180 = .ok (.putfield 77, 3) := dc_181 (a0 := 0) (b0 := 77) aX12_init_180
theorem dX12_init_183 : decode cX12_init 183 = .ok (.aload_n 0, 1) := dc_42 aX12_init_183
theorem dX12_init_184 : decode cX12_init 184 = .ok (.iconst 4, 1) := dc_7 aX12_init_184
theorem dX12_init_185 : decode cX12_init 185 = .ok (.newarray .int, 2) := dc_188_10 aX12_init_185
theorem dX12_init_187 : decode cX12_init 187 = .ok (.putfield 80, 3) := dc_181 (a0 := 0) (b0 := 80) aX12_init_187
theorem dX12_init_190 : decode cX12_init 190 = .ok (.aload_n 0, 1) := dc_42 aX12_init_190
theorem dX12_init_191 : decode cX12_init 191 = .ok (.iconst 4, 1) := dc_7 aX12_init_191
theorem dX12_init_192 : decode cX12_init 192 = .ok (.newarray .int, 2) := dc_188_10 aX12_init_192
theorem dX12_init_194 : decode cX12_init 194 = .ok (.putfield 83, 3) := dc_181 (a0 := 0) (b0 := 83) aX12_init_194
theorem dX12_init_197 : decode cX12_init 197 = .ok (.aload_n 0, 1) := dc_42 aX12_init_197
theorem dX12_init_198 : decode cX12_init 198 = .ok (.bipush 6, 2) := dc_16 (a0 := 6) aX12_init_198 (by decide)
theorem dX12_init_200 : decode cX12_init 200 = .ok (.newarray .int, 2) := dc_188_10 aX12_init_200
theorem dX12_init_202 : decode cX12_init 202 = .ok (.putfield 86, 3) := dc_181 (a0 := 0) (b0 := 86) aX12_init_202
theorem dX12_init_205 : decode cX12_init 205 = .ok (.aload_n 0, 1) := dc_42 aX12_init_205
theorem dX12_init_206 : decode cX12_init 206 = .ok (.bipush 6, 2) := dc_16 (a0 := 6) aX12_init_206 (by decide)
theorem dX12_init_208 : decode cX12_init 208 = .ok (.newarray .int, 2) := dc_188_10 aX12_init_208
theorem dX12_init_210 : decode cX12_init 210 = .ok (.putfield 89, 3) := dc_181 (a0 := 0) (b0 := 89) aX12_init_210
theorem dX12_init_213 : decode cX12_init 213 = .ok (.aload_n 0, 1) := dc_42 aX12_init_213
theorem dX12_init_214 : decode cX12_init 214 = .ok (.bipush 36, 2) := dc_16 (a0 := 36) aX12_init_214 (by decide)
theorem dX12_init_216 : decode cX12_init 216 = .ok (.newarray .int, 2) := dc_188_10 aX12_init_216
theorem dX12_init_218 : decode cX12_init 218 = .ok (.putfield 92, 3) := dc_181 (a0 := 0) (b0 := 92) aX12_init_218
theorem dX12_init_221 : decode cX12_init 221 = .ok (.aload_n 0, 1) := dc_42 aX12_init_221
theorem dX12_init_222 : decode cX12_init 222 = .ok (.bipush 6, 2) := dc_16 (a0 := 6) aX12_init_222 (by decide)
theorem dX12_init_224 : decode cX12_init 224 = .ok (.newarray .boolean, 2) := dc_188_4 aX12_init_224
theorem dX12_init_226 : decode cX12_init 226 = .ok (.putfield 95, 3) := dc_181 (a0 := 0) (b0 := 95) aX12_init_226
theorem dX12_init_229 : decode cX12_init 229 = .ok (.aload_n 0, 1) := dc_42 aX12_init_229
theorem dX12_init_230 : decode cX12_init 230 = .ok (.bipush 6, 2) := dc_16 (a0 := 6) aX12_init_230 (by decide)
theorem dX12_init_232 : decode cX12_init 232 = .ok (.newarray .int, 2) := dc_188_10 aX12_init_232
theorem dX12_init_234 : decode cX12_init 234 = .ok (.putfield 99, 3) := dc_181 (a0 := 0) (b0 := 99) aX12_init_234
theorem dX12_init_237 : decode cX12_init 237 = .ok (.aload_n 0, 1) := dc_42 aX12_init_237
theorem dX12_init_238 : decode cX12_init 238 = .ok (.bipush 120, 2) := dc_16 (a0 := 120) aX12_init_238 (by decide)
theorem dX12_init_240 : decode cX12_init 240 = .ok (.newarray .int, 2) := dc_188_10 aX12_init_240
theorem dX12_init_242 : decode cX12_init 242 = .ok (.putfield 102, 3) := dc_181 (a0 := 0) (b0 := 102) aX12_init_242
theorem dX12_init_245 : decode cX12_init 245 = .ok (.aload_n 0, 1) := dc_42 aX12_init_245
theorem dX12_init_246 : decode cX12_init 246 = .ok (.bipush 20, 2) := dc_16 (a0 := 20) aX12_init_246 (by decide)
theorem dX12_init_248 : decode cX12_init 248 = .ok (.newarray .int, 2) := dc_188_10 aX12_init_248
theorem dX12_init_250 : decode cX12_init 250 = .ok (.putfield 105, 3) := dc_181 (a0 := 0) (b0 := 105) aX12_init_250
theorem dX12_init_253 : decode cX12_init 253 = .ok (.aload_n 0, 1) := dc_42 aX12_init_253
theorem dX12_init_254 : decode cX12_init 254 = .ok (.bipush 20, 2) := dc_16 (a0 := 20) aX12_init_254 (by decide)
theorem dX12_init_256 : decode cX12_init 256 = .ok (.newarray .int, 2) := dc_188_10 aX12_init_256
theorem dX12_init_258 : decode cX12_init 258 = .ok (.putfield 108, 3) := dc_181 (a0 := 0) (b0 := 108) aX12_init_258
theorem dX12_init_261 : decode cX12_init 261 = .ok (.aload_n 0, 1) := dc_42 aX12_init_261
theorem dX12_init_262 : decode cX12_init 262 = .ok (.bipush 120, 2) := dc_16 (a0 := 120) aX12_init_262 (by decide)
theorem dX12_init_264 : decode cX12_init 264 = .ok (.newarray .int, 2) := dc_188_10 aX12_init_264
theorem dX12_init_266 : decode cX12_init 266 = .ok (.putfield 111, 3) := dc_181 (a0 := 0) (b0 := 111) aX12_init_266
theorem dX12_init_269 : decode cX12_init 269 = .ok (.aload_n 0, 1) := dc_42 aX12_init_269
theorem dX12_init_270 : decode cX12_init 270 = .ok (.bipush 20, 2) := dc_16 (a0 := 20) aX12_init_270 (by decide)
theorem dX12_init_272 : decode cX12_init 272 = .ok (.newarray .int, 2) := dc_188_10 aX12_init_272
theorem dX12_init_274 : decode cX12_init 274 = .ok (.putfield 114, 3) := dc_181 (a0 := 0) (b0 := 114) aX12_init_274
theorem dX12_init_277 : decode cX12_init 277 = .ok (.aload_n 0, 1) := dc_42 aX12_init_277
theorem dX12_init_278 : decode cX12_init 278 = .ok (.bipush 20, 2) := dc_16 (a0 := 20) aX12_init_278 (by decide)
theorem dX12_init_280 : decode cX12_init 280 = .ok (.newarray .int, 2) := dc_188_10 aX12_init_280
theorem dX12_init_282 : decode cX12_init 282 = .ok (.putfield 117, 3) := dc_181 (a0 := 0) (b0 := 117) aX12_init_282
theorem dX12_init_285 : decode cX12_init 285 = .ok (.aload_n 0, 1) := dc_42 aX12_init_285
theorem dX12_init_286 : decode cX12_init 286 = .ok (.bipush 20, 2) := dc_16 (a0 := 20) aX12_init_286 (by decide)
theorem dX12_init_288 : decode cX12_init 288 = .ok (.newarray .int, 2) := dc_188_10 aX12_init_288
theorem dX12_init_290 : decode cX12_init 290 = .ok (.putfield 120, 3) := dc_181 (a0 := 0) (b0 := 120) aX12_init_290
theorem dX12_init_293 : decode cX12_init 293 = .ok (.aload_n 0, 1) := dc_42 aX12_init_293
theorem dX12_init_294 : decode cX12_init 294 = .ok (.bipush 20, 2) := dc_16 (a0 := 20) aX12_init_294 (by decide)
theorem dX12_init_296 : decode cX12_init 296 = .ok (.newarray .int, 2) := dc_188_10 aX12_init_296
theorem dX12_init_298 : decode cX12_init 298 = .ok (.putfield 123, 3) := dc_181 (a0 := 0) (b0 := 123) aX12_init_298
theorem dX12_init_301 : decode cX12_init 301 = .ok (.aload_n 0, 1) := dc_42 aX12_init_301
theorem dX12_init_302 : decode cX12_init 302 = .ok (.bipush 20, 2) := dc_16 (a0 := 20) aX12_init_302 (by decide)
theorem dX12_init_304 : decode cX12_init 304 = .ok (.newarray .int, 2) := dc_188_10 aX12_init_304
theorem dX12_init_306 : decode cX12_init 306 = .ok (.putfield 126, 3) := dc_181 (a0 := 0) (b0 := 126) aX12_init_306
theorem dX12_init_309 : decode cX12_init 309 = .ok (.iconst 0, 1) := dc_3 aX12_init_309
theorem dX12_init_310 : decode cX12_init 310 = .ok (.istore_n 1, 1) := dc_60 aX12_init_310
theorem dX12_init_311 : decode cX12_init 311 = .ok (.iload_n 1, 1) := dc_27 aX12_init_311
theorem dX12_init_312 : decode cX12_init 312 = .ok (.bipush 28, 2) := dc_16 (a0 := 28) aX12_init_312 (by decide)
theorem dX12_init_314 : decode cX12_init 314 = .ok (.if_icmp .ge 16, 3) := dc_162 (a0 := 0) (b0 := 16) aX12_init_314 (by decide)
theorem dX12_init_317 : decode cX12_init 317 = .ok (.aload_n 0, 1) := dc_42 aX12_init_317
theorem dX12_init_318 : decode cX12_init 318 = .ok (.getfield 19, 3) := dc_180 (a0 := 0) (b0 := 19) aX12_init_318
theorem dX12_init_321 : decode cX12_init 321 = .ok (.iload_n 1, 1) := dc_27 aX12_init_321
theorem dX12_init_322 : decode cX12_init 322 = .ok (.iconst 1, 1) := dc_4 aX12_init_322
theorem dX12_init_323 : decode cX12_init 323 = .ok (.iastore, 1) := dc_79 aX12_init_323
theorem dX12_init_324 : decode cX12_init 324 = .ok (.iinc 1 1, 3) := dc_132 (a0 := 1) (a1 := 1) aX12_init_324 (by decide)
theorem dX12_init_327 : decode cX12_init 327 = .ok (.goto (-16), 3) := dc_167 (a0 := 255) (b0 := 240) aX12_init_327 (by decide)
theorem dX12_init_330 : decode cX12_init 330 = .ok (.iconst 0, 1) := dc_3 aX12_init_330
theorem dX12_init_331 : decode cX12_init 331 = .ok (.istore_n 1, 1) := dc_60 aX12_init_331
theorem dX12_init_332 : decode cX12_init 332 = .ok (.iload_n 1, 1) := dc_27 aX12_init_332
theorem dX12_init_333 : decode cX12_init 333 = .ok (.sipush 2640, 3) := dc_17 (a0 := 10) (b0 := 80) aX12_init_333 (by decide)
theorem dX12_init_336 : decode cX12_init 336 = .ok (.if_icmp .ge 16, 3) := dc_162 (a0 := 0) (b0 := 16) aX12_init_336 (by decide)
theorem dX12_init_339 : decode cX12_init 339 = .ok (.aload_n 0, 1) := dc_42 aX12_init_339
theorem dX12_init_340 : decode cX12_init 340 = .ok (.getfield 31, 3) := dc_180 (a0 := 0) (b0 := 31) aX12_init_340
theorem dX12_init_343 : decode cX12_init 343 = .ok (.iload_n 1, 1) := dc_27 aX12_init_343
theorem dX12_init_344 : decode cX12_init 344 = .ok (.iconst (-1), 1) := dc_2 aX12_init_344
theorem dX12_init_345 : decode cX12_init 345 = .ok (.iastore, 1) := dc_79 aX12_init_345
theorem dX12_init_346 : decode cX12_init 346 = .ok (.iinc 1 1, 3) := dc_132 (a0 := 1) (a1 := 1) aX12_init_346 (by decide)
theorem dX12_init_349 : decode cX12_init 349 = .ok (.goto (-17), 3) := dc_167 (a0 := 255) (b0 := 239) aX12_init_349 (by decide)
theorem dX12_init_352 : decode cX12_init 352 = .ok (.iconst 0, 1) := dc_3 aX12_init_352
theorem dX12_init_353 : decode cX12_init 353 = .ok (.istore_n 1, 1) := dc_60 aX12_init_353
theorem dX12_init_354 : decode cX12_init 354 = .ok (.iload_n 1, 1) := dc_27 aX12_init_354
theorem dX12_init_355 : decode cX12_init 355 = .ok (.bipush 20, 2) := dc_16 (a0 := 20) aX12_init_355 (by decide)
theorem dX12_init_357 : decode cX12_init 357 = .ok (.if_icmp .ge 23, 3) := dc_162 (a0 := 0) (b0 := 23) aX12_init_357 (by decide)
theorem dX12_init_360 : decode cX12_init 360 = .ok (.aload_n 0, 1) := dc_42 aX12_init_360
theorem dX12_init_361 : decode cX12_init 361 = .ok (.getfield 114, 3) := dc_180 (a0 := 0) (b0 := 114) aX12_init_361
theorem dX12_init_364 : decode cX12_init 364 = .ok (.iload_n 1, 1) := dc_27 aX12_init_364
theorem dX12_init_365 : decode cX12_init 365 = .ok (.iconst (-1), 1) := dc_2 aX12_init_365
theorem dX12_init_366 : decode cX12_init 366 = .ok (.iastore, 1) := dc_79 aX12_init_366
theorem dX12_init_367 : decode cX12_init 367 = .ok (.aload_n 0, 1) := dc_42 aX12_init_367
theorem dX12_init_368 : decode cX12_init 368 = .ok (.getfield 120, 3) := dc_180 (a0 := 0) (b0 := 120) aX12_init_368
theorem dX12_init_371 : decode cX12_init 371 = .ok (.iload_n 1, 1) := dc_27 aX12_init_371
theorem dX12_init_372 : decode cX12_init 372 = .ok (.iconst (-1), 1) := dc_2 aX12_init_372
theorem dX12_init_373 : decode cX12_init 373 = .ok (.iastore, 1) := dc_79 aX12_init_373
theorem dX12_init_374 : decode cX12_init 374 = .ok (.iinc 1 1, 3) := dc_132 (a0 := 1) (a1 := 1) aX12_init_374 (by decide)
theorem dX12_init_377 : decode cX12_init 377 = .ok (.goto (-23), 3) := dc_167 (a0 := 255) (b0 := 233) aX12_init_377 (by decide)
theorem dX12_init_380 : decode cX12_init 380 = .ok (.return_, 1) := dc_177 aX12_init_380
noncomputable def sX12_thrown_4 : List Nat := 172 :: []
noncomputable def sX12_thrown_1 : List Nat := 180 :: 0 :: 129 :: sX12_thrown_4
noncomputable def sX12_thrown_0 : List Nat := 42 :: sX12_thrown_1
theorem aX12_thrown_0 : dc_at cX12_thrown 0 sX12_thrown_0 := dc_base (by decide +kernel)
theorem aX12_thrown_1 : dc_at cX12_thrown 1 sX12_thrown_1 := dc_n1 aX12_thrown_0
theorem aX12_thrown_4 : dc_at cX12_thrown 4 sX12_thrown_4 := dc_n3 aX12_thrown_1
theorem dX12_thrown_0 : decode cX12_thrown 0 = .ok (.aload_n 0, 1) := dc_42 aX12_thrown_0
theorem dX12_thrown_1 : decode cX12_thrown 1 = .ok (.getfield 129, 3) := dc_180 (a0 := 0) (b0 := 129) aX12_thrown_1
theorem dX12_thrown_4 : decode cX12_thrown 4 = .ok (.ireturn, 1) := dc_172 aX12_thrown_4
noncomputable def sX12_right_28 : List Nat := 172 :: []
noncomputable def sX12_right_27 : List Nat := 3 :: sX12_right_28
noncomputable def sX12_right_24 : List Nat := 167 :: 0 :: 4 :: sX12_right_27
noncomputable def sX12_right_23 : List Nat := 4 :: sX12_right_24
noncomputable def sX12_right_20 : List Nat := 154 :: 0 :: 7 :: sX12_right_23
noncomputable def sX12_right_17 : List Nat := 180 :: 0 :: 129 :: sX12_right_20
noncomputable def sX12_right_16 : List Nat := 42 :: sX12_right_17
noncomputable def sX12_right_13 : List Nat := 181 :: 0 :: 129 :: sX12_right_16
noncomputable def sX12_right_12 : List Nat := 28 :: sX12_right_13
noncomputable def sX12_right_11 : List Nat := 42 :: sX12_right_12
noncomputable def sX12_right_8 : List Nat := 154 :: 0 :: 8 :: sX12_right_11
noncomputable def sX12_right_7 : List Nat := 27 :: sX12_right_8
noncomputable def sX12_right_4 : List Nat := 154 :: 0 :: 12 :: sX12_right_7
noncomputable def sX12_right_1 : List Nat := 180 :: 0 :: 129 :: sX12_right_4
noncomputable def sX12_right_0 : List Nat := 42 :: sX12_right_1
theorem aX12_right_0 : dc_at cX12_right 0 sX12_right_0 := dc_base (by decide +kernel)
theorem aX12_right_1 : dc_at cX12_right 1 sX12_right_1 := dc_n1 aX12_right_0
theorem aX12_right_4 : dc_at cX12_right 4 sX12_right_4 := dc_n3 aX12_right_1
theorem aX12_right_7 : dc_at cX12_right 7 sX12_right_7 := dc_n3 aX12_right_4
theorem aX12_right_8 : dc_at cX12_right 8 sX12_right_8 := dc_n1 aX12_right_7
theorem aX12_right_11 : dc_at cX12_right 11 sX12_right_11 := dc_n3 aX12_right_8
theorem aX12_right_12 : dc_at cX12_right 12 sX12_right_12 := dc_n1 aX12_right_11
theorem aX12_right_13 : dc_at cX12_right 13 sX12_right_13 := dc_n1 aX12_right_12
theorem aX12_right_16 : dc_at cX12_right 16 sX12_right_16 := dc_n3 aX12_right_13
theorem aX12_right_17 : dc_at cX12_right 17 sX12_right_17 := dc_n1 aX12_right_16
theorem aX12_right_20 : dc_at cX12_right 20 sX12_right_20 := dc_n3 aX12_right_17
theorem aX12_right_23 : dc_at cX12_right 23 sX12_right_23 := dc_n3 aX12_right_20
theorem aX12_right_24 : dc_at cX12_right 24 sX12_right_24 := dc_n1 aX12_right_23
theorem aX12_right_27 : dc_at cX12_right 27 sX12_right_27 := dc_n3 aX12_right_24
theorem aX12_right_28 : dc_at cX12_right 28 sX12_right_28 := dc_n1 aX12_right_27
theorem dX12_right_0 : decode cX12_right 0 = .ok (.aload_n 0, 1) := dc_42 aX12_right_0
theorem dX12_right_1 : decode cX12_right 1 = .ok (.getfield 129, 3) := dc_180 (a0 := 0) (b0 := 129) aX12_right_1
theorem dX12_right_4 : decode cX12_right 4 = .ok (.ifCond .ne 12, 3) := dc_154 (a0 := 0) (b0 := 12) aX12_right_4 (by decide)
theorem dX12_right_7 : decode cX12_right 7 = .ok (.iload_n 1, 1) := dc_27 aX12_right_7
theorem dX12_right_8 : decode cX12_right 8 = .ok (.ifCond .ne 8, 3) := dc_154 (a0 := 0) (b0 := 8) aX12_right_8 (by decide)
theorem dX12_right_11 : decode cX12_right 11 = .ok (.aload_n 0, 1) := dc_42 aX12_right_11
theorem dX12_right_12 : decode cX12_right 12 = .ok (.iload_n 2, 1) := dc_28 aX12_right_12
theorem dX12_right_13 : decode cX12_right 13 = .ok (.putfield 129, 3) := dc_181 (a0 := 0) (b0 := 129) aX12_right_13
theorem dX12_right_16 : decode cX12_right 16 = .ok (.aload_n 0, 1) := dc_42 aX12_right_16
theorem dX12_right_17 : decode cX12_right 17 = .ok (.getfield 129, 3) := dc_180 (a0 := 0) (b0 := 129) aX12_right_17
theorem dX12_right_20 : decode cX12_right 20 = .ok (.ifCond .ne 7, 3) := dc_154 (a0 := 0) (b0 := 7) aX12_right_20 (by decide)
theorem dX12_right_23 : decode cX12_right 23 = .ok (.iconst 1, 1) := dc_4 aX12_right_23
theorem dX12_right_24 : decode cX12_right 24 = .ok (.goto 4, 3) := dc_167 (a0 := 0) (b0 := 4) aX12_right_24 (by decide)
theorem dX12_right_27 : decode cX12_right 27 = .ok (.iconst 0, 1) := dc_3 aX12_right_27
theorem dX12_right_28 : decode cX12_right 28 = .ok (.ireturn, 1) := dc_172 aX12_right_28
noncomputable def sX12_within_15 : List Nat := 172 :: []
noncomputable def sX12_within_14 : List Nat := 3 :: sX12_within_15
noncomputable def sX12_within_11 : List Nat := 167 :: 0 :: 4 :: sX12_within_14
noncomputable def sX12_within_10 : List Nat := 4 :: sX12_within_11
noncomputable def sX12_within_7 : List Nat := 163 :: 0 :: 7 :: sX12_within_10
noncomputable def sX12_within_6 : List Nat := 28 :: sX12_within_7
noncomputable def sX12_within_5 : List Nat := 26 :: sX12_within_6
noncomputable def sX12_within_2 : List Nat := 161 :: 0 :: 12 :: sX12_within_5
noncomputable def sX12_within_1 : List Nat := 27 :: sX12_within_2
noncomputable def sX12_within_0 : List Nat := 26 :: sX12_within_1
theorem aX12_within_0 : dc_at cX12_within 0 sX12_within_0 := dc_base (by decide +kernel)
theorem aX12_within_1 : dc_at cX12_within 1 sX12_within_1 := dc_n1 aX12_within_0
theorem aX12_within_2 : dc_at cX12_within 2 sX12_within_2 := dc_n1 aX12_within_1
theorem aX12_within_5 : dc_at cX12_within 5 sX12_within_5 := dc_n3 aX12_within_2
theorem aX12_within_6 : dc_at cX12_within 6 sX12_within_6 := dc_n1 aX12_within_5
theorem aX12_within_7 : dc_at cX12_within 7 sX12_within_7 := dc_n1 aX12_within_6
theorem aX12_within_10 : dc_at cX12_within 10 sX12_within_10 := dc_n3 aX12_within_7
theorem aX12_within_11 : dc_at cX12_within 11 sX12_within_11 := dc_n1 aX12_within_10
theorem aX12_within_14 : dc_at cX12_within 14 sX12_within_14 := dc_n3 aX12_within_11
theorem aX12_within_15 : dc_at cX12_within 15 sX12_within_15 := dc_n1 aX12_within_14
theorem dX12_within_0 : decode cX12_within 0 = .ok (.iload_n 0, 1) := dc_26 aX12_within_0
theorem dX12_within_1 : decode cX12_within 1 = .ok (.iload_n 1, 1) := dc_27 aX12_within_1
theorem dX12_within_2 : decode cX12_within 2 = .ok (.if_icmp .lt 12, 3) := dc_161 (a0 := 0) (b0 := 12) aX12_within_2 (by decide)
theorem dX12_within_5 : decode cX12_within 5 = .ok (.iload_n 0, 1) := dc_26 aX12_within_5
theorem dX12_within_6 : decode cX12_within 6 = .ok (.iload_n 2, 1) := dc_28 aX12_within_6
theorem dX12_within_7 : decode cX12_within 7 = .ok (.if_icmp .gt 7, 3) := dc_163 (a0 := 0) (b0 := 7) aX12_within_7 (by decide)
theorem dX12_within_10 : decode cX12_within 10 = .ok (.iconst 1, 1) := dc_4 aX12_within_10
theorem dX12_within_11 : decode cX12_within 11 = .ok (.goto 4, 3) := dc_167 (a0 := 0) (b0 := 4) aX12_within_11 (by decide)
theorem dX12_within_14 : decode cX12_within 14 = .ok (.iconst 0, 1) := dc_3 aX12_within_14
theorem dX12_within_15 : decode cX12_within 15 = .ok (.ireturn, 1) := dc_172 aX12_within_15
set_option maxRecDepth 20000 in
theorem ggX12_feed_X12_lays : GoodIn wsX12_feed wsX12_lays := goodIn_k _ [[7, 0], [2, 6, 0, 0, 0, 0, 0, 0, 0, 0, 0, 0, 0, 0, 0, 0, 0, 0, 0, 0, 0, 0, 0, 0, 0, 0, 0, 0, 0, 0, 0, 0, 0, 0, 0, 0, 0, 0, 0, 0, 0, 0, 0, 0, 0, 0, 0, 0, 0, 0, 0, 0, 0, 0, 0, 0, 0, 0, 0]] (by rfl) (by decide +kernel)
set_option maxRecDepth 20000 in
theorem gX12_feed_X12_lays : GoodIn wsX12_feed (wsV RX12 135 RX12 yX12_lays wsX12_lays) := goodIn_app (goodIn_of _ (by decide +kernel)) ggX12_feed_X12_lays
noncomputable def sX12_feed_51 : List Nat := 172 :: []
noncomputable def sX12_feed_48 : List Nat := 180 :: 0 :: 132 :: sX12_feed_51
noncomputable def sX12_feed_47 : List Nat := 42 :: sX12_feed_48
noncomputable def sX12_feed_44 : List Nat := 182 :: 0 :: 135 :: sX12_feed_47
noncomputable def sX12_feed_42 : List Nat := 21 :: 5 :: sX12_feed_44
noncomputable def sX12_feed_41 : List Nat := 42 :: sX12_feed_42
noncomputable def sX12_feed_38 : List Nat := 182 :: 0 :: 135 :: sX12_feed_41
noncomputable def sX12_feed_36 : List Nat := 21 :: 4 :: sX12_feed_38
noncomputable def sX12_feed_35 : List Nat := 42 :: sX12_feed_36
noncomputable def sX12_feed_32 : List Nat := 182 :: 0 :: 135 :: sX12_feed_35
noncomputable def sX12_feed_31 : List Nat := 29 :: sX12_feed_32
noncomputable def sX12_feed_30 : List Nat := 42 :: sX12_feed_31
noncomputable def sX12_feed_27 : List Nat := 182 :: 0 :: 135 :: sX12_feed_30
noncomputable def sX12_feed_26 : List Nat := 28 :: sX12_feed_27
noncomputable def sX12_feed_25 : List Nat := 42 :: sX12_feed_26
noncomputable def sX12_feed_22 : List Nat := 182 :: 0 :: 135 :: sX12_feed_25
noncomputable def sX12_feed_21 : List Nat := 27 :: sX12_feed_22
noncomputable def sX12_feed_20 : List Nat := 42 :: sX12_feed_21
noncomputable def sX12_feed_19 : List Nat := 172 :: sX12_feed_20
noncomputable def sX12_feed_18 : List Nat := 2 :: sX12_feed_19
noncomputable def sX12_feed_15 : List Nat := 164 :: 0 :: 5 :: sX12_feed_18
noncomputable def sX12_feed_12 : List Nat := 17 :: 2 :: 88 :: sX12_feed_15
noncomputable def sX12_feed_11 : List Nat := 96 :: sX12_feed_12
noncomputable def sX12_feed_9 : List Nat := 16 :: 20 :: sX12_feed_11
noncomputable def sX12_feed_6 : List Nat := 180 :: 0 :: 132 :: sX12_feed_9
noncomputable def sX12_feed_5 : List Nat := 42 :: sX12_feed_6
noncomputable def sX12_feed_2 : List Nat := 181 :: 0 :: 129 :: sX12_feed_5
noncomputable def sX12_feed_1 : List Nat := 3 :: sX12_feed_2
noncomputable def sX12_feed_0 : List Nat := 42 :: sX12_feed_1
theorem aX12_feed_0 : dc_at cX12_feed 0 sX12_feed_0 := dc_base (by decide +kernel)
theorem aX12_feed_1 : dc_at cX12_feed 1 sX12_feed_1 := dc_n1 aX12_feed_0
theorem aX12_feed_2 : dc_at cX12_feed 2 sX12_feed_2 := dc_n1 aX12_feed_1
theorem aX12_feed_5 : dc_at cX12_feed 5 sX12_feed_5 := dc_n3 aX12_feed_2
theorem aX12_feed_6 : dc_at cX12_feed 6 sX12_feed_6 := dc_n1 aX12_feed_5
theorem aX12_feed_9 : dc_at cX12_feed 9 sX12_feed_9 := dc_n3 aX12_feed_6
theorem aX12_feed_11 : dc_at cX12_feed 11 sX12_feed_11 := dc_n2 aX12_feed_9
theorem aX12_feed_12 : dc_at cX12_feed 12 sX12_feed_12 := dc_n1 aX12_feed_11
theorem aX12_feed_15 : dc_at cX12_feed 15 sX12_feed_15 := dc_n3 aX12_feed_12
theorem aX12_feed_18 : dc_at cX12_feed 18 sX12_feed_18 := dc_n3 aX12_feed_15
theorem aX12_feed_19 : dc_at cX12_feed 19 sX12_feed_19 := dc_n1 aX12_feed_18
theorem aX12_feed_20 : dc_at cX12_feed 20 sX12_feed_20 := dc_n1 aX12_feed_19
theorem aX12_feed_21 : dc_at cX12_feed 21 sX12_feed_21 := dc_n1 aX12_feed_20
theorem aX12_feed_22 : dc_at cX12_feed 22 sX12_feed_22 := dc_n1 aX12_feed_21
theorem aX12_feed_25 : dc_at cX12_feed 25 sX12_feed_25 := dc_n3 aX12_feed_22
theorem aX12_feed_26 : dc_at cX12_feed 26 sX12_feed_26 := dc_n1 aX12_feed_25
theorem aX12_feed_27 : dc_at cX12_feed 27 sX12_feed_27 := dc_n1 aX12_feed_26
theorem aX12_feed_30 : dc_at cX12_feed 30 sX12_feed_30 := dc_n3 aX12_feed_27
theorem aX12_feed_31 : dc_at cX12_feed 31 sX12_feed_31 := dc_n1 aX12_feed_30
theorem aX12_feed_32 : dc_at cX12_feed 32 sX12_feed_32 := dc_n1 aX12_feed_31
theorem aX12_feed_35 : dc_at cX12_feed 35 sX12_feed_35 := dc_n3 aX12_feed_32
theorem aX12_feed_36 : dc_at cX12_feed 36 sX12_feed_36 := dc_n1 aX12_feed_35
theorem aX12_feed_38 : dc_at cX12_feed 38 sX12_feed_38 := dc_n2 aX12_feed_36
theorem aX12_feed_41 : dc_at cX12_feed 41 sX12_feed_41 := dc_n3 aX12_feed_38
theorem aX12_feed_42 : dc_at cX12_feed 42 sX12_feed_42 := dc_n1 aX12_feed_41
theorem aX12_feed_44 : dc_at cX12_feed 44 sX12_feed_44 := dc_n2 aX12_feed_42
theorem aX12_feed_47 : dc_at cX12_feed 47 sX12_feed_47 := dc_n3 aX12_feed_44
theorem aX12_feed_48 : dc_at cX12_feed 48 sX12_feed_48 := dc_n1 aX12_feed_47
theorem aX12_feed_51 : dc_at cX12_feed 51 sX12_feed_51 := dc_n3 aX12_feed_48
theorem dX12_feed_0 : decode cX12_feed 0 = .ok (.aload_n 0, 1) := dc_42 aX12_feed_0
theorem dX12_feed_1 : decode cX12_feed 1 = .ok (.iconst 0, 1) := dc_3 aX12_feed_1
theorem dX12_feed_2 : decode cX12_feed 2 = .ok (.putfield 129, 3) := dc_181 (a0 := 0) (b0 := 129) aX12_feed_2
theorem dX12_feed_5 : decode cX12_feed 5 = .ok (.aload_n 0, 1) := dc_42 aX12_feed_5
theorem dX12_feed_6 : decode cX12_feed 6 = .ok (.getfield 132, 3) := dc_180 (a0 := 0) (b0 := 132) aX12_feed_6
theorem dX12_feed_9 : decode cX12_feed 9 = .ok (.bipush 20, 2) := dc_16 (a0 := 20) aX12_feed_9 (by decide)
theorem dX12_feed_11 : decode cX12_feed 11 = .ok (.iadd, 1) := dc_96 aX12_feed_11
theorem dX12_feed_12 : decode cX12_feed 12 = .ok (.sipush 600, 3) := dc_17 (a0 := 2) (b0 := 88) aX12_feed_12 (by decide)
theorem dX12_feed_15 : decode cX12_feed 15 = .ok (.if_icmp .le 5, 3) := dc_164 (a0 := 0) (b0 := 5) aX12_feed_15 (by decide)
theorem dX12_feed_18 : decode cX12_feed 18 = .ok (.iconst (-1), 1) := dc_2 aX12_feed_18
theorem dX12_feed_19 : decode cX12_feed 19 = .ok (.ireturn, 1) := dc_172 aX12_feed_19
theorem dX12_feed_20 : decode cX12_feed 20 = .ok (.aload_n 0, 1) := dc_42 aX12_feed_20
theorem dX12_feed_21 : decode cX12_feed 21 = .ok (.iload_n 1, 1) := dc_27 aX12_feed_21
theorem dX12_feed_22 : decode cX12_feed 22 = .ok (.invokevirtual 135, 3) := dc_182 (a0 := 0) (b0 := 135) aX12_feed_22
theorem dX12_feed_25 : decode cX12_feed 25 = .ok (.aload_n 0, 1) := dc_42 aX12_feed_25
theorem dX12_feed_26 : decode cX12_feed 26 = .ok (.iload_n 2, 1) := dc_28 aX12_feed_26
theorem dX12_feed_27 : decode cX12_feed 27 = .ok (.invokevirtual 135, 3) := dc_182 (a0 := 0) (b0 := 135) aX12_feed_27
theorem dX12_feed_30 : decode cX12_feed 30 = .ok (.aload_n 0, 1) := dc_42 aX12_feed_30
theorem dX12_feed_31 : decode cX12_feed 31 = .ok (.iload_n 3, 1) := dc_29 aX12_feed_31
theorem dX12_feed_32 : decode cX12_feed 32 = .ok (.invokevirtual 135, 3) := dc_182 (a0 := 0) (b0 := 135) aX12_feed_32
theorem dX12_feed_35 : decode cX12_feed 35 = .ok (.aload_n 0, 1) := dc_42 aX12_feed_35
theorem dX12_feed_36 : decode cX12_feed 36 = .ok (.iload 4, 2) := dc_21 (a0 := 4) aX12_feed_36
theorem dX12_feed_38 : decode cX12_feed 38 = .ok (.invokevirtual 135, 3) := dc_182 (a0 := 0) (b0 := 135) aX12_feed_38
theorem dX12_feed_41 : decode cX12_feed 41 = .ok (.aload_n 0, 1) := dc_42 aX12_feed_41
theorem dX12_feed_42 : decode cX12_feed 42 = .ok (.iload 5, 2) := dc_21 (a0 := 5) aX12_feed_42
theorem dX12_feed_44 : decode cX12_feed 44 = .ok (.invokevirtual 135, 3) := dc_182 (a0 := 0) (b0 := 135) aX12_feed_44
theorem dX12_feed_47 : decode cX12_feed 47 = .ok (.aload_n 0, 1) := dc_42 aX12_feed_47
theorem dX12_feed_48 : decode cX12_feed 48 = .ok (.getfield 132, 3) := dc_180 (a0 := 0) (b0 := 132) aX12_feed_48
theorem dX12_feed_51 : decode cX12_feed 51 = .ok (.ireturn, 1) := dc_172 aX12_feed_51
noncomputable def sX12_lays_39 : List Nat := 177 :: []
noncomputable def sX12_lays_36 : List Nat := 167 :: 255 :: 223 :: sX12_lays_39
noncomputable def sX12_lays_33 : List Nat := 132 :: 2 :: 248 :: sX12_lays_36
noncomputable def sX12_lays_30 : List Nat := 181 :: 0 :: 132 :: sX12_lays_33
noncomputable def sX12_lays_29 : List Nat := 96 :: sX12_lays_30
noncomputable def sX12_lays_28 : List Nat := 4 :: sX12_lays_29
noncomputable def sX12_lays_25 : List Nat := 180 :: 0 :: 132 :: sX12_lays_28
noncomputable def sX12_lays_24 : List Nat := 89 :: sX12_lays_25
noncomputable def sX12_lays_23 : List Nat := 42 :: sX12_lays_24
noncomputable def sX12_lays_22 : List Nat := 79 :: sX12_lays_23
noncomputable def sX12_lays_21 : List Nat := 126 :: sX12_lays_22
noncomputable def sX12_lays_18 : List Nat := 17 :: 0 :: 255 :: sX12_lays_21
noncomputable def sX12_lays_17 : List Nat := 122 :: sX12_lays_18
noncomputable def sX12_lays_16 : List Nat := 28 :: sX12_lays_17
noncomputable def sX12_lays_15 : List Nat := 27 :: sX12_lays_16
noncomputable def sX12_lays_12 : List Nat := 180 :: 0 :: 132 :: sX12_lays_15
noncomputable def sX12_lays_11 : List Nat := 42 :: sX12_lays_12
noncomputable def sX12_lays_8 : List Nat := 180 :: 0 :: 34 :: sX12_lays_11
noncomputable def sX12_lays_7 : List Nat := 42 :: sX12_lays_8
noncomputable def sX12_lays_4 : List Nat := 155 :: 0 :: 35 :: sX12_lays_7
noncomputable def sX12_lays_3 : List Nat := 28 :: sX12_lays_4
noncomputable def sX12_lays_2 : List Nat := 61 :: sX12_lays_3
noncomputable def sX12_lays_0 : List Nat := 16 :: 24 :: sX12_lays_2
theorem aX12_lays_0 : dc_at cX12_lays 0 sX12_lays_0 := dc_base (by decide +kernel)
theorem aX12_lays_2 : dc_at cX12_lays 2 sX12_lays_2 := dc_n2 aX12_lays_0
theorem aX12_lays_3 : dc_at cX12_lays 3 sX12_lays_3 := dc_n1 aX12_lays_2
theorem aX12_lays_4 : dc_at cX12_lays 4 sX12_lays_4 := dc_n1 aX12_lays_3
theorem aX12_lays_7 : dc_at cX12_lays 7 sX12_lays_7 := dc_n3 aX12_lays_4
theorem aX12_lays_8 : dc_at cX12_lays 8 sX12_lays_8 := dc_n1 aX12_lays_7
theorem aX12_lays_11 : dc_at cX12_lays 11 sX12_lays_11 := dc_n3 aX12_lays_8
theorem aX12_lays_12 : dc_at cX12_lays 12 sX12_lays_12 := dc_n1 aX12_lays_11
theorem aX12_lays_15 : dc_at cX12_lays 15 sX12_lays_15 := dc_n3 aX12_lays_12
theorem aX12_lays_16 : dc_at cX12_lays 16 sX12_lays_16 := dc_n1 aX12_lays_15
theorem aX12_lays_17 : dc_at cX12_lays 17 sX12_lays_17 := dc_n1 aX12_lays_16
theorem aX12_lays_18 : dc_at cX12_lays 18 sX12_lays_18 := dc_n1 aX12_lays_17
theorem aX12_lays_21 : dc_at cX12_lays 21 sX12_lays_21 := dc_n3 aX12_lays_18
theorem aX12_lays_22 : dc_at cX12_lays 22 sX12_lays_22 := dc_n1 aX12_lays_21
theorem aX12_lays_23 : dc_at cX12_lays 23 sX12_lays_23 := dc_n1 aX12_lays_22
theorem aX12_lays_24 : dc_at cX12_lays 24 sX12_lays_24 := dc_n1 aX12_lays_23
theorem aX12_lays_25 : dc_at cX12_lays 25 sX12_lays_25 := dc_n1 aX12_lays_24
theorem aX12_lays_28 : dc_at cX12_lays 28 sX12_lays_28 := dc_n3 aX12_lays_25
theorem aX12_lays_29 : dc_at cX12_lays 29 sX12_lays_29 := dc_n1 aX12_lays_28
theorem aX12_lays_30 : dc_at cX12_lays 30 sX12_lays_30 := dc_n1 aX12_lays_29
theorem aX12_lays_33 : dc_at cX12_lays 33 sX12_lays_33 := dc_n3 aX12_lays_30
theorem aX12_lays_36 : dc_at cX12_lays 36 sX12_lays_36 := dc_n3 aX12_lays_33
theorem aX12_lays_39 : dc_at cX12_lays 39 sX12_lays_39 := dc_n3 aX12_lays_36
theorem dX12_lays_0 : decode cX12_lays 0 = .ok (.bipush 24, 2) := dc_16 (a0 := 24) aX12_lays_0 (by decide)
theorem dX12_lays_2 : decode cX12_lays 2 = .ok (.istore_n 2, 1) := dc_61 aX12_lays_2
theorem dX12_lays_3 : decode cX12_lays 3 = .ok (.iload_n 2, 1) := dc_28 aX12_lays_3
theorem dX12_lays_4 : decode cX12_lays 4 = .ok (.ifCond .lt 35, 3) := dc_155 (a0 := 0) (b0 := 35) aX12_lays_4 (by decide)
theorem dX12_lays_7 : decode cX12_lays 7 = .ok (.aload_n 0, 1) := dc_42 aX12_lays_7
theorem dX12_lays_8 : decode cX12_lays 8 = .ok (.getfield 34, 3) := dc_180 (a0 := 0) (b0 := 34) aX12_lays_8
theorem dX12_lays_11 : decode cX12_lays 11 = .ok (.aload_n 0, 1) := dc_42 aX12_lays_11
theorem dX12_lays_12 : decode cX12_lays 12 = .ok (.getfield 132, 3) := dc_180 (a0 := 0) (b0 := 132) aX12_lays_12
theorem dX12_lays_15 : decode cX12_lays 15 = .ok (.iload_n 1, 1) := dc_27 aX12_lays_15
theorem dX12_lays_16 : decode cX12_lays 16 = .ok (.iload_n 2, 1) := dc_28 aX12_lays_16
theorem dX12_lays_17 : decode cX12_lays 17 = .ok (.ishr, 1) := dc_122 aX12_lays_17
theorem dX12_lays_18 : decode cX12_lays 18 = .ok (.sipush 255, 3) := dc_17 (a0 := 0) (b0 := 255) aX12_lays_18 (by decide)
theorem dX12_lays_21 : decode cX12_lays 21 = .ok (.iand, 1) := dc_126 aX12_lays_21
theorem dX12_lays_22 : decode cX12_lays 22 = .ok (.iastore, 1) := dc_79 aX12_lays_22
theorem dX12_lays_23 : decode cX12_lays 23 = .ok (.aload_n 0, 1) := dc_42 aX12_lays_23
theorem dX12_lays_24 : decode cX12_lays 24 = .ok (.dup, 1) := dc_89 aX12_lays_24
theorem dX12_lays_25 : decode cX12_lays 25 = .ok (.getfield 132, 3) := dc_180 (a0 := 0) (b0 := 132) aX12_lays_25
theorem dX12_lays_28 : decode cX12_lays 28 = .ok (.iconst 1, 1) := dc_4 aX12_lays_28
theorem dX12_lays_29 : decode cX12_lays 29 = .ok (.iadd, 1) := dc_96 aX12_lays_29
theorem dX12_lays_30 : decode cX12_lays 30 = .ok (.putfield 132, 3) := dc_181 (a0 := 0) (b0 := 132) aX12_lays_30
theorem dX12_lays_33 : decode cX12_lays 33 = .ok (.iinc 2 (-8), 3) := dc_132 (a0 := 2) (a1 := 248) aX12_lays_33 (by decide)
theorem dX12_lays_36 : decode cX12_lays 36 = .ok (.goto (-33), 3) := dc_167 (a0 := 255) (b0 := 223) aX12_lays_36 (by decide)
theorem dX12_lays_39 : decode cX12_lays 39 = .ok (.return_, 1) := dc_177 aX12_lays_39
noncomputable def sX12_byteAt_18 : List Nat := 172 :: []
noncomputable def sX12_byteAt_17 : List Nat := 3 :: sX12_byteAt_18
noncomputable def sX12_byteAt_14 : List Nat := 167 :: 0 :: 4 :: sX12_byteAt_17
noncomputable def sX12_byteAt_13 : List Nat := 46 :: sX12_byteAt_14
noncomputable def sX12_byteAt_12 : List Nat := 27 :: sX12_byteAt_13
noncomputable def sX12_byteAt_9 : List Nat := 180 :: 0 :: 34 :: sX12_byteAt_12
noncomputable def sX12_byteAt_8 : List Nat := 42 :: sX12_byteAt_9
noncomputable def sX12_byteAt_5 : List Nat := 162 :: 0 :: 12 :: sX12_byteAt_8
noncomputable def sX12_byteAt_2 : List Nat := 180 :: 0 :: 139 :: sX12_byteAt_5
noncomputable def sX12_byteAt_1 : List Nat := 42 :: sX12_byteAt_2
noncomputable def sX12_byteAt_0 : List Nat := 27 :: sX12_byteAt_1
theorem aX12_byteAt_0 : dc_at cX12_byteAt 0 sX12_byteAt_0 := dc_base (by decide +kernel)
theorem aX12_byteAt_1 : dc_at cX12_byteAt 1 sX12_byteAt_1 := dc_n1 aX12_byteAt_0
theorem aX12_byteAt_2 : dc_at cX12_byteAt 2 sX12_byteAt_2 := dc_n1 aX12_byteAt_1
theorem aX12_byteAt_5 : dc_at cX12_byteAt 5 sX12_byteAt_5 := dc_n3 aX12_byteAt_2
theorem aX12_byteAt_8 : dc_at cX12_byteAt 8 sX12_byteAt_8 := dc_n3 aX12_byteAt_5
theorem aX12_byteAt_9 : dc_at cX12_byteAt 9 sX12_byteAt_9 := dc_n1 aX12_byteAt_8
theorem aX12_byteAt_12 : dc_at cX12_byteAt 12 sX12_byteAt_12 := dc_n3 aX12_byteAt_9
theorem aX12_byteAt_13 : dc_at cX12_byteAt 13 sX12_byteAt_13 := dc_n1 aX12_byteAt_12
theorem aX12_byteAt_14 : dc_at cX12_byteAt 14 sX12_byteAt_14 := dc_n1 aX12_byteAt_13
theorem aX12_byteAt_17 : dc_at cX12_byteAt 17 sX12_byteAt_17 := dc_n3 aX12_byteAt_14
theorem aX12_byteAt_18 : dc_at cX12_byteAt 18 sX12_byteAt_18 := dc_n1 aX12_byteAt_17
theorem dX12_byteAt_0 : decode cX12_byteAt 0 = .ok (.iload_n 1, 1) := dc_27 aX12_byteAt_0
theorem dX12_byteAt_1 : decode cX12_byteAt 1 = .ok (.aload_n 0, 1) := dc_42 aX12_byteAt_1
theorem dX12_byteAt_2 : decode cX12_byteAt 2 = .ok (.getfield 139, 3) := dc_180 (a0 := 0) (b0 := 139) aX12_byteAt_2
theorem dX12_byteAt_5 : decode cX12_byteAt 5 = .ok (.if_icmp .ge 12, 3) := dc_162 (a0 := 0) (b0 := 12) aX12_byteAt_5 (by decide)
theorem dX12_byteAt_8 : decode cX12_byteAt 8 = .ok (.aload_n 0, 1) := dc_42 aX12_byteAt_8
theorem dX12_byteAt_9 : decode cX12_byteAt 9 = .ok (.getfield 34, 3) := dc_180 (a0 := 0) (b0 := 34) aX12_byteAt_9
theorem dX12_byteAt_12 : decode cX12_byteAt 12 = .ok (.iload_n 1, 1) := dc_27 aX12_byteAt_12
theorem dX12_byteAt_13 : decode cX12_byteAt 13 = .ok (.iaload, 1) := dc_46 aX12_byteAt_13
theorem dX12_byteAt_14 : decode cX12_byteAt 14 = .ok (.goto 4, 3) := dc_167 (a0 := 0) (b0 := 4) aX12_byteAt_14 (by decide)
theorem dX12_byteAt_17 : decode cX12_byteAt 17 = .ok (.iconst 0, 1) := dc_3 aX12_byteAt_17
theorem dX12_byteAt_18 : decode cX12_byteAt 18 = .ok (.ireturn, 1) := dc_172 aX12_byteAt_18
noncomputable def sX12_isLetter_17 : List Nat := 172 :: []
noncomputable def sX12_isLetter_16 : List Nat := 3 :: sX12_isLetter_17
noncomputable def sX12_isLetter_13 : List Nat := 167 :: 0 :: 4 :: sX12_isLetter_16
noncomputable def sX12_isLetter_12 : List Nat := 4 :: sX12_isLetter_13
noncomputable def sX12_isLetter_9 : List Nat := 163 :: 0 :: 7 :: sX12_isLetter_12
noncomputable def sX12_isLetter_7 : List Nat := 16 :: 122 :: sX12_isLetter_9
noncomputable def sX12_isLetter_6 : List Nat := 26 :: sX12_isLetter_7
noncomputable def sX12_isLetter_3 : List Nat := 161 :: 0 :: 13 :: sX12_isLetter_6
noncomputable def sX12_isLetter_1 : List Nat := 16 :: 97 :: sX12_isLetter_3
noncomputable def sX12_isLetter_0 : List Nat := 26 :: sX12_isLetter_1
theorem aX12_isLetter_0 : dc_at cX12_isLetter 0 sX12_isLetter_0 := dc_base (by decide +kernel)
theorem aX12_isLetter_1 : dc_at cX12_isLetter 1 sX12_isLetter_1 := dc_n1 aX12_isLetter_0
theorem aX12_isLetter_3 : dc_at cX12_isLetter 3 sX12_isLetter_3 := dc_n2 aX12_isLetter_1
theorem aX12_isLetter_6 : dc_at cX12_isLetter 6 sX12_isLetter_6 := dc_n3 aX12_isLetter_3
theorem aX12_isLetter_7 : dc_at cX12_isLetter 7 sX12_isLetter_7 := dc_n1 aX12_isLetter_6
theorem aX12_isLetter_9 : dc_at cX12_isLetter 9 sX12_isLetter_9 := dc_n2 aX12_isLetter_7
theorem aX12_isLetter_12 : dc_at cX12_isLetter 12 sX12_isLetter_12 := dc_n3 aX12_isLetter_9
theorem aX12_isLetter_13 : dc_at cX12_isLetter 13 sX12_isLetter_13 := dc_n1 aX12_isLetter_12
theorem aX12_isLetter_16 : dc_at cX12_isLetter 16 sX12_isLetter_16 := dc_n3 aX12_isLetter_13
theorem aX12_isLetter_17 : dc_at cX12_isLetter 17 sX12_isLetter_17 := dc_n1 aX12_isLetter_16
theorem dX12_isLetter_0 : decode cX12_isLetter 0 = .ok (.iload_n 0, 1) := dc_26 aX12_isLetter_0
theorem dX12_isLetter_1 : decode cX12_isLetter 1 = .ok (.bipush 97, 2) := dc_16 (a0 := 97) aX12_isLetter_1 (by decide)
theorem dX12_isLetter_3 : decode cX12_isLetter 3 = .ok (.if_icmp .lt 13, 3) := dc_161 (a0 := 0) (b0 := 13) aX12_isLetter_3 (by decide)
theorem dX12_isLetter_6 : decode cX12_isLetter 6 = .ok (.iload_n 0, 1) := dc_26 aX12_isLetter_6
theorem dX12_isLetter_7 : decode cX12_isLetter 7 = .ok (.bipush 122, 2) := dc_16 (a0 := 122) aX12_isLetter_7 (by decide)
theorem dX12_isLetter_9 : decode cX12_isLetter 9 = .ok (.if_icmp .gt 7, 3) := dc_163 (a0 := 0) (b0 := 7) aX12_isLetter_9 (by decide)
theorem dX12_isLetter_12 : decode cX12_isLetter 12 = .ok (.iconst 1, 1) := dc_4 aX12_isLetter_12
theorem dX12_isLetter_13 : decode cX12_isLetter 13 = .ok (.goto 4, 3) := dc_167 (a0 := 0) (b0 := 4) aX12_isLetter_13 (by decide)
theorem dX12_isLetter_16 : decode cX12_isLetter 16 = .ok (.iconst 0, 1) := dc_3 aX12_isLetter_16
theorem dX12_isLetter_17 : decode cX12_isLetter 17 = .ok (.ireturn, 1) := dc_172 aX12_isLetter_17
noncomputable def sX12_isDigit_17 : List Nat := 172 :: []
noncomputable def sX12_isDigit_16 : List Nat := 3 :: sX12_isDigit_17
noncomputable def sX12_isDigit_13 : List Nat := 167 :: 0 :: 4 :: sX12_isDigit_16
noncomputable def sX12_isDigit_12 : List Nat := 4 :: sX12_isDigit_13
noncomputable def sX12_isDigit_9 : List Nat := 163 :: 0 :: 7 :: sX12_isDigit_12
noncomputable def sX12_isDigit_7 : List Nat := 16 :: 57 :: sX12_isDigit_9
noncomputable def sX12_isDigit_6 : List Nat := 26 :: sX12_isDigit_7
noncomputable def sX12_isDigit_3 : List Nat := 161 :: 0 :: 13 :: sX12_isDigit_6
noncomputable def sX12_isDigit_1 : List Nat := 16 :: 48 :: sX12_isDigit_3
noncomputable def sX12_isDigit_0 : List Nat := 26 :: sX12_isDigit_1
theorem aX12_isDigit_0 : dc_at cX12_isDigit 0 sX12_isDigit_0 := dc_base (by decide +kernel)
theorem aX12_isDigit_1 : dc_at cX12_isDigit 1 sX12_isDigit_1 := dc_n1 aX12_isDigit_0
theorem aX12_isDigit_3 : dc_at cX12_isDigit 3 sX12_isDigit_3 := dc_n2 aX12_isDigit_1
theorem aX12_isDigit_6 : dc_at cX12_isDigit 6 sX12_isDigit_6 := dc_n3 aX12_isDigit_3
theorem aX12_isDigit_7 : dc_at cX12_isDigit 7 sX12_isDigit_7 := dc_n1 aX12_isDigit_6
theorem aX12_isDigit_9 : dc_at cX12_isDigit 9 sX12_isDigit_9 := dc_n2 aX12_isDigit_7
theorem aX12_isDigit_12 : dc_at cX12_isDigit 12 sX12_isDigit_12 := dc_n3 aX12_isDigit_9
theorem aX12_isDigit_13 : dc_at cX12_isDigit 13 sX12_isDigit_13 := dc_n1 aX12_isDigit_12
theorem aX12_isDigit_16 : dc_at cX12_isDigit 16 sX12_isDigit_16 := dc_n3 aX12_isDigit_13
theorem aX12_isDigit_17 : dc_at cX12_isDigit 17 sX12_isDigit_17 := dc_n1 aX12_isDigit_16
theorem dX12_isDigit_0 : decode cX12_isDigit 0 = .ok (.iload_n 0, 1) := dc_26 aX12_isDigit_0
theorem dX12_isDigit_1 : decode cX12_isDigit 1 = .ok (.bipush 48, 2) := dc_16 (a0 := 48) aX12_isDigit_1 (by decide)
theorem dX12_isDigit_3 : decode cX12_isDigit 3 = .ok (.if_icmp .lt 13, 3) := dc_161 (a0 := 0) (b0 := 13) aX12_isDigit_3 (by decide)
theorem dX12_isDigit_6 : decode cX12_isDigit 6 = .ok (.iload_n 0, 1) := dc_26 aX12_isDigit_6
theorem dX12_isDigit_7 : decode cX12_isDigit 7 = .ok (.bipush 57, 2) := dc_16 (a0 := 57) aX12_isDigit_7 (by decide)
theorem dX12_isDigit_9 : decode cX12_isDigit 9 = .ok (.if_icmp .gt 7, 3) := dc_163 (a0 := 0) (b0 := 7) aX12_isDigit_9 (by decide)
theorem dX12_isDigit_12 : decode cX12_isDigit 12 = .ok (.iconst 1, 1) := dc_4 aX12_isDigit_12
theorem dX12_isDigit_13 : decode cX12_isDigit 13 = .ok (.goto 4, 3) := dc_167 (a0 := 0) (b0 := 4) aX12_isDigit_13 (by decide)
theorem dX12_isDigit_16 : decode cX12_isDigit 16 = .ok (.iconst 0, 1) := dc_3 aX12_isDigit_16
theorem dX12_isDigit_17 : decode cX12_isDigit 17 = .ok (.ireturn, 1) := dc_172 aX12_isDigit_17
set_option maxRecDepth 20000 in
theorem ggX12_steps_X12_byteAt : GoodIn wsX12_steps wsX12_byteAt := goodIn_k _ [[12], [2, 10, 6, 0, 0, 0, 0, 0, 0, 0, 0, 0, 0, 0, 0, 0, 0, 0, 0, 0, 0, 0, 0, 0, 0, 0, 0, 0, 0, 0, 0, 0, 0, 0, 0, 0, 0, 0, 0, 0, 0, 0, 0, 0, 0, 0, 0, 0, 0, 0, 0, 0, 0, 0, 0, 0, 0, 0, 0, 0]] (by rfl) (by decide +kernel)
set_option maxRecDepth 20000 in
theorem gX12_steps_X12_byteAt : GoodIn wsX12_steps (wsV RX12 145 RX12 yX12_byteAt wsX12_byteAt) := goodIn_app (goodIn_of _ (by decide +kernel)) ggX12_steps_X12_byteAt
set_option maxRecDepth 20000 in
theorem ggX12_steps_X12_isLetter : GoodIn wsX12_steps wsX12_isLetter := goodIn_k _ [[16]] (by rfl) (by decide +kernel)
set_option maxRecDepth 20000 in
theorem gX12_steps_X12_isLetter : GoodIn wsX12_steps (va_wsS RX12 162 yX12_isLetter wsX12_isLetter) := goodIn_app (goodIn_of _ (by decide +kernel)) ggX12_steps_X12_isLetter
set_option maxRecDepth 20000 in
theorem ggX12_steps_X12_isDigit : GoodIn wsX12_steps wsX12_isDigit := goodIn_k _ [[19]] (by rfl) (by decide +kernel)
set_option maxRecDepth 20000 in
theorem gX12_steps_X12_isDigit : GoodIn wsX12_steps (va_wsS RX12 166 yX12_isDigit wsX12_isDigit) := goodIn_app (goodIn_of _ (by decide +kernel)) ggX12_steps_X12_isDigit
noncomputable def sX12_steps_292 : List Nat := 177 :: []
noncomputable def sX12_steps_289 : List Nat := 181 :: 0 :: 169 :: sX12_steps_292
noncomputable def sX12_steps_288 : List Nat := 100 :: sX12_steps_289
noncomputable def sX12_steps_285 : List Nat := 180 :: 0 :: 149 :: sX12_steps_288
noncomputable def sX12_steps_284 : List Nat := 42 :: sX12_steps_285
noncomputable def sX12_steps_281 : List Nat := 180 :: 0 :: 142 :: sX12_steps_284
noncomputable def sX12_steps_280 : List Nat := 42 :: sX12_steps_281
noncomputable def sX12_steps_279 : List Nat := 42 :: sX12_steps_280
noncomputable def sX12_steps_276 : List Nat := 181 :: 0 :: 159 :: sX12_steps_279
noncomputable def sX12_steps_275 : List Nat := 7 :: sX12_steps_276
noncomputable def sX12_steps_272 : List Nat := 167 :: 0 :: 4 :: sX12_steps_275
noncomputable def sX12_steps_271 : List Nat := 6 :: sX12_steps_272
noncomputable def sX12_steps_268 : List Nat := 160 :: 0 :: 7 :: sX12_steps_271
noncomputable def sX12_steps_266 : List Nat := 16 :: 59 :: sX12_steps_268
noncomputable def sX12_steps_265 : List Nat := 27 :: sX12_steps_266
noncomputable def sX12_steps_264 : List Nat := 42 :: sX12_steps_265
noncomputable def sX12_steps_261 : List Nat := 181 :: 0 :: 142 :: sX12_steps_264
noncomputable def sX12_steps_260 : List Nat := 96 :: sX12_steps_261
noncomputable def sX12_steps_259 : List Nat := 4 :: sX12_steps_260
noncomputable def sX12_steps_256 : List Nat := 180 :: 0 :: 142 :: sX12_steps_259
noncomputable def sX12_steps_255 : List Nat := 89 :: sX12_steps_256
noncomputable def sX12_steps_254 : List Nat := 42 :: sX12_steps_255
noncomputable def sX12_steps_251 : List Nat := 167 :: 0 :: 28 :: sX12_steps_254
noncomputable def sX12_steps_248 : List Nat := 181 :: 0 :: 159 :: sX12_steps_251
noncomputable def sX12_steps_247 : List Nat := 5 :: sX12_steps_248
noncomputable def sX12_steps_246 : List Nat := 42 :: sX12_steps_247
noncomputable def sX12_steps_243 : List Nat := 167 :: 255 :: 195 :: sX12_steps_246
noncomputable def sX12_steps_240 : List Nat := 181 :: 0 :: 142 :: sX12_steps_243
noncomputable def sX12_steps_239 : List Nat := 96 :: sX12_steps_240
noncomputable def sX12_steps_238 : List Nat := 4 :: sX12_steps_239
noncomputable def sX12_steps_235 : List Nat := 180 :: 0 :: 142 :: sX12_steps_238
noncomputable def sX12_steps_234 : List Nat := 89 :: sX12_steps_235
noncomputable def sX12_steps_233 : List Nat := 42 :: sX12_steps_234
noncomputable def sX12_steps_230 : List Nat := 181 :: 0 :: 156 :: sX12_steps_233
noncomputable def sX12_steps_229 : List Nat := 100 :: sX12_steps_230
noncomputable def sX12_steps_227 : List Nat := 16 :: 48 :: sX12_steps_229
noncomputable def sX12_steps_226 : List Nat := 96 :: sX12_steps_227
noncomputable def sX12_steps_223 : List Nat := 182 :: 0 :: 145 :: sX12_steps_226
noncomputable def sX12_steps_220 : List Nat := 180 :: 0 :: 142 :: sX12_steps_223
noncomputable def sX12_steps_219 : List Nat := 42 :: sX12_steps_220
noncomputable def sX12_steps_218 : List Nat := 42 :: sX12_steps_219
noncomputable def sX12_steps_217 : List Nat := 104 :: sX12_steps_218
noncomputable def sX12_steps_214 : List Nat := 180 :: 0 :: 156 :: sX12_steps_217
noncomputable def sX12_steps_213 : List Nat := 42 :: sX12_steps_214
noncomputable def sX12_steps_211 : List Nat := 16 :: 10 :: sX12_steps_213
noncomputable def sX12_steps_210 : List Nat := 42 :: sX12_steps_211
noncomputable def sX12_steps_207 : List Nat := 162 :: 0 :: 26 :: sX12_steps_210
noncomputable def sX12_steps_205 : List Nat := 16 :: 7 :: sX12_steps_207
noncomputable def sX12_steps_204 : List Nat := 100 :: sX12_steps_205
noncomputable def sX12_steps_201 : List Nat := 180 :: 0 :: 149 :: sX12_steps_204
noncomputable def sX12_steps_200 : List Nat := 42 :: sX12_steps_201
noncomputable def sX12_steps_197 : List Nat := 180 :: 0 :: 142 :: sX12_steps_200
noncomputable def sX12_steps_196 : List Nat := 42 :: sX12_steps_197
noncomputable def sX12_steps_193 : List Nat := 153 :: 0 :: 53 :: sX12_steps_196
noncomputable def sX12_steps_190 : List Nat := 184 :: 0 :: 166 :: sX12_steps_193
noncomputable def sX12_steps_187 : List Nat := 182 :: 0 :: 145 :: sX12_steps_190
noncomputable def sX12_steps_184 : List Nat := 180 :: 0 :: 142 :: sX12_steps_187
noncomputable def sX12_steps_183 : List Nat := 42 :: sX12_steps_184
noncomputable def sX12_steps_182 : List Nat := 42 :: sX12_steps_183
noncomputable def sX12_steps_179 : List Nat := 153 :: 0 :: 75 :: sX12_steps_182
noncomputable def sX12_steps_176 : List Nat := 184 :: 0 :: 166 :: sX12_steps_179
noncomputable def sX12_steps_175 : List Nat := 27 :: sX12_steps_176
noncomputable def sX12_steps_172 : List Nat := 167 :: 0 :: 107 :: sX12_steps_175
noncomputable def sX12_steps_169 : List Nat := 181 :: 0 :: 159 :: sX12_steps_172
noncomputable def sX12_steps_168 : List Nat := 4 :: sX12_steps_169
noncomputable def sX12_steps_167 : List Nat := 42 :: sX12_steps_168
noncomputable def sX12_steps_164 : List Nat := 167 :: 255 :: 195 :: sX12_steps_167
noncomputable def sX12_steps_161 : List Nat := 181 :: 0 :: 142 :: sX12_steps_164
noncomputable def sX12_steps_160 : List Nat := 96 :: sX12_steps_161
noncomputable def sX12_steps_159 : List Nat := 4 :: sX12_steps_160
noncomputable def sX12_steps_156 : List Nat := 180 :: 0 :: 142 :: sX12_steps_159
noncomputable def sX12_steps_155 : List Nat := 89 :: sX12_steps_156
noncomputable def sX12_steps_154 : List Nat := 42 :: sX12_steps_155
noncomputable def sX12_steps_151 : List Nat := 181 :: 0 :: 152 :: sX12_steps_154
noncomputable def sX12_steps_150 : List Nat := 129 :: sX12_steps_151
noncomputable def sX12_steps_149 : List Nat := 133 :: sX12_steps_150
noncomputable def sX12_steps_148 : List Nat := 100 :: sX12_steps_149
noncomputable def sX12_steps_146 : List Nat := 16 :: 96 :: sX12_steps_148
noncomputable def sX12_steps_143 : List Nat := 182 :: 0 :: 145 :: sX12_steps_146
noncomputable def sX12_steps_140 : List Nat := 180 :: 0 :: 142 :: sX12_steps_143
noncomputable def sX12_steps_139 : List Nat := 42 :: sX12_steps_140
noncomputable def sX12_steps_138 : List Nat := 42 :: sX12_steps_139
noncomputable def sX12_steps_137 : List Nat := 121 :: sX12_steps_138
noncomputable def sX12_steps_136 : List Nat := 8 :: sX12_steps_137
noncomputable def sX12_steps_133 : List Nat := 180 :: 0 :: 152 :: sX12_steps_136
noncomputable def sX12_steps_132 : List Nat := 42 :: sX12_steps_133
noncomputable def sX12_steps_131 : List Nat := 42 :: sX12_steps_132
noncomputable def sX12_steps_128 : List Nat := 162 :: 0 :: 26 :: sX12_steps_131
noncomputable def sX12_steps_126 : List Nat := 16 :: 8 :: sX12_steps_128
noncomputable def sX12_steps_125 : List Nat := 100 :: sX12_steps_126
noncomputable def sX12_steps_122 : List Nat := 180 :: 0 :: 149 :: sX12_steps_125
noncomputable def sX12_steps_121 : List Nat := 42 :: sX12_steps_122
noncomputable def sX12_steps_118 : List Nat := 180 :: 0 :: 142 :: sX12_steps_121
noncomputable def sX12_steps_117 : List Nat := 42 :: sX12_steps_118
noncomputable def sX12_steps_114 : List Nat := 153 :: 0 :: 53 :: sX12_steps_117
noncomputable def sX12_steps_111 : List Nat := 184 :: 0 :: 162 :: sX12_steps_114
noncomputable def sX12_steps_108 : List Nat := 182 :: 0 :: 145 :: sX12_steps_111
noncomputable def sX12_steps_105 : List Nat := 180 :: 0 :: 142 :: sX12_steps_108
noncomputable def sX12_steps_104 : List Nat := 42 :: sX12_steps_105
noncomputable def sX12_steps_103 : List Nat := 42 :: sX12_steps_104
noncomputable def sX12_steps_100 : List Nat := 153 :: 0 :: 75 :: sX12_steps_103
noncomputable def sX12_steps_97 : List Nat := 184 :: 0 :: 162 :: sX12_steps_100
noncomputable def sX12_steps_96 : List Nat := 27 :: sX12_steps_97
noncomputable def sX12_steps_93 : List Nat := 167 :: 0 :: 186 :: sX12_steps_96
noncomputable def sX12_steps_90 : List Nat := 181 :: 0 :: 159 :: sX12_steps_93
noncomputable def sX12_steps_89 : List Nat := 3 :: sX12_steps_90
noncomputable def sX12_steps_88 : List Nat := 42 :: sX12_steps_89
noncomputable def sX12_steps_85 : List Nat := 161 :: 0 :: 11 :: sX12_steps_88
noncomputable def sX12_steps_82 : List Nat := 180 :: 0 :: 139 :: sX12_steps_85
noncomputable def sX12_steps_81 : List Nat := 42 :: sX12_steps_82
noncomputable def sX12_steps_78 : List Nat := 180 :: 0 :: 142 :: sX12_steps_81
noncomputable def sX12_steps_77 : List Nat := 42 :: sX12_steps_78
noncomputable def sX12_steps_76 : List Nat := 60 :: sX12_steps_77
noncomputable def sX12_steps_73 : List Nat := 182 :: 0 :: 145 :: sX12_steps_76
noncomputable def sX12_steps_70 : List Nat := 180 :: 0 :: 142 :: sX12_steps_73
noncomputable def sX12_steps_69 : List Nat := 42 :: sX12_steps_70
noncomputable def sX12_steps_68 : List Nat := 42 :: sX12_steps_69
noncomputable def sX12_steps_65 : List Nat := 181 :: 0 :: 156 :: sX12_steps_68
noncomputable def sX12_steps_64 : List Nat := 3 :: sX12_steps_65
noncomputable def sX12_steps_63 : List Nat := 42 :: sX12_steps_64
noncomputable def sX12_steps_60 : List Nat := 181 :: 0 :: 152 :: sX12_steps_63
noncomputable def sX12_steps_59 : List Nat := 9 :: sX12_steps_60
noncomputable def sX12_steps_58 : List Nat := 42 :: sX12_steps_59
noncomputable def sX12_steps_55 : List Nat := 181 :: 0 :: 149 :: sX12_steps_58
noncomputable def sX12_steps_52 : List Nat := 180 :: 0 :: 142 :: sX12_steps_55
noncomputable def sX12_steps_51 : List Nat := 42 :: sX12_steps_52
noncomputable def sX12_steps_50 : List Nat := 42 :: sX12_steps_51
noncomputable def sX12_steps_47 : List Nat := 167 :: 255 :: 209 :: sX12_steps_50
noncomputable def sX12_steps_44 : List Nat := 181 :: 0 :: 142 :: sX12_steps_47
noncomputable def sX12_steps_43 : List Nat := 96 :: sX12_steps_44
noncomputable def sX12_steps_42 : List Nat := 4 :: sX12_steps_43
noncomputable def sX12_steps_39 : List Nat := 180 :: 0 :: 142 :: sX12_steps_42
noncomputable def sX12_steps_38 : List Nat := 89 :: sX12_steps_39
noncomputable def sX12_steps_37 : List Nat := 42 :: sX12_steps_38
noncomputable def sX12_steps_34 : List Nat := 160 :: 0 :: 16 :: sX12_steps_37
noncomputable def sX12_steps_32 : List Nat := 16 :: 10 :: sX12_steps_34
noncomputable def sX12_steps_29 : List Nat := 182 :: 0 :: 145 :: sX12_steps_32
noncomputable def sX12_steps_26 : List Nat := 180 :: 0 :: 142 :: sX12_steps_29
noncomputable def sX12_steps_25 : List Nat := 42 :: sX12_steps_26
noncomputable def sX12_steps_24 : List Nat := 42 :: sX12_steps_25
noncomputable def sX12_steps_21 : List Nat := 159 :: 0 :: 16 :: sX12_steps_24
noncomputable def sX12_steps_19 : List Nat := 16 :: 32 :: sX12_steps_21
noncomputable def sX12_steps_16 : List Nat := 182 :: 0 :: 145 :: sX12_steps_19
noncomputable def sX12_steps_13 : List Nat := 180 :: 0 :: 142 :: sX12_steps_16
noncomputable def sX12_steps_12 : List Nat := 42 :: sX12_steps_13
noncomputable def sX12_steps_11 : List Nat := 42 :: sX12_steps_12
noncomputable def sX12_steps_8 : List Nat := 162 :: 0 :: 42 :: sX12_steps_11
noncomputable def sX12_steps_5 : List Nat := 180 :: 0 :: 139 :: sX12_steps_8
noncomputable def sX12_steps_4 : List Nat := 42 :: sX12_steps_5
noncomputable def sX12_steps_1 : List Nat := 180 :: 0 :: 142 :: sX12_steps_4
noncomputable def sX12_steps_0 : List Nat := 42 :: sX12_steps_1
theorem aX12_steps_0 : dc_at cX12_steps 0 sX12_steps_0 := dc_base (by decide +kernel)
theorem aX12_steps_1 : dc_at cX12_steps 1 sX12_steps_1 := dc_n1 aX12_steps_0
theorem aX12_steps_4 : dc_at cX12_steps 4 sX12_steps_4 := dc_n3 aX12_steps_1
theorem aX12_steps_5 : dc_at cX12_steps 5 sX12_steps_5 := dc_n1 aX12_steps_4
theorem aX12_steps_8 : dc_at cX12_steps 8 sX12_steps_8 := dc_n3 aX12_steps_5
theorem aX12_steps_11 : dc_at cX12_steps 11 sX12_steps_11 := dc_n3 aX12_steps_8
theorem aX12_steps_12 : dc_at cX12_steps 12 sX12_steps_12 := dc_n1 aX12_steps_11
theorem aX12_steps_13 : dc_at cX12_steps 13 sX12_steps_13 := dc_n1 aX12_steps_12
theorem aX12_steps_16 : dc_at cX12_steps 16 sX12_steps_16 := dc_n3 aX12_steps_13
theorem aX12_steps_19 : dc_at cX12_steps 19 sX12_steps_19 := dc_n3 aX12_steps_16
theorem aX12_steps_21 : dc_at cX12_steps 21 sX12_steps_21 := dc_n2 aX12_steps_19
theorem aX12_steps_24 : dc_at cX12_steps 24 sX12_steps_24 := dc_n3 aX12_steps_21
theorem aX12_steps_25 : dc_at cX12_steps 25 sX12_steps_25 := dc_n1 aX12_steps_24
theorem aX12_steps_26 : dc_at cX12_steps 26 sX12_steps_26 := dc_n1 aX12_steps_25
theorem aX12_steps_29 : dc_at cX12_steps 29 sX12_steps_29 := dc_n3 aX12_steps_26
theorem aX12_steps_32 : dc_at cX12_steps 32 sX12_steps_32 := dc_n3 aX12_steps_29
theorem aX12_steps_34 : dc_at cX12_steps 34 sX12_steps_34 := dc_n2 aX12_steps_32
theorem aX12_steps_37 : dc_at cX12_steps 37 sX12_steps_37 := dc_n3 aX12_steps_34
theorem aX12_steps_38 : dc_at cX12_steps 38 sX12_steps_38 := dc_n1 aX12_steps_37
theorem aX12_steps_39 : dc_at cX12_steps 39 sX12_steps_39 := dc_n1 aX12_steps_38
theorem aX12_steps_42 : dc_at cX12_steps 42 sX12_steps_42 := dc_n3 aX12_steps_39
theorem aX12_steps_43 : dc_at cX12_steps 43 sX12_steps_43 := dc_n1 aX12_steps_42
theorem aX12_steps_44 : dc_at cX12_steps 44 sX12_steps_44 := dc_n1 aX12_steps_43
theorem aX12_steps_47 : dc_at cX12_steps 47 sX12_steps_47 := dc_n3 aX12_steps_44
theorem aX12_steps_50 : dc_at cX12_steps 50 sX12_steps_50 := dc_n3 aX12_steps_47
theorem aX12_steps_51 : dc_at cX12_steps 51 sX12_steps_51 := dc_n1 aX12_steps_50
theorem aX12_steps_52 : dc_at cX12_steps 52 sX12_steps_52 := dc_n1 aX12_steps_51
theorem aX12_steps_55 : dc_at cX12_steps 55 sX12_steps_55 := dc_n3 aX12_steps_52
theorem aX12_steps_58 : dc_at cX12_steps 58 sX12_steps_58 := dc_n3 aX12_steps_55
theorem aX12_steps_59 : dc_at cX12_steps 59 sX12_steps_59 := dc_n1 aX12_steps_58
theorem aX12_steps_60 : dc_at cX12_steps 60 sX12_steps_60 := dc_n1 aX12_steps_59
theorem aX12_steps_63 : dc_at cX12_steps 63 sX12_steps_63 := dc_n3 aX12_steps_60
theorem aX12_steps_64 : dc_at cX12_steps 64 sX12_steps_64 := dc_n1 aX12_steps_63
theorem aX12_steps_65 : dc_at cX12_steps 65 sX12_steps_65 := dc_n1 aX12_steps_64
theorem aX12_steps_68 : dc_at cX12_steps 68 sX12_steps_68 := dc_n3 aX12_steps_65
theorem aX12_steps_69 : dc_at cX12_steps 69 sX12_steps_69 := dc_n1 aX12_steps_68
theorem aX12_steps_70 : dc_at cX12_steps 70 sX12_steps_70 := dc_n1 aX12_steps_69
theorem aX12_steps_73 : dc_at cX12_steps 73 sX12_steps_73 := dc_n3 aX12_steps_70
theorem aX12_steps_76 : dc_at cX12_steps 76 sX12_steps_76 := dc_n3 aX12_steps_73
theorem aX12_steps_77 : dc_at cX12_steps 77 sX12_steps_77 := dc_n1 aX12_steps_76
theorem aX12_steps_78 : dc_at cX12_steps 78 sX12_steps_78 := dc_n1 aX12_steps_77
theorem aX12_steps_81 : dc_at cX12_steps 81 sX12_steps_81 := dc_n3 aX12_steps_78
theorem aX12_steps_82 : dc_at cX12_steps 82 sX12_steps_82 := dc_n1 aX12_steps_81
theorem aX12_steps_85 : dc_at cX12_steps 85 sX12_steps_85 := dc_n3 aX12_steps_82
theorem aX12_steps_88 : dc_at cX12_steps 88 sX12_steps_88 := dc_n3 aX12_steps_85
theorem aX12_steps_89 : dc_at cX12_steps 89 sX12_steps_89 := dc_n1 aX12_steps_88
theorem aX12_steps_90 : dc_at cX12_steps 90 sX12_steps_90 := dc_n1 aX12_steps_89
theorem aX12_steps_93 : dc_at cX12_steps 93 sX12_steps_93 := dc_n3 aX12_steps_90
theorem aX12_steps_96 : dc_at cX12_steps 96 sX12_steps_96 := dc_n3 aX12_steps_93
theorem aX12_steps_97 : dc_at cX12_steps 97 sX12_steps_97 := dc_n1 aX12_steps_96
theorem aX12_steps_100 : dc_at cX12_steps 100 sX12_steps_100 := dc_n3 aX12_steps_97
theorem aX12_steps_103 : dc_at cX12_steps 103 sX12_steps_103 := dc_n3 aX12_steps_100
theorem aX12_steps_104 : dc_at cX12_steps 104 sX12_steps_104 := dc_n1 aX12_steps_103
theorem aX12_steps_105 : dc_at cX12_steps 105 sX12_steps_105 := dc_n1 aX12_steps_104
theorem aX12_steps_108 : dc_at cX12_steps 108 sX12_steps_108 := dc_n3 aX12_steps_105
theorem aX12_steps_111 : dc_at cX12_steps 111 sX12_steps_111 := dc_n3 aX12_steps_108
theorem aX12_steps_114 : dc_at cX12_steps 114 sX12_steps_114 := dc_n3 aX12_steps_111
theorem aX12_steps_117 : dc_at cX12_steps 117 sX12_steps_117 := dc_n3 aX12_steps_114
theorem aX12_steps_118 : dc_at cX12_steps 118 sX12_steps_118 := dc_n1 aX12_steps_117
theorem aX12_steps_121 : dc_at cX12_steps 121 sX12_steps_121 := dc_n3 aX12_steps_118
theorem aX12_steps_122 : dc_at cX12_steps 122 sX12_steps_122 := dc_n1 aX12_steps_121
theorem aX12_steps_125 : dc_at cX12_steps 125 sX12_steps_125 := dc_n3 aX12_steps_122
theorem aX12_steps_126 : dc_at cX12_steps 126 sX12_steps_126 := dc_n1 aX12_steps_125
theorem aX12_steps_128 : dc_at cX12_steps 128 sX12_steps_128 := dc_n2 aX12_steps_126
theorem aX12_steps_131 : dc_at cX12_steps 131 sX12_steps_131 := dc_n3 aX12_steps_128
theorem aX12_steps_132 : dc_at cX12_steps 132 sX12_steps_132 := dc_n1 aX12_steps_131
theorem aX12_steps_133 : dc_at cX12_steps 133 sX12_steps_133 := dc_n1 aX12_steps_132
theorem aX12_steps_136 : dc_at cX12_steps 136 sX12_steps_136 := dc_n3 aX12_steps_133
theorem aX12_steps_137 : dc_at cX12_steps 137 sX12_steps_137 := dc_n1 aX12_steps_136
theorem aX12_steps_138 : dc_at cX12_steps 138 sX12_steps_138 := dc_n1 aX12_steps_137
theorem aX12_steps_139 : dc_at cX12_steps 139 sX12_steps_139 := dc_n1 aX12_steps_138
theorem aX12_steps_140 : dc_at cX12_steps 140 sX12_steps_140 := dc_n1 aX12_steps_139
theorem aX12_steps_143 : dc_at cX12_steps 143 sX12_steps_143 := dc_n3 aX12_steps_140
theorem aX12_steps_146 : dc_at cX12_steps 146 sX12_steps_146 := dc_n3 aX12_steps_143
theorem aX12_steps_148 : dc_at cX12_steps 148 sX12_steps_148 := dc_n2 aX12_steps_146
theorem aX12_steps_149 : dc_at cX12_steps 149 sX12_steps_149 := dc_n1 aX12_steps_148
theorem aX12_steps_150 : dc_at cX12_steps 150 sX12_steps_150 := dc_n1 aX12_steps_149
theorem aX12_steps_151 : dc_at cX12_steps 151 sX12_steps_151 := dc_n1 aX12_steps_150
theorem aX12_steps_154 : dc_at cX12_steps 154 sX12_steps_154 := dc_n3 aX12_steps_151
theorem aX12_steps_155 : dc_at cX12_steps 155 sX12_steps_155 := dc_n1 aX12_steps_154
theorem aX12_steps_156 : dc_at cX12_steps 156 sX12_steps_156 := dc_n1 aX12_steps_155
theorem aX12_steps_159 : dc_at cX12_steps 159 sX12_steps_159 := dc_n3 aX12_steps_156
theorem aX12_steps_160 : dc_at cX12_steps 160 sX12_steps_160 := dc_n1 aX12_steps_159
theorem aX12_steps_161 : dc_at cX12_steps 161 sX12_steps_161 := dc_n1 aX12_steps_160
theorem aX12_steps_164 : dc_at cX12_steps 164 sX12_steps_164 := dc_n3 aX12_steps_161
theorem aX12_steps_167 : dc_at cX12_steps 167 sX12_steps_167 := dc_n3 aX12_steps_164
theorem aX12_steps_168 : dc_at cX12_steps 168 sX12_steps_168 := dc_n1 aX12_steps_167
theorem aX12_steps_169 : dc_at cX12_steps 169 sX12_steps_169 := dc_n1 aX12_steps_168
theorem aX12_steps_172 : dc_at cX12_steps 172 sX12_steps_172 := dc_n3 aX12_steps_169
theorem aX12_steps_175 : dc_at cX12_steps 175 sX12_steps_175 := dc_n3 aX12_steps_172
theorem aX12_steps_176 : dc_at cX12_steps 176 sX12_steps_176 := dc_n1 aX12_steps_175
theorem aX12_steps_179 : dc_at cX12_steps 179 sX12_steps_179 := dc_n3 aX12_steps_176
theorem aX12_steps_182 : dc_at cX12_steps 182 sX12_steps_182 := dc_n3 aX12_steps_179
theorem aX12_steps_183 : dc_at cX12_steps 183 sX12_steps_183 := dc_n1 aX12_steps_182
theorem aX12_steps_184 : dc_at cX12_steps 184 sX12_steps_184 := dc_n1 aX12_steps_183
theorem aX12_steps_187 : dc_at cX12_steps 187 sX12_steps_187 := dc_n3 aX12_steps_184
theorem aX12_steps_190 : dc_at cX12_steps 190 sX12_steps_190 := dc_n3 aX12_steps_187
theorem aX12_steps_193 : dc_at cX12_steps 193 sX12_steps_193 := dc_n3 aX12_steps_190
theorem aX12_steps_196 : dc_at cX12_steps 196 sX12_steps_196 := dc_n3 aX12_steps_193
theorem aX12_steps_197 : dc_at cX12_steps 197 sX12_steps_197 := dc_n1 aX12_steps_196
theorem aX12_steps_200 : dc_at cX12_steps 200 sX12_steps_200 := dc_n3 aX12_steps_197
theorem aX12_steps_201 : dc_at cX12_steps 201 sX12_steps_201 := dc_n1 aX12_steps_200
theorem aX12_steps_204 : dc_at cX12_steps 204 sX12_steps_204 := dc_n3 aX12_steps_201
theorem aX12_steps_205 : dc_at cX12_steps 205 sX12_steps_205 := dc_n1 aX12_steps_204
theorem aX12_steps_207 : dc_at cX12_steps 207 sX12_steps_207 := dc_n2 aX12_steps_205
theorem aX12_steps_210 : dc_at cX12_steps 210 sX12_steps_210 := dc_n3 aX12_steps_207
theorem aX12_steps_211 : dc_at cX12_steps 211 sX12_steps_211 := dc_n1 aX12_steps_210
theorem aX12_steps_213 : dc_at cX12_steps 213 sX12_steps_213 := dc_n2 aX12_steps_211
theorem aX12_steps_214 : dc_at cX12_steps 214 sX12_steps_214 := dc_n1 aX12_steps_213
theorem aX12_steps_217 : dc_at cX12_steps 217 sX12_steps_217 := dc_n3 aX12_steps_214
theorem aX12_steps_218 : dc_at cX12_steps 218 sX12_steps_218 := dc_n1 aX12_steps_217
theorem aX12_steps_219 : dc_at cX12_steps 219 sX12_steps_219 := dc_n1 aX12_steps_218
theorem aX12_steps_220 : dc_at cX12_steps 220 sX12_steps_220 := dc_n1 aX12_steps_219
theorem aX12_steps_223 : dc_at cX12_steps 223 sX12_steps_223 := dc_n3 aX12_steps_220
theorem aX12_steps_226 : dc_at cX12_steps 226 sX12_steps_226 := dc_n3 aX12_steps_223
theorem aX12_steps_227 : dc_at cX12_steps 227 sX12_steps_227 := dc_n1 aX12_steps_226
theorem aX12_steps_229 : dc_at cX12_steps 229 sX12_steps_229 := dc_n2 aX12_steps_227
theorem aX12_steps_230 : dc_at cX12_steps 230 sX12_steps_230 := dc_n1 aX12_steps_229
theorem aX12_steps_233 : dc_at cX12_steps 233 sX12_steps_233 := dc_n3 aX12_steps_230
theorem aX12_steps_234 : dc_at cX12_steps 234 sX12_steps_234 := dc_n1 aX12_steps_233
theorem aX12_steps_235 : dc_at cX12_steps 235 sX12_steps_235 := dc_n1 aX12_steps_234
theorem aX12_steps_238 : dc_at cX12_steps 238 sX12_steps_238 := dc_n3 aX12_steps_235
theorem aX12_steps_239 : dc_at cX12_steps 239 sX12_steps_239 := dc_n1 aX12_steps_238
theorem aX12_steps_240 : dc_at cX12_steps 240 sX12_steps_240 := dc_n1 aX12_steps_239
theorem aX12_steps_243 : dc_at cX12_steps 243 sX12_steps_243 := dc_n3 aX12_steps_240
theorem aX12_steps_246 : dc_at cX12_steps 246 sX12_steps_246 := dc_n3 aX12_steps_243
theorem aX12_steps_247 : dc_at cX12_steps 247 sX12_steps_247 := dc_n1 aX12_steps_246
theorem aX12_steps_248 : dc_at cX12_steps 248 sX12_steps_248 := dc_n1 aX12_steps_247
theorem aX12_steps_251 : dc_at cX12_steps 251 sX12_steps_251 := dc_n3 aX12_steps_248
theorem aX12_steps_254 : dc_at cX12_steps 254 sX12_steps_254 := dc_n3 aX12_steps_251
theorem aX12_steps_255 : dc_at cX12_steps 255 sX12_steps_255 := dc_n1 aX12_steps_254
theorem aX12_steps_256 : dc_at cX12_steps 256 sX12_steps_256 := dc_n1 aX12_steps_255
theorem aX12_steps_259 : dc_at cX12_steps 259 sX12_steps_259 := dc_n3 aX12_steps_256
theorem aX12_steps_260 : dc_at cX12_steps 260 sX12_steps_260 := dc_n1 aX12_steps_259
theorem aX12_steps_261 : dc_at cX12_steps 261 sX12_steps_261 := dc_n1 aX12_steps_260
theorem aX12_steps_264 : dc_at cX12_steps 264 sX12_steps_264 := dc_n3 aX12_steps_261
theorem aX12_steps_265 : dc_at cX12_steps 265 sX12_steps_265 := dc_n1 aX12_steps_264
theorem aX12_steps_266 : dc_at cX12_steps 266 sX12_steps_266 := dc_n1 aX12_steps_265
theorem aX12_steps_268 : dc_at cX12_steps 268 sX12_steps_268 := dc_n2 aX12_steps_266
theorem aX12_steps_271 : dc_at cX12_steps 271 sX12_steps_271 := dc_n3 aX12_steps_268
theorem aX12_steps_272 : dc_at cX12_steps 272 sX12_steps_272 := dc_n1 aX12_steps_271
theorem aX12_steps_275 : dc_at cX12_steps 275 sX12_steps_275 := dc_n3 aX12_steps_272
theorem aX12_steps_276 : dc_at cX12_steps 276 sX12_steps_276 := dc_n1 aX12_steps_275
theorem aX12_steps_279 : dc_at cX12_steps 279 sX12_steps_279 := dc_n3 aX12_steps_276
theorem aX12_steps_280 : dc_at cX12_steps 280 sX12_steps_280 := dc_n1 aX12_steps_279
theorem aX12_steps_281 : dc_at cX12_steps 281 sX12_steps_281 := dc_n1 aX12_steps_280
theorem aX12_steps_284 : dc_at cX12_steps 284 sX12_steps_284 := dc_n3 aX12_steps_281
theorem aX12_steps_285 : dc_at cX12_steps 285 sX12_steps_285 := dc_n1 aX12_steps_284
theorem aX12_steps_288 : dc_at cX12_steps 288 sX12_steps_288 := dc_n3 aX12_steps_285
theorem aX12_steps_289 : dc_at cX12_steps 289 sX12_steps_289 := dc_n1 aX12_steps_288
theorem aX12_steps_292 : dc_at cX12_steps 292 sX12_steps_292 := dc_n3 aX12_steps_289
theorem dX12_steps_0 : decode cX12_steps 0 = .ok (.aload_n 0, 1) := dc_42 aX12_steps_0
theorem dX12_steps_1 : decode cX12_steps 1 = .ok (.getfield 142, 3) := dc_180 (a0 := 0) (b0 := 142) aX12_steps_1
theorem dX12_steps_4 : decode cX12_steps 4 = .ok (.aload_n 0, 1) := dc_42 aX12_steps_4
theorem dX12_steps_5 : decode cX12_steps 5 = .ok (.getfield 139, 3) := dc_180 (a0 := 0) (b0 := 139) aX12_steps_5
theorem dX12_steps_8 : decode cX12_steps 8 = .ok (.if_icmp .ge 42, 3) := dc_162 (a0 := 0) (b0 := 42) aX12_steps_8 (by decide)
theorem dX12_steps_11 : decode cX12_steps 11 = .ok (.aload_n 0, 1) := dc_42 aX12_steps_11
theorem dX12_steps_12 : decode cX12_steps 12 = .ok (.aload_n 0, 1) := dc_42 aX12_steps_12
theorem dX12_steps_13 : decode cX12_steps 13 = .ok (.getfield 142, 3) := dc_180 (a0 := 0) (b0 := 142) aX12_steps_13
theorem dX12_steps_16 : decode cX12_steps 16 = .ok (.invokevirtual 145, 3) := dc_182 (a0 := 0) (b0 := 145) aX12_steps_16
theorem dX12_steps_19 : decode cX12_steps 19 = .ok (.bipush 32, 2) := dc_16 (a0 := 32) aX12_steps_19 (by decide)
theorem dX12_steps_21 : decode cX12_steps 21 = .ok (.if_icmp .eq 16, 3) := dc_159 (a0 := 0) (b0 := 16) aX12_steps_21 (by decide)
theorem dX12_steps_24 : decode cX12_steps 24 = .ok (.aload_n 0, 1) := dc_42 aX12_steps_24
theorem dX12_steps_25 : decode cX12_steps 25 = .ok (.aload_n 0, 1) := dc_42 aX12_steps_25
theorem dX12_steps_26 : decode cX12_steps 26 = .ok (.getfield 142, 3) := dc_180 (a0 := 0) (b0 := 142) aX12_steps_26
theorem dX12_steps_29 : decode cX12_steps 29 = .ok (.invokevirtual 145, 3) := dc_182 (a0 := 0) (b0 := 145) aX12_steps_29
theorem dX12_steps_32 : decode cX12_steps 32 = .ok (.bipush 10, 2) := dc_16 (a0 := 10) aX12_steps_32 (by decide)
theorem dX12_steps_34 : decode cX12_steps 34 = .ok (.if_icmp .ne 16, 3) := dc_160 (a0 := 0) (b0 := 16) aX12_steps_34 (by decide)
theorem dX12_steps_37 : decode cX12_steps 37 = .ok (.aload_n 0, 1) := dc_42 aX12_steps_37
theorem dX12_steps_38 : decode cX12_steps 38 = .ok (.dup, 1) := dc_89 aX12_steps_38
theorem dX12_steps_39 : decode cX12_steps 39 = .ok (.getfield 142, 3) := dc_180 (a0 := 0) (b0 := 142) aX12_steps_39
theorem dX12_steps_42 : decode cX12_steps 42 = .ok (.iconst 1, 1) := dc_4 aX12_steps_42
theorem dX12_steps_43 : decode cX12_steps 43 = .ok (.iadd, 1) := dc_96 aX12_steps_43
theorem dX12_steps_44 : decode cX12_steps 44 = .ok (.putfield 142, 3) := dc_181 (a0 := 0) (b0 := 142) aX12_steps_44
theorem dX12_steps_47 : decode cX12_steps 47 = .ok (.goto (-47), 3) := dc_167 (a0 := 255) (b0 := 209) aX12_steps_47 (by decide)
theorem dX12_steps_50 : decode cX12_steps 50 = .ok (.aload_n 0, 1) := dc_42 aX12_steps_50
theorem dX12_steps_51 : decode cX12_steps 51 = .ok (.aload_n 0, 1) := dc_42 aX12_steps_51
theorem dX12_steps_52 : decode cX12_steps 52 = .ok (.getfield 142, 3) := dc_180 (a0 := 0) (b0 := 142) aX12_steps_52
theorem dX12_steps_55 : decode cX12_steps 55 = .ok (.putfield 149, 3) := dc_181 (a0 := 0) (b0 := 149) aX12_steps_55
theorem dX12_steps_58 : decode cX12_steps 58 = .ok (.aload_n 0, 1) := dc_42 aX12_steps_58
theorem dX12_steps_59 : decode cX12_steps 59 = .ok (.lconst 0, 1) := dc_9 aX12_steps_59
theorem dX12_steps_60 : decode cX12_steps 60 = .ok (.putfield 152, 3) := dc_181 (a0 := 0) (b0 := 152) aX12_steps_60
theorem dX12_steps_63 : decode cX12_steps 63 = .ok (.aload_n 0, 1) := dc_42 aX12_steps_63
theorem dX12_steps_64 : decode cX12_steps 64 = .ok (.iconst 0, 1) := dc_3 aX12_steps_64
theorem dX12_steps_65 : decode cX12_steps 65 = .ok (.putfield 156, 3) := dc_181 (a0 := 0) (b0 := 156) aX12_steps_65
theorem dX12_steps_68 : decode cX12_steps 68 = .ok (.aload_n 0, 1) := dc_42 aX12_steps_68
theorem dX12_steps_69 : decode cX12_steps 69 = .ok (.aload_n 0, 1) := dc_42 aX12_steps_69
theorem dX12_steps_70 : decode cX12_steps 70 = .ok (.getfield 142, 3) := dc_180 (a0 := 0) (b0 := 142) aX12_steps_70
theorem dX12_steps_73 : decode cX12_steps 73 = .ok (.invokevirtual 145, 3) := dc_182 (a0 := 0) (b0 := 145) aX12_steps_73
theorem dX12_steps_76 : decode cX12_steps 76 = .ok (.istore_n 1, 1) := dc_60 aX12_steps_76
theorem dX12_steps_77 : decode cX12_steps 77 = .ok (.aload_n 0, 1) := dc_42 aX12_steps_77
theorem dX12_steps_78 : decode cX12_steps 78 = .ok (.getfield 142, 3) := dc_180 (a0 := 0) (b0 := 142) aX12_steps_78
theorem dX12_steps_81 : decode cX12_steps 81 = .ok (.aload_n 0, 1) := dc_42 aX12_steps_81
theorem dX12_steps_82 : decode cX12_steps 82 = .ok (.getfield 139, 3) := dc_180 (a0 := 0) (b0 := 139) aX12_steps_82
theorem dX12_steps_85 : decode cX12_steps 85 = .ok (.if_icmp .lt 11, 3) := dc_161 (a0 := 0) (b0 := 11) aX12_steps_85 (by decide)
theorem dX12_steps_88 : decode cX12_steps 88 = .ok (.aload_n 0, 1) := dc_42 aX12_steps_88
theorem dX12_steps_89 : decode cX12_steps 89 = .ok (.iconst 0, 1) := dc_3 aX12_steps_89
theorem dX12_steps_90 : decode cX12_steps 90 = .ok (.putfield 159, 3) := dc_181 (a0 := 0) (b0 := 159) aX12_steps_90
theorem dX12_steps_93 : decode cX12_steps 93 = .ok (.goto 186, 3) := dc_167 (a0 := 0) (b0 := 186) aX12_steps_93 (by decide)
theorem dX12_steps_96 : decode cX12_steps 96 = .ok (.iload_n 1, 1) := dc_27 aX12_steps_96
theorem dX12_steps_97 : decode cX12_steps 97 = .ok (.invokestatic 162, 3) := dc_184 (a0 := 0) (b0 := 162) aX12_steps_97
theorem dX12_steps_100 : decode cX12_steps 100 = .ok (.ifCond .eq 75, 3) := dc_153 (a0 := 0) (b0 := 75) aX12_steps_100 (by decide)
theorem dX12_steps_103 : decode cX12_steps 103 = .ok (.aload_n 0, 1) := dc_42 aX12_steps_103
theorem dX12_steps_104 : decode cX12_steps 104 = .ok (.aload_n 0, 1) := dc_42 aX12_steps_104
theorem dX12_steps_105 : decode cX12_steps 105 = .ok (.getfield 142, 3) := dc_180 (a0 := 0) (b0 := 142) aX12_steps_105
theorem dX12_steps_108 : decode cX12_steps 108 = .ok (.invokevirtual 145, 3) := dc_182 (a0 := 0) (b0 := 145) aX12_steps_108
theorem dX12_steps_111 : decode cX12_steps 111 = .ok (.invokestatic 162, 3) := dc_184 (a0 := 0) (b0 := 162) aX12_steps_111
theorem dX12_steps_114 : decode cX12_steps 114 = .ok (.ifCond .eq 53, 3) := dc_153 (a0 := 0) (b0 := 53) aX12_steps_114 (by decide)
theorem dX12_steps_117 : decode cX12_steps 117 = .ok (.aload_n 0, 1) := dc_42 aX12_steps_117
theorem dX12_steps_118 : decode cX12_steps 118 = .ok (.getfield 142, 3) := dc_180 (a0 := 0) (b0 := 142) aX12_steps_118
theorem dX12_steps_121 : decode cX12_steps 121 = .ok (.aload_n 0, 1) := dc_42 aX12_steps_121
theorem dX12_steps_122 : decode cX12_steps 122 = .ok (.getfield 149, 3) := dc_180 (a0 := 0) (b0 := 149) aX12_steps_122
theorem dX12_steps_125 : decode cX12_steps 125 = .ok (.isub, 1) := dc_100 aX12_steps_125
theorem dX12_steps_126 : decode cX12_steps 126 = .ok (.bipush 8, 2) := dc_16 (a0 := 8) aX12_steps_126 (by decide)
theorem dX12_steps_128 : decode cX12_steps 128 = .ok (.if_icmp .ge 26, 3) := dc_162 (a0 := 0) (b0 := 26) aX12_steps_128 (by decide)
theorem dX12_steps_131 : decode cX12_steps 131 = .ok (.aload_n 0, 1) := dc_42 aX12_steps_131
theorem dX12_steps_132 : decode cX12_steps 132 = .ok (.aload_n 0, 1) := dc_42 aX12_steps_132
theorem dX12_steps_133 : decode cX12_steps 133 = .ok (.getfield 152, 3) := dc_180 (a0 := 0) (b0 := 152) aX12_steps_133
theorem dX12_steps_136 : decode cX12_steps 136 = .ok (.iconst 5, 1) := dc_8 aX12_steps_136
theorem dX12_steps_137 : decode cX12_steps 137 = .ok (.lshl, 1) := dc_121 aX12_steps_137
theorem dX12_steps_138 : decode cX12_steps 138 = .ok (.aload_n 0, 1) := dc_42 aX12_steps_138
theorem dX12_steps_139 : decode cX12_steps 139 = .ok (.aload_n 0, 1) := dc_42 aX12_steps_139
theorem dX12_steps_140 : decode cX12_steps 140 = .ok (.getfield 142, 3) := dc_180 (a0 := 0) (b0 := 142) aX12_steps_140
theorem dX12_steps_143 : decode cX12_steps 143 = .ok (.invokevirtual 145, 3) := dc_182 (a0 := 0) (b0 := 145) aX12_steps_143
theorem dX12_steps_146 : decode cX12_steps 146 = .ok (.bipush 96, 2) := dc_16 (a0 := 96) aX12_steps_146 (by decide)
theorem dX12_steps_148 : decode cX12_steps 148 = .ok (.isub, 1) := dc_100 aX12_steps_148
theorem dX12_steps_149 : decode cX12_steps 149 = .ok (.i2l, 1) := dc_133 aX12_steps_149
theorem dX12_steps_150 : decode cX12_steps 150 = .ok (.lor, 1) := dc_129 aX12_steps_150
theorem dX12_steps_151 : decode cX12_steps 151 = .ok (.putfield 152, 3) := dc_181 (a0 := 0) (b0 := 152) aX12_steps_151
theorem dX12_steps_154 : decode cX12_steps 154 = .ok (.aload_n 0, 1) := dc_42 aX12_steps_154
theorem dX12_steps_155 : decode cX12_steps 155 = .ok (.dup, 1) := dc_89 aX12_steps_155
theorem dX12_steps_156 : decode cX12_steps 156 = .ok (.getfield 142, 3) := dc_180 (a0 := 0) (b0 := 142) aX12_steps_156
theorem dX12_steps_159 : decode cX12_steps 159 = .ok (.iconst 1, 1) := dc_4 aX12_steps_159
theorem dX12_steps_160 : decode cX12_steps 160 = .ok (.iadd, 1) := dc_96 aX12_steps_160
theorem dX12_steps_161 : decode cX12_steps 161 = .ok (.putfield 142, 3) := dc_181 (a0 := 0) (b0 := 142) aX12_steps_161
theorem dX12_steps_164 : decode cX12_steps 164 = .ok (.goto (-61), 3) := dc_167 (a0 := 255) (b0 := 195) aX12_steps_164 (by decide)
theorem dX12_steps_167 : decode cX12_steps 167 = .ok (.aload_n 0, 1) := dc_42 aX12_steps_167
theorem dX12_steps_168 : decode cX12_steps 168 = .ok (.iconst 1, 1) := dc_4 aX12_steps_168
theorem dX12_steps_169 : decode cX12_steps 169 = .ok (.putfield 159, 3) := dc_181 (a0 := 0) (b0 := 159) aX12_steps_169
theorem dX12_steps_172 : decode cX12_steps 172 = .ok (.goto 107, 3) := dc_167 (a0 := 0) (b0 := 107) aX12_steps_172 (by decide)
theorem dX12_steps_175 : decode cX12_steps 175 = .ok (.iload_n 1, 1) := dc_27 aX12_steps_175
theorem dX12_steps_176 : decode cX12_steps 176 = .ok (.invokestatic 166, 3) := dc_184 (a0 := 0) (b0 := 166) aX12_steps_176
theorem dX12_steps_179 : decode cX12_steps 179 = .ok (.ifCond .eq 75, 3) := dc_153 (a0 := 0) (b0 := 75) aX12_steps_179 (by decide)
theorem dX12_steps_182 : decode cX12_steps 182 = .ok (.aload_n 0, 1) := dc_42 aX12_steps_182
theorem dX12_steps_183 : decode cX12_steps 183 = .ok (.aload_n 0, 1) := dc_42 aX12_steps_183
theorem dX12_steps_184 : decode cX12_steps 184 = .ok (.getfield 142, 3) := dc_180 (a0 := 0) (b0 := 142) aX12_steps_184
theorem dX12_steps_187 : decode cX12_steps 187 = .ok (.invokevirtual 145, 3) := dc_182 (a0 := 0) (b0 := 145) aX12_steps_187
theorem dX12_steps_190 : decode cX12_steps 190 = .ok (.invokestatic 166, 3) := dc_184 (a0 := 0) (b0 := 166) aX12_steps_190
theorem dX12_steps_193 : decode cX12_steps 193 = .ok (.ifCond .eq 53, 3) := dc_153 (a0 := 0) (b0 := 53) aX12_steps_193 (by decide)
theorem dX12_steps_196 : decode cX12_steps 196 = .ok (.aload_n 0, 1) := dc_42 aX12_steps_196
theorem dX12_steps_197 : decode cX12_steps 197 = .ok (.getfield 142, 3) := dc_180 (a0 := 0) (b0 := 142) aX12_steps_197
theorem dX12_steps_200 : decode cX12_steps 200 = .ok (.aload_n 0, 1) := dc_42 aX12_steps_200
theorem dX12_steps_201 : decode cX12_steps 201 = .ok (.getfield 149, 3) := dc_180 (a0 := 0) (b0 := 149) aX12_steps_201
theorem dX12_steps_204 : decode cX12_steps 204 = .ok (.isub, 1) := dc_100 aX12_steps_204
theorem dX12_steps_205 : decode cX12_steps 205 = .ok (.bipush 7, 2) := dc_16 (a0 := 7) aX12_steps_205 (by decide)
theorem dX12_steps_207 : decode cX12_steps 207 = .ok (.if_icmp .ge 26, 3) := dc_162 (a0 := 0) (b0 := 26) aX12_steps_207 (by decide)
theorem dX12_steps_210 : decode cX12_steps 210 = .ok (.aload_n 0, 1) := dc_42 aX12_steps_210
theorem dX12_steps_211 : decode cX12_steps 211 = .ok (.bipush 10, 2) := dc_16 (a0 := 10) aX12_steps_211 (by decide)
theorem dX12_steps_213 : decode cX12_steps 213 = .ok (.aload_n 0, 1) := dc_42 aX12_steps_213
theorem dX12_steps_214 : decode cX12_steps 214 = .ok (.getfield 156, 3) := dc_180 (a0 := 0) (b0 := 156) aX12_steps_214
theorem dX12_steps_217 : decode cX12_steps 217 = .ok (.imul, 1) := dc_104 aX12_steps_217
theorem dX12_steps_218 : decode cX12_steps 218 = .ok (.aload_n 0, 1) := dc_42 aX12_steps_218
theorem dX12_steps_219 : decode cX12_steps 219 = .ok (.aload_n 0, 1) := dc_42 aX12_steps_219
theorem dX12_steps_220 : decode cX12_steps 220 = .ok (.getfield 142, 3) := dc_180 (a0 := 0) (b0 := 142) aX12_steps_220
theorem dX12_steps_223 : decode cX12_steps 223 = .ok (.invokevirtual 145, 3) := dc_182 (a0 := 0) (b0 := 145) aX12_steps_223
theorem dX12_steps_226 : decode cX12_steps 226 = .ok (.iadd, 1) := dc_96 aX12_steps_226
theorem dX12_steps_227 : decode cX12_steps 227 = .ok (.bipush 48, 2) := dc_16 (a0 := 48) aX12_steps_227 (by decide)
theorem dX12_steps_229 : decode cX12_steps 229 = .ok (.isub, 1) := dc_100 aX12_steps_229
theorem dX12_steps_230 : decode cX12_steps 230 = .ok (.putfield 156, 3) := dc_181 (a0 := 0) (b0 := 156) aX12_steps_230
theorem dX12_steps_233 : decode cX12_steps 233 = .ok (.aload_n 0, 1) := dc_42 aX12_steps_233
theorem dX12_steps_234 : decode cX12_steps 234 = .ok (.dup, 1) := dc_89 aX12_steps_234
theorem dX12_steps_235 : decode cX12_steps 235 = .ok (.getfield 142, 3) := dc_180 (a0 := 0) (b0 := 142) aX12_steps_235
theorem dX12_steps_238 : decode cX12_steps 238 = .ok (.iconst 1, 1) := dc_4 aX12_steps_238
theorem dX12_steps_239 : decode cX12_steps 239 = .ok (.iadd, 1) := dc_96 aX12_steps_239
theorem dX12_steps_240 : decode cX12_steps 240 = .ok (.putfield 142, 3) := dc_181 (a0 := 0) (b0 := 142) aX12_steps_240
theorem dX12_steps_243 : decode cX12_steps 243 = .ok (.goto (-61), 3) := dc_167 (a0 := 255) (b0 := 195) aX12_steps_243 (by decide)
theorem dX12_steps_246 : decode cX12_steps 246 = .ok (.aload_n 0, 1) := dc_42 aX12_steps_246
theorem dX12_steps_247 : decode cX12_steps 247 = .ok (.iconst 2, 1) := dc_5 aX12_steps_247
theorem dX12_steps_248 : decode cX12_steps 248 = .ok (.putfield 159, 3) := dc_181 (a0 := 0) (b0 := 159) aX12_steps_248
theorem dX12_steps_251 : decode cX12_steps 251 = .ok (.goto 28, 3) := dc_167 (a0 := 0) (b0 := 28) aX12_steps_251 (by decide)
theorem dX12_steps_254 : decode cX12_steps 254 = .ok (.aload_n 0, 1) := dc_42 aX12_steps_254
theorem dX12_steps_255 : decode cX12_steps 255 = .ok (.dup, 1) := dc_89 aX12_steps_255
theorem dX12_steps_256 : decode cX12_steps 256 = .ok (.getfield 142, 3) := dc_180 (a0 := 0) (b0 := 142) aX12_steps_256
theorem dX12_steps_259 : decode cX12_steps 259 = .ok (.iconst 1, 1) := dc_4 aX12_steps_259
theorem dX12_steps_260 : decode cX12_steps 260 = .ok (.iadd, 1) := dc_96 aX12_steps_260
theorem dX12_steps_261 : decode cX12_steps 261 = .ok (.putfield 142, 3) := dc_181 (a0 := 0) (b0 := 142) aX12_steps_261
theorem dX12_steps_264 : decode cX12_steps 264 = .ok (.aload_n 0, 1) := dc_42 aX12_steps_264
theorem dX12_steps_265 : decode cX12_steps 265 = .ok (.iload_n 1, 1) := dc_27 aX12_steps_265
theorem dX12_steps_266 : decode cX12_steps 266 = .ok (.bipush 59, 2) := dc_16 (a0 := 59) aX12_steps_266 (by decide)
theorem dX12_steps_268 : decode cX12_steps 268 = .ok (.if_icmp .ne 7, 3) := dc_160 (a0 := 0) (b0 := 7) aX12_steps_268 (by decide)
theorem dX12_steps_271 : decode cX12_steps 271 = .ok (.iconst 3, 1) := dc_6 aX12_steps_271
theorem dX12_steps_272 : decode cX12_steps 272 = .ok (.goto 4, 3) := dc_167 (a0 := 0) (b0 := 4) aX12_steps_272 (by decide)
theorem dX12_steps_275 : decode cX12_steps 275 = .ok (.iconst 4, 1) := dc_7 aX12_steps_275
theorem dX12_steps_276 : decode cX12_steps 276 = .ok (.putfield 159, 3) := dc_181 (a0 := 0) (b0 := 159) aX12_steps_276
theorem dX12_steps_279 : decode cX12_steps 279 = .ok (.aload_n 0, 1) := dc_42 aX12_steps_279
theorem dX12_steps_280 : decode cX12_steps 280 = .ok (.aload_n 0, 1) := dc_42 aX12_steps_280
theorem dX12_steps_281 : decode cX12_steps 281 = .ok (.getfield 142, 3) := dc_180 (a0 := 0) (b0 := 142) aX12_steps_281
theorem dX12_steps_284 : decode cX12_steps 284 = .ok (.aload_n 0, 1) := dc_42 aX12_steps_284
theorem dX12_steps_285 : decode cX12_steps 285 = .ok (.getfield 149, 3) := dc_180 (a0 := 0) (b0 := 149) aX12_steps_285
theorem dX12_steps_288 : decode cX12_steps 288 = .ok (.isub, 1) := dc_100 aX12_steps_288
theorem dX12_steps_289 : decode cX12_steps 289 = .ok (.putfield 169, 3) := dc_181 (a0 := 0) (b0 := 169) aX12_steps_289
theorem dX12_steps_292 : decode cX12_steps 292 = .ok (.return_, 1) := dc_177 aX12_steps_292
noncomputable def sX12_spelled_111 : List Nat := 173 :: []
noncomputable def sX12_spelled_109 : List Nat := 22 :: 7 :: sX12_spelled_111
noncomputable def sX12_spelled_107 : List Nat := 55 :: 7 :: sX12_spelled_109
noncomputable def sX12_spelled_106 : List Nat := 129 :: sX12_spelled_107
noncomputable def sX12_spelled_105 : List Nat := 133 :: sX12_spelled_106
noncomputable def sX12_spelled_104 : List Nat := 100 :: sX12_spelled_105
noncomputable def sX12_spelled_102 : List Nat := 16 :: 96 :: sX12_spelled_104
noncomputable def sX12_spelled_100 : List Nat := 21 :: 6 :: sX12_spelled_102
noncomputable def sX12_spelled_99 : List Nat := 121 :: sX12_spelled_100
noncomputable def sX12_spelled_98 : List Nat := 8 :: sX12_spelled_99
noncomputable def sX12_spelled_96 : List Nat := 22 :: 7 :: sX12_spelled_98
noncomputable def sX12_spelled_93 : List Nat := 153 :: 0 :: 16 :: sX12_spelled_96
noncomputable def sX12_spelled_91 : List Nat := 21 :: 6 :: sX12_spelled_93
noncomputable def sX12_spelled_89 : List Nat := 55 :: 7 :: sX12_spelled_91
noncomputable def sX12_spelled_88 : List Nat := 129 :: sX12_spelled_89
noncomputable def sX12_spelled_87 : List Nat := 133 :: sX12_spelled_88
noncomputable def sX12_spelled_86 : List Nat := 100 :: sX12_spelled_87
noncomputable def sX12_spelled_84 : List Nat := 16 :: 96 :: sX12_spelled_86
noncomputable def sX12_spelled_82 : List Nat := 21 :: 5 :: sX12_spelled_84
noncomputable def sX12_spelled_81 : List Nat := 121 :: sX12_spelled_82
noncomputable def sX12_spelled_80 : List Nat := 8 :: sX12_spelled_81
noncomputable def sX12_spelled_78 : List Nat := 22 :: 7 :: sX12_spelled_80
noncomputable def sX12_spelled_75 : List Nat := 153 :: 0 :: 16 :: sX12_spelled_78
noncomputable def sX12_spelled_73 : List Nat := 21 :: 5 :: sX12_spelled_75
noncomputable def sX12_spelled_71 : List Nat := 55 :: 7 :: sX12_spelled_73
noncomputable def sX12_spelled_70 : List Nat := 129 :: sX12_spelled_71
noncomputable def sX12_spelled_69 : List Nat := 133 :: sX12_spelled_70
noncomputable def sX12_spelled_68 : List Nat := 100 :: sX12_spelled_69
noncomputable def sX12_spelled_66 : List Nat := 16 :: 96 :: sX12_spelled_68
noncomputable def sX12_spelled_64 : List Nat := 21 :: 4 :: sX12_spelled_66
noncomputable def sX12_spelled_63 : List Nat := 121 :: sX12_spelled_64
noncomputable def sX12_spelled_62 : List Nat := 8 :: sX12_spelled_63
noncomputable def sX12_spelled_60 : List Nat := 22 :: 7 :: sX12_spelled_62
noncomputable def sX12_spelled_57 : List Nat := 153 :: 0 :: 16 :: sX12_spelled_60
noncomputable def sX12_spelled_55 : List Nat := 21 :: 4 :: sX12_spelled_57
noncomputable def sX12_spelled_53 : List Nat := 55 :: 7 :: sX12_spelled_55
noncomputable def sX12_spelled_52 : List Nat := 129 :: sX12_spelled_53
noncomputable def sX12_spelled_51 : List Nat := 133 :: sX12_spelled_52
noncomputable def sX12_spelled_50 : List Nat := 100 :: sX12_spelled_51
noncomputable def sX12_spelled_48 : List Nat := 16 :: 96 :: sX12_spelled_50
noncomputable def sX12_spelled_47 : List Nat := 29 :: sX12_spelled_48
noncomputable def sX12_spelled_46 : List Nat := 121 :: sX12_spelled_47
noncomputable def sX12_spelled_45 : List Nat := 8 :: sX12_spelled_46
noncomputable def sX12_spelled_43 : List Nat := 22 :: 7 :: sX12_spelled_45
noncomputable def sX12_spelled_40 : List Nat := 153 :: 0 :: 15 :: sX12_spelled_43
noncomputable def sX12_spelled_39 : List Nat := 29 :: sX12_spelled_40
noncomputable def sX12_spelled_37 : List Nat := 55 :: 7 :: sX12_spelled_39
noncomputable def sX12_spelled_36 : List Nat := 129 :: sX12_spelled_37
noncomputable def sX12_spelled_35 : List Nat := 133 :: sX12_spelled_36
noncomputable def sX12_spelled_34 : List Nat := 100 :: sX12_spelled_35
noncomputable def sX12_spelled_32 : List Nat := 16 :: 96 :: sX12_spelled_34
noncomputable def sX12_spelled_31 : List Nat := 28 :: sX12_spelled_32
noncomputable def sX12_spelled_30 : List Nat := 121 :: sX12_spelled_31
noncomputable def sX12_spelled_29 : List Nat := 8 :: sX12_spelled_30
noncomputable def sX12_spelled_27 : List Nat := 22 :: 7 :: sX12_spelled_29
noncomputable def sX12_spelled_24 : List Nat := 153 :: 0 :: 15 :: sX12_spelled_27
noncomputable def sX12_spelled_23 : List Nat := 28 :: sX12_spelled_24
noncomputable def sX12_spelled_21 : List Nat := 55 :: 7 :: sX12_spelled_23
noncomputable def sX12_spelled_20 : List Nat := 129 :: sX12_spelled_21
noncomputable def sX12_spelled_19 : List Nat := 133 :: sX12_spelled_20
noncomputable def sX12_spelled_18 : List Nat := 100 :: sX12_spelled_19
noncomputable def sX12_spelled_16 : List Nat := 16 :: 96 :: sX12_spelled_18
noncomputable def sX12_spelled_15 : List Nat := 27 :: sX12_spelled_16
noncomputable def sX12_spelled_14 : List Nat := 121 :: sX12_spelled_15
noncomputable def sX12_spelled_13 : List Nat := 8 :: sX12_spelled_14
noncomputable def sX12_spelled_11 : List Nat := 22 :: 7 :: sX12_spelled_13
noncomputable def sX12_spelled_8 : List Nat := 153 :: 0 :: 15 :: sX12_spelled_11
noncomputable def sX12_spelled_7 : List Nat := 27 :: sX12_spelled_8
noncomputable def sX12_spelled_5 : List Nat := 55 :: 7 :: sX12_spelled_7
noncomputable def sX12_spelled_4 : List Nat := 133 :: sX12_spelled_5
noncomputable def sX12_spelled_3 : List Nat := 100 :: sX12_spelled_4
noncomputable def sX12_spelled_1 : List Nat := 16 :: 96 :: sX12_spelled_3
noncomputable def sX12_spelled_0 : List Nat := 26 :: sX12_spelled_1
theorem aX12_spelled_0 : dc_at cX12_spelled 0 sX12_spelled_0 := dc_base (by decide +kernel)
theorem aX12_spelled_1 : dc_at cX12_spelled 1 sX12_spelled_1 := dc_n1 aX12_spelled_0
theorem aX12_spelled_3 : dc_at cX12_spelled 3 sX12_spelled_3 := dc_n2 aX12_spelled_1
theorem aX12_spelled_4 : dc_at cX12_spelled 4 sX12_spelled_4 := dc_n1 aX12_spelled_3
theorem aX12_spelled_5 : dc_at cX12_spelled 5 sX12_spelled_5 := dc_n1 aX12_spelled_4
theorem aX12_spelled_7 : dc_at cX12_spelled 7 sX12_spelled_7 := dc_n2 aX12_spelled_5
theorem aX12_spelled_8 : dc_at cX12_spelled 8 sX12_spelled_8 := dc_n1 aX12_spelled_7
theorem aX12_spelled_11 : dc_at cX12_spelled 11 sX12_spelled_11 := dc_n3 aX12_spelled_8
theorem aX12_spelled_13 : dc_at cX12_spelled 13 sX12_spelled_13 := dc_n2 aX12_spelled_11
theorem aX12_spelled_14 : dc_at cX12_spelled 14 sX12_spelled_14 := dc_n1 aX12_spelled_13
theorem aX12_spelled_15 : dc_at cX12_spelled 15 sX12_spelled_15 := dc_n1 aX12_spelled_14
theorem aX12_spelled_16 : dc_at cX12_spelled 16 sX12_spelled_16 := dc_n1 aX12_spelled_15
theorem aX12_spelled_18 : dc_at cX12_spelled 18 sX12_spelled_18 := dc_n2 aX12_spelled_16
theorem aX12_spelled_19 : dc_at cX12_spelled 19 sX12_spelled_19 := dc_n1 aX12_spelled_18
theorem aX12_spelled_20 : dc_at cX12_spelled 20 sX12_spelled_20 := dc_n1 aX12_spelled_19
theorem aX12_spelled_21 : dc_at cX12_spelled 21 sX12_spelled_21 := dc_n1 aX12_spelled_20
theorem aX12_spelled_23 : dc_at cX12_spelled 23 sX12_spelled_23 := dc_n2 aX12_spelled_21
theorem aX12_spelled_24 : dc_at cX12_spelled 24 sX12_spelled_24 := dc_n1 aX12_spelled_23
theorem aX12_spelled_27 : dc_at cX12_spelled 27 sX12_spelled_27 := dc_n3 aX12_spelled_24
theorem aX12_spelled_29 : dc_at cX12_spelled 29 sX12_spelled_29 := dc_n2 aX12_spelled_27
theorem aX12_spelled_30 : dc_at cX12_spelled 30 sX12_spelled_30 := dc_n1 aX12_spelled_29
theorem aX12_spelled_31 : dc_at cX12_spelled 31 sX12_spelled_31 := dc_n1 aX12_spelled_30
theorem aX12_spelled_32 : dc_at cX12_spelled 32 sX12_spelled_32 := dc_n1 aX12_spelled_31
theorem aX12_spelled_34 : dc_at cX12_spelled 34 sX12_spelled_34 := dc_n2 aX12_spelled_32
theorem aX12_spelled_35 : dc_at cX12_spelled 35 sX12_spelled_35 := dc_n1 aX12_spelled_34
theorem aX12_spelled_36 : dc_at cX12_spelled 36 sX12_spelled_36 := dc_n1 aX12_spelled_35
theorem aX12_spelled_37 : dc_at cX12_spelled 37 sX12_spelled_37 := dc_n1 aX12_spelled_36
theorem aX12_spelled_39 : dc_at cX12_spelled 39 sX12_spelled_39 := dc_n2 aX12_spelled_37
theorem aX12_spelled_40 : dc_at cX12_spelled 40 sX12_spelled_40 := dc_n1 aX12_spelled_39
theorem aX12_spelled_43 : dc_at cX12_spelled 43 sX12_spelled_43 := dc_n3 aX12_spelled_40
theorem aX12_spelled_45 : dc_at cX12_spelled 45 sX12_spelled_45 := dc_n2 aX12_spelled_43
theorem aX12_spelled_46 : dc_at cX12_spelled 46 sX12_spelled_46 := dc_n1 aX12_spelled_45
theorem aX12_spelled_47 : dc_at cX12_spelled 47 sX12_spelled_47 := dc_n1 aX12_spelled_46
theorem aX12_spelled_48 : dc_at cX12_spelled 48 sX12_spelled_48 := dc_n1 aX12_spelled_47
theorem aX12_spelled_50 : dc_at cX12_spelled 50 sX12_spelled_50 := dc_n2 aX12_spelled_48
theorem aX12_spelled_51 : dc_at cX12_spelled 51 sX12_spelled_51 := dc_n1 aX12_spelled_50
theorem aX12_spelled_52 : dc_at cX12_spelled 52 sX12_spelled_52 := dc_n1 aX12_spelled_51
theorem aX12_spelled_53 : dc_at cX12_spelled 53 sX12_spelled_53 := dc_n1 aX12_spelled_52
theorem aX12_spelled_55 : dc_at cX12_spelled 55 sX12_spelled_55 := dc_n2 aX12_spelled_53
theorem aX12_spelled_57 : dc_at cX12_spelled 57 sX12_spelled_57 := dc_n2 aX12_spelled_55
theorem aX12_spelled_60 : dc_at cX12_spelled 60 sX12_spelled_60 := dc_n3 aX12_spelled_57
theorem aX12_spelled_62 : dc_at cX12_spelled 62 sX12_spelled_62 := dc_n2 aX12_spelled_60
theorem aX12_spelled_63 : dc_at cX12_spelled 63 sX12_spelled_63 := dc_n1 aX12_spelled_62
theorem aX12_spelled_64 : dc_at cX12_spelled 64 sX12_spelled_64 := dc_n1 aX12_spelled_63
theorem aX12_spelled_66 : dc_at cX12_spelled 66 sX12_spelled_66 := dc_n2 aX12_spelled_64
theorem aX12_spelled_68 : dc_at cX12_spelled 68 sX12_spelled_68 := dc_n2 aX12_spelled_66
theorem aX12_spelled_69 : dc_at cX12_spelled 69 sX12_spelled_69 := dc_n1 aX12_spelled_68
theorem aX12_spelled_70 : dc_at cX12_spelled 70 sX12_spelled_70 := dc_n1 aX12_spelled_69
theorem aX12_spelled_71 : dc_at cX12_spelled 71 sX12_spelled_71 := dc_n1 aX12_spelled_70
theorem aX12_spelled_73 : dc_at cX12_spelled 73 sX12_spelled_73 := dc_n2 aX12_spelled_71
theorem aX12_spelled_75 : dc_at cX12_spelled 75 sX12_spelled_75 := dc_n2 aX12_spelled_73
theorem aX12_spelled_78 : dc_at cX12_spelled 78 sX12_spelled_78 := dc_n3 aX12_spelled_75
theorem aX12_spelled_80 : dc_at cX12_spelled 80 sX12_spelled_80 := dc_n2 aX12_spelled_78
theorem aX12_spelled_81 : dc_at cX12_spelled 81 sX12_spelled_81 := dc_n1 aX12_spelled_80
theorem aX12_spelled_82 : dc_at cX12_spelled 82 sX12_spelled_82 := dc_n1 aX12_spelled_81
theorem aX12_spelled_84 : dc_at cX12_spelled 84 sX12_spelled_84 := dc_n2 aX12_spelled_82
theorem aX12_spelled_86 : dc_at cX12_spelled 86 sX12_spelled_86 := dc_n2 aX12_spelled_84
theorem aX12_spelled_87 : dc_at cX12_spelled 87 sX12_spelled_87 := dc_n1 aX12_spelled_86
theorem aX12_spelled_88 : dc_at cX12_spelled 88 sX12_spelled_88 := dc_n1 aX12_spelled_87
theorem aX12_spelled_89 : dc_at cX12_spelled 89 sX12_spelled_89 := dc_n1 aX12_spelled_88
theorem aX12_spelled_91 : dc_at cX12_spelled 91 sX12_spelled_91 := dc_n2 aX12_spelled_89
theorem aX12_spelled_93 : dc_at cX12_spelled 93 sX12_spelled_93 := dc_n2 aX12_spelled_91
theorem aX12_spelled_96 : dc_at cX12_spelled 96 sX12_spelled_96 := dc_n3 aX12_spelled_93
theorem aX12_spelled_98 : dc_at cX12_spelled 98 sX12_spelled_98 := dc_n2 aX12_spelled_96
theorem aX12_spelled_99 : dc_at cX12_spelled 99 sX12_spelled_99 := dc_n1 aX12_spelled_98
theorem aX12_spelled_100 : dc_at cX12_spelled 100 sX12_spelled_100 := dc_n1 aX12_spelled_99
theorem aX12_spelled_102 : dc_at cX12_spelled 102 sX12_spelled_102 := dc_n2 aX12_spelled_100
theorem aX12_spelled_104 : dc_at cX12_spelled 104 sX12_spelled_104 := dc_n2 aX12_spelled_102
theorem aX12_spelled_105 : dc_at cX12_spelled 105 sX12_spelled_105 := dc_n1 aX12_spelled_104
theorem aX12_spelled_106 : dc_at cX12_spelled 106 sX12_spelled_106 := dc_n1 aX12_spelled_105
theorem aX12_spelled_107 : dc_at cX12_spelled 107 sX12_spelled_107 := dc_n1 aX12_spelled_106
theorem aX12_spelled_109 : dc_at cX12_spelled 109 sX12_spelled_109 := dc_n2 aX12_spelled_107
theorem aX12_spelled_111 : dc_at cX12_spelled 111 sX12_spelled_111 := dc_n2 aX12_spelled_109
theorem dX12_spelled_0 : decode cX12_spelled 0 = .ok (.iload_n 0, 1) := dc_26 aX12_spelled_0
theorem dX12_spelled_1 : decode cX12_spelled 1 = .ok (.bipush 96, 2) := dc_16 (a0 := 96) aX12_spelled_1 (by decide)
theorem dX12_spelled_3 : decode cX12_spelled 3 = .ok (.isub, 1) := dc_100 aX12_spelled_3
theorem dX12_spelled_4 : decode cX12_spelled 4 = .ok (.i2l, 1) := dc_133 aX12_spelled_4
theorem dX12_spelled_5 : decode cX12_spelled 5 = .ok (.lstore 7, 2) := dc_55 (a0 := 7) aX12_spelled_5
theorem dX12_spelled_7 : decode cX12_spelled 7 = .ok (.iload_n 1, 1) := dc_27 aX12_spelled_7
theorem dX12_spelled_8 : decode cX12_spelled 8 = .ok (.ifCond .eq 15, 3) := dc_153 (a0 := 0) (b0 := 15) aX12_spelled_8 (by decide)
theorem dX12_spelled_11 : decode cX12_spelled 11 = .ok (.lload 7, 2) := dc_22 (a0 := 7) aX12_spelled_11
theorem dX12_spelled_13 : decode cX12_spelled 13 = .ok (.iconst 5, 1) := dc_8 aX12_spelled_13
theorem dX12_spelled_14 : decode cX12_spelled 14 = .ok (.lshl, 1) := dc_121 aX12_spelled_14
theorem dX12_spelled_15 : decode cX12_spelled 15 = .ok (.iload_n 1, 1) := dc_27 aX12_spelled_15
theorem dX12_spelled_16 : decode cX12_spelled 16 = .ok (.bipush 96, 2) := dc_16 (a0 := 96) aX12_spelled_16 (by decide)
theorem dX12_spelled_18 : decode cX12_spelled 18 = .ok (.isub, 1) := dc_100 aX12_spelled_18
theorem dX12_spelled_19 : decode cX12_spelled 19 = .ok (.i2l, 1) := dc_133 aX12_spelled_19
theorem dX12_spelled_20 : decode cX12_spelled 20 = .ok (.lor, 1) := dc_129 aX12_spelled_20
theorem dX12_spelled_21 : decode cX12_spelled 21 = .ok (.lstore 7, 2) := dc_55 (a0 := 7) aX12_spelled_21
theorem dX12_spelled_23 : decode cX12_spelled 23 = .ok (.iload_n 2, 1) := dc_28 aX12_spelled_23
theorem dX12_spelled_24 : decode cX12_spelled 24 = .ok (.ifCond .eq 15, 3) := dc_153 (a0 := 0) (b0 := 15) aX12_spelled_24 (by decide)
theorem dX12_spelled_27 : decode cX12_spelled 27 = .ok (.lload 7, 2) := dc_22 (a0 := 7) aX12_spelled_27
theorem dX12_spelled_29 : decode cX12_spelled 29 = .ok (.iconst 5, 1) := dc_8 aX12_spelled_29
theorem dX12_spelled_30 : decode cX12_spelled 30 = .ok (.lshl, 1) := dc_121 aX12_spelled_30
theorem dX12_spelled_31 : decode cX12_spelled 31 = .ok (.iload_n 2, 1) := dc_28 aX12_spelled_31
theorem dX12_spelled_32 : decode cX12_spelled 32 = .ok (.bipush 96, 2) := dc_16 (a0 := 96) aX12_spelled_32 (by decide)
theorem dX12_spelled_34 : decode cX12_spelled 34 = .ok (.isub, 1) := dc_100 aX12_spelled_34
theorem dX12_spelled_35 : decode cX12_spelled 35 = .ok (.i2l, 1) := dc_133 aX12_spelled_35
theorem dX12_spelled_36 : decode cX12_spelled 36 = .ok (.lor, 1) := dc_129 aX12_spelled_36
theorem dX12_spelled_37 : decode cX12_spelled 37 = .ok (.lstore 7, 2) := dc_55 (a0 := 7) aX12_spelled_37
theorem dX12_spelled_39 : decode cX12_spelled 39 = .ok (.iload_n 3, 1) := dc_29 aX12_spelled_39
theorem dX12_spelled_40 : decode cX12_spelled 40 = .ok (.ifCond .eq 15, 3) := dc_153 (a0 := 0) (b0 := 15) aX12_spelled_40 (by decide)
theorem dX12_spelled_43 : decode cX12_spelled 43 = .ok (.lload 7, 2) := dc_22 (a0 := 7) aX12_spelled_43
theorem dX12_spelled_45 : decode cX12_spelled 45 = .ok (.iconst 5, 1) := dc_8 aX12_spelled_45
theorem dX12_spelled_46 : decode cX12_spelled 46 = .ok (.lshl, 1) := dc_121 aX12_spelled_46
theorem dX12_spelled_47 : decode cX12_spelled 47 = .ok (.iload_n 3, 1) := dc_29 aX12_spelled_47
theorem dX12_spelled_48 : decode cX12_spelled 48 = .ok (.bipush 96, 2) := dc_16 (a0 := 96) aX12_spelled_48 (by decide)
theorem dX12_spelled_50 : decode cX12_spelled 50 = .ok (.isub, 1) := dc_100 aX12_spelled_50
theorem dX12_spelled_51 : decode cX12_spelled 51 = .ok (.i2l, 1) := dc_133 aX12_spelled_51
theorem dX12_spelled_52 : decode cX12_spelled 52 = .ok (.lor, 1) := dc_129 aX12_spelled_52
theorem dX12_spelled_53 : decode cX12_spelled 53 = .ok (.lstore 7, 2) := dc_55 (a0 := 7) aX12_spelled_53
theorem dX12_spelled_55 : decode cX12_spelled 55 = .ok (.iload 4, 2) := dc_21 (a0 := 4) aX12_spelled_55
theorem dX12_spelled_57 : decode cX12_spelled 57 = .ok (.ifCond .eq 16, 3) := dc_153 (a0 := 0) (b0 := 16) aX12_spelled_57 (by decide)
theorem dX12_spelled_60 : decode cX12_spelled 60 = .ok (.lload 7, 2) := dc_22 (a0 := 7) aX12_spelled_60
theorem dX12_spelled_62 : decode cX12_spelled 62 = .ok (.iconst 5, 1) := dc_8 aX12_spelled_62
theorem dX12_spelled_63 : decode cX12_spelled 63 = .ok (.lshl, 1) := dc_121 aX12_spelled_63
theorem dX12_spelled_64 : decode cX12_spelled 64 = .ok (.iload 4, 2) := dc_21 (a0 := 4) aX12_spelled_64
theorem dX12_spelled_66 : decode cX12_spelled 66 = .ok (.bipush 96, 2) := dc_16 (a0 := 96) aX12_spelled_66 (by decide)
theorem dX12_spelled_68 : decode cX12_spelled 68 = .ok (.isub, 1) := dc_100 aX12_spelled_68
theorem dX12_spelled_69 : decode cX12_spelled 69 = .ok (.i2l, 1) := dc_133 aX12_spelled_69
theorem dX12_spelled_70 : decode cX12_spelled 70 = .ok (.lor, 1) := dc_129 aX12_spelled_70
theorem dX12_spelled_71 : decode cX12_spelled 71 = .ok (.lstore 7, 2) := dc_55 (a0 := 7) aX12_spelled_71
theorem dX12_spelled_73 : decode cX12_spelled 73 = .ok (.iload 5, 2) := dc_21 (a0 := 5) aX12_spelled_73
theorem dX12_spelled_75 : decode cX12_spelled 75 = .ok (.ifCond .eq 16, 3) := dc_153 (a0 := 0) (b0 := 16) aX12_spelled_75 (by decide)
theorem dX12_spelled_78 : decode cX12_spelled 78 = .ok (.lload 7, 2) := dc_22 (a0 := 7) aX12_spelled_78
theorem dX12_spelled_80 : decode cX12_spelled 80 = .ok (.iconst 5, 1) := dc_8 aX12_spelled_80
theorem dX12_spelled_81 : decode cX12_spelled 81 = .ok (.lshl, 1) := dc_121 aX12_spelled_81
theorem dX12_spelled_82 : decode cX12_spelled 82 = .ok (.iload 5, 2) := dc_21 (a0 := 5) aX12_spelled_82
theorem dX12_spelled_84 : decode cX12_spelled 84 = .ok (.bipush 96, 2) := dc_16 (a0 := 96) aX12_spelled_84 (by decide)
theorem dX12_spelled_86 : decode cX12_spelled 86 = .ok (.isub, 1) := dc_100 aX12_spelled_86
theorem dX12_spelled_87 : decode cX12_spelled 87 = .ok (.i2l, 1) := dc_133 aX12_spelled_87
theorem dX12_spelled_88 : decode cX12_spelled 88 = .ok (.lor, 1) := dc_129 aX12_spelled_88
theorem dX12_spelled_89 : decode cX12_spelled 89 = .ok (.lstore 7, 2) := dc_55 (a0 := 7) aX12_spelled_89
theorem dX12_spelled_91 : decode cX12_spelled 91 = .ok (.iload 6, 2) := dc_21 (a0 := 6) aX12_spelled_91
theorem dX12_spelled_93 : decode cX12_spelled 93 = .ok (.ifCond .eq 16, 3) := dc_153 (a0 := 0) (b0 := 16) aX12_spelled_93 (by decide)
theorem dX12_spelled_96 : decode cX12_spelled 96 = .ok (.lload 7, 2) := dc_22 (a0 := 7) aX12_spelled_96
theorem dX12_spelled_98 : decode cX12_spelled 98 = .ok (.iconst 5, 1) := dc_8 aX12_spelled_98
theorem dX12_spelled_99 : decode cX12_spelled 99 = .ok (.lshl, 1) := dc_121 aX12_spelled_99
theorem dX12_spelled_100 : decode cX12_spelled 100 = .ok (.iload 6, 2) := dc_21 (a0 := 6) aX12_spelled_100
theorem dX12_spelled_102 : decode cX12_spelled 102 = .ok (.bipush 96, 2) := dc_16 (a0 := 96) aX12_spelled_102 (by decide)
theorem dX12_spelled_104 : decode cX12_spelled 104 = .ok (.isub, 1) := dc_100 aX12_spelled_104
theorem dX12_spelled_105 : decode cX12_spelled 105 = .ok (.i2l, 1) := dc_133 aX12_spelled_105
theorem dX12_spelled_106 : decode cX12_spelled 106 = .ok (.lor, 1) := dc_129 aX12_spelled_106
theorem dX12_spelled_107 : decode cX12_spelled 107 = .ok (.lstore 7, 2) := dc_55 (a0 := 7) aX12_spelled_107
theorem dX12_spelled_109 : decode cX12_spelled 109 = .ok (.lload 7, 2) := dc_22 (a0 := 7) aX12_spelled_109
theorem dX12_spelled_111 : decode cX12_spelled 111 = .ok (.lreturn, 1) := dc_173 aX12_spelled_111
set_option maxRecDepth 20000 in
theorem ggX12_letters_X12_spelled : GoodIn wsX12_letters wsX12_spelled := goodIn_k _ [[4]] (by rfl) (by decide +kernel)
set_option maxRecDepth 20000 in
theorem gX12_letters_X12_spelled : GoodIn wsX12_letters (va_wsS RX12 172 yX12_spelled wsX12_spelled) := goodIn_app (goodIn_of _ (by decide +kernel)) ggX12_letters_X12_spelled
noncomputable def sX12_letters_378 : List Nat := 173 :: []
noncomputable def sX12_letters_375 : List Nat := 184 :: 0 :: 172 :: sX12_letters_378
noncomputable def sX12_letters_374 : List Nat := 3 :: sX12_letters_375
noncomputable def sX12_letters_373 : List Nat := 3 :: sX12_letters_374
noncomputable def sX12_letters_372 : List Nat := 3 :: sX12_letters_373
noncomputable def sX12_letters_371 : List Nat := 3 :: sX12_letters_372
noncomputable def sX12_letters_369 : List Nat := 16 :: 114 :: sX12_letters_371
noncomputable def sX12_letters_367 : List Nat := 16 :: 111 :: sX12_letters_369
noncomputable def sX12_letters_365 : List Nat := 16 :: 102 :: sX12_letters_367
noncomputable def sX12_letters_364 : List Nat := 173 :: sX12_letters_365
noncomputable def sX12_letters_361 : List Nat := 184 :: 0 :: 172 :: sX12_letters_364
noncomputable def sX12_letters_360 : List Nat := 3 :: sX12_letters_361
noncomputable def sX12_letters_359 : List Nat := 3 :: sX12_letters_360
noncomputable def sX12_letters_358 : List Nat := 3 :: sX12_letters_359
noncomputable def sX12_letters_356 : List Nat := 16 :: 100 :: sX12_letters_358
noncomputable def sX12_letters_354 : List Nat := 16 :: 110 :: sX12_letters_356
noncomputable def sX12_letters_352 : List Nat := 16 :: 97 :: sX12_letters_354
noncomputable def sX12_letters_350 : List Nat := 16 :: 104 :: sX12_letters_352
noncomputable def sX12_letters_349 : List Nat := 173 :: sX12_letters_350
noncomputable def sX12_letters_346 : List Nat := 184 :: 0 :: 172 :: sX12_letters_349
noncomputable def sX12_letters_344 : List Nat := 16 :: 101 :: sX12_letters_346
noncomputable def sX12_letters_342 : List Nat := 16 :: 116 :: sX12_letters_344
noncomputable def sX12_letters_340 : List Nat := 16 :: 97 :: sX12_letters_342
noncomputable def sX12_letters_338 : List Nat := 16 :: 109 :: sX12_letters_340
noncomputable def sX12_letters_336 : List Nat := 16 :: 105 :: sX12_letters_338
noncomputable def sX12_letters_334 : List Nat := 16 :: 108 :: sX12_letters_336
noncomputable def sX12_letters_332 : List Nat := 16 :: 99 :: sX12_letters_334
noncomputable def sX12_letters_331 : List Nat := 173 :: sX12_letters_332
noncomputable def sX12_letters_328 : List Nat := 184 :: 0 :: 172 :: sX12_letters_331
noncomputable def sX12_letters_327 : List Nat := 3 :: sX12_letters_328
noncomputable def sX12_letters_326 : List Nat := 3 :: sX12_letters_327
noncomputable def sX12_letters_325 : List Nat := 3 :: sX12_letters_326
noncomputable def sX12_letters_324 : List Nat := 3 :: sX12_letters_325
noncomputable def sX12_letters_323 : List Nat := 3 :: sX12_letters_324
noncomputable def sX12_letters_321 : List Nat := 16 :: 110 :: sX12_letters_323
noncomputable def sX12_letters_319 : List Nat := 16 :: 105 :: sX12_letters_321
noncomputable def sX12_letters_318 : List Nat := 173 :: sX12_letters_319
noncomputable def sX12_letters_315 : List Nat := 184 :: 0 :: 172 :: sX12_letters_318
noncomputable def sX12_letters_314 : List Nat := 3 :: sX12_letters_315
noncomputable def sX12_letters_313 : List Nat := 3 :: sX12_letters_314
noncomputable def sX12_letters_311 : List Nat := 16 :: 103 :: sX12_letters_313
noncomputable def sX12_letters_309 : List Nat := 16 :: 110 :: sX12_letters_311
noncomputable def sX12_letters_307 : List Nat := 16 :: 105 :: sX12_letters_309
noncomputable def sX12_letters_305 : List Nat := 16 :: 119 :: sX12_letters_307
noncomputable def sX12_letters_303 : List Nat := 16 :: 115 :: sX12_letters_305
noncomputable def sX12_letters_302 : List Nat := 173 :: sX12_letters_303
noncomputable def sX12_letters_299 : List Nat := 184 :: 0 :: 172 :: sX12_letters_302
noncomputable def sX12_letters_298 : List Nat := 3 :: sX12_letters_299
noncomputable def sX12_letters_297 : List Nat := 3 :: sX12_letters_298
noncomputable def sX12_letters_296 : List Nat := 3 :: sX12_letters_297
noncomputable def sX12_letters_294 : List Nat := 16 :: 115 :: sX12_letters_296
noncomputable def sX12_letters_292 : List Nat := 16 :: 101 :: sX12_letters_294
noncomputable def sX12_letters_290 : List Nat := 16 :: 111 :: sX12_letters_292
noncomputable def sX12_letters_288 : List Nat := 16 :: 103 :: sX12_letters_290
noncomputable def sX12_letters_287 : List Nat := 173 :: sX12_letters_288
noncomputable def sX12_letters_284 : List Nat := 184 :: 0 :: 172 :: sX12_letters_287
noncomputable def sX12_letters_283 : List Nat := 3 :: sX12_letters_284
noncomputable def sX12_letters_282 : List Nat := 3 :: sX12_letters_283
noncomputable def sX12_letters_281 : List Nat := 3 :: sX12_letters_282
noncomputable def sX12_letters_280 : List Nat := 3 :: sX12_letters_281
noncomputable def sX12_letters_279 : List Nat := 3 :: sX12_letters_280
noncomputable def sX12_letters_277 : List Nat := 16 :: 116 :: sX12_letters_279
noncomputable def sX12_letters_275 : List Nat := 16 :: 97 :: sX12_letters_277
noncomputable def sX12_letters_274 : List Nat := 173 :: sX12_letters_275
noncomputable def sX12_letters_271 : List Nat := 184 :: 0 :: 172 :: sX12_letters_274
noncomputable def sX12_letters_270 : List Nat := 3 :: sX12_letters_271
noncomputable def sX12_letters_269 : List Nat := 3 :: sX12_letters_270
noncomputable def sX12_letters_268 : List Nat := 3 :: sX12_letters_269
noncomputable def sX12_letters_267 : List Nat := 3 :: sX12_letters_268
noncomputable def sX12_letters_265 : List Nat := 16 :: 116 :: sX12_letters_267
noncomputable def sX12_letters_263 : List Nat := 16 :: 101 :: sX12_letters_265
noncomputable def sX12_letters_261 : List Nat := 16 :: 115 :: sX12_letters_263
noncomputable def sX12_letters_260 : List Nat := 173 :: sX12_letters_261
noncomputable def sX12_letters_257 : List Nat := 184 :: 0 :: 172 :: sX12_letters_260
noncomputable def sX12_letters_256 : List Nat := 3 :: sX12_letters_257
noncomputable def sX12_letters_255 : List Nat := 3 :: sX12_letters_256
noncomputable def sX12_letters_254 : List Nat := 3 :: sX12_letters_255
noncomputable def sX12_letters_252 : List Nat := 16 :: 101 :: sX12_letters_254
noncomputable def sX12_letters_250 : List Nat := 16 :: 116 :: sX12_letters_252
noncomputable def sX12_letters_248 : List Nat := 16 :: 97 :: sX12_letters_250
noncomputable def sX12_letters_246 : List Nat := 16 :: 100 :: sX12_letters_248
noncomputable def sX12_letters_245 : List Nat := 173 :: sX12_letters_246
noncomputable def sX12_letters_242 : List Nat := 184 :: 0 :: 172 :: sX12_letters_245
noncomputable def sX12_letters_241 : List Nat := 3 :: sX12_letters_242
noncomputable def sX12_letters_240 : List Nat := 3 :: sX12_letters_241
noncomputable def sX12_letters_238 : List Nat := 16 :: 101 :: sX12_letters_240
noncomputable def sX12_letters_236 : List Nat := 16 :: 115 :: sX12_letters_238
noncomputable def sX12_letters_234 : List Nat := 16 :: 117 :: sX12_letters_236
noncomputable def sX12_letters_232 : List Nat := 16 :: 111 :: sX12_letters_234
noncomputable def sX12_letters_230 : List Nat := 16 :: 104 :: sX12_letters_232
noncomputable def sX12_letters_229 : List Nat := 173 :: sX12_letters_230
noncomputable def sX12_letters_226 : List Nat := 184 :: 0 :: 172 :: sX12_letters_229
noncomputable def sX12_letters_225 : List Nat := 3 :: sX12_letters_226
noncomputable def sX12_letters_224 : List Nat := 3 :: sX12_letters_225
noncomputable def sX12_letters_223 : List Nat := 3 :: sX12_letters_224
noncomputable def sX12_letters_222 : List Nat := 3 :: sX12_letters_223
noncomputable def sX12_letters_220 : List Nat := 16 :: 116 :: sX12_letters_222
noncomputable def sX12_letters_218 : List Nat := 16 :: 111 :: sX12_letters_220
noncomputable def sX12_letters_216 : List Nat := 16 :: 108 :: sX12_letters_218
noncomputable def sX12_letters_215 : List Nat := 173 :: sX12_letters_216
noncomputable def sX12_letters_212 : List Nat := 184 :: 0 :: 172 :: sX12_letters_215
noncomputable def sX12_letters_211 : List Nat := 3 :: sX12_letters_212
noncomputable def sX12_letters_210 : List Nat := 3 :: sX12_letters_211
noncomputable def sX12_letters_209 : List Nat := 3 :: sX12_letters_210
noncomputable def sX12_letters_207 : List Nat := 16 :: 101 :: sX12_letters_209
noncomputable def sX12_letters_205 : List Nat := 16 :: 115 :: sX12_letters_207
noncomputable def sX12_letters_203 : List Nat := 16 :: 105 :: sX12_letters_205
noncomputable def sX12_letters_201 : List Nat := 16 :: 114 :: sX12_letters_203
noncomputable def sX12_letters_200 : List Nat := 173 :: sX12_letters_201
noncomputable def sX12_letters_197 : List Nat := 184 :: 0 :: 172 :: sX12_letters_200
noncomputable def sX12_letters_196 : List Nat := 3 :: sX12_letters_197
noncomputable def sX12_letters_194 : List Nat := 16 :: 110 :: sX12_letters_196
noncomputable def sX12_letters_192 : List Nat := 16 :: 114 :: sX12_letters_194
noncomputable def sX12_letters_190 : List Nat := 16 :: 117 :: sX12_letters_192
noncomputable def sX12_letters_188 : List Nat := 16 :: 116 :: sX12_letters_190
noncomputable def sX12_letters_186 : List Nat := 16 :: 97 :: sX12_letters_188
noncomputable def sX12_letters_184 : List Nat := 16 :: 115 :: sX12_letters_186
noncomputable def sX12_letters_183 : List Nat := 173 :: sX12_letters_184
noncomputable def sX12_letters_180 : List Nat := 184 :: 0 :: 172 :: sX12_letters_183
noncomputable def sX12_letters_178 : List Nat := 16 :: 114 :: sX12_letters_180
noncomputable def sX12_letters_176 : List Nat := 16 :: 101 :: sX12_letters_178
noncomputable def sX12_letters_174 : List Nat := 16 :: 116 :: sX12_letters_176
noncomputable def sX12_letters_172 : List Nat := 16 :: 105 :: sX12_letters_174
noncomputable def sX12_letters_170 : List Nat := 16 :: 112 :: sX12_letters_172
noncomputable def sX12_letters_168 : List Nat := 16 :: 117 :: sX12_letters_170
noncomputable def sX12_letters_166 : List Nat := 16 :: 106 :: sX12_letters_168
noncomputable def sX12_letters_165 : List Nat := 173 :: sX12_letters_166
noncomputable def sX12_letters_162 : List Nat := 184 :: 0 :: 172 :: sX12_letters_165
noncomputable def sX12_letters_161 : List Nat := 3 :: sX12_letters_162
noncomputable def sX12_letters_160 : List Nat := 3 :: sX12_letters_161
noncomputable def sX12_letters_159 : List Nat := 3 :: sX12_letters_160
noncomputable def sX12_letters_157 : List Nat := 16 :: 115 :: sX12_letters_159
noncomputable def sX12_letters_155 : List Nat := 16 :: 114 :: sX12_letters_157
noncomputable def sX12_letters_153 : List Nat := 16 :: 97 :: sX12_letters_155
noncomputable def sX12_letters_151 : List Nat := 16 :: 109 :: sX12_letters_153
noncomputable def sX12_letters_150 : List Nat := 173 :: sX12_letters_151
noncomputable def sX12_letters_147 : List Nat := 184 :: 0 :: 172 :: sX12_letters_150
noncomputable def sX12_letters_146 : List Nat := 3 :: sX12_letters_147
noncomputable def sX12_letters_145 : List Nat := 3 :: sX12_letters_146
noncomputable def sX12_letters_143 : List Nat := 16 :: 115 :: sX12_letters_145
noncomputable def sX12_letters_141 : List Nat := 16 :: 117 :: sX12_letters_143
noncomputable def sX12_letters_139 : List Nat := 16 :: 110 :: sX12_letters_141
noncomputable def sX12_letters_137 : List Nat := 16 :: 101 :: sX12_letters_139
noncomputable def sX12_letters_135 : List Nat := 16 :: 118 :: sX12_letters_137
noncomputable def sX12_letters_134 : List Nat := 173 :: sX12_letters_135
noncomputable def sX12_letters_131 : List Nat := 184 :: 0 :: 172 :: sX12_letters_134
noncomputable def sX12_letters_129 : List Nat := 16 :: 121 :: sX12_letters_131
noncomputable def sX12_letters_127 : List Nat := 16 :: 114 :: sX12_letters_129
noncomputable def sX12_letters_125 : List Nat := 16 :: 117 :: sX12_letters_127
noncomputable def sX12_letters_123 : List Nat := 16 :: 99 :: sX12_letters_125
noncomputable def sX12_letters_121 : List Nat := 16 :: 114 :: sX12_letters_123
noncomputable def sX12_letters_119 : List Nat := 16 :: 101 :: sX12_letters_121
noncomputable def sX12_letters_117 : List Nat := 16 :: 109 :: sX12_letters_119
noncomputable def sX12_letters_116 : List Nat := 173 :: sX12_letters_117
noncomputable def sX12_letters_113 : List Nat := 184 :: 0 :: 172 :: sX12_letters_116
noncomputable def sX12_letters_112 : List Nat := 3 :: sX12_letters_113
noncomputable def sX12_letters_111 : List Nat := 3 :: sX12_letters_112
noncomputable def sX12_letters_110 : List Nat := 3 :: sX12_letters_111
noncomputable def sX12_letters_108 : List Nat := 16 :: 110 :: sX12_letters_110
noncomputable def sX12_letters_106 : List Nat := 16 :: 111 :: sX12_letters_108
noncomputable def sX12_letters_104 : List Nat := 16 :: 111 :: sX12_letters_106
noncomputable def sX12_letters_102 : List Nat := 16 :: 109 :: sX12_letters_104
noncomputable def sX12_letters_101 : List Nat := 173 :: sX12_letters_102
noncomputable def sX12_letters_98 : List Nat := 184 :: 0 :: 172 :: sX12_letters_101
noncomputable def sX12_letters_97 : List Nat := 3 :: sX12_letters_98
noncomputable def sX12_letters_96 : List Nat := 3 :: sX12_letters_97
noncomputable def sX12_letters_95 : List Nat := 3 :: sX12_letters_96
noncomputable def sX12_letters_94 : List Nat := 3 :: sX12_letters_95
noncomputable def sX12_letters_92 : List Nat := 16 :: 110 :: sX12_letters_94
noncomputable def sX12_letters_90 : List Nat := 16 :: 117 :: sX12_letters_92
noncomputable def sX12_letters_88 : List Nat := 16 :: 115 :: sX12_letters_90
noncomputable def sX12_letters_1 : List Nat := 170 :: 0 :: 0 :: 0 :: 0 :: 1 :: 108 :: 0 :: 0 :: 0 :: 0 :: 0 :: 0 :: 0 :: 17 :: 0 :: 0 :: 0 :: 87 :: 0 :: 0 :: 0 :: 101 :: 0 :: 0 :: 0 :: 116 :: 0 :: 0 :: 0 :: 134 :: 0 :: 0 :: 0 :: 150 :: 0 :: 0 :: 0 :: 165 :: 0 :: 0 :: 0 :: 183 :: 0 :: 0 :: 0 :: 200 :: 0 :: 0 :: 0 :: 215 :: 0 :: 0 :: 0 :: 229 :: 0 :: 0 :: 0 :: 245 :: 0 :: 0 :: 1 :: 4 :: 0 :: 0 :: 1 :: 18 :: 0 :: 0 :: 1 :: 31 :: 0 :: 0 :: 1 :: 46 :: 0 :: 0 :: 1 :: 62 :: 0 :: 0 :: 1 :: 75 :: 0 :: 0 :: 1 :: 93 :: sX12_letters_88
noncomputable def sX12_letters_0 : List Nat := 26 :: sX12_letters_1
theorem aX12_letters_0 : dc_at cX12_letters 0 sX12_letters_0 := dc_base (by decide +kernel)
theorem aX12_letters_1 : dc_at cX12_letters 1 sX12_letters_1 := dc_n1 aX12_letters_0
theorem aX12_letters_88 : dc_at cX12_letters 88 sX12_letters_88 := dc_nn (k := 87) aX12_letters_1 rfl
theorem aX12_letters_90 : dc_at cX12_letters 90 sX12_letters_90 := dc_n2 aX12_letters_88
theorem aX12_letters_92 : dc_at cX12_letters 92 sX12_letters_92 := dc_n2 aX12_letters_90
theorem aX12_letters_94 : dc_at cX12_letters 94 sX12_letters_94 := dc_n2 aX12_letters_92
theorem aX12_letters_95 : dc_at cX12_letters 95 sX12_letters_95 := dc_n1 aX12_letters_94
theorem aX12_letters_96 : dc_at cX12_letters 96 sX12_letters_96 := dc_n1 aX12_letters_95
theorem aX12_letters_97 : dc_at cX12_letters 97 sX12_letters_97 := dc_n1 aX12_letters_96
theorem aX12_letters_98 : dc_at cX12_letters 98 sX12_letters_98 := dc_n1 aX12_letters_97
theorem aX12_letters_101 : dc_at cX12_letters 101 sX12_letters_101 := dc_n3 aX12_letters_98
theorem aX12_letters_102 : dc_at cX12_letters 102 sX12_letters_102 := dc_n1 aX12_letters_101
theorem aX12_letters_104 : dc_at cX12_letters 104 sX12_letters_104 := dc_n2 aX12_letters_102
theorem aX12_letters_106 : dc_at cX12_letters 106 sX12_letters_106 := dc_n2 aX12_letters_104
theorem aX12_letters_108 : dc_at cX12_letters 108 sX12_letters_108 := dc_n2 aX12_letters_106
theorem aX12_letters_110 : dc_at cX12_letters 110 sX12_letters_110 := dc_n2 aX12_letters_108
theorem aX12_letters_111 : dc_at cX12_letters 111 sX12_letters_111 := dc_n1 aX12_letters_110
theorem aX12_letters_112 : dc_at cX12_letters 112 sX12_letters_112 := dc_n1 aX12_letters_111
theorem aX12_letters_113 : dc_at cX12_letters 113 sX12_letters_113 := dc_n1 aX12_letters_112
theorem aX12_letters_116 : dc_at cX12_letters 116 sX12_letters_116 := dc_n3 aX12_letters_113
theorem aX12_letters_117 : dc_at cX12_letters 117 sX12_letters_117 := dc_n1 aX12_letters_116
theorem aX12_letters_119 : dc_at cX12_letters 119 sX12_letters_119 := dc_n2 aX12_letters_117
theorem aX12_letters_121 : dc_at cX12_letters 121 sX12_letters_121 := dc_n2 aX12_letters_119
theorem aX12_letters_123 : dc_at cX12_letters 123 sX12_letters_123 := dc_n2 aX12_letters_121
theorem aX12_letters_125 : dc_at cX12_letters 125 sX12_letters_125 := dc_n2 aX12_letters_123
theorem aX12_letters_127 : dc_at cX12_letters 127 sX12_letters_127 := dc_n2 aX12_letters_125
theorem aX12_letters_129 : dc_at cX12_letters 129 sX12_letters_129 := dc_n2 aX12_letters_127
theorem aX12_letters_131 : dc_at cX12_letters 131 sX12_letters_131 := dc_n2 aX12_letters_129
theorem aX12_letters_134 : dc_at cX12_letters 134 sX12_letters_134 := dc_n3 aX12_letters_131
theorem aX12_letters_135 : dc_at cX12_letters 135 sX12_letters_135 := dc_n1 aX12_letters_134
theorem aX12_letters_137 : dc_at cX12_letters 137 sX12_letters_137 := dc_n2 aX12_letters_135
theorem aX12_letters_139 : dc_at cX12_letters 139 sX12_letters_139 := dc_n2 aX12_letters_137
theorem aX12_letters_141 : dc_at cX12_letters 141 sX12_letters_141 := dc_n2 aX12_letters_139
theorem aX12_letters_143 : dc_at cX12_letters 143 sX12_letters_143 := dc_n2 aX12_letters_141
theorem aX12_letters_145 : dc_at cX12_letters 145 sX12_letters_145 := dc_n2 aX12_letters_143
theorem aX12_letters_146 : dc_at cX12_letters 146 sX12_letters_146 := dc_n1 aX12_letters_145
theorem aX12_letters_147 : dc_at cX12_letters 147 sX12_letters_147 := dc_n1 aX12_letters_146
theorem aX12_letters_150 : dc_at cX12_letters 150 sX12_letters_150 := dc_n3 aX12_letters_147
theorem aX12_letters_151 : dc_at cX12_letters 151 sX12_letters_151 := dc_n1 aX12_letters_150
theorem aX12_letters_153 : dc_at cX12_letters 153 sX12_letters_153 := dc_n2 aX12_letters_151
theorem aX12_letters_155 : dc_at cX12_letters 155 sX12_letters_155 := dc_n2 aX12_letters_153
theorem aX12_letters_157 : dc_at cX12_letters 157 sX12_letters_157 := dc_n2 aX12_letters_155
theorem aX12_letters_159 : dc_at cX12_letters 159 sX12_letters_159 := dc_n2 aX12_letters_157
theorem aX12_letters_160 : dc_at cX12_letters 160 sX12_letters_160 := dc_n1 aX12_letters_159
theorem aX12_letters_161 : dc_at cX12_letters 161 sX12_letters_161 := dc_n1 aX12_letters_160
theorem aX12_letters_162 : dc_at cX12_letters 162 sX12_letters_162 := dc_n1 aX12_letters_161
theorem aX12_letters_165 : dc_at cX12_letters 165 sX12_letters_165 := dc_n3 aX12_letters_162
theorem aX12_letters_166 : dc_at cX12_letters 166 sX12_letters_166 := dc_n1 aX12_letters_165
theorem aX12_letters_168 : dc_at cX12_letters 168 sX12_letters_168 := dc_n2 aX12_letters_166
theorem aX12_letters_170 : dc_at cX12_letters 170 sX12_letters_170 := dc_n2 aX12_letters_168
theorem aX12_letters_172 : dc_at cX12_letters 172 sX12_letters_172 := dc_n2 aX12_letters_170
theorem aX12_letters_174 : dc_at cX12_letters 174 sX12_letters_174 := dc_n2 aX12_letters_172
theorem aX12_letters_176 : dc_at cX12_letters 176 sX12_letters_176 := dc_n2 aX12_letters_174
theorem aX12_letters_178 : dc_at cX12_letters 178 sX12_letters_178 := dc_n2 aX12_letters_176
theorem aX12_letters_180 : dc_at cX12_letters 180 sX12_letters_180 := dc_n2 aX12_letters_178
theorem aX12_letters_183 : dc_at cX12_letters 183 sX12_letters_183 := dc_n3 aX12_letters_180
theorem aX12_letters_184 : dc_at cX12_letters 184 sX12_letters_184 := dc_n1 aX12_letters_183
theorem aX12_letters_186 : dc_at cX12_letters 186 sX12_letters_186 := dc_n2 aX12_letters_184
theorem aX12_letters_188 : dc_at cX12_letters 188 sX12_letters_188 := dc_n2 aX12_letters_186
theorem aX12_letters_190 : dc_at cX12_letters 190 sX12_letters_190 := dc_n2 aX12_letters_188
theorem aX12_letters_192 : dc_at cX12_letters 192 sX12_letters_192 := dc_n2 aX12_letters_190
theorem aX12_letters_194 : dc_at cX12_letters 194 sX12_letters_194 := dc_n2 aX12_letters_192
theorem aX12_letters_196 : dc_at cX12_letters 196 sX12_letters_196 := dc_n2 aX12_letters_194
theorem aX12_letters_197 : dc_at cX12_letters 197 sX12_letters_197 := dc_n1 aX12_letters_196
theorem aX12_letters_200 : dc_at cX12_letters 200 sX12_letters_200 := dc_n3 aX12_letters_197
theorem aX12_letters_201 : dc_at cX12_letters 201 sX12_letters_201 := dc_n1 aX12_letters_200
theorem aX12_letters_203 : dc_at cX12_letters 203 sX12_letters_203 := dc_n2 aX12_letters_201
theorem aX12_letters_205 : dc_at cX12_letters 205 sX12_letters_205 := dc_n2 aX12_letters_203
theorem aX12_letters_207 : dc_at cX12_letters 207 sX12_letters_207 := dc_n2 aX12_letters_205
theorem aX12_letters_209 : dc_at cX12_letters 209 sX12_letters_209 := dc_n2 aX12_letters_207
theorem aX12_letters_210 : dc_at cX12_letters 210 sX12_letters_210 := dc_n1 aX12_letters_209
theorem aX12_letters_211 : dc_at cX12_letters 211 sX12_letters_211 := dc_n1 aX12_letters_210
theorem aX12_letters_212 : dc_at cX12_letters 212 sX12_letters_212 := dc_n1 aX12_letters_211
theorem aX12_letters_215 : dc_at cX12_letters 215 sX12_letters_215 := dc_n3 aX12_letters_212
theorem aX12_letters_216 : dc_at cX12_letters 216 sX12_letters_216 := dc_n1 aX12_letters_215
theorem aX12_letters_218 : dc_at cX12_letters 218 sX12_letters_218 := dc_n2 aX12_letters_216
theorem aX12_letters_220 : dc_at cX12_letters 220 sX12_letters_220 := dc_n2 aX12_letters_218
theorem aX12_letters_222 : dc_at cX12_letters 222 sX12_letters_222 := dc_n2 aX12_letters_220
theorem aX12_letters_223 : dc_at cX12_letters 223 sX12_letters_223 := dc_n1 aX12_letters_222
theorem aX12_letters_224 : dc_at cX12_letters 224 sX12_letters_224 := dc_n1 aX12_letters_223
theorem aX12_letters_225 : dc_at cX12_letters 225 sX12_letters_225 := dc_n1 aX12_letters_224
theorem aX12_letters_226 : dc_at cX12_letters 226 sX12_letters_226 := dc_n1 aX12_letters_225
theorem aX12_letters_229 : dc_at cX12_letters 229 sX12_letters_229 := dc_n3 aX12_letters_226
theorem aX12_letters_230 : dc_at cX12_letters 230 sX12_letters_230 := dc_n1 aX12_letters_229
theorem aX12_letters_232 : dc_at cX12_letters 232 sX12_letters_232 := dc_n2 aX12_letters_230
theorem aX12_letters_234 : dc_at cX12_letters 234 sX12_letters_234 := dc_n2 aX12_letters_232
theorem aX12_letters_236 : dc_at cX12_letters 236 sX12_letters_236 := dc_n2 aX12_letters_234
theorem aX12_letters_238 : dc_at cX12_letters 238 sX12_letters_238 := dc_n2 aX12_letters_236
theorem aX12_letters_240 : dc_at cX12_letters 240 sX12_letters_240 := dc_n2 aX12_letters_238
theorem aX12_letters_241 : dc_at cX12_letters 241 sX12_letters_241 := dc_n1 aX12_letters_240
theorem aX12_letters_242 : dc_at cX12_letters 242 sX12_letters_242 := dc_n1 aX12_letters_241
theorem aX12_letters_245 : dc_at cX12_letters 245 sX12_letters_245 := dc_n3 aX12_letters_242
theorem aX12_letters_246 : dc_at cX12_letters 246 sX12_letters_246 := dc_n1 aX12_letters_245
theorem aX12_letters_248 : dc_at cX12_letters 248 sX12_letters_248 := dc_n2 aX12_letters_246
theorem aX12_letters_250 : dc_at cX12_letters 250 sX12_letters_250 := dc_n2 aX12_letters_248
theorem aX12_letters_252 : dc_at cX12_letters 252 sX12_letters_252 := dc_n2 aX12_letters_250
theorem aX12_letters_254 : dc_at cX12_letters 254 sX12_letters_254 := dc_n2 aX12_letters_252
theorem aX12_letters_255 : dc_at cX12_letters 255 sX12_letters_255 := dc_n1 aX12_letters_254
theorem aX12_letters_256 : dc_at cX12_letters 256 sX12_letters_256 := dc_n1 aX12_letters_255
theorem aX12_letters_257 : dc_at cX12_letters 257 sX12_letters_257 := dc_n1 aX12_letters_256
theorem aX12_letters_260 : dc_at cX12_letters 260 sX12_letters_260 := dc_n3 aX12_letters_257
theorem aX12_letters_261 : dc_at cX12_letters 261 sX12_letters_261 := dc_n1 aX12_letters_260
theorem aX12_letters_263 : dc_at cX12_letters 263 sX12_letters_263 := dc_n2 aX12_letters_261
theorem aX12_letters_265 : dc_at cX12_letters 265 sX12_letters_265 := dc_n2 aX12_letters_263
theorem aX12_letters_267 : dc_at cX12_letters 267 sX12_letters_267 := dc_n2 aX12_letters_265
theorem aX12_letters_268 : dc_at cX12_letters 268 sX12_letters_268 := dc_n1 aX12_letters_267
theorem aX12_letters_269 : dc_at cX12_letters 269 sX12_letters_269 := dc_n1 aX12_letters_268
theorem aX12_letters_270 : dc_at cX12_letters 270 sX12_letters_270 := dc_n1 aX12_letters_269
theorem aX12_letters_271 : dc_at cX12_letters 271 sX12_letters_271 := dc_n1 aX12_letters_270
theorem aX12_letters_274 : dc_at cX12_letters 274 sX12_letters_274 := dc_n3 aX12_letters_271
theorem aX12_letters_275 : dc_at cX12_letters 275 sX12_letters_275 := dc_n1 aX12_letters_274
theorem aX12_letters_277 : dc_at cX12_letters 277 sX12_letters_277 := dc_n2 aX12_letters_275
theorem aX12_letters_279 : dc_at cX12_letters 279 sX12_letters_279 := dc_n2 aX12_letters_277
theorem aX12_letters_280 : dc_at cX12_letters 280 sX12_letters_280 := dc_n1 aX12_letters_279
theorem aX12_letters_281 : dc_at cX12_letters 281 sX12_letters_281 := dc_n1 aX12_letters_280
theorem aX12_letters_282 : dc_at cX12_letters 282 sX12_letters_282 := dc_n1 aX12_letters_281
theorem aX12_letters_283 : dc_at cX12_letters 283 sX12_letters_283 := dc_n1 aX12_letters_282
theorem aX12_letters_284 : dc_at cX12_letters 284 sX12_letters_284 := dc_n1 aX12_letters_283
theorem aX12_letters_287 : dc_at cX12_letters 287 sX12_letters_287 := dc_n3 aX12_letters_284
theorem aX12_letters_288 : dc_at cX12_letters 288 sX12_letters_288 := dc_n1 aX12_letters_287
theorem aX12_letters_290 : dc_at cX12_letters 290 sX12_letters_290 := dc_n2 aX12_letters_288
theorem aX12_letters_292 : dc_at cX12_letters 292 sX12_letters_292 := dc_n2 aX12_letters_290
theorem aX12_letters_294 : dc_at cX12_letters 294 sX12_letters_294 := dc_n2 aX12_letters_292
theorem aX12_letters_296 : dc_at cX12_letters 296 sX12_letters_296 := dc_n2 aX12_letters_294
theorem aX12_letters_297 : dc_at cX12_letters 297 sX12_letters_297 := dc_n1 aX12_letters_296
theorem aX12_letters_298 : dc_at cX12_letters 298 sX12_letters_298 := dc_n1 aX12_letters_297
theorem aX12_letters_299 : dc_at cX12_letters 299 sX12_letters_299 := dc_n1 aX12_letters_298
theorem aX12_letters_302 : dc_at cX12_letters 302 sX12_letters_302 := dc_n3 aX12_letters_299
theorem aX12_letters_303 : dc_at cX12_letters 303 sX12_letters_303 := dc_n1 aX12_letters_302
theorem aX12_letters_305 : dc_at cX12_letters 305 sX12_letters_305 := dc_n2 aX12_letters_303
theorem aX12_letters_307 : dc_at cX12_letters 307 sX12_letters_307 := dc_n2 aX12_letters_305
theorem aX12_letters_309 : dc_at cX12_letters 309 sX12_letters_309 := dc_n2 aX12_letters_307
theorem aX12_letters_311 : dc_at cX12_letters 311 sX12_letters_311 := dc_n2 aX12_letters_309
theorem aX12_letters_313 : dc_at cX12_letters 313 sX12_letters_313 := dc_n2 aX12_letters_311
theorem aX12_letters_314 : dc_at cX12_letters 314 sX12_letters_314 := dc_n1 aX12_letters_313
theorem aX12_letters_315 : dc_at cX12_letters 315 sX12_letters_315 := dc_n1 aX12_letters_314
theorem aX12_letters_318 : dc_at cX12_letters 318 sX12_letters_318 := dc_n3 aX12_letters_315
theorem aX12_letters_319 : dc_at cX12_letters 319 sX12_letters_319 := dc_n1 aX12_letters_318
theorem aX12_letters_321 : dc_at cX12_letters 321 sX12_letters_321 := dc_n2 aX12_letters_319
theorem aX12_letters_323 : dc_at cX12_letters 323 sX12_letters_323 := dc_n2 aX12_letters_321
theorem aX12_letters_324 : dc_at cX12_letters 324 sX12_letters_324 := dc_n1 aX12_letters_323
theorem aX12_letters_325 : dc_at cX12_letters 325 sX12_letters_325 := dc_n1 aX12_letters_324
theorem aX12_letters_326 : dc_at cX12_letters 326 sX12_letters_326 := dc_n1 aX12_letters_325
theorem aX12_letters_327 : dc_at cX12_letters 327 sX12_letters_327 := dc_n1 aX12_letters_326
theorem aX12_letters_328 : dc_at cX12_letters 328 sX12_letters_328 := dc_n1 aX12_letters_327
theorem aX12_letters_331 : dc_at cX12_letters 331 sX12_letters_331 := dc_n3 aX12_letters_328
theorem aX12_letters_332 : dc_at cX12_letters 332 sX12_letters_332 := dc_n1 aX12_letters_331
theorem aX12_letters_334 : dc_at cX12_letters 334 sX12_letters_334 := dc_n2 aX12_letters_332
theorem aX12_letters_336 : dc_at cX12_letters 336 sX12_letters_336 := dc_n2 aX12_letters_334
theorem aX12_letters_338 : dc_at cX12_letters 338 sX12_letters_338 := dc_n2 aX12_letters_336
theorem aX12_letters_340 : dc_at cX12_letters 340 sX12_letters_340 := dc_n2 aX12_letters_338
theorem aX12_letters_342 : dc_at cX12_letters 342 sX12_letters_342 := dc_n2 aX12_letters_340
theorem aX12_letters_344 : dc_at cX12_letters 344 sX12_letters_344 := dc_n2 aX12_letters_342
theorem aX12_letters_346 : dc_at cX12_letters 346 sX12_letters_346 := dc_n2 aX12_letters_344
theorem aX12_letters_349 : dc_at cX12_letters 349 sX12_letters_349 := dc_n3 aX12_letters_346
theorem aX12_letters_350 : dc_at cX12_letters 350 sX12_letters_350 := dc_n1 aX12_letters_349
theorem aX12_letters_352 : dc_at cX12_letters 352 sX12_letters_352 := dc_n2 aX12_letters_350
theorem aX12_letters_354 : dc_at cX12_letters 354 sX12_letters_354 := dc_n2 aX12_letters_352
theorem aX12_letters_356 : dc_at cX12_letters 356 sX12_letters_356 := dc_n2 aX12_letters_354
theorem aX12_letters_358 : dc_at cX12_letters 358 sX12_letters_358 := dc_n2 aX12_letters_356
theorem aX12_letters_359 : dc_at cX12_letters 359 sX12_letters_359 := dc_n1 aX12_letters_358
theorem aX12_letters_360 : dc_at cX12_letters 360 sX12_letters_360 := dc_n1 aX12_letters_359
theorem aX12_letters_361 : dc_at cX12_letters 361 sX12_letters_361 := dc_n1 aX12_letters_360
theorem aX12_letters_364 : dc_at cX12_letters 364 sX12_letters_364 := dc_n3 aX12_letters_361
theorem aX12_letters_365 : dc_at cX12_letters 365 sX12_letters_365 := dc_n1 aX12_letters_364
theorem aX12_letters_367 : dc_at cX12_letters 367 sX12_letters_367 := dc_n2 aX12_letters_365
theorem aX12_letters_369 : dc_at cX12_letters 369 sX12_letters_369 := dc_n2 aX12_letters_367
theorem aX12_letters_371 : dc_at cX12_letters 371 sX12_letters_371 := dc_n2 aX12_letters_369
theorem aX12_letters_372 : dc_at cX12_letters 372 sX12_letters_372 := dc_n1 aX12_letters_371
theorem aX12_letters_373 : dc_at cX12_letters 373 sX12_letters_373 := dc_n1 aX12_letters_372
theorem aX12_letters_374 : dc_at cX12_letters 374 sX12_letters_374 := dc_n1 aX12_letters_373
theorem aX12_letters_375 : dc_at cX12_letters 375 sX12_letters_375 := dc_n1 aX12_letters_374
theorem aX12_letters_378 : dc_at cX12_letters 378 sX12_letters_378 := dc_n3 aX12_letters_375
theorem dX12_letters_0 : decode cX12_letters 0 = .ok (.iload_n 0, 1) := dc_26 aX12_letters_0
theorem dX12_letters_1 : decode cX12_letters 1 = .ok (.tableswitch 364 0 17 #[87, 101, 116, 134, 150, 165, 183, 200, 215, 229, 245, 260, 274, 287, 302, 318, 331, 349], 87) := by decide +kernel
theorem dX12_letters_88 : decode cX12_letters 88 = .ok (.bipush 115, 2) := dc_16 (a0 := 115) aX12_letters_88 (by decide)
theorem dX12_letters_90 : decode cX12_letters 90 = .ok (.bipush 117, 2) := dc_16 (a0 := 117) aX12_letters_90 (by decide)
theorem dX12_letters_92 : decode cX12_letters 92 = .ok (.bipush 110, 2) := dc_16 (a0 := 110) aX12_letters_92 (by decide)
theorem dX12_letters_94 : decode cX12_letters 94 = .ok (.iconst 0, 1) := dc_3 aX12_letters_94
theorem dX12_letters_95 : decode cX12_letters 95 = .ok (.iconst 0, 1) := dc_3 aX12_letters_95
theorem dX12_letters_96 : decode cX12_letters 96 = .ok (.iconst 0, 1) := dc_3 aX12_letters_96
theorem dX12_letters_97 : decode cX12_letters 97 = .ok (.iconst 0, 1) := dc_3 aX12_letters_97
theorem dX12_letters_98 : decode cX12_letters 98 = .ok (.invokestatic 172, 3) := dc_184 (a0 := 0) (b0 := 172) aX12_letters_98
theorem dX12_letters_101 : decode cX12_letters 101 = .ok (.lreturn, 1) := dc_173 aX12_letters_101
theorem dX12_letters_102 : decode cX12_letters 102 = .ok (.bipush 109, 2) := dc_16 (a0 := 109) aX12_letters_102 (by decide)
theorem dX12_letters_104 : decode cX12_letters 104 = .ok (.bipush 111, 2) := dc_16 (a0 := 111) aX12_letters_104 (by decide)
theorem dX12_letters_106 : decode cX12_letters 106 = .ok (.bipush 111, 2) := dc_16 (a0 := 111) aX12_letters_106 (by decide)
theorem dX12_letters_108 : decode cX12_letters 108 = .ok (.bipush 110, 2) := dc_16 (a0 := 110) aX12_letters_108 (by decide)
theorem dX12_letters_110 : decode cX12_letters 110 = .ok (.iconst 0, 1) := dc_3 aX12_letters_110
theorem dX12_letters_111 : decode cX12_letters 111 = .ok (.iconst 0, 1) := dc_3 aX12_letters_111
theorem dX12_letters_112 : decode cX12_letters 112 = .ok (.iconst 0, 1) := dc_3 aX12_letters_112
theorem dX12_letters_113 : decode cX12_letters 113 = .ok (.invokestatic 172, 3) := dc_184 (a0 := 0) (b0 := 172) aX12_letters_113
theorem dX12_letters_116 : decode cX12_letters 116 = .ok (.lreturn, 1) := dc_173 aX12_letters_116
theorem dX12_letters_117 : decode cX12_letters 117 = .ok (.bipush 109, 2) := dc_16 (a0 := 109) aX12_letters_117 (by decide)
theorem dX12_letters_119 : decode cX12_letters 119 = .ok (.bipush 101, 2) := dc_16 (a0 := 101) aX12_letters_119 (by decide)
theorem dX12_letters_121 : decode cX12_letters 121 = .ok (.bipush 114, 2) := dc_16 (a0 := 114) aX12_letters_121 (by decide)
theorem dX12_letters_123 : decode cX12_letters 123 = .ok (.bipush 99, 2) := dc_16 (a0 := 99) aX12_letters_123 (by decide)
theorem dX12_letters_125 : decode cX12_letters 125 = .ok (.bipush 117, 2) := dc_16 (a0 := 117) aX12_letters_125 (by decide)
theorem dX12_letters_127 : decode cX12_letters 127 = .ok (.bipush 114, 2) := dc_16 (a0 := 114) aX12_letters_127 (by decide)
theorem dX12_letters_129 : decode cX12_letters 129 = .ok (.bipush 121, 2) := dc_16 (a0 := 121) aX12_letters_129 (by decide)
theorem dX12_letters_131 : decode cX12_letters 131 = .ok (.invokestatic 172, 3) := dc_184 (a0 := 0) (b0 := 172) aX12_letters_131
theorem dX12_letters_134 : decode cX12_letters 134 = .ok (.lreturn, 1) := dc_173 aX12_letters_134
theorem dX12_letters_135 : decode cX12_letters 135 = .ok (.bipush 118, 2) := dc_16 (a0 := 118) aX12_letters_135 (by decide)
theorem dX12_letters_137 : decode cX12_letters 137 = .ok (.bipush 101, 2) := dc_16 (a0 := 101) aX12_letters_137 (by decide)
theorem dX12_letters_139 : decode cX12_letters 139 = .ok (.bipush 110, 2) := dc_16 (a0 := 110) aX12_letters_139 (by decide)
theorem dX12_letters_141 : decode cX12_letters 141 = .ok (.bipush 117, 2) := dc_16 (a0 := 117) aX12_letters_141 (by decide)
theorem dX12_letters_143 : decode cX12_letters 143 = .ok (.bipush 115, 2) := dc_16 (a0 := 115) aX12_letters_143 (by decide)
theorem dX12_letters_145 : decode cX12_letters 145 = .ok (.iconst 0, 1) := dc_3 aX12_letters_145
theorem dX12_letters_146 : decode cX12_letters 146 = .ok (.iconst 0, 1) := dc_3 aX12_letters_146
theorem dX12_letters_147 : decode cX12_letters 147 = .ok (.invokestatic 172, 3) := dc_184 (a0 := 0) (b0 := 172) aX12_letters_147
theorem dX12_letters_150 : decode cX12_letters 150 = .ok (.lreturn, 1) := dc_173 aX12_letters_150
theorem dX12_letters_151 : decode cX12_letters 151 = .ok (.bipush 109, 2) := dc_16 (a0 := 109) aX12_letters_151 (by decide)
theorem dX12_letters_153 : decode cX12_letters 153 = .ok (.bipush 97, 2) := dc_16 (a0 := 97) aX12_letters_153 (by decide)
theorem dX12_letters_155 : decode cX12_letters 155 = .ok (.bipush 114, 2) := dc_16 (a0 := 114) aX12_letters_155 (by decide)
theorem dX12_letters_157 : decode cX12_letters 157 = .ok (.bipush 115, 2) := dc_16 (a0 := 115) aX12_letters_157 (by decide)
theorem dX12_letters_159 : decode cX12_letters 159 = .ok (.iconst 0, 1) := dc_3 aX12_letters_159
theorem dX12_letters_160 : decode cX12_letters 160 = .ok (.iconst 0, 1) := dc_3 aX12_letters_160
theorem dX12_letters_161 : decode cX12_letters 161 = .ok (.iconst 0, 1) := dc_3 aX12_letters_161
theorem dX12_letters_162 : decode cX12_letters 162 = .ok (.invokestatic 172, 3) := dc_184 (a0 := 0) (b0 := 172) aX12_letters_162
theorem dX12_letters_165 : decode cX12_letters 165 = .ok (.lreturn, 1) := dc_173 aX12_letters_165
theorem dX12_letters_166 : decode cX12_letters 166 = .ok (.bipush 106, 2) := dc_16 (a0 := 106) aX12_letters_166 (by decide)
theorem dX12_letters_168 : decode cX12_letters 168 = .ok (.bipush 117, 2) := dc_16 (a0 := 117) aX12_letters_168 (by decide)
theorem dX12_letters_170 : decode cX12_letters 170 = .ok (.bipush 112, 2) := dc_16 (a0 := 112) aX12_letters_170 (by decide)
theorem dX12_letters_172 : decode cX12_letters 172 = .ok (.bipush 105, 2) := dc_16 (a0 := 105) aX12_letters_172 (by decide)
theorem dX12_letters_174 : decode cX12_letters 174 = .ok (.bipush 116, 2) := dc_16 (a0 := 116) aX12_letters_174 (by decide)
theorem dX12_letters_176 : decode cX12_letters 176 = .ok (.bipush 101, 2) := dc_16 (a0 := 101) aX12_letters_176 (by decide)
theorem dX12_letters_178 : decode cX12_letters 178 = .ok (.bipush 114, 2) := dc_16 (a0 := 114) aX12_letters_178 (by decide)
theorem dX12_letters_180 : decode cX12_letters 180 = .ok (.invokestatic 172, 3) := dc_184 (a0 := 0) (b0 := 172) aX12_letters_180
theorem dX12_letters_183 : decode cX12_letters 183 = .ok (.lreturn, 1) := dc_173 aX12_letters_183
theorem dX12_letters_184 : decode cX12_letters 184 = .ok (.bipush 115, 2) := dc_16 (a0 := 115) aX12_letters_184 (by decide)
theorem dX12_letters_186 : decode cX12_letters 186 = .ok (.bipush 97, 2) := dc_16 (a0 := 97) aX12_letters_186 (by decide)
theorem dX12_letters_188 : decode cX12_letters 188 = .ok (.bipush 116, 2) := dc_16 (a0 := 116) aX12_letters_188 (by decide)
theorem dX12_letters_190 : decode cX12_letters 190 = .ok (.bipush 117, 2) := dc_16 (a0 := 117) aX12_letters_190 (by decide)
theorem dX12_letters_192 : decode cX12_letters 192 = .ok (.bipush 114, 2) := dc_16 (a0 := 114) aX12_letters_192 (by decide)
theorem dX12_letters_194 : decode cX12_letters 194 = .ok (.bipush 110, 2) := dc_16 (a0 := 110) aX12_letters_194 (by decide)
theorem dX12_letters_196 : decode cX12_letters 196 = .ok (.iconst 0, 1) := dc_3 aX12_letters_196
theorem dX12_letters_197 : decode cX12_letters 197 = .ok (.invokestatic 172, 3) := dc_184 (a0 := 0) (b0 := 172) aX12_letters_197
theorem dX12_letters_200 : decode cX12_letters 200 = .ok (.lreturn, 1) := dc_173 aX12_letters_200
theorem dX12_letters_201 : decode cX12_letters 201 = .ok (.bipush 114, 2) := dc_16 (a0 := 114) aX12_letters_201 (by decide)
theorem dX12_letters_203 : decode cX12_letters 203 = .ok (.bipush 105, 2) := dc_16 (a0 := 105) aX12_letters_203 (by decide)
theorem dX12_letters_205 : decode cX12_letters 205 = .ok (.bipush 115, 2) := dc_16 (a0 := 115) aX12_letters_205 (by decide)
theorem dX12_letters_207 : decode cX12_letters 207 = .ok (.bipush 101, 2) := dc_16 (a0 := 101) aX12_letters_207 (by decide)
theorem dX12_letters_209 : decode cX12_letters 209 = .ok (.iconst 0, 1) := dc_3 aX12_letters_209
theorem dX12_letters_210 : decode cX12_letters 210 = .ok (.iconst 0, 1) := dc_3 aX12_letters_210
theorem dX12_letters_211 : decode cX12_letters 211 = .ok (.iconst 0, 1) := dc_3 aX12_letters_211
theorem dX12_letters_212 : decode cX12_letters 212 = .ok (.invokestatic 172, 3) := dc_184 (a0 := 0) (b0 := 172) aX12_letters_212
theorem dX12_letters_215 : decode cX12_letters 215 = .ok (.lreturn, 1) := dc_173 aX12_letters_215
theorem dX12_letters_216 : decode cX12_letters 216 = .ok (.bipush 108, 2) := dc_16 (a0 := 108) aX12_letters_216 (by decide)
theorem dX12_letters_218 : decode cX12_letters 218 = .ok (.bipush 111, 2) := dc_16 (a0 := 111) aX12_letters_218 (by decide)
theorem dX12_letters_220 : decode cX12_letters 220 = .ok (.bipush 116, 2) := dc_16 (a0 := 116) aX12_letters_220 (by decide)
theorem dX12_letters_222 : decode cX12_letters 222 = .ok (.iconst 0, 1) := dc_3 aX12_letters_222
theorem dX12_letters_223 : decode cX12_letters 223 = .ok (.iconst 0, 1) := dc_3 aX12_letters_223
theorem dX12_letters_224 : decode cX12_letters 224 = .ok (.iconst 0, 1) := dc_3 aX12_letters_224
theorem dX12_letters_225 : decode cX12_letters 225 = .ok (.iconst 0, 1) := dc_3 aX12_letters_225
theorem dX12_letters_226 : decode cX12_letters 226 = .ok (.invokestatic 172, 3) := dc_184 (a0 := 0) (b0 := 172) aX12_letters_226
theorem dX12_letters_229 : decode cX12_letters 229 = .ok (.lreturn, 1) := dc_173 aX12_letters_229
theorem dX12_letters_230 : decode cX12_letters 230 = .ok (.bipush 104, 2) := dc_16 (a0 := 104) aX12_letters_230 (by decide)
theorem dX12_letters_232 : decode cX12_letters 232 = .ok (.bipush 111, 2) := dc_16 (a0 := 111) aX12_letters_232 (by decide)
theorem dX12_letters_234 : decode cX12_letters 234 = .ok (.bipush 117, 2) := dc_16 (a0 := 117) aX12_letters_234 (by decide)
theorem dX12_letters_236 : decode cX12_letters 236 = .ok (.bipush 115, 2) := dc_16 (a0 := 115) aX12_letters_236 (by decide)
theorem dX12_letters_238 : decode cX12_letters 238 = .ok (.bipush 101, 2) := dc_16 (a0 := 101) aX12_letters_238 (by decide)
theorem dX12_letters_240 : decode cX12_letters 240 = .ok (.iconst 0, 1) := dc_3 aX12_letters_240
theorem dX12_letters_241 : decode cX12_letters 241 = .ok (.iconst 0, 1) := dc_3 aX12_letters_241
theorem dX12_letters_242 : decode cX12_letters 242 = .ok (.invokestatic 172, 3) := dc_184 (a0 := 0) (b0 := 172) aX12_letters_242
theorem dX12_letters_245 : decode cX12_letters 245 = .ok (.lreturn, 1) := dc_173 aX12_letters_245
theorem dX12_letters_246 : decode cX12_letters 246 = .ok (.bipush 100, 2) := dc_16 (a0 := 100) aX12_letters_246 (by decide)
theorem dX12_letters_248 : decode cX12_letters 248 = .ok (.bipush 97, 2) := dc_16 (a0 := 97) aX12_letters_248 (by decide)
theorem dX12_letters_250 : decode cX12_letters 250 = .ok (.bipush 116, 2) := dc_16 (a0 := 116) aX12_letters_250 (by decide)
theorem dX12_letters_252 : decode cX12_letters 252 = .ok (.bipush 101, 2) := dc_16 (a0 := 101) aX12_letters_252 (by decide)
theorem dX12_letters_254 : decode cX12_letters 254 = .ok (.iconst 0, 1) := dc_3 aX12_letters_254
theorem dX12_letters_255 : decode cX12_letters 255 = .ok (.iconst 0, 1) := dc_3 aX12_letters_255
theorem dX12_letters_256 : decode cX12_letters 256 = .ok (.iconst 0, 1) := dc_3 aX12_letters_256
theorem dX12_letters_257 : decode cX12_letters 257 = .ok (.invokestatic 172, 3) := dc_184 (a0 := 0) (b0 := 172) aX12_letters_257
theorem dX12_letters_260 : decode cX12_letters 260 = .ok (.lreturn, 1) := dc_173 aX12_letters_260
theorem dX12_letters_261 : decode cX12_letters 261 = .ok (.bipush 115, 2) := dc_16 (a0 := 115) aX12_letters_261 (by decide)
theorem dX12_letters_263 : decode cX12_letters 263 = .ok (.bipush 101, 2) := dc_16 (a0 := 101) aX12_letters_263 (by decide)
theorem dX12_letters_265 : decode cX12_letters 265 = .ok (.bipush 116, 2) := dc_16 (a0 := 116) aX12_letters_265 (by decide)
theorem dX12_letters_267 : decode cX12_letters 267 = .ok (.iconst 0, 1) := dc_3 aX12_letters_267
theorem dX12_letters_268 : decode cX12_letters 268 = .ok (.iconst 0, 1) := dc_3 aX12_letters_268
theorem dX12_letters_269 : decode cX12_letters 269 = .ok (.iconst 0, 1) := dc_3 aX12_letters_269
theorem dX12_letters_270 : decode cX12_letters 270 = .ok (.iconst 0, 1) := dc_3 aX12_letters_270
theorem dX12_letters_271 : decode cX12_letters 271 = .ok (.invokestatic 172, 3) := dc_184 (a0 := 0) (b0 := 172) aX12_letters_271
theorem dX12_letters_274 : decode cX12_letters 274 = .ok (.lreturn, 1) := dc_173 aX12_letters_274
theorem dX12_letters_275 : decode cX12_letters 275 = .ok (.bipush 97, 2) := dc_16 (a0 := 97) aX12_letters_275 (by decide)
theorem dX12_letters_277 : decode cX12_letters 277 = .ok (.bipush 116, 2) := dc_16 (a0 := 116) aX12_letters_277 (by decide)
theorem dX12_letters_279 : decode cX12_letters 279 = .ok (.iconst 0, 1) := dc_3 aX12_letters_279
theorem dX12_letters_280 : decode cX12_letters 280 = .ok (.iconst 0, 1) := dc_3 aX12_letters_280
theorem dX12_letters_281 : decode cX12_letters 281 = .ok (.iconst 0, 1) := dc_3 aX12_letters_281
theorem dX12_letters_282 : decode cX12_letters 282 = .ok (.iconst 0, 1) := dc_3 aX12_letters_282
theorem dX12_letters_283 : decode cX12_letters 283 = .ok (.iconst 0, 1) := dc_3 aX12_letters_283
theorem dX12_letters_284 : decode cX12_letters 284 = .ok (.invokestatic 172, 3) := dc_184 (a0 := 0) (b0 := 172) aX12_letters_284
theorem dX12_letters_287 : decode cX12_letters 287 = .ok (.lreturn, 1) := dc_173 aX12_letters_287
theorem dX12_letters_288 : decode cX12_letters 288 = .ok (.bipush 103, 2) := dc_16 (a0 := 103) aX12_letters_288 (by decide)
theorem dX12_letters_290 : decode cX12_letters 290 = .ok (.bipush 111, 2) := dc_16 (a0 := 111) aX12_letters_290 (by decide)
theorem dX12_letters_292 : decode cX12_letters 292 = .ok (.bipush 101, 2) := dc_16 (a0 := 101) aX12_letters_292 (by decide)
theorem dX12_letters_294 : decode cX12_letters 294 = .ok (.bipush 115, 2) := dc_16 (a0 := 115) aX12_letters_294 (by decide)
theorem dX12_letters_296 : decode cX12_letters 296 = .ok (.iconst 0, 1) := dc_3 aX12_letters_296
theorem dX12_letters_297 : decode cX12_letters 297 = .ok (.iconst 0, 1) := dc_3 aX12_letters_297
theorem dX12_letters_298 : decode cX12_letters 298 = .ok (.iconst 0, 1) := dc_3 aX12_letters_298
theorem dX12_letters_299 : decode cX12_letters 299 = .ok (.invokestatic 172, 3) := dc_184 (a0 := 0) (b0 := 172) aX12_letters_299
theorem dX12_letters_302 : decode cX12_letters 302 = .ok (.lreturn, 1) := dc_173 aX12_letters_302
theorem dX12_letters_303 : decode cX12_letters 303 = .ok (.bipush 115, 2) := dc_16 (a0 := 115) aX12_letters_303 (by decide)
theorem dX12_letters_305 : decode cX12_letters 305 = .ok (.bipush 119, 2) := dc_16 (a0 := 119) aX12_letters_305 (by decide)
theorem dX12_letters_307 : decode cX12_letters 307 = .ok (.bipush 105, 2) := dc_16 (a0 := 105) aX12_letters_307 (by decide)
theorem dX12_letters_309 : decode cX12_letters 309 = .ok (.bipush 110, 2) := dc_16 (a0 := 110) aX12_letters_309 (by decide)
theorem dX12_letters_311 : decode cX12_letters 311 = .ok (.bipush 103, 2) := dc_16 (a0 := 103) aX12_letters_311 (by decide)
theorem dX12_letters_313 : decode cX12_letters 313 = .ok (.iconst 0, 1) := dc_3 aX12_letters_313
theorem dX12_letters_314 : decode cX12_letters 314 = .ok (.iconst 0, 1) := dc_3 aX12_letters_314
theorem dX12_letters_315 : decode cX12_letters 315 = .ok (.invokestatic 172, 3) := dc_184 (a0 := 0) (b0 := 172) aX12_letters_315
theorem dX12_letters_318 : decode cX12_letters 318 = .ok (.lreturn, 1) := dc_173 aX12_letters_318
theorem dX12_letters_319 : decode cX12_letters 319 = .ok (.bipush 105, 2) := dc_16 (a0 := 105) aX12_letters_319 (by decide)
theorem dX12_letters_321 : decode cX12_letters 321 = .ok (.bipush 110, 2) := dc_16 (a0 := 110) aX12_letters_321 (by decide)
theorem dX12_letters_323 : decode cX12_letters 323 = .ok (.iconst 0, 1) := dc_3 aX12_letters_323
theorem dX12_letters_324 : decode cX12_letters 324 = .ok (.iconst 0, 1) := dc_3 aX12_letters_324
theorem dX12_letters_325 : decode cX12_letters 325 = .ok (.iconst 0, 1) := dc_3 aX12_letters_325
theorem dX12_letters_326 : decode cX12_letters 326 = .ok (.iconst 0, 1) := dc_3 aX12_letters_326
theorem dX12_letters_327 : decode cX12_letters 327 = .ok (.iconst 0, 1) := dc_3 aX12_letters_327
theorem dX12_letters_328 : decode cX12_letters 328 = .ok (.invokestatic 172, 3) := dc_184 (a0 := 0) (b0 := 172) aX12_letters_328
theorem dX12_letters_331 : decode cX12_letters 331 = .ok (.lreturn, 1) := dc_173 aX12_letters_331
theorem dX12_letters_332 : decode cX12_letters 332 = .ok (.bipush 99, 2) := dc_16 (a0 := 99) aX12_letters_332 (by decide)
theorem dX12_letters_334 : decode cX12_letters 334 = .ok (.bipush 108, 2) := dc_16 (a0 := 108) aX12_letters_334 (by decide)
theorem dX12_letters_336 : decode cX12_letters 336 = .ok (.bipush 105, 2) := dc_16 (a0 := 105) aX12_letters_336 (by decide)
theorem dX12_letters_338 : decode cX12_letters 338 = .ok (.bipush 109, 2) := dc_16 (a0 := 109) aX12_letters_338 (by decide)
theorem dX12_letters_340 : decode cX12_letters 340 = .ok (.bipush 97, 2) := dc_16 (a0 := 97) aX12_letters_340 (by decide)
theorem dX12_letters_342 : decode cX12_letters 342 = .ok (.bipush 116, 2) := dc_16 (a0 := 116) aX12_letters_342 (by decide)
theorem dX12_letters_344 : decode cX12_letters 344 = .ok (.bipush 101, 2) := dc_16 (a0 := 101) aX12_letters_344 (by decide)
theorem dX12_letters_346 : decode cX12_letters 346 = .ok (.invokestatic 172, 3) := dc_184 (a0 := 0) (b0 := 172) aX12_letters_346
theorem dX12_letters_349 : decode cX12_letters 349 = .ok (.lreturn, 1) := dc_173 aX12_letters_349
theorem dX12_letters_350 : decode cX12_letters 350 = .ok (.bipush 104, 2) := dc_16 (a0 := 104) aX12_letters_350 (by decide)
theorem dX12_letters_352 : decode cX12_letters 352 = .ok (.bipush 97, 2) := dc_16 (a0 := 97) aX12_letters_352 (by decide)
theorem dX12_letters_354 : decode cX12_letters 354 = .ok (.bipush 110, 2) := dc_16 (a0 := 110) aX12_letters_354 (by decide)
theorem dX12_letters_356 : decode cX12_letters 356 = .ok (.bipush 100, 2) := dc_16 (a0 := 100) aX12_letters_356 (by decide)
theorem dX12_letters_358 : decode cX12_letters 358 = .ok (.iconst 0, 1) := dc_3 aX12_letters_358
theorem dX12_letters_359 : decode cX12_letters 359 = .ok (.iconst 0, 1) := dc_3 aX12_letters_359
theorem dX12_letters_360 : decode cX12_letters 360 = .ok (.iconst 0, 1) := dc_3 aX12_letters_360
theorem dX12_letters_361 : decode cX12_letters 361 = .ok (.invokestatic 172, 3) := dc_184 (a0 := 0) (b0 := 172) aX12_letters_361
theorem dX12_letters_364 : decode cX12_letters 364 = .ok (.lreturn, 1) := dc_173 aX12_letters_364
theorem dX12_letters_365 : decode cX12_letters 365 = .ok (.bipush 102, 2) := dc_16 (a0 := 102) aX12_letters_365 (by decide)
theorem dX12_letters_367 : decode cX12_letters 367 = .ok (.bipush 111, 2) := dc_16 (a0 := 111) aX12_letters_367 (by decide)
theorem dX12_letters_369 : decode cX12_letters 369 = .ok (.bipush 114, 2) := dc_16 (a0 := 114) aX12_letters_369 (by decide)
theorem dX12_letters_371 : decode cX12_letters 371 = .ok (.iconst 0, 1) := dc_3 aX12_letters_371
theorem dX12_letters_372 : decode cX12_letters 372 = .ok (.iconst 0, 1) := dc_3 aX12_letters_372
theorem dX12_letters_373 : decode cX12_letters 373 = .ok (.iconst 0, 1) := dc_3 aX12_letters_373
theorem dX12_letters_374 : decode cX12_letters 374 = .ok (.iconst 0, 1) := dc_3 aX12_letters_374
theorem dX12_letters_375 : decode cX12_letters 375 = .ok (.invokestatic 172, 3) := dc_184 (a0 := 0) (b0 := 172) aX12_letters_375
theorem dX12_letters_378 : decode cX12_letters 378 = .ok (.lreturn, 1) := dc_173 aX12_letters_378
set_option maxRecDepth 20000 in
theorem ggX12_knownWord_X12_letters : GoodIn wsX12_knownWord wsX12_letters := goodIn_k _ [[7, 0, 0], [6, 3]] (by rfl) (by decide +kernel)
set_option maxRecDepth 20000 in
theorem gX12_knownWord_X12_letters : GoodIn wsX12_knownWord (va_wsS RX12 176 yX12_letters wsX12_letters) := goodIn_app (goodIn_of _ (by decide +kernel)) ggX12_knownWord_X12_letters
noncomputable def sX12_knownWord_48 : List Nat := 172 :: []
noncomputable def sX12_knownWord_47 : List Nat := 2 :: sX12_knownWord_48
noncomputable def sX12_knownWord_44 : List Nat := 167 :: 255 :: 233 :: sX12_knownWord_47
noncomputable def sX12_knownWord_41 : List Nat := 132 :: 1 :: 1 :: sX12_knownWord_44
noncomputable def sX12_knownWord_40 : List Nat := 172 :: sX12_knownWord_41
noncomputable def sX12_knownWord_39 : List Nat := 27 :: sX12_knownWord_40
noncomputable def sX12_knownWord_36 : List Nat := 154 :: 0 :: 5 :: sX12_knownWord_39
noncomputable def sX12_knownWord_35 : List Nat := 148 :: sX12_knownWord_36
noncomputable def sX12_knownWord_32 : List Nat := 180 :: 0 :: 152 :: sX12_knownWord_35
noncomputable def sX12_knownWord_31 : List Nat := 42 :: sX12_knownWord_32
noncomputable def sX12_knownWord_28 : List Nat := 184 :: 0 :: 176 :: sX12_knownWord_31
noncomputable def sX12_knownWord_27 : List Nat := 27 :: sX12_knownWord_28
noncomputable def sX12_knownWord_24 : List Nat := 162 :: 0 :: 23 :: sX12_knownWord_27
noncomputable def sX12_knownWord_22 : List Nat := 16 :: 19 :: sX12_knownWord_24
noncomputable def sX12_knownWord_21 : List Nat := 27 :: sX12_knownWord_22
noncomputable def sX12_knownWord_20 : List Nat := 60 :: sX12_knownWord_21
noncomputable def sX12_knownWord_19 : List Nat := 3 :: sX12_knownWord_20
noncomputable def sX12_knownWord_18 : List Nat := 172 :: sX12_knownWord_19
noncomputable def sX12_knownWord_17 : List Nat := 2 :: sX12_knownWord_18
noncomputable def sX12_knownWord_14 : List Nat := 164 :: 0 :: 5 :: sX12_knownWord_17
noncomputable def sX12_knownWord_12 : List Nat := 16 :: 7 :: sX12_knownWord_14
noncomputable def sX12_knownWord_9 : List Nat := 180 :: 0 :: 169 :: sX12_knownWord_12
noncomputable def sX12_knownWord_8 : List Nat := 42 :: sX12_knownWord_9
noncomputable def sX12_knownWord_5 : List Nat := 160 :: 0 :: 12 :: sX12_knownWord_8
noncomputable def sX12_knownWord_4 : List Nat := 4 :: sX12_knownWord_5
noncomputable def sX12_knownWord_1 : List Nat := 180 :: 0 :: 159 :: sX12_knownWord_4
noncomputable def sX12_knownWord_0 : List Nat := 42 :: sX12_knownWord_1
theorem aX12_knownWord_0 : dc_at cX12_knownWord 0 sX12_knownWord_0 := dc_base (by decide +kernel)
theorem aX12_knownWord_1 : dc_at cX12_knownWord 1 sX12_knownWord_1 := dc_n1 aX12_knownWord_0
theorem aX12_knownWord_4 : dc_at cX12_knownWord 4 sX12_knownWord_4 := dc_n3 aX12_knownWord_1
theorem aX12_knownWord_5 : dc_at cX12_knownWord 5 sX12_knownWord_5 := dc_n1 aX12_knownWord_4
theorem aX12_knownWord_8 : dc_at cX12_knownWord 8 sX12_knownWord_8 := dc_n3 aX12_knownWord_5
theorem aX12_knownWord_9 : dc_at cX12_knownWord 9 sX12_knownWord_9 := dc_n1 aX12_knownWord_8
theorem aX12_knownWord_12 : dc_at cX12_knownWord 12 sX12_knownWord_12 := dc_n3 aX12_knownWord_9
theorem aX12_knownWord_14 : dc_at cX12_knownWord 14 sX12_knownWord_14 := dc_n2 aX12_knownWord_12
theorem aX12_knownWord_17 : dc_at cX12_knownWord 17 sX12_knownWord_17 := dc_n3 aX12_knownWord_14
theorem aX12_knownWord_18 : dc_at cX12_knownWord 18 sX12_knownWord_18 := dc_n1 aX12_knownWord_17
theorem aX12_knownWord_19 : dc_at cX12_knownWord 19 sX12_knownWord_19 := dc_n1 aX12_knownWord_18
theorem aX12_knownWord_20 : dc_at cX12_knownWord 20 sX12_knownWord_20 := dc_n1 aX12_knownWord_19
theorem aX12_knownWord_21 : dc_at cX12_knownWord 21 sX12_knownWord_21 := dc_n1 aX12_knownWord_20
theorem aX12_knownWord_22 : dc_at cX12_knownWord 22 sX12_knownWord_22 := dc_n1 aX12_knownWord_21
theorem aX12_knownWord_24 : dc_at cX12_knownWord 24 sX12_knownWord_24 := dc_n2 aX12_knownWord_22
theorem aX12_knownWord_27 : dc_at cX12_knownWord 27 sX12_knownWord_27 := dc_n3 aX12_knownWord_24
theorem aX12_knownWord_28 : dc_at cX12_knownWord 28 sX12_knownWord_28 := dc_n1 aX12_knownWord_27
theorem aX12_knownWord_31 : dc_at cX12_knownWord 31 sX12_knownWord_31 := dc_n3 aX12_knownWord_28
theorem aX12_knownWord_32 : dc_at cX12_knownWord 32 sX12_knownWord_32 := dc_n1 aX12_knownWord_31
theorem aX12_knownWord_35 : dc_at cX12_knownWord 35 sX12_knownWord_35 := dc_n3 aX12_knownWord_32
theorem aX12_knownWord_36 : dc_at cX12_knownWord 36 sX12_knownWord_36 := dc_n1 aX12_knownWord_35
theorem aX12_knownWord_39 : dc_at cX12_knownWord 39 sX12_knownWord_39 := dc_n3 aX12_knownWord_36
theorem aX12_knownWord_40 : dc_at cX12_knownWord 40 sX12_knownWord_40 := dc_n1 aX12_knownWord_39
theorem aX12_knownWord_41 : dc_at cX12_knownWord 41 sX12_knownWord_41 := dc_n1 aX12_knownWord_40
theorem aX12_knownWord_44 : dc_at cX12_knownWord 44 sX12_knownWord_44 := dc_n3 aX12_knownWord_41
theorem aX12_knownWord_47 : dc_at cX12_knownWord 47 sX12_knownWord_47 := dc_n3 aX12_knownWord_44
theorem aX12_knownWord_48 : dc_at cX12_knownWord 48 sX12_knownWord_48 := dc_n1 aX12_knownWord_47
theorem dX12_knownWord_0 : decode cX12_knownWord 0 = .ok (.aload_n 0, 1) := dc_42 aX12_knownWord_0
theorem dX12_knownWord_1 : decode cX12_knownWord 1 = .ok (.getfield 159, 3) := dc_180 (a0 := 0) (b0 := 159) aX12_knownWord_1
theorem dX12_knownWord_4 : decode cX12_knownWord 4 = .ok (.iconst 1, 1) := dc_4 aX12_knownWord_4
theorem dX12_knownWord_5 : decode cX12_knownWord 5 = .ok (.if_icmp .ne 12, 3) := dc_160 (a0 := 0) (b0 := 12) aX12_knownWord_5 (by decide)
theorem dX12_knownWord_8 : decode cX12_knownWord 8 = .ok (.aload_n 0, 1) := dc_42 aX12_knownWord_8
theorem dX12_knownWord_9 : decode cX12_knownWord 9 = .ok (.getfield 169, 3) := dc_180 (a0 := 0) (b0 := 169) aX12_knownWord_9
theorem dX12_knownWord_12 : decode cX12_knownWord 12 = .ok (.bipush 7, 2) := dc_16 (a0 := 7) aX12_knownWord_12 (by decide)
theorem dX12_knownWord_14 : decode cX12_knownWord 14 = .ok (.if_icmp .le 5, 3) := dc_164 (a0 := 0) (b0 := 5) aX12_knownWord_14 (by decide)
theorem dX12_knownWord_17 : decode cX12_knownWord 17 = .ok (.iconst (-1), 1) := dc_2 aX12_knownWord_17
theorem dX12_knownWord_18 : decode cX12_knownWord 18 = .ok (.ireturn, 1) := dc_172 aX12_knownWord_18
theorem dX12_knownWord_19 : decode cX12_knownWord 19 = .ok (.iconst 0, 1) := dc_3 aX12_knownWord_19
theorem dX12_knownWord_20 : decode cX12_knownWord 20 = .ok (.istore_n 1, 1) := dc_60 aX12_knownWord_20
theorem dX12_knownWord_21 : decode cX12_knownWord 21 = .ok (.iload_n 1, 1) := dc_27 aX12_knownWord_21
theorem dX12_knownWord_22 : decode cX12_knownWord 22 = .ok (.bipush 19, 2) := dc_16 (a0 := 19) aX12_knownWord_22 (by decide)
theorem dX12_knownWord_24 : decode cX12_knownWord 24 = .ok (.if_icmp .ge 23, 3) := dc_162 (a0 := 0) (b0 := 23) aX12_knownWord_24 (by decide)
theorem dX12_knownWord_27 : decode cX12_knownWord 27 = .ok (.iload_n 1, 1) := dc_27 aX12_knownWord_27
theorem dX12_knownWord_28 : decode cX12_knownWord 28 = .ok (.invokestatic 176, 3) := dc_184 (a0 := 0) (b0 := 176) aX12_knownWord_28
theorem dX12_knownWord_31 : decode cX12_knownWord 31 = .ok (.aload_n 0, 1) := dc_42 aX12_knownWord_31
theorem dX12_knownWord_32 : decode cX12_knownWord 32 = .ok (.getfield 152, 3) := dc_180 (a0 := 0) (b0 := 152) aX12_knownWord_32
theorem dX12_knownWord_35 : decode cX12_knownWord 35 = .ok (.lcmp, 1) := dc_148 aX12_knownWord_35
theorem dX12_knownWord_36 : decode cX12_knownWord 36 = .ok (.ifCond .ne 5, 3) := dc_154 (a0 := 0) (b0 := 5) aX12_knownWord_36 (by decide)
theorem dX12_knownWord_39 : decode cX12_knownWord 39 = .ok (.iload_n 1, 1) := dc_27 aX12_knownWord_39
theorem dX12_knownWord_40 : decode cX12_knownWord 40 = .ok (.ireturn, 1) := dc_172 aX12_knownWord_40
theorem dX12_knownWord_41 : decode cX12_knownWord 41 = .ok (.iinc 1 1, 3) := dc_132 (a0 := 1) (a1 := 1) aX12_knownWord_41 (by decide)
theorem dX12_knownWord_44 : decode cX12_knownWord 44 = .ok (.goto (-23), 3) := dc_167 (a0 := 255) (b0 := 233) aX12_knownWord_44 (by decide)
theorem dX12_knownWord_47 : decode cX12_knownWord 47 = .ok (.iconst (-1), 1) := dc_2 aX12_knownWord_47
theorem dX12_knownWord_48 : decode cX12_knownWord 48 = .ok (.ireturn, 1) := dc_172 aX12_knownWord_48
noncomputable def sX12_wrong_21 : List Nat := 177 :: []
noncomputable def sX12_wrong_18 : List Nat := 181 :: 0 :: 37 :: sX12_wrong_21
noncomputable def sX12_wrong_15 : List Nat := 180 :: 0 :: 149 :: sX12_wrong_18
noncomputable def sX12_wrong_14 : List Nat := 42 :: sX12_wrong_15
noncomputable def sX12_wrong_13 : List Nat := 42 :: sX12_wrong_14
noncomputable def sX12_wrong_10 : List Nat := 181 :: 0 :: 180 :: sX12_wrong_13
noncomputable def sX12_wrong_9 : List Nat := 27 :: sX12_wrong_10
noncomputable def sX12_wrong_8 : List Nat := 42 :: sX12_wrong_9
noncomputable def sX12_wrong_7 : List Nat := 177 :: sX12_wrong_8
noncomputable def sX12_wrong_4 : List Nat := 153 :: 0 :: 4 :: sX12_wrong_7
noncomputable def sX12_wrong_1 : List Nat := 180 :: 0 :: 180 :: sX12_wrong_4
noncomputable def sX12_wrong_0 : List Nat := 42 :: sX12_wrong_1
theorem aX12_wrong_0 : dc_at cX12_wrong 0 sX12_wrong_0 := dc_base (by decide +kernel)
theorem aX12_wrong_1 : dc_at cX12_wrong 1 sX12_wrong_1 := dc_n1 aX12_wrong_0
theorem aX12_wrong_4 : dc_at cX12_wrong 4 sX12_wrong_4 := dc_n3 aX12_wrong_1
theorem aX12_wrong_7 : dc_at cX12_wrong 7 sX12_wrong_7 := dc_n3 aX12_wrong_4
theorem aX12_wrong_8 : dc_at cX12_wrong 8 sX12_wrong_8 := dc_n1 aX12_wrong_7
theorem aX12_wrong_9 : dc_at cX12_wrong 9 sX12_wrong_9 := dc_n1 aX12_wrong_8
theorem aX12_wrong_10 : dc_at cX12_wrong 10 sX12_wrong_10 := dc_n1 aX12_wrong_9
theorem aX12_wrong_13 : dc_at cX12_wrong 13 sX12_wrong_13 := dc_n3 aX12_wrong_10
theorem aX12_wrong_14 : dc_at cX12_wrong 14 sX12_wrong_14 := dc_n1 aX12_wrong_13
theorem aX12_wrong_15 : dc_at cX12_wrong 15 sX12_wrong_15 := dc_n1 aX12_wrong_14
theorem aX12_wrong_18 : dc_at cX12_wrong 18 sX12_wrong_18 := dc_n3 aX12_wrong_15
theorem aX12_wrong_21 : dc_at cX12_wrong 21 sX12_wrong_21 := dc_n3 aX12_wrong_18
theorem dX12_wrong_0 : decode cX12_wrong 0 = .ok (.aload_n 0, 1) := dc_42 aX12_wrong_0
theorem dX12_wrong_1 : decode cX12_wrong 1 = .ok (.getfield 180, 3) := dc_180 (a0 := 0) (b0 := 180) aX12_wrong_1
theorem dX12_wrong_4 : decode cX12_wrong 4 = .ok (.ifCond .eq 4, 3) := dc_153 (a0 := 0) (b0 := 4) aX12_wrong_4 (by decide)
theorem dX12_wrong_7 : decode cX12_wrong 7 = .ok (.return_, 1) := dc_177 aX12_wrong_7
theorem dX12_wrong_8 : decode cX12_wrong 8 = .ok (.aload_n 0, 1) := dc_42 aX12_wrong_8
theorem dX12_wrong_9 : decode cX12_wrong 9 = .ok (.iload_n 1, 1) := dc_27 aX12_wrong_9
theorem dX12_wrong_10 : decode cX12_wrong 10 = .ok (.putfield 180, 3) := dc_181 (a0 := 0) (b0 := 180) aX12_wrong_10
theorem dX12_wrong_13 : decode cX12_wrong 13 = .ok (.aload_n 0, 1) := dc_42 aX12_wrong_13
theorem dX12_wrong_14 : decode cX12_wrong 14 = .ok (.aload_n 0, 1) := dc_42 aX12_wrong_14
theorem dX12_wrong_15 : decode cX12_wrong 15 = .ok (.getfield 149, 3) := dc_180 (a0 := 0) (b0 := 149) aX12_wrong_15
theorem dX12_wrong_18 : decode cX12_wrong 18 = .ok (.putfield 37, 3) := dc_181 (a0 := 0) (b0 := 37) aX12_wrong_18
theorem dX12_wrong_21 : decode cX12_wrong 21 = .ok (.return_, 1) := dc_177 aX12_wrong_21
noncomputable def sX12_isGood_12 : List Nat := 172 :: []
noncomputable def sX12_isGood_11 : List Nat := 3 :: sX12_isGood_12
noncomputable def sX12_isGood_8 : List Nat := 167 :: 0 :: 4 :: sX12_isGood_11
noncomputable def sX12_isGood_7 : List Nat := 4 :: sX12_isGood_8
noncomputable def sX12_isGood_4 : List Nat := 154 :: 0 :: 7 :: sX12_isGood_7
noncomputable def sX12_isGood_1 : List Nat := 180 :: 0 :: 180 :: sX12_isGood_4
noncomputable def sX12_isGood_0 : List Nat := 42 :: sX12_isGood_1
theorem aX12_isGood_0 : dc_at cX12_isGood 0 sX12_isGood_0 := dc_base (by decide +kernel)
theorem aX12_isGood_1 : dc_at cX12_isGood 1 sX12_isGood_1 := dc_n1 aX12_isGood_0
theorem aX12_isGood_4 : dc_at cX12_isGood 4 sX12_isGood_4 := dc_n3 aX12_isGood_1
theorem aX12_isGood_7 : dc_at cX12_isGood 7 sX12_isGood_7 := dc_n3 aX12_isGood_4
theorem aX12_isGood_8 : dc_at cX12_isGood 8 sX12_isGood_8 := dc_n1 aX12_isGood_7
theorem aX12_isGood_11 : dc_at cX12_isGood 11 sX12_isGood_11 := dc_n3 aX12_isGood_8
theorem aX12_isGood_12 : dc_at cX12_isGood 12 sX12_isGood_12 := dc_n1 aX12_isGood_11
theorem dX12_isGood_0 : decode cX12_isGood 0 = .ok (.aload_n 0, 1) := dc_42 aX12_isGood_0
theorem dX12_isGood_1 : decode cX12_isGood 1 = .ok (.getfield 180, 3) := dc_180 (a0 := 0) (b0 := 180) aX12_isGood_1
theorem dX12_isGood_4 : decode cX12_isGood 4 = .ok (.ifCond .ne 7, 3) := dc_154 (a0 := 0) (b0 := 7) aX12_isGood_4 (by decide)
theorem dX12_isGood_7 : decode cX12_isGood 7 = .ok (.iconst 1, 1) := dc_4 aX12_isGood_7
theorem dX12_isGood_8 : decode cX12_isGood 8 = .ok (.goto 4, 3) := dc_167 (a0 := 0) (b0 := 4) aX12_isGood_8 (by decide)
theorem dX12_isGood_11 : decode cX12_isGood 11 = .ok (.iconst 0, 1) := dc_3 aX12_isGood_11
theorem dX12_isGood_12 : decode cX12_isGood 12 = .ok (.ireturn, 1) := dc_172 aX12_isGood_12
set_option maxRecDepth 20000 in
theorem ggX12_need_X12_isGood : GoodIn wsX12_need wsX12_isGood := goodIn_k _ [[5, 0, 27, 0, 0, 0, 0, 0, 0, 0, 0, 0, 0, 0, 0, 0, 0, 0, 0, 0, 0, 0, 0, 0, 0, 0, 0, 0, 0, 0, 0, 0, 0, 0, 0, 0, 0, 0, 0, 0, 0, 0, 0, 0, 0, 0, 0, 0, 0, 0, 0, 0, 0, 0, 0, 0, 0, 0, 0, 0]] (by rfl) (by decide +kernel)
set_option maxRecDepth 20000 in
theorem gX12_need_X12_isGood : GoodIn wsX12_need (wsV RX12 183 RX12 yX12_isGood wsX12_isGood) := goodIn_app (goodIn_of _ (by decide +kernel)) ggX12_need_X12_isGood
set_option maxRecDepth 20000 in
theorem ggX12_need_X12_steps : GoodIn wsX12_need wsX12_steps := goodIn_k _ [[10, 0, 0, 0, 0, 0, 0, 0, 0, 0, 0], [4, 16, 0, 0, 0, 0, 0, 0, 0, 5, 0, 0, 0, 0, 0, 0, 0, 0, 0, 0, 0, 0, 0, 0, 0, 0, 0, 0, 0, 0, 0, 0, 0, 0, 0, 0, 0, 0, 0, 0, 0, 0, 0, 0, 0, 0, 0, 0, 0, 0, 0, 0, 0, 0, 0, 0, 0, 0, 0, 0, 0, 0, 0, 0, 0, 0, 0]] (by rfl) (by decide +kernel)
set_option maxRecDepth 20000 in
theorem gX12_need_X12_steps : GoodIn wsX12_need (wsV RX12 187 RX12 yX12_steps wsX12_steps) := goodIn_app (goodIn_of _ (by decide +kernel)) ggX12_need_X12_steps
set_option maxRecDepth 20000 in
theorem ggX12_need_X12_wrong : GoodIn wsX12_need wsX12_wrong := goodIn_k _ [[32], [6, 6, 19, 0, 0, 0, 0, 0, 0, 0, 0, 0, 0, 0, 0, 0, 0, 0, 0, 0, 0, 0, 0, 0, 0, 0, 0, 0, 0, 0, 0, 0, 0, 0, 0, 0, 0, 0, 0, 0, 0, 0, 0, 0, 0, 0, 0, 0, 0, 0, 0, 0, 0, 0, 0, 0, 0, 0, 0, 0, 0]] (by rfl) (by decide +kernel)
set_option maxRecDepth 20000 in
theorem gX12_need_X12_wrong : GoodIn wsX12_need (wsV RX12 190 RX12 yX12_wrong wsX12_wrong) := goodIn_app (goodIn_of _ (by decide +kernel)) ggX12_need_X12_wrong
noncomputable def sX12_need_24 : List Nat := 177 :: []
noncomputable def sX12_need_21 : List Nat := 182 :: 0 :: 190 :: sX12_need_24
noncomputable def sX12_need_20 : List Nat := 4 :: sX12_need_21
noncomputable def sX12_need_19 : List Nat := 42 :: sX12_need_20
noncomputable def sX12_need_16 : List Nat := 167 :: 0 :: 8 :: sX12_need_19
noncomputable def sX12_need_13 : List Nat := 182 :: 0 :: 187 :: sX12_need_16
noncomputable def sX12_need_12 : List Nat := 42 :: sX12_need_13
noncomputable def sX12_need_9 : List Nat := 153 :: 0 :: 10 :: sX12_need_12
noncomputable def sX12_need_8 : List Nat := 27 :: sX12_need_9
noncomputable def sX12_need_7 : List Nat := 177 :: sX12_need_8
noncomputable def sX12_need_4 : List Nat := 154 :: 0 :: 4 :: sX12_need_7
noncomputable def sX12_need_1 : List Nat := 182 :: 0 :: 183 :: sX12_need_4
noncomputable def sX12_need_0 : List Nat := 42 :: sX12_need_1
theorem aX12_need_0 : dc_at cX12_need 0 sX12_need_0 := dc_base (by decide +kernel)
theorem aX12_need_1 : dc_at cX12_need 1 sX12_need_1 := dc_n1 aX12_need_0
theorem aX12_need_4 : dc_at cX12_need 4 sX12_need_4 := dc_n3 aX12_need_1
theorem aX12_need_7 : dc_at cX12_need 7 sX12_need_7 := dc_n3 aX12_need_4
theorem aX12_need_8 : dc_at cX12_need 8 sX12_need_8 := dc_n1 aX12_need_7
theorem aX12_need_9 : dc_at cX12_need 9 sX12_need_9 := dc_n1 aX12_need_8
theorem aX12_need_12 : dc_at cX12_need 12 sX12_need_12 := dc_n3 aX12_need_9
theorem aX12_need_13 : dc_at cX12_need 13 sX12_need_13 := dc_n1 aX12_need_12
theorem aX12_need_16 : dc_at cX12_need 16 sX12_need_16 := dc_n3 aX12_need_13
theorem aX12_need_19 : dc_at cX12_need 19 sX12_need_19 := dc_n3 aX12_need_16
theorem aX12_need_20 : dc_at cX12_need 20 sX12_need_20 := dc_n1 aX12_need_19
theorem aX12_need_21 : dc_at cX12_need 21 sX12_need_21 := dc_n1 aX12_need_20
theorem aX12_need_24 : dc_at cX12_need 24 sX12_need_24 := dc_n3 aX12_need_21
theorem dX12_need_0 : decode cX12_need 0 = .ok (.aload_n 0, 1) := dc_42 aX12_need_0
theorem dX12_need_1 : decode cX12_need 1 = .ok (.invokevirtual 183, 3) := dc_182 (a0 := 0) (b0 := 183) aX12_need_1
theorem dX12_need_4 : decode cX12_need 4 = .ok (.ifCond .ne 4, 3) := dc_154 (a0 := 0) (b0 := 4) aX12_need_4 (by decide)
theorem dX12_need_7 : decode cX12_need 7 = .ok (.return_, 1) := dc_177 aX12_need_7
theorem dX12_need_8 : decode cX12_need 8 = .ok (.iload_n 1, 1) := dc_27 aX12_need_8
theorem dX12_need_9 : decode cX12_need 9 = .ok (.ifCond .eq 10, 3) := dc_153 (a0 := 0) (b0 := 10) aX12_need_9 (by decide)
theorem dX12_need_12 : decode cX12_need 12 = .ok (.aload_n 0, 1) := dc_42 aX12_need_12
theorem dX12_need_13 : decode cX12_need 13 = .ok (.invokevirtual 187, 3) := dc_182 (a0 := 0) (b0 := 187) aX12_need_13
theorem dX12_need_16 : decode cX12_need 16 = .ok (.goto 8, 3) := dc_167 (a0 := 0) (b0 := 8) aX12_need_16 (by decide)
theorem dX12_need_19 : decode cX12_need 19 = .ok (.aload_n 0, 1) := dc_42 aX12_need_19
theorem dX12_need_20 : decode cX12_need 20 = .ok (.iconst 1, 1) := dc_4 aX12_need_20
theorem dX12_need_21 : decode cX12_need 21 = .ok (.invokevirtual 190, 3) := dc_182 (a0 := 0) (b0 := 190) aX12_need_21
theorem dX12_need_24 : decode cX12_need 24 = .ok (.return_, 1) := dc_177 aX12_need_24
set_option maxRecDepth 20000 in
theorem ggX12_number_X12_isGood : GoodIn wsX12_number wsX12_isGood := goodIn_k _ [[8, 0, 24, 0, 0, 0, 0, 0, 0, 0, 0, 0, 0, 0, 0, 0, 0, 0, 0, 0, 0, 0, 0, 0, 0, 0, 0, 0, 0, 0, 0, 0, 0, 0, 0, 0, 0, 0, 0, 0, 0, 0, 0, 0, 0, 0, 0, 0, 0, 0, 0, 0, 0, 0, 0, 0, 0, 0, 0, 0]] (by rfl) (by decide +kernel)
set_option maxRecDepth 20000 in
theorem gX12_number_X12_isGood : GoodIn wsX12_number (wsV RX12 183 RX12 yX12_isGood wsX12_isGood) := goodIn_app (goodIn_of _ (by decide +kernel)) ggX12_number_X12_isGood
set_option maxRecDepth 20000 in
theorem ggX12_number_X12_wrong : GoodIn wsX12_number wsX12_wrong := goodIn_k _ [[13], [9, 4, 0, 18, 0, 0, 0, 0, 0, 0, 0, 0, 0, 0, 0, 0, 0, 0, 0, 0, 0, 0, 0, 0, 0, 0, 0, 0, 0, 0, 0, 0, 0, 0, 0, 0, 0, 0, 0, 0, 0, 0, 0, 0, 0, 0, 0, 0, 0, 0, 0, 0, 0, 0, 0, 0, 0, 0, 0, 0, 0]] (by rfl) (by decide +kernel)
set_option maxRecDepth 20000 in
theorem gX12_number_X12_wrong : GoodIn wsX12_number (wsV RX12 190 RX12 yX12_wrong wsX12_wrong) := goodIn_app (goodIn_of _ (by decide +kernel)) ggX12_number_X12_wrong
set_option maxRecDepth 20000 in
theorem ggX12_number_X12_steps : GoodIn wsX12_number wsX12_steps := goodIn_k _ [[19, 0, 0], [14, 7], [3], [1, 0, 20, 0, 0], [7, 18, 0, 0, 0, 0, 0, 0, 0, 0, 0, 0, 0, 0, 0, 0, 0, 0, 0, 0, 0, 0, 0, 0, 0, 0, 0, 0, 0, 0, 0, 0, 0, 0, 0, 0, 0, 0, 0, 0, 0, 0, 0, 0, 0, 0, 0, 0, 0, 0, 0, 0, 0, 0, 0, 0, 0, 0, 0, 0, 0, 0, 0, 0, 0, 0, 0]] (by rfl) (by decide +kernel)
set_option maxRecDepth 20000 in
theorem gX12_number_X12_steps : GoodIn wsX12_number (wsV RX12 187 RX12 yX12_steps wsX12_steps) := goodIn_app (goodIn_of _ (by decide +kernel)) ggX12_number_X12_steps
noncomputable def sX12_number_72 : List Nat := 172 :: []
noncomputable def sX12_number_71 : List Nat := 29 :: sX12_number_72
noncomputable def sX12_number_68 : List Nat := 182 :: 0 :: 187 :: sX12_number_71
noncomputable def sX12_number_67 : List Nat := 42 :: sX12_number_68
noncomputable def sX12_number_64 : List Nat := 153 :: 0 :: 7 :: sX12_number_67
noncomputable def sX12_number_61 : List Nat := 182 :: 0 :: 183 :: sX12_number_64
noncomputable def sX12_number_60 : List Nat := 42 :: sX12_number_61
noncomputable def sX12_number_59 : List Nat := 62 :: sX12_number_60
noncomputable def sX12_number_56 : List Nat := 180 :: 0 :: 156 :: sX12_number_59
noncomputable def sX12_number_55 : List Nat := 42 :: sX12_number_56
noncomputable def sX12_number_52 : List Nat := 182 :: 0 :: 190 :: sX12_number_55
noncomputable def sX12_number_51 : List Nat := 5 :: sX12_number_52
noncomputable def sX12_number_50 : List Nat := 42 :: sX12_number_51
noncomputable def sX12_number_47 : List Nat := 164 :: 0 :: 8 :: sX12_number_50
noncomputable def sX12_number_46 : List Nat := 28 :: sX12_number_47
noncomputable def sX12_number_43 : List Nat := 180 :: 0 :: 156 :: sX12_number_46
noncomputable def sX12_number_42 : List Nat := 42 :: sX12_number_43
noncomputable def sX12_number_39 : List Nat := 161 :: 0 :: 11 :: sX12_number_42
noncomputable def sX12_number_38 : List Nat := 27 :: sX12_number_39
noncomputable def sX12_number_35 : List Nat := 180 :: 0 :: 156 :: sX12_number_38
noncomputable def sX12_number_34 : List Nat := 42 :: sX12_number_35
noncomputable def sX12_number_31 : List Nat := 163 :: 0 :: 19 :: sX12_number_34
noncomputable def sX12_number_29 : List Nat := 16 :: 7 :: sX12_number_31
noncomputable def sX12_number_26 : List Nat := 180 :: 0 :: 169 :: sX12_number_29
noncomputable def sX12_number_25 : List Nat := 42 :: sX12_number_26
noncomputable def sX12_number_22 : List Nat := 167 :: 0 :: 33 :: sX12_number_25
noncomputable def sX12_number_19 : List Nat := 182 :: 0 :: 190 :: sX12_number_22
noncomputable def sX12_number_18 : List Nat := 4 :: sX12_number_19
noncomputable def sX12_number_17 : List Nat := 42 :: sX12_number_18
noncomputable def sX12_number_14 : List Nat := 159 :: 0 :: 11 :: sX12_number_17
noncomputable def sX12_number_13 : List Nat := 5 :: sX12_number_14
noncomputable def sX12_number_10 : List Nat := 180 :: 0 :: 159 :: sX12_number_13
noncomputable def sX12_number_9 : List Nat := 42 :: sX12_number_10
noncomputable def sX12_number_8 : List Nat := 172 :: sX12_number_9
noncomputable def sX12_number_7 : List Nat := 3 :: sX12_number_8
noncomputable def sX12_number_4 : List Nat := 154 :: 0 :: 5 :: sX12_number_7
noncomputable def sX12_number_1 : List Nat := 182 :: 0 :: 183 :: sX12_number_4
noncomputable def sX12_number_0 : List Nat := 42 :: sX12_number_1
theorem aX12_number_0 : dc_at cX12_number 0 sX12_number_0 := dc_base (by decide +kernel)
theorem aX12_number_1 : dc_at cX12_number 1 sX12_number_1 := dc_n1 aX12_number_0
theorem aX12_number_4 : dc_at cX12_number 4 sX12_number_4 := dc_n3 aX12_number_1
theorem aX12_number_7 : dc_at cX12_number 7 sX12_number_7 := dc_n3 aX12_number_4
theorem aX12_number_8 : dc_at cX12_number 8 sX12_number_8 := dc_n1 aX12_number_7
theorem aX12_number_9 : dc_at cX12_number 9 sX12_number_9 := dc_n1 aX12_number_8
theorem aX12_number_10 : dc_at cX12_number 10 sX12_number_10 := dc_n1 aX12_number_9
theorem aX12_number_13 : dc_at cX12_number 13 sX12_number_13 := dc_n3 aX12_number_10
theorem aX12_number_14 : dc_at cX12_number 14 sX12_number_14 := dc_n1 aX12_number_13
theorem aX12_number_17 : dc_at cX12_number 17 sX12_number_17 := dc_n3 aX12_number_14
theorem aX12_number_18 : dc_at cX12_number 18 sX12_number_18 := dc_n1 aX12_number_17
theorem aX12_number_19 : dc_at cX12_number 19 sX12_number_19 := dc_n1 aX12_number_18
theorem aX12_number_22 : dc_at cX12_number 22 sX12_number_22 := dc_n3 aX12_number_19
theorem aX12_number_25 : dc_at cX12_number 25 sX12_number_25 := dc_n3 aX12_number_22
theorem aX12_number_26 : dc_at cX12_number 26 sX12_number_26 := dc_n1 aX12_number_25
theorem aX12_number_29 : dc_at cX12_number 29 sX12_number_29 := dc_n3 aX12_number_26
theorem aX12_number_31 : dc_at cX12_number 31 sX12_number_31 := dc_n2 aX12_number_29
theorem aX12_number_34 : dc_at cX12_number 34 sX12_number_34 := dc_n3 aX12_number_31
theorem aX12_number_35 : dc_at cX12_number 35 sX12_number_35 := dc_n1 aX12_number_34
theorem aX12_number_38 : dc_at cX12_number 38 sX12_number_38 := dc_n3 aX12_number_35
theorem aX12_number_39 : dc_at cX12_number 39 sX12_number_39 := dc_n1 aX12_number_38
theorem aX12_number_42 : dc_at cX12_number 42 sX12_number_42 := dc_n3 aX12_number_39
theorem aX12_number_43 : dc_at cX12_number 43 sX12_number_43 := dc_n1 aX12_number_42
theorem aX12_number_46 : dc_at cX12_number 46 sX12_number_46 := dc_n3 aX12_number_43
theorem aX12_number_47 : dc_at cX12_number 47 sX12_number_47 := dc_n1 aX12_number_46
theorem aX12_number_50 : dc_at cX12_number 50 sX12_number_50 := dc_n3 aX12_number_47
theorem aX12_number_51 : dc_at cX12_number 51 sX12_number_51 := dc_n1 aX12_number_50
theorem aX12_number_52 : dc_at cX12_number 52 sX12_number_52 := dc_n1 aX12_number_51
theorem aX12_number_55 : dc_at cX12_number 55 sX12_number_55 := dc_n3 aX12_number_52
theorem aX12_number_56 : dc_at cX12_number 56 sX12_number_56 := dc_n1 aX12_number_55
theorem aX12_number_59 : dc_at cX12_number 59 sX12_number_59 := dc_n3 aX12_number_56
theorem aX12_number_60 : dc_at cX12_number 60 sX12_number_60 := dc_n1 aX12_number_59
theorem aX12_number_61 : dc_at cX12_number 61 sX12_number_61 := dc_n1 aX12_number_60
theorem aX12_number_64 : dc_at cX12_number 64 sX12_number_64 := dc_n3 aX12_number_61
theorem aX12_number_67 : dc_at cX12_number 67 sX12_number_67 := dc_n3 aX12_number_64
theorem aX12_number_68 : dc_at cX12_number 68 sX12_number_68 := dc_n1 aX12_number_67
theorem aX12_number_71 : dc_at cX12_number 71 sX12_number_71 := dc_n3 aX12_number_68
theorem aX12_number_72 : dc_at cX12_number 72 sX12_number_72 := dc_n1 aX12_number_71
theorem dX12_number_0 : decode cX12_number 0 = .ok (.aload_n 0, 1) := dc_42 aX12_number_0
theorem dX12_number_1 : decode cX12_number 1 = .ok (.invokevirtual 183, 3) := dc_182 (a0 := 0) (b0 := 183) aX12_number_1
theorem dX12_number_4 : decode cX12_number 4 = .ok (.ifCond .ne 5, 3) := dc_154 (a0 := 0) (b0 := 5) aX12_number_4 (by decide)
theorem dX12_number_7 : decode cX12_number 7 = .ok (.iconst 0, 1) := dc_3 aX12_number_7
theorem dX12_number_8 : decode cX12_number 8 = .ok (.ireturn, 1) := dc_172 aX12_number_8
theorem dX12_number_9 : decode cX12_number 9 = .ok (.aload_n 0, 1) := dc_42 aX12_number_9
theorem dX12_number_10 : decode cX12_number 10 = .ok (.getfield 159, 3) := dc_180 (a0 := 0) (b0 := 159) aX12_number_10
theorem dX12_number_13 : decode cX12_number 13 = .ok (.iconst 2, 1) := dc_5 aX12_number_13
theorem dX12_number_14 : decode cX12_number 14 = .ok (.if_icmp .eq 11, 3) := dc_159 (a0 := 0) (b0 := 11) aX12_number_14 (by decide)
theorem dX12_number_17 : decode cX12_number 17 = .ok (.aload_n 0, 1) := dc_42 aX12_number_17
theorem dX12_number_18 : decode cX12_number 18 = .ok (.iconst 1, 1) := dc_4 aX12_number_18
theorem dX12_number_19 : decode cX12_number 19 = .ok (.invokevirtual 190, 3) := dc_182 (a0 := 0) (b0 := 190) aX12_number_19
theorem dX12_number_22 : decode cX12_number 22 = .ok (.goto 33, 3) := dc_167 (a0 := 0) (b0 := 33) aX12_number_22 (by decide)
theorem dX12_number_25 : decode cX12_number 25 = .ok (.aload_n 0, 1) := dc_42 aX12_number_25
theorem dX12_number_26 : decode cX12_number 26 = .ok (.getfield 169, 3) := dc_180 (a0 := 0) (b0 := 169) aX12_number_26
theorem dX12_number_29 : decode cX12_number 29 = .ok (.bipush 7, 2) := dc_16 (a0 := 7) aX12_number_29 (by decide)
theorem dX12_number_31 : decode cX12_number 31 = .ok (.if_icmp .gt 19, 3) := dc_163 (a0 := 0) (b0 := 19) aX12_number_31 (by decide)
theorem dX12_number_34 : decode cX12_number 34 = .ok (.aload_n 0, 1) := dc_42 aX12_number_34
theorem dX12_number_35 : decode cX12_number 35 = .ok (.getfield 156, 3) := dc_180 (a0 := 0) (b0 := 156) aX12_number_35
theorem dX12_number_38 : decode cX12_number 38 = .ok (.iload_n 1, 1) := dc_27 aX12_number_38
theorem dX12_number_39 : decode cX12_number 39 = .ok (.if_icmp .lt 11, 3) := dc_161 (a0 := 0) (b0 := 11) aX12_number_39 (by decide)
theorem dX12_number_42 : decode cX12_number 42 = .ok (.aload_n 0, 1) := dc_42 aX12_number_42
theorem dX12_number_43 : decode cX12_number 43 = .ok (.getfield 156, 3) := dc_180 (a0 := 0) (b0 := 156) aX12_number_43
theorem dX12_number_46 : decode cX12_number 46 = .ok (.iload_n 2, 1) := dc_28 aX12_number_46
theorem dX12_number_47 : decode cX12_number 47 = .ok (.if_icmp .le 8, 3) := dc_164 (a0 := 0) (b0 := 8) aX12_number_47 (by decide)
theorem dX12_number_50 : decode cX12_number 50 = .ok (.aload_n 0, 1) := dc_42 aX12_number_50
theorem dX12_number_51 : decode cX12_number 51 = .ok (.iconst 2, 1) := dc_5 aX12_number_51
theorem dX12_number_52 : decode cX12_number 52 = .ok (.invokevirtual 190, 3) := dc_182 (a0 := 0) (b0 := 190) aX12_number_52
theorem dX12_number_55 : decode cX12_number 55 = .ok (.aload_n 0, 1) := dc_42 aX12_number_55
theorem dX12_number_56 : decode cX12_number 56 = .ok (.getfield 156, 3) := dc_180 (a0 := 0) (b0 := 156) aX12_number_56
theorem dX12_number_59 : decode cX12_number 59 = .ok (.istore_n 3, 1) := dc_62 aX12_number_59
theorem dX12_number_60 : decode cX12_number 60 = .ok (.aload_n 0, 1) := dc_42 aX12_number_60
theorem dX12_number_61 : decode cX12_number 61 = .ok (.invokevirtual 183, 3) := dc_182 (a0 := 0) (b0 := 183) aX12_number_61
theorem dX12_number_64 : decode cX12_number 64 = .ok (.ifCond .eq 7, 3) := dc_153 (a0 := 0) (b0 := 7) aX12_number_64 (by decide)
theorem dX12_number_67 : decode cX12_number 67 = .ok (.aload_n 0, 1) := dc_42 aX12_number_67
theorem dX12_number_68 : decode cX12_number 68 = .ok (.invokevirtual 187, 3) := dc_182 (a0 := 0) (b0 := 187) aX12_number_68
theorem dX12_number_71 : decode cX12_number 71 = .ok (.iload_n 3, 1) := dc_29 aX12_number_71
theorem dX12_number_72 : decode cX12_number 72 = .ok (.ireturn, 1) := dc_172 aX12_number_72
set_option maxRecDepth 20000 in
theorem ggX12_named_X12_knownWord : GoodIn wsX12_named wsX12_knownWord := goodIn_k _ [[5, 0, 0, 0, 0, 0], [4, 6, 0, 0, 0, 37, 0, 0, 0, 0, 0, 0, 0, 0, 0, 0, 0, 0, 0, 0, 0, 0, 0, 0, 0, 0, 0, 0, 0, 0, 0, 0, 0, 0, 0, 0, 0, 0, 0, 0, 0, 0, 0, 0, 0, 0, 0, 0, 0, 0, 0, 0, 0, 0, 0, 0, 0, 0, 0, 0, 0, 0, 0]] (by rfl) (by decide +kernel)
set_option maxRecDepth 20000 in
theorem gX12_named_X12_knownWord : GoodIn wsX12_named (wsV RX12 193 RX12 yX12_knownWord wsX12_knownWord) := goodIn_app (goodIn_of _ (by decide +kernel)) ggX12_named_X12_knownWord
set_option maxRecDepth 20000 in
theorem ggX12_named_X12_need : GoodIn wsX12_named wsX12_need := goodIn_k _ [[18, 0, 0, 0], [4, 17, 0, 0, 0, 0, 0, 0, 0, 0], [8, 22], [6, 0, 24, 0, 0, 0, 0, 0, 0, 0, 0, 0, 0, 0, 0, 0, 0, 0, 4, 0, 0, 0, 0, 0, 0, 0, 0, 0, 0, 0, 0, 0, 0, 0, 0, 0, 0, 0, 0, 0, 0, 0, 0, 0, 0, 0, 0, 0, 0, 0, 0, 0, 0, 0, 0, 0, 0, 0, 0, 0, 0, 0, 0, 0, 0, 0, 0, 0, 0, 0, 0, 0, 0, 0, 0, 0]] (by rfl) (by decide +kernel)
set_option maxRecDepth 20000 in
theorem gX12_named_X12_need : GoodIn wsX12_named (wsV RX12 197 RX12 yX12_need wsX12_need) := goodIn_app (goodIn_of _ (by decide +kernel)) ggX12_named_X12_need
set_option maxRecDepth 20000 in
theorem ggX12_named_X12_number : GoodIn wsX12_named wsX12_number := goodIn_k _ [[51], [6, 0, 23], [19, 0, 0], [4, 17, 0, 19, 0, 0, 0], [30, 16], [24, 0, 0, 0, 0, 0], [8, 23, 0, 0, 0, 0, 0, 0, 0, 0, 0, 0, 9, 0, 0, 0, 0, 0, 0, 0, 0, 0, 0, 0, 0, 0, 0, 0, 0, 0, 0, 0, 0, 0, 0, 0, 0, 0, 0, 0, 0, 0, 0, 0, 0, 0, 0, 0, 0, 0, 0, 0, 0, 0, 0, 0, 0, 0, 0, 0, 0, 0, 0, 0, 0, 0, 0, 0, 0, 0]] (by rfl) (by decide +kernel)
set_option maxRecDepth 20000 in
theorem gX12_named_X12_number : GoodIn wsX12_named (wsV RX12 201 RX12 yX12_number wsX12_number) := goodIn_app (goodIn_of _ (by decide +kernel)) ggX12_named_X12_number
noncomputable def sX12_named_23 : List Nat := 172 :: []
noncomputable def sX12_named_20 : List Nat := 182 :: 0 :: 201 :: sX12_named_23
noncomputable def sX12_named_19 : List Nat := 29 :: sX12_named_20
noncomputable def sX12_named_18 : List Nat := 28 :: sX12_named_19
noncomputable def sX12_named_17 : List Nat := 42 :: sX12_named_18
noncomputable def sX12_named_14 : List Nat := 182 :: 0 :: 197 :: sX12_named_17
noncomputable def sX12_named_13 : List Nat := 3 :: sX12_named_14
noncomputable def sX12_named_10 : List Nat := 167 :: 0 :: 4 :: sX12_named_13
noncomputable def sX12_named_9 : List Nat := 4 :: sX12_named_10
noncomputable def sX12_named_6 : List Nat := 160 :: 0 :: 7 :: sX12_named_9
noncomputable def sX12_named_5 : List Nat := 27 :: sX12_named_6
noncomputable def sX12_named_2 : List Nat := 182 :: 0 :: 193 :: sX12_named_5
noncomputable def sX12_named_1 : List Nat := 42 :: sX12_named_2
noncomputable def sX12_named_0 : List Nat := 42 :: sX12_named_1
theorem aX12_named_0 : dc_at cX12_named 0 sX12_named_0 := dc_base (by decide +kernel)
theorem aX12_named_1 : dc_at cX12_named 1 sX12_named_1 := dc_n1 aX12_named_0
theorem aX12_named_2 : dc_at cX12_named 2 sX12_named_2 := dc_n1 aX12_named_1
theorem aX12_named_5 : dc_at cX12_named 5 sX12_named_5 := dc_n3 aX12_named_2
theorem aX12_named_6 : dc_at cX12_named 6 sX12_named_6 := dc_n1 aX12_named_5
theorem aX12_named_9 : dc_at cX12_named 9 sX12_named_9 := dc_n3 aX12_named_6
theorem aX12_named_10 : dc_at cX12_named 10 sX12_named_10 := dc_n1 aX12_named_9
theorem aX12_named_13 : dc_at cX12_named 13 sX12_named_13 := dc_n3 aX12_named_10
theorem aX12_named_14 : dc_at cX12_named 14 sX12_named_14 := dc_n1 aX12_named_13
theorem aX12_named_17 : dc_at cX12_named 17 sX12_named_17 := dc_n3 aX12_named_14
theorem aX12_named_18 : dc_at cX12_named 18 sX12_named_18 := dc_n1 aX12_named_17
theorem aX12_named_19 : dc_at cX12_named 19 sX12_named_19 := dc_n1 aX12_named_18
theorem aX12_named_20 : dc_at cX12_named 20 sX12_named_20 := dc_n1 aX12_named_19
theorem aX12_named_23 : dc_at cX12_named 23 sX12_named_23 := dc_n3 aX12_named_20
theorem dX12_named_0 : decode cX12_named 0 = .ok (.aload_n 0, 1) := dc_42 aX12_named_0
theorem dX12_named_1 : decode cX12_named 1 = .ok (.aload_n 0, 1) := dc_42 aX12_named_1
theorem dX12_named_2 : decode cX12_named 2 = .ok (.invokevirtual 193, 3) := dc_182 (a0 := 0) (b0 := 193) aX12_named_2
theorem dX12_named_5 : decode cX12_named 5 = .ok (.iload_n 1, 1) := dc_27 aX12_named_5
theorem dX12_named_6 : decode cX12_named 6 = .ok (.if_icmp .ne 7, 3) := dc_160 (a0 := 0) (b0 := 7) aX12_named_6 (by decide)
theorem dX12_named_9 : decode cX12_named 9 = .ok (.iconst 1, 1) := dc_4 aX12_named_9
theorem dX12_named_10 : decode cX12_named 10 = .ok (.goto 4, 3) := dc_167 (a0 := 0) (b0 := 4) aX12_named_10 (by decide)
theorem dX12_named_13 : decode cX12_named 13 = .ok (.iconst 0, 1) := dc_3 aX12_named_13
theorem dX12_named_14 : decode cX12_named 14 = .ok (.invokevirtual 197, 3) := dc_182 (a0 := 0) (b0 := 197) aX12_named_14
theorem dX12_named_17 : decode cX12_named 17 = .ok (.aload_n 0, 1) := dc_42 aX12_named_17
theorem dX12_named_18 : decode cX12_named 18 = .ok (.iload_n 2, 1) := dc_28 aX12_named_18
theorem dX12_named_19 : decode cX12_named 19 = .ok (.iload_n 3, 1) := dc_29 aX12_named_19
theorem dX12_named_20 : decode cX12_named 20 = .ok (.invokevirtual 201, 3) := dc_182 (a0 := 0) (b0 := 201) aX12_named_20
theorem dX12_named_23 : decode cX12_named 23 = .ok (.ireturn, 1) := dc_172 aX12_named_23
set_option maxRecDepth 20000 in
theorem ggX12_begins_X12_right : GoodIn wsX12_begins wsX12_right := goodIn_k _ [[12], [2, 30, 0, 0, 0, 0, 0, 0, 0, 0, 0, 0, 0, 0, 0, 0, 0, 0, 0, 0, 0, 0, 0, 0, 0, 0, 0, 0, 0, 0, 0, 0, 0, 0, 0, 0, 0, 0, 0, 0, 0, 0, 0, 0, 0, 0, 0, 0, 0, 0, 0, 0, 0, 0, 0, 0, 0, 0, 0]] (by rfl) (by decide +kernel)
set_option maxRecDepth 20000 in
theorem gX12_begins_X12_right : GoodIn wsX12_begins (wsV RX12 209 RX12 yX12_right wsX12_right) := goodIn_app (goodIn_of _ (by decide +kernel)) ggX12_begins_X12_right
set_option maxRecDepth 20000 in
theorem ggX12_begins_X12_steps : GoodIn wsX12_begins wsX12_steps := goodIn_k _ [[16], [7], [6, 10, 0, 0, 0, 0, 0, 0, 0], [11, 13, 0, 0, 0, 0, 0, 0, 0, 0, 0, 0, 0, 0, 0, 0, 0, 0, 0, 0, 0, 0, 0, 0, 0, 0, 0, 0, 0, 0, 0, 0, 0, 0, 0, 0, 0, 0, 0, 0, 0, 0, 0, 0, 0, 0, 0, 0, 0, 0, 0, 0, 0, 0, 0, 0, 0, 0, 0, 0, 0, 0, 0, 0, 0, 0, 0]] (by rfl) (by decide +kernel)
set_option maxRecDepth 20000 in
theorem gX12_begins_X12_steps : GoodIn wsX12_begins (wsV RX12 187 RX12 yX12_steps wsX12_steps) := goodIn_app (goodIn_of _ (by decide +kernel)) ggX12_begins_X12_steps
noncomputable def sX12_begins_75 : List Nat := 172 :: []
noncomputable def sX12_begins_74 : List Nat := 4 :: sX12_begins_75
noncomputable def sX12_begins_71 : List Nat := 182 :: 0 :: 187 :: sX12_begins_74
noncomputable def sX12_begins_70 : List Nat := 42 :: sX12_begins_71
noncomputable def sX12_begins_67 : List Nat := 181 :: 0 :: 142 :: sX12_begins_70
noncomputable def sX12_begins_66 : List Nat := 3 :: sX12_begins_67
noncomputable def sX12_begins_65 : List Nat := 42 :: sX12_begins_66
noncomputable def sX12_begins_62 : List Nat := 181 :: 0 :: 139 :: sX12_begins_65
noncomputable def sX12_begins_61 : List Nat := 27 :: sX12_begins_62
noncomputable def sX12_begins_60 : List Nat := 42 :: sX12_begins_61
noncomputable def sX12_begins_57 : List Nat := 181 :: 0 :: 180 :: sX12_begins_60
noncomputable def sX12_begins_56 : List Nat := 3 :: sX12_begins_57
noncomputable def sX12_begins_55 : List Nat := 42 :: sX12_begins_56
noncomputable def sX12_begins_52 : List Nat := 181 :: 0 :: 37 :: sX12_begins_55
noncomputable def sX12_begins_51 : List Nat := 2 :: sX12_begins_52
noncomputable def sX12_begins_50 : List Nat := 42 :: sX12_begins_51
noncomputable def sX12_begins_47 : List Nat := 181 :: 0 :: 132 :: sX12_begins_50
noncomputable def sX12_begins_46 : List Nat := 3 :: sX12_begins_47
noncomputable def sX12_begins_45 : List Nat := 42 :: sX12_begins_46
noncomputable def sX12_begins_44 : List Nat := 172 :: sX12_begins_45
noncomputable def sX12_begins_43 : List Nat := 3 :: sX12_begins_44
noncomputable def sX12_begins_40 : List Nat := 154 :: 0 :: 5 :: sX12_begins_43
noncomputable def sX12_begins_37 : List Nat := 182 :: 0 :: 209 :: sX12_begins_40
noncomputable def sX12_begins_36 : List Nat := 4 :: sX12_begins_37
noncomputable def sX12_begins_33 : List Nat := 167 :: 0 :: 4 :: sX12_begins_36
noncomputable def sX12_begins_32 : List Nat := 5 :: sX12_begins_33
noncomputable def sX12_begins_29 : List Nat := 153 :: 0 :: 7 :: sX12_begins_32
noncomputable def sX12_begins_26 : List Nat := 180 :: 0 :: 205 :: sX12_begins_29
noncomputable def sX12_begins_25 : List Nat := 42 :: sX12_begins_26
noncomputable def sX12_begins_22 : List Nat := 154 :: 0 :: 14 :: sX12_begins_25
noncomputable def sX12_begins_19 : List Nat := 180 :: 0 :: 129 :: sX12_begins_22
noncomputable def sX12_begins_18 : List Nat := 42 :: sX12_begins_19
noncomputable def sX12_begins_17 : List Nat := 3 :: sX12_begins_18
noncomputable def sX12_begins_14 : List Nat := 167 :: 0 :: 4 :: sX12_begins_17
noncomputable def sX12_begins_13 : List Nat := 4 :: sX12_begins_14
noncomputable def sX12_begins_10 : List Nat := 163 :: 0 :: 7 :: sX12_begins_13
noncomputable def sX12_begins_7 : List Nat := 180 :: 0 :: 132 :: sX12_begins_10
noncomputable def sX12_begins_6 : List Nat := 42 :: sX12_begins_7
noncomputable def sX12_begins_5 : List Nat := 27 :: sX12_begins_6
noncomputable def sX12_begins_2 : List Nat := 155 :: 0 :: 15 :: sX12_begins_5
noncomputable def sX12_begins_1 : List Nat := 27 :: sX12_begins_2
noncomputable def sX12_begins_0 : List Nat := 42 :: sX12_begins_1
theorem aX12_begins_0 : dc_at cX12_begins 0 sX12_begins_0 := dc_base (by decide +kernel)
theorem aX12_begins_1 : dc_at cX12_begins 1 sX12_begins_1 := dc_n1 aX12_begins_0
theorem aX12_begins_2 : dc_at cX12_begins 2 sX12_begins_2 := dc_n1 aX12_begins_1
theorem aX12_begins_5 : dc_at cX12_begins 5 sX12_begins_5 := dc_n3 aX12_begins_2
theorem aX12_begins_6 : dc_at cX12_begins 6 sX12_begins_6 := dc_n1 aX12_begins_5
theorem aX12_begins_7 : dc_at cX12_begins 7 sX12_begins_7 := dc_n1 aX12_begins_6
theorem aX12_begins_10 : dc_at cX12_begins 10 sX12_begins_10 := dc_n3 aX12_begins_7
theorem aX12_begins_13 : dc_at cX12_begins 13 sX12_begins_13 := dc_n3 aX12_begins_10
theorem aX12_begins_14 : dc_at cX12_begins 14 sX12_begins_14 := dc_n1 aX12_begins_13
theorem aX12_begins_17 : dc_at cX12_begins 17 sX12_begins_17 := dc_n3 aX12_begins_14
theorem aX12_begins_18 : dc_at cX12_begins 18 sX12_begins_18 := dc_n1 aX12_begins_17
theorem aX12_begins_19 : dc_at cX12_begins 19 sX12_begins_19 := dc_n1 aX12_begins_18
theorem aX12_begins_22 : dc_at cX12_begins 22 sX12_begins_22 := dc_n3 aX12_begins_19
theorem aX12_begins_25 : dc_at cX12_begins 25 sX12_begins_25 := dc_n3 aX12_begins_22
theorem aX12_begins_26 : dc_at cX12_begins 26 sX12_begins_26 := dc_n1 aX12_begins_25
theorem aX12_begins_29 : dc_at cX12_begins 29 sX12_begins_29 := dc_n3 aX12_begins_26
theorem aX12_begins_32 : dc_at cX12_begins 32 sX12_begins_32 := dc_n3 aX12_begins_29
theorem aX12_begins_33 : dc_at cX12_begins 33 sX12_begins_33 := dc_n1 aX12_begins_32
theorem aX12_begins_36 : dc_at cX12_begins 36 sX12_begins_36 := dc_n3 aX12_begins_33
theorem aX12_begins_37 : dc_at cX12_begins 37 sX12_begins_37 := dc_n1 aX12_begins_36
theorem aX12_begins_40 : dc_at cX12_begins 40 sX12_begins_40 := dc_n3 aX12_begins_37
theorem aX12_begins_43 : dc_at cX12_begins 43 sX12_begins_43 := dc_n3 aX12_begins_40
theorem aX12_begins_44 : dc_at cX12_begins 44 sX12_begins_44 := dc_n1 aX12_begins_43
theorem aX12_begins_45 : dc_at cX12_begins 45 sX12_begins_45 := dc_n1 aX12_begins_44
theorem aX12_begins_46 : dc_at cX12_begins 46 sX12_begins_46 := dc_n1 aX12_begins_45
theorem aX12_begins_47 : dc_at cX12_begins 47 sX12_begins_47 := dc_n1 aX12_begins_46
theorem aX12_begins_50 : dc_at cX12_begins 50 sX12_begins_50 := dc_n3 aX12_begins_47
theorem aX12_begins_51 : dc_at cX12_begins 51 sX12_begins_51 := dc_n1 aX12_begins_50
theorem aX12_begins_52 : dc_at cX12_begins 52 sX12_begins_52 := dc_n1 aX12_begins_51
theorem aX12_begins_55 : dc_at cX12_begins 55 sX12_begins_55 := dc_n3 aX12_begins_52
theorem aX12_begins_56 : dc_at cX12_begins 56 sX12_begins_56 := dc_n1 aX12_begins_55
theorem aX12_begins_57 : dc_at cX12_begins 57 sX12_begins_57 := dc_n1 aX12_begins_56
theorem aX12_begins_60 : dc_at cX12_begins 60 sX12_begins_60 := dc_n3 aX12_begins_57
theorem aX12_begins_61 : dc_at cX12_begins 61 sX12_begins_61 := dc_n1 aX12_begins_60
theorem aX12_begins_62 : dc_at cX12_begins 62 sX12_begins_62 := dc_n1 aX12_begins_61
theorem aX12_begins_65 : dc_at cX12_begins 65 sX12_begins_65 := dc_n3 aX12_begins_62
theorem aX12_begins_66 : dc_at cX12_begins 66 sX12_begins_66 := dc_n1 aX12_begins_65
theorem aX12_begins_67 : dc_at cX12_begins 67 sX12_begins_67 := dc_n1 aX12_begins_66
theorem aX12_begins_70 : dc_at cX12_begins 70 sX12_begins_70 := dc_n3 aX12_begins_67
theorem aX12_begins_71 : dc_at cX12_begins 71 sX12_begins_71 := dc_n1 aX12_begins_70
theorem aX12_begins_74 : dc_at cX12_begins 74 sX12_begins_74 := dc_n3 aX12_begins_71
theorem aX12_begins_75 : dc_at cX12_begins 75 sX12_begins_75 := dc_n1 aX12_begins_74
theorem dX12_begins_0 : decode cX12_begins 0 = .ok (.aload_n 0, 1) := dc_42 aX12_begins_0
theorem dX12_begins_1 : decode cX12_begins 1 = .ok (.iload_n 1, 1) := dc_27 aX12_begins_1
theorem dX12_begins_2 : decode cX12_begins 2 = .ok (.ifCond .lt 15, 3) := dc_155 (a0 := 0) (b0 := 15) aX12_begins_2 (by decide)
theorem dX12_begins_5 : decode cX12_begins 5 = .ok (.iload_n 1, 1) := dc_27 aX12_begins_5
theorem dX12_begins_6 : decode cX12_begins 6 = .ok (.aload_n 0, 1) := dc_42 aX12_begins_6
theorem dX12_begins_7 : decode cX12_begins 7 = .ok (.getfield 132, 3) := dc_180 (a0 := 0) (b0 := 132) aX12_begins_7
theorem dX12_begins_10 : decode cX12_begins 10 = .ok (.if_icmp .gt 7, 3) := dc_163 (a0 := 0) (b0 := 7) aX12_begins_10 (by decide)
theorem dX12_begins_13 : decode cX12_begins 13 = .ok (.iconst 1, 1) := dc_4 aX12_begins_13
theorem dX12_begins_14 : decode cX12_begins 14 = .ok (.goto 4, 3) := dc_167 (a0 := 0) (b0 := 4) aX12_begins_14 (by decide)
theorem dX12_begins_17 : decode cX12_begins 17 = .ok (.iconst 0, 1) := dc_3 aX12_begins_17
theorem dX12_begins_18 : decode cX12_begins 18 = .ok (.aload_n 0, 1) := dc_42 aX12_begins_18
theorem dX12_begins_19 : decode cX12_begins 19 = .ok (.getfield 129, 3) := dc_180 (a0 := 0) (b0 := 129) aX12_begins_19
theorem dX12_begins_22 : decode cX12_begins 22 = .ok (.ifCond .ne 14, 3) := dc_154 (a0 := 0) (b0 := 14) aX12_begins_22 (by decide)
theorem dX12_begins_25 : decode cX12_begins 25 = .ok (.aload_n 0, 1) := dc_42 aX12_begins_25
theorem dX12_begins_26 : decode cX12_begins 26 = .ok (.getfield 205, 3) := dc_180 (a0 := 0) (b0 := 205) aX12_begins_26
theorem dX12_begins_29 : decode cX12_begins 29 = .ok (.ifCond .eq 7, 3) := dc_153 (a0 := 0) (b0 := 7) aX12_begins_29 (by decide)
theorem dX12_begins_32 : decode cX12_begins 32 = .ok (.iconst 2, 1) := dc_5 aX12_begins_32
theorem dX12_begins_33 : decode cX12_begins 33 = .ok (.goto 4, 3) := dc_167 (a0 := 0) (b0 := 4) aX12_begins_33 (by decide)
theorem dX12_begins_36 : decode cX12_begins 36 = .ok (.iconst 1, 1) := dc_4 aX12_begins_36
theorem dX12_begins_37 : decode cX12_begins 37 = .ok (.invokevirtual 209, 3) := dc_182 (a0 := 0) (b0 := 209) aX12_begins_37
theorem dX12_begins_40 : decode cX12_begins 40 = .ok (.ifCond .ne 5, 3) := dc_154 (a0 := 0) (b0 := 5) aX12_begins_40 (by decide)
theorem dX12_begins_43 : decode cX12_begins 43 = .ok (.iconst 0, 1) := dc_3 aX12_begins_43
theorem dX12_begins_44 : decode cX12_begins 44 = .ok (.ireturn, 1) := dc_172 aX12_begins_44
theorem dX12_begins_45 : decode cX12_begins 45 = .ok (.aload_n 0, 1) := dc_42 aX12_begins_45
theorem dX12_begins_46 : decode cX12_begins 46 = .ok (.iconst 0, 1) := dc_3 aX12_begins_46
theorem dX12_begins_47 : decode cX12_begins 47 = .ok (.putfield 132, 3) := dc_181 (a0 := 0) (b0 := 132) aX12_begins_47
theorem dX12_begins_50 : decode cX12_begins 50 = .ok (.aload_n 0, 1) := dc_42 aX12_begins_50
theorem dX12_begins_51 : decode cX12_begins 51 = .ok (.iconst (-1), 1) := dc_2 aX12_begins_51
theorem dX12_begins_52 : decode cX12_begins 52 = .ok (.putfield 37, 3) := dc_181 (a0 := 0) (b0 := 37) aX12_begins_52
theorem dX12_begins_55 : decode cX12_begins 55 = .ok (.aload_n 0, 1) := dc_42 aX12_begins_55
theorem dX12_begins_56 : decode cX12_begins 56 = .ok (.iconst 0, 1) := dc_3 aX12_begins_56
theorem dX12_begins_57 : decode cX12_begins 57 = .ok (.putfield 180, 3) := dc_181 (a0 := 0) (b0 := 180) aX12_begins_57
theorem dX12_begins_60 : decode cX12_begins 60 = .ok (.aload_n 0, 1) := dc_42 aX12_begins_60
theorem dX12_begins_61 : decode cX12_begins 61 = .ok (.iload_n 1, 1) := dc_27 aX12_begins_61
theorem dX12_begins_62 : decode cX12_begins 62 = .ok (.putfield 139, 3) := dc_181 (a0 := 0) (b0 := 139) aX12_begins_62
theorem dX12_begins_65 : decode cX12_begins 65 = .ok (.aload_n 0, 1) := dc_42 aX12_begins_65
theorem dX12_begins_66 : decode cX12_begins 66 = .ok (.iconst 0, 1) := dc_3 aX12_begins_66
theorem dX12_begins_67 : decode cX12_begins 67 = .ok (.putfield 142, 3) := dc_181 (a0 := 0) (b0 := 142) aX12_begins_67
theorem dX12_begins_70 : decode cX12_begins 70 = .ok (.aload_n 0, 1) := dc_42 aX12_begins_70
theorem dX12_begins_71 : decode cX12_begins 71 = .ok (.invokevirtual 187, 3) := dc_182 (a0 := 0) (b0 := 187) aX12_begins_71
theorem dX12_begins_74 : decode cX12_begins 74 = .ok (.iconst 1, 1) := dc_4 aX12_begins_74
theorem dX12_begins_75 : decode cX12_begins 75 = .ok (.ireturn, 1) := dc_172 aX12_begins_75
set_option maxRecDepth 20000 in
theorem ggX12_readsSet_X12_steps : GoodIn wsX12_readsSet wsX12_steps := goodIn_k _ [[11, 0, 0, 0, 0, 0, 0, 0, 0, 0, 0], [10, 11, 0, 0, 0, 0, 0, 0, 0, 32, 0, 0, 0, 0, 0, 0, 0, 0, 0, 0, 0, 0, 0, 0, 0, 0, 0, 0, 0, 0, 0, 0, 0, 0, 0, 0, 0, 0, 0, 0, 0, 0, 0, 0, 0, 0, 0, 0, 0, 0, 0, 0, 0, 0, 0, 0, 0, 0, 0, 0, 0, 0, 0, 0, 0, 0, 0]] (by rfl) (by decide +kernel)
set_option maxRecDepth 20000 in
theorem gX12_readsSet_X12_steps : GoodIn wsX12_readsSet (wsV RX12 187 RX12 yX12_steps wsX12_steps) := goodIn_app (goodIn_of _ (by decide +kernel)) ggX12_readsSet_X12_steps
set_option maxRecDepth 20000 in
theorem ggX12_readsSet_X12_number : GoodIn wsX12_readsSet wsX12_number := goodIn_k _ [[33], [17, 0], [16, 17, 0, 0], [10, 26, 0, 0, 0, 0, 0], [14, 28], [7, 0, 0, 1, 0, 0, 1, 3, 0, 0, 0, 0, 0, 0, 0, 0, 0, 0, 32, 0, 0, 0, 0, 0, 0, 0, 0, 0, 0, 0, 0, 0, 0, 0, 0, 0, 0, 0, 0, 0, 0, 0, 0, 0, 0, 0, 0, 0, 0, 0, 0, 0, 0, 0, 0, 0, 0, 0, 0, 0, 0, 0, 0, 0, 0, 0, 0, 0, 0, 0, 0, 0, 0, 0, 0, 0]] (by rfl) (by decide +kernel)
set_option maxRecDepth 20000 in
theorem gX12_readsSet_X12_number : GoodIn wsX12_readsSet (wsV RX12 201 RX12 yX12_number wsX12_number) := goodIn_app (goodIn_of _ (by decide +kernel)) ggX12_readsSet_X12_number
set_option maxRecDepth 20000 in
theorem ggX12_readsSet_X12_knownWord : GoodIn wsX12_readsSet wsX12_knownWord := goodIn_k _ [[47], [17, 0], [15, 32, 0], [10, 39, 0, 0, 0, 8, 0, 0, 0, 0, 0, 0, 0, 0, 0, 0, 0, 0, 0, 0, 0, 0, 0, 0, 0, 0, 0, 0, 0, 0, 0, 0, 0, 0, 0, 0, 0, 0, 0, 0, 0, 0, 0, 0, 0, 0, 0, 0, 0, 0, 0, 0, 0, 0, 0, 0, 0, 0, 0, 0, 0, 0, 0]] (by rfl) (by decide +kernel)
set_option maxRecDepth 20000 in
theorem gX12_readsSet_X12_knownWord : GoodIn wsX12_readsSet (wsV RX12 193 RX12 yX12_knownWord wsX12_knownWord) := goodIn_app (goodIn_of _ (by decide +kernel)) ggX12_readsSet_X12_knownWord
set_option maxRecDepth 20000 in
theorem ggX12_readsSet_X12_need : GoodIn wsX12_readsSet wsX12_need := goodIn_k _ [[57], [34, 0, 0], [10, 26, 0], [7, 0, 0, 1, 0, 0, 0, 0, 0, 0, 0, 0, 0, 0, 0, 0, 0, 0, 0, 0, 0, 0, 9, 0, 0, 0, 0, 18, 0, 0, 0, 0, 0, 0, 0, 0, 0, 0, 0, 0, 0, 0, 0, 0, 0, 0, 0, 0, 0, 0, 0, 0, 0, 0, 0, 0, 0, 0, 0, 0, 0, 0, 0, 0, 0, 0, 0, 0, 0, 0, 0, 0, 0, 0, 0, 0, 0, 0, 0, 0, 0, 0, 0, 0, 0]] (by rfl) (by decide +kernel)
set_option maxRecDepth 20000 in
theorem gX12_readsSet_X12_need : GoodIn wsX12_readsSet (wsV RX12 197 RX12 yX12_need wsX12_need) := goodIn_app (goodIn_of _ (by decide +kernel)) ggX12_readsSet_X12_need
set_option maxRecDepth 20000 in
theorem ggX12_readsSet_X12_named : GoodIn wsX12_readsSet wsX12_named := goodIn_k _ [[61], [44, 0, 0], [10, 36], [17, 0], [15, 32, 0, 0, 0, 0, 0, 0, 0, 0, 0], [34, 0, 0, 0, 0], [7, 0, 0, 1, 0, 0, 0, 1, 2, 0, 0, 0, 0, 0, 0, 0, 0, 0, 0, 9, 0, 0, 0, 0], [30, 0, 0, 0, 28, 0, 0, 0, 0, 0, 0, 0, 0, 0, 0, 0, 0, 0, 0, 0, 0, 0, 0, 0, 0, 0, 0, 0, 0, 0, 0, 0, 0, 0, 0, 0, 0, 0, 0, 0, 0, 0, 0, 0, 0, 0, 0, 0, 0, 0, 0, 0, 0, 0, 0, 0, 0, 0, 0, 0, 0, 0]] (by rfl) (by decide +kernel)
set_option maxRecDepth 20000 in
theorem gX12_readsSet_X12_named : GoodIn wsX12_readsSet (wsV RX12 213 RX12 yX12_named wsX12_named) := goodIn_app (goodIn_of _ (by decide +kernel)) ggX12_readsSet_X12_named
set_option maxRecDepth 20000 in
theorem ggX12_readsSet_X12_isGood : GoodIn wsX12_readsSet wsX12_isGood := goodIn_k _ [[37, 0, 23, 0, 0, 0, 0, 0, 0, 0, 0, 0, 0, 0, 0, 0, 0, 0, 0, 0, 0, 0, 0, 0, 0, 0, 0, 0, 0, 0, 0, 0, 0, 0, 0, 0, 0, 0, 0, 0, 0, 0, 0, 0, 0, 0, 0, 0, 0, 0, 0, 0, 0, 0, 0, 0, 0, 0, 0, 0]] (by rfl) (by decide +kernel)
set_option maxRecDepth 20000 in
theorem gX12_readsSet_X12_isGood : GoodIn wsX12_readsSet (wsV RX12 183 RX12 yX12_isGood wsX12_isGood) := goodIn_app (goodIn_of _ (by decide +kernel)) ggX12_readsSet_X12_isGood
noncomputable def sX12_readsSet_161 : List Nat := 177 :: []
noncomputable def sX12_readsSet_160 : List Nat := 79 :: sX12_readsSet_161
noncomputable def sX12_readsSet_158 : List Nat := 21 :: 6 :: sX12_readsSet_160
noncomputable def sX12_readsSet_157 : List Nat := 96 :: sX12_readsSet_158
noncomputable def sX12_readsSet_156 : List Nat := 28 :: sX12_readsSet_157
noncomputable def sX12_readsSet_155 : List Nat := 104 :: sX12_readsSet_156
noncomputable def sX12_readsSet_154 : List Nat := 27 :: sX12_readsSet_155
noncomputable def sX12_readsSet_152 : List Nat := 16 :: 7 :: sX12_readsSet_154
noncomputable def sX12_readsSet_149 : List Nat := 180 :: 0 :: 50 :: sX12_readsSet_152
noncomputable def sX12_readsSet_148 : List Nat := 42 :: sX12_readsSet_149
noncomputable def sX12_readsSet_147 : List Nat := 79 :: sX12_readsSet_148
noncomputable def sX12_readsSet_145 : List Nat := 21 :: 5 :: sX12_readsSet_147
noncomputable def sX12_readsSet_144 : List Nat := 96 :: sX12_readsSet_145
noncomputable def sX12_readsSet_143 : List Nat := 28 :: sX12_readsSet_144
noncomputable def sX12_readsSet_142 : List Nat := 104 :: sX12_readsSet_143
noncomputable def sX12_readsSet_141 : List Nat := 27 :: sX12_readsSet_142
noncomputable def sX12_readsSet_139 : List Nat := 16 :: 7 :: sX12_readsSet_141
noncomputable def sX12_readsSet_136 : List Nat := 180 :: 0 :: 47 :: sX12_readsSet_139
noncomputable def sX12_readsSet_135 : List Nat := 42 :: sX12_readsSet_136
noncomputable def sX12_readsSet_134 : List Nat := 79 :: sX12_readsSet_135
noncomputable def sX12_readsSet_132 : List Nat := 21 :: 4 :: sX12_readsSet_134
noncomputable def sX12_readsSet_131 : List Nat := 96 :: sX12_readsSet_132
noncomputable def sX12_readsSet_130 : List Nat := 28 :: sX12_readsSet_131
noncomputable def sX12_readsSet_129 : List Nat := 104 :: sX12_readsSet_130
noncomputable def sX12_readsSet_128 : List Nat := 27 :: sX12_readsSet_129
noncomputable def sX12_readsSet_126 : List Nat := 16 :: 7 :: sX12_readsSet_128
noncomputable def sX12_readsSet_123 : List Nat := 180 :: 0 :: 44 :: sX12_readsSet_126
noncomputable def sX12_readsSet_122 : List Nat := 42 :: sX12_readsSet_123
noncomputable def sX12_readsSet_121 : List Nat := 79 :: sX12_readsSet_122
noncomputable def sX12_readsSet_120 : List Nat := 29 :: sX12_readsSet_121
noncomputable def sX12_readsSet_119 : List Nat := 96 :: sX12_readsSet_120
noncomputable def sX12_readsSet_118 : List Nat := 28 :: sX12_readsSet_119
noncomputable def sX12_readsSet_117 : List Nat := 104 :: sX12_readsSet_118
noncomputable def sX12_readsSet_116 : List Nat := 27 :: sX12_readsSet_117
noncomputable def sX12_readsSet_114 : List Nat := 16 :: 7 :: sX12_readsSet_116
noncomputable def sX12_readsSet_111 : List Nat := 180 :: 0 :: 41 :: sX12_readsSet_114
noncomputable def sX12_readsSet_110 : List Nat := 42 :: sX12_readsSet_111
noncomputable def sX12_readsSet_109 : List Nat := 177 :: sX12_readsSet_110
noncomputable def sX12_readsSet_106 : List Nat := 154 :: 0 :: 4 :: sX12_readsSet_109
noncomputable def sX12_readsSet_103 : List Nat := 182 :: 0 :: 183 :: sX12_readsSet_106
noncomputable def sX12_readsSet_102 : List Nat := 42 :: sX12_readsSet_103
noncomputable def sX12_readsSet_100 : List Nat := 54 :: 6 :: sX12_readsSet_102
noncomputable def sX12_readsSet_97 : List Nat := 182 :: 0 :: 213 :: sX12_readsSet_100
noncomputable def sX12_readsSet_95 : List Nat := 18 :: 218 :: sX12_readsSet_97
noncomputable def sX12_readsSet_94 : List Nat := 5 :: sX12_readsSet_95
noncomputable def sX12_readsSet_92 : List Nat := 16 :: 15 :: sX12_readsSet_94
noncomputable def sX12_readsSet_91 : List Nat := 42 :: sX12_readsSet_92
noncomputable def sX12_readsSet_89 : List Nat := 54 :: 5 :: sX12_readsSet_91
noncomputable def sX12_readsSet_86 : List Nat := 182 :: 0 :: 213 :: sX12_readsSet_89
noncomputable def sX12_readsSet_83 : List Nat := 17 :: 42 :: 48 :: sX12_readsSet_86
noncomputable def sX12_readsSet_82 : List Nat := 3 :: sX12_readsSet_83
noncomputable def sX12_readsSet_80 : List Nat := 16 :: 14 :: sX12_readsSet_82
noncomputable def sX12_readsSet_79 : List Nat := 42 :: sX12_readsSet_80
noncomputable def sX12_readsSet_76 : List Nat := 160 :: 0 :: 26 :: sX12_readsSet_79
noncomputable def sX12_readsSet_74 : List Nat := 16 :: 14 :: sX12_readsSet_76
noncomputable def sX12_readsSet_71 : List Nat := 182 :: 0 :: 193 :: sX12_readsSet_74
noncomputable def sX12_readsSet_70 : List Nat := 42 :: sX12_readsSet_71
noncomputable def sX12_readsSet_67 : List Nat := 153 :: 0 :: 35 :: sX12_readsSet_70
noncomputable def sX12_readsSet_64 : List Nat := 182 :: 0 :: 183 :: sX12_readsSet_67
noncomputable def sX12_readsSet_63 : List Nat := 42 :: sX12_readsSet_64
noncomputable def sX12_readsSet_61 : List Nat := 54 :: 6 :: sX12_readsSet_63
noncomputable def sX12_readsSet_60 : List Nat := 4 :: sX12_readsSet_61
noncomputable def sX12_readsSet_58 : List Nat := 54 :: 5 :: sX12_readsSet_60
noncomputable def sX12_readsSet_57 : List Nat := 3 :: sX12_readsSet_58
noncomputable def sX12_readsSet_55 : List Nat := 54 :: 4 :: sX12_readsSet_57
noncomputable def sX12_readsSet_52 : List Nat := 182 :: 0 :: 213 :: sX12_readsSet_55
noncomputable def sX12_readsSet_50 : List Nat := 18 :: 217 :: sX12_readsSet_52
noncomputable def sX12_readsSet_49 : List Nat := 3 :: sX12_readsSet_50
noncomputable def sX12_readsSet_47 : List Nat := 16 :: 13 :: sX12_readsSet_49
noncomputable def sX12_readsSet_46 : List Nat := 42 :: sX12_readsSet_47
noncomputable def sX12_readsSet_45 : List Nat := 62 :: sX12_readsSet_46
noncomputable def sX12_readsSet_42 : List Nat := 182 :: 0 :: 213 :: sX12_readsSet_45
noncomputable def sX12_readsSet_39 : List Nat := 17 :: 84 :: 95 :: sX12_readsSet_42
noncomputable def sX12_readsSet_38 : List Nat := 3 :: sX12_readsSet_39
noncomputable def sX12_readsSet_36 : List Nat := 16 :: 12 :: sX12_readsSet_38
noncomputable def sX12_readsSet_35 : List Nat := 42 :: sX12_readsSet_36
noncomputable def sX12_readsSet_32 : List Nat := 182 :: 0 :: 197 :: sX12_readsSet_35
noncomputable def sX12_readsSet_31 : List Nat := 3 :: sX12_readsSet_32
noncomputable def sX12_readsSet_28 : List Nat := 167 :: 0 :: 4 :: sX12_readsSet_31
noncomputable def sX12_readsSet_27 : List Nat := 4 :: sX12_readsSet_28
noncomputable def sX12_readsSet_24 : List Nat := 162 :: 0 :: 7 :: sX12_readsSet_27
noncomputable def sX12_readsSet_22 : List Nat := 16 :: 7 :: sX12_readsSet_24
noncomputable def sX12_readsSet_21 : List Nat := 28 :: sX12_readsSet_22
noncomputable def sX12_readsSet_18 : List Nat := 155 :: 0 :: 13 :: sX12_readsSet_21
noncomputable def sX12_readsSet_17 : List Nat := 28 :: sX12_readsSet_18
noncomputable def sX12_readsSet_16 : List Nat := 42 :: sX12_readsSet_17
noncomputable def sX12_readsSet_15 : List Nat := 61 :: sX12_readsSet_16
noncomputable def sX12_readsSet_12 : List Nat := 182 :: 0 :: 193 :: sX12_readsSet_15
noncomputable def sX12_readsSet_11 : List Nat := 42 :: sX12_readsSet_12
noncomputable def sX12_readsSet_10 : List Nat := 60 :: sX12_readsSet_11
noncomputable def sX12_readsSet_7 : List Nat := 182 :: 0 :: 201 :: sX12_readsSet_10
noncomputable def sX12_readsSet_6 : List Nat := 6 :: sX12_readsSet_7
noncomputable def sX12_readsSet_5 : List Nat := 3 :: sX12_readsSet_6
noncomputable def sX12_readsSet_4 : List Nat := 42 :: sX12_readsSet_5
noncomputable def sX12_readsSet_1 : List Nat := 182 :: 0 :: 187 :: sX12_readsSet_4
noncomputable def sX12_readsSet_0 : List Nat := 42 :: sX12_readsSet_1
theorem aX12_readsSet_0 : dc_at cX12_readsSet 0 sX12_readsSet_0 := dc_base (by decide +kernel)
theorem aX12_readsSet_1 : dc_at cX12_readsSet 1 sX12_readsSet_1 := dc_n1 aX12_readsSet_0
theorem aX12_readsSet_4 : dc_at cX12_readsSet 4 sX12_readsSet_4 := dc_n3 aX12_readsSet_1
theorem aX12_readsSet_5 : dc_at cX12_readsSet 5 sX12_readsSet_5 := dc_n1 aX12_readsSet_4
theorem aX12_readsSet_6 : dc_at cX12_readsSet 6 sX12_readsSet_6 := dc_n1 aX12_readsSet_5
theorem aX12_readsSet_7 : dc_at cX12_readsSet 7 sX12_readsSet_7 := dc_n1 aX12_readsSet_6
theorem aX12_readsSet_10 : dc_at cX12_readsSet 10 sX12_readsSet_10 := dc_n3 aX12_readsSet_7
theorem aX12_readsSet_11 : dc_at cX12_readsSet 11 sX12_readsSet_11 := dc_n1 aX12_readsSet_10
theorem aX12_readsSet_12 : dc_at cX12_readsSet 12 sX12_readsSet_12 := dc_n1 aX12_readsSet_11
theorem aX12_readsSet_15 : dc_at cX12_readsSet 15 sX12_readsSet_15 := dc_n3 aX12_readsSet_12
theorem aX12_readsSet_16 : dc_at cX12_readsSet 16 sX12_readsSet_16 := dc_n1 aX12_readsSet_15
theorem aX12_readsSet_17 : dc_at cX12_readsSet 17 sX12_readsSet_17 := dc_n1 aX12_readsSet_16
theorem aX12_readsSet_18 : dc_at cX12_readsSet 18 sX12_readsSet_18 := dc_n1 aX12_readsSet_17
theorem aX12_readsSet_21 : dc_at cX12_readsSet 21 sX12_readsSet_21 := dc_n3 aX12_readsSet_18
theorem aX12_readsSet_22 : dc_at cX12_readsSet 22 sX12_readsSet_22 := dc_n1 aX12_readsSet_21
theorem aX12_readsSet_24 : dc_at cX12_readsSet 24 sX12_readsSet_24 := dc_n2 aX12_readsSet_22
theorem aX12_readsSet_27 : dc_at cX12_readsSet 27 sX12_readsSet_27 := dc_n3 aX12_readsSet_24
theorem aX12_readsSet_28 : dc_at cX12_readsSet 28 sX12_readsSet_28 := dc_n1 aX12_readsSet_27
theorem aX12_readsSet_31 : dc_at cX12_readsSet 31 sX12_readsSet_31 := dc_n3 aX12_readsSet_28
theorem aX12_readsSet_32 : dc_at cX12_readsSet 32 sX12_readsSet_32 := dc_n1 aX12_readsSet_31
theorem aX12_readsSet_35 : dc_at cX12_readsSet 35 sX12_readsSet_35 := dc_n3 aX12_readsSet_32
theorem aX12_readsSet_36 : dc_at cX12_readsSet 36 sX12_readsSet_36 := dc_n1 aX12_readsSet_35
theorem aX12_readsSet_38 : dc_at cX12_readsSet 38 sX12_readsSet_38 := dc_n2 aX12_readsSet_36
theorem aX12_readsSet_39 : dc_at cX12_readsSet 39 sX12_readsSet_39 := dc_n1 aX12_readsSet_38
theorem aX12_readsSet_42 : dc_at cX12_readsSet 42 sX12_readsSet_42 := dc_n3 aX12_readsSet_39
theorem aX12_readsSet_45 : dc_at cX12_readsSet 45 sX12_readsSet_45 := dc_n3 aX12_readsSet_42
theorem aX12_readsSet_46 : dc_at cX12_readsSet 46 sX12_readsSet_46 := dc_n1 aX12_readsSet_45
theorem aX12_readsSet_47 : dc_at cX12_readsSet 47 sX12_readsSet_47 := dc_n1 aX12_readsSet_46
theorem aX12_readsSet_49 : dc_at cX12_readsSet 49 sX12_readsSet_49 := dc_n2 aX12_readsSet_47
theorem aX12_readsSet_50 : dc_at cX12_readsSet 50 sX12_readsSet_50 := dc_n1 aX12_readsSet_49
theorem aX12_readsSet_52 : dc_at cX12_readsSet 52 sX12_readsSet_52 := dc_n2 aX12_readsSet_50
theorem aX12_readsSet_55 : dc_at cX12_readsSet 55 sX12_readsSet_55 := dc_n3 aX12_readsSet_52
theorem aX12_readsSet_57 : dc_at cX12_readsSet 57 sX12_readsSet_57 := dc_n2 aX12_readsSet_55
theorem aX12_readsSet_58 : dc_at cX12_readsSet 58 sX12_readsSet_58 := dc_n1 aX12_readsSet_57
theorem aX12_readsSet_60 : dc_at cX12_readsSet 60 sX12_readsSet_60 := dc_n2 aX12_readsSet_58
theorem aX12_readsSet_61 : dc_at cX12_readsSet 61 sX12_readsSet_61 := dc_n1 aX12_readsSet_60
theorem aX12_readsSet_63 : dc_at cX12_readsSet 63 sX12_readsSet_63 := dc_n2 aX12_readsSet_61
theorem aX12_readsSet_64 : dc_at cX12_readsSet 64 sX12_readsSet_64 := dc_n1 aX12_readsSet_63
theorem aX12_readsSet_67 : dc_at cX12_readsSet 67 sX12_readsSet_67 := dc_n3 aX12_readsSet_64
theorem aX12_readsSet_70 : dc_at cX12_readsSet 70 sX12_readsSet_70 := dc_n3 aX12_readsSet_67
theorem aX12_readsSet_71 : dc_at cX12_readsSet 71 sX12_readsSet_71 := dc_n1 aX12_readsSet_70
theorem aX12_readsSet_74 : dc_at cX12_readsSet 74 sX12_readsSet_74 := dc_n3 aX12_readsSet_71
theorem aX12_readsSet_76 : dc_at cX12_readsSet 76 sX12_readsSet_76 := dc_n2 aX12_readsSet_74
theorem aX12_readsSet_79 : dc_at cX12_readsSet 79 sX12_readsSet_79 := dc_n3 aX12_readsSet_76
theorem aX12_readsSet_80 : dc_at cX12_readsSet 80 sX12_readsSet_80 := dc_n1 aX12_readsSet_79
theorem aX12_readsSet_82 : dc_at cX12_readsSet 82 sX12_readsSet_82 := dc_n2 aX12_readsSet_80
theorem aX12_readsSet_83 : dc_at cX12_readsSet 83 sX12_readsSet_83 := dc_n1 aX12_readsSet_82
theorem aX12_readsSet_86 : dc_at cX12_readsSet 86 sX12_readsSet_86 := dc_n3 aX12_readsSet_83
theorem aX12_readsSet_89 : dc_at cX12_readsSet 89 sX12_readsSet_89 := dc_n3 aX12_readsSet_86
theorem aX12_readsSet_91 : dc_at cX12_readsSet 91 sX12_readsSet_91 := dc_n2 aX12_readsSet_89
theorem aX12_readsSet_92 : dc_at cX12_readsSet 92 sX12_readsSet_92 := dc_n1 aX12_readsSet_91
theorem aX12_readsSet_94 : dc_at cX12_readsSet 94 sX12_readsSet_94 := dc_n2 aX12_readsSet_92
theorem aX12_readsSet_95 : dc_at cX12_readsSet 95 sX12_readsSet_95 := dc_n1 aX12_readsSet_94
theorem aX12_readsSet_97 : dc_at cX12_readsSet 97 sX12_readsSet_97 := dc_n2 aX12_readsSet_95
theorem aX12_readsSet_100 : dc_at cX12_readsSet 100 sX12_readsSet_100 := dc_n3 aX12_readsSet_97
theorem aX12_readsSet_102 : dc_at cX12_readsSet 102 sX12_readsSet_102 := dc_n2 aX12_readsSet_100
theorem aX12_readsSet_103 : dc_at cX12_readsSet 103 sX12_readsSet_103 := dc_n1 aX12_readsSet_102
theorem aX12_readsSet_106 : dc_at cX12_readsSet 106 sX12_readsSet_106 := dc_n3 aX12_readsSet_103
theorem aX12_readsSet_109 : dc_at cX12_readsSet 109 sX12_readsSet_109 := dc_n3 aX12_readsSet_106
theorem aX12_readsSet_110 : dc_at cX12_readsSet 110 sX12_readsSet_110 := dc_n1 aX12_readsSet_109
theorem aX12_readsSet_111 : dc_at cX12_readsSet 111 sX12_readsSet_111 := dc_n1 aX12_readsSet_110
theorem aX12_readsSet_114 : dc_at cX12_readsSet 114 sX12_readsSet_114 := dc_n3 aX12_readsSet_111
theorem aX12_readsSet_116 : dc_at cX12_readsSet 116 sX12_readsSet_116 := dc_n2 aX12_readsSet_114
theorem aX12_readsSet_117 : dc_at cX12_readsSet 117 sX12_readsSet_117 := dc_n1 aX12_readsSet_116
theorem aX12_readsSet_118 : dc_at cX12_readsSet 118 sX12_readsSet_118 := dc_n1 aX12_readsSet_117
theorem aX12_readsSet_119 : dc_at cX12_readsSet 119 sX12_readsSet_119 := dc_n1 aX12_readsSet_118
theorem aX12_readsSet_120 : dc_at cX12_readsSet 120 sX12_readsSet_120 := dc_n1 aX12_readsSet_119
theorem aX12_readsSet_121 : dc_at cX12_readsSet 121 sX12_readsSet_121 := dc_n1 aX12_readsSet_120
theorem aX12_readsSet_122 : dc_at cX12_readsSet 122 sX12_readsSet_122 := dc_n1 aX12_readsSet_121
theorem aX12_readsSet_123 : dc_at cX12_readsSet 123 sX12_readsSet_123 := dc_n1 aX12_readsSet_122
theorem aX12_readsSet_126 : dc_at cX12_readsSet 126 sX12_readsSet_126 := dc_n3 aX12_readsSet_123
theorem aX12_readsSet_128 : dc_at cX12_readsSet 128 sX12_readsSet_128 := dc_n2 aX12_readsSet_126
theorem aX12_readsSet_129 : dc_at cX12_readsSet 129 sX12_readsSet_129 := dc_n1 aX12_readsSet_128
theorem aX12_readsSet_130 : dc_at cX12_readsSet 130 sX12_readsSet_130 := dc_n1 aX12_readsSet_129
theorem aX12_readsSet_131 : dc_at cX12_readsSet 131 sX12_readsSet_131 := dc_n1 aX12_readsSet_130
theorem aX12_readsSet_132 : dc_at cX12_readsSet 132 sX12_readsSet_132 := dc_n1 aX12_readsSet_131
theorem aX12_readsSet_134 : dc_at cX12_readsSet 134 sX12_readsSet_134 := dc_n2 aX12_readsSet_132
theorem aX12_readsSet_135 : dc_at cX12_readsSet 135 sX12_readsSet_135 := dc_n1 aX12_readsSet_134
theorem aX12_readsSet_136 : dc_at cX12_readsSet 136 sX12_readsSet_136 := dc_n1 aX12_readsSet_135
theorem aX12_readsSet_139 : dc_at cX12_readsSet 139 sX12_readsSet_139 := dc_n3 aX12_readsSet_136
theorem aX12_readsSet_141 : dc_at cX12_readsSet 141 sX12_readsSet_141 := dc_n2 aX12_readsSet_139
theorem aX12_readsSet_142 : dc_at cX12_readsSet 142 sX12_readsSet_142 := dc_n1 aX12_readsSet_141
theorem aX12_readsSet_143 : dc_at cX12_readsSet 143 sX12_readsSet_143 := dc_n1 aX12_readsSet_142
theorem aX12_readsSet_144 : dc_at cX12_readsSet 144 sX12_readsSet_144 := dc_n1 aX12_readsSet_143
theorem aX12_readsSet_145 : dc_at cX12_readsSet 145 sX12_readsSet_145 := dc_n1 aX12_readsSet_144
theorem aX12_readsSet_147 : dc_at cX12_readsSet 147 sX12_readsSet_147 := dc_n2 aX12_readsSet_145
theorem aX12_readsSet_148 : dc_at cX12_readsSet 148 sX12_readsSet_148 := dc_n1 aX12_readsSet_147
theorem aX12_readsSet_149 : dc_at cX12_readsSet 149 sX12_readsSet_149 := dc_n1 aX12_readsSet_148
theorem aX12_readsSet_152 : dc_at cX12_readsSet 152 sX12_readsSet_152 := dc_n3 aX12_readsSet_149
theorem aX12_readsSet_154 : dc_at cX12_readsSet 154 sX12_readsSet_154 := dc_n2 aX12_readsSet_152
theorem aX12_readsSet_155 : dc_at cX12_readsSet 155 sX12_readsSet_155 := dc_n1 aX12_readsSet_154
theorem aX12_readsSet_156 : dc_at cX12_readsSet 156 sX12_readsSet_156 := dc_n1 aX12_readsSet_155
theorem aX12_readsSet_157 : dc_at cX12_readsSet 157 sX12_readsSet_157 := dc_n1 aX12_readsSet_156
theorem aX12_readsSet_158 : dc_at cX12_readsSet 158 sX12_readsSet_158 := dc_n1 aX12_readsSet_157
theorem aX12_readsSet_160 : dc_at cX12_readsSet 160 sX12_readsSet_160 := dc_n2 aX12_readsSet_158
theorem aX12_readsSet_161 : dc_at cX12_readsSet 161 sX12_readsSet_161 := dc_n1 aX12_readsSet_160
theorem dX12_readsSet_0 : decode cX12_readsSet 0 = .ok (.aload_n 0, 1) := dc_42 aX12_readsSet_0
theorem dX12_readsSet_1 : decode cX12_readsSet 1 = .ok (.invokevirtual 187, 3) := dc_182 (a0 := 0) (b0 := 187) aX12_readsSet_1
theorem dX12_readsSet_4 : decode cX12_readsSet 4 = .ok (.aload_n 0, 1) := dc_42 aX12_readsSet_4
theorem dX12_readsSet_5 : decode cX12_readsSet 5 = .ok (.iconst 0, 1) := dc_3 aX12_readsSet_5
theorem dX12_readsSet_6 : decode cX12_readsSet 6 = .ok (.iconst 3, 1) := dc_6 aX12_readsSet_6
theorem dX12_readsSet_7 : decode cX12_readsSet 7 = .ok (.invokevirtual 201, 3) := dc_182 (a0 := 0) (b0 := 201) aX12_readsSet_7
theorem dX12_readsSet_10 : decode cX12_readsSet 10 = .ok (.istore_n 1, 1) := dc_60 aX12_readsSet_10
theorem dX12_readsSet_11 : decode cX12_readsSet 11 = .ok (.aload_n 0, 1) := dc_42 aX12_readsSet_11
theorem dX12_readsSet_12 : decode cX12_readsSet 12 = .ok (.invokevirtual 193, 3) := dc_182 (a0 := 0) (b0 := 193) aX12_readsSet_12
theorem dX12_readsSet_15 : decode cX12_readsSet 15 = .ok (.istore_n 2, 1) := dc_61 aX12_readsSet_15
theorem dX12_readsSet_16 : decode cX12_readsSet 16 = .ok (.aload_n 0, 1) := dc_42 aX12_readsSet_16
theorem dX12_readsSet_17 : decode cX12_readsSet 17 = .ok (.iload_n 2, 1) := dc_28 aX12_readsSet_17
theorem dX12_readsSet_18 : decode cX12_readsSet 18 = .ok (.ifCond .lt 13, 3) := dc_155 (a0 := 0) (b0 := 13) aX12_readsSet_18 (by decide)
theorem dX12_readsSet_21 : decode cX12_readsSet 21 = .ok (.iload_n 2, 1) := dc_28 aX12_readsSet_21
theorem dX12_readsSet_22 : decode cX12_readsSet 22 = .ok (.bipush 7, 2) := dc_16 (a0 := 7) aX12_readsSet_22 (by decide)
theorem dX12_readsSet_24 : decode cX12_readsSet 24 = .ok (.if_icmp .ge 7, 3) := dc_162 (a0 := 0) (b0 := 7) aX12_readsSet_24 (by decide)
theorem dX12_readsSet_27 : decode cX12_readsSet 27 = .ok (.iconst 1, 1) := dc_4 aX12_readsSet_27
theorem dX12_readsSet_28 : decode cX12_readsSet 28 = .ok (.goto 4, 3) := dc_167 (a0 := 0) (b0 := 4) aX12_readsSet_28 (by decide)
theorem dX12_readsSet_31 : decode cX12_readsSet 31 = .ok (.iconst 0, 1) := dc_3 aX12_readsSet_31
theorem dX12_readsSet_32 : decode cX12_readsSet 32 = .ok (.invokevirtual 197, 3) := dc_182 (a0 := 0) (b0 := 197) aX12_readsSet_32
theorem dX12_readsSet_35 : decode cX12_readsSet 35 = .ok (.aload_n 0, 1) := dc_42 aX12_readsSet_35
theorem dX12_readsSet_36 : decode cX12_readsSet 36 = .ok (.bipush 12, 2) := dc_16 (a0 := 12) aX12_readsSet_36 (by decide)
theorem dX12_readsSet_38 : decode cX12_readsSet 38 = .ok (.iconst 0, 1) := dc_3 aX12_readsSet_38
theorem dX12_readsSet_39 : decode cX12_readsSet 39 = .ok (.sipush 21599, 3) := dc_17 (a0 := 84) (b0 := 95) aX12_readsSet_39 (by decide)
theorem dX12_readsSet_42 : decode cX12_readsSet 42 = .ok (.invokevirtual 213, 3) := dc_182 (a0 := 0) (b0 := 213) aX12_readsSet_42
theorem dX12_readsSet_45 : decode cX12_readsSet 45 = .ok (.istore_n 3, 1) := dc_62 aX12_readsSet_45
theorem dX12_readsSet_46 : decode cX12_readsSet 46 = .ok (.aload_n 0, 1) := dc_42 aX12_readsSet_46
theorem dX12_readsSet_47 : decode cX12_readsSet 47 = .ok (.bipush 13, 2) := dc_16 (a0 := 13) aX12_readsSet_47 (by decide)
theorem dX12_readsSet_49 : decode cX12_readsSet 49 = .ok (.iconst 0, 1) := dc_3 aX12_readsSet_49
theorem dX12_readsSet_50 : decode cX12_readsSet 50 = .ok (.ldc 217, 2) := dc_18 (a0 := 217) aX12_readsSet_50
theorem dX12_readsSet_52 : decode cX12_readsSet 52 = .ok (.invokevirtual 213, 3) := dc_182 (a0 := 0) (b0 := 213) aX12_readsSet_52
theorem dX12_readsSet_55 : decode cX12_readsSet 55 = .ok (.istore 4, 2) := dc_54 (a0 := 4) aX12_readsSet_55
theorem dX12_readsSet_57 : decode cX12_readsSet 57 = .ok (.iconst 0, 1) := dc_3 aX12_readsSet_57
theorem dX12_readsSet_58 : decode cX12_readsSet 58 = .ok (.istore 5, 2) := dc_54 (a0 := 5) aX12_readsSet_58
theorem dX12_readsSet_60 : decode cX12_readsSet 60 = .ok (.iconst 1, 1) := dc_4 aX12_readsSet_60
theorem dX12_readsSet_61 : decode cX12_readsSet 61 = .ok (.istore 6, 2) := dc_54 (a0 := 6) aX12_readsSet_61
theorem dX12_readsSet_63 : decode cX12_readsSet 63 = .ok (.aload_n 0, 1) := dc_42 aX12_readsSet_63
theorem dX12_readsSet_64 : decode cX12_readsSet 64 = .ok (.invokevirtual 183, 3) := dc_182 (a0 := 0) (b0 := 183) aX12_readsSet_64
theorem dX12_readsSet_67 : decode cX12_readsSet 67 = .ok (.ifCond .eq 35, 3) := dc_153 (a0 := 0) (b0 := 35) aX12_readsSet_67 (by decide)
theorem dX12_readsSet_70 : decode cX12_readsSet 70 = .ok (.aload_n 0, 1) := dc_42 aX12_readsSet_70
theorem dX12_readsSet_71 : decode cX12_readsSet 71 = .ok (.invokevirtual 193, 3) := dc_182 (a0 := 0) (b0 := 193) aX12_readsSet_71
theorem dX12_readsSet_74 : decode cX12_readsSet 74 = .ok (.bipush 14, 2) := dc_16 (a0 := 14) aX12_readsSet_74 (by decide)
theorem dX12_readsSet_76 : decode cX12_readsSet 76 = .ok (.if_icmp .ne 26, 3) := dc_160 (a0 := 0) (b0 := 26) aX12_readsSet_76 (by decide)
theorem dX12_readsSet_79 : decode cX12_readsSet 79 = .ok (.aload_n 0, 1) := dc_42 aX12_readsSet_79
theorem dX12_readsSet_80 : decode cX12_readsSet 80 = .ok (.bipush 14, 2) := dc_16 (a0 := 14) aX12_readsSet_80 (by decide)
theorem dX12_readsSet_82 : decode cX12_readsSet 82 = .ok (.iconst 0, 1) := dc_3 aX12_readsSet_82
theorem dX12_readsSet_83 : decode cX12_readsSet 83 = .ok (.sipush 10800, 3) := dc_17 (a0 := 42) (b0 := 48) aX12_readsSet_83 (by decide)
theorem dX12_readsSet_86 : decode cX12_readsSet 86 = .ok (.invokevirtual 213, 3) := dc_182 (a0 := 0) (b0 := 213) aX12_readsSet_86
theorem dX12_readsSet_89 : decode cX12_readsSet 89 = .ok (.istore 5, 2) := dc_54 (a0 := 5) aX12_readsSet_89
theorem dX12_readsSet_91 : decode cX12_readsSet 91 = .ok (.aload_n 0, 1) := dc_42 aX12_readsSet_91
theorem dX12_readsSet_92 : decode cX12_readsSet 92 = .ok (.bipush 15, 2) := dc_16 (a0 := 15) aX12_readsSet_92 (by decide)
theorem dX12_readsSet_94 : decode cX12_readsSet 94 = .ok (.iconst 2, 1) := dc_5 aX12_readsSet_94
theorem dX12_readsSet_95 : decode cX12_readsSet 95 = .ok (.ldc 218, 2) := dc_18 (a0 := 218) aX12_readsSet_95
theorem dX12_readsSet_97 : decode cX12_readsSet 97 = .ok (.invokevirtual 213, 3) := dc_182 (a0 := 0) (b0 := 213) aX12_readsSet_97
theorem dX12_readsSet_100 : decode cX12_readsSet 100 = .ok (.istore 6, 2) := dc_54 (a0 := 6) aX12_readsSet_100
theorem dX12_readsSet_102 : decode cX12_readsSet 102 = .ok (.aload_n 0, 1) := dc_42 aX12_readsSet_102
theorem dX12_readsSet_103 : decode cX12_readsSet 103 = .ok (.invokevirtual 183, 3) := dc_182 (a0 := 0) (b0 := 183) aX12_readsSet_103
theorem dX12_readsSet_106 : decode cX12_readsSet 106 = .ok (.ifCond .ne 4, 3) := dc_154 (a0 := 0) (b0 := 4) aX12_readsSet_106 (by decide)
theorem dX12_readsSet_109 : decode cX12_readsSet 109 = .ok (.return_, 1) := dc_177 aX12_readsSet_109
theorem dX12_readsSet_110 : decode cX12_readsSet 110 = .ok (.aload_n 0, 1) := dc_42 aX12_readsSet_110
theorem dX12_readsSet_111 : decode cX12_readsSet 111 = .ok (.getfield 41, 3) := dc_180 (a0 := 0) (b0 := 41) aX12_readsSet_111
theorem dX12_readsSet_114 : decode cX12_readsSet 114 = .ok (.bipush 7, 2) := dc_16 (a0 := 7) aX12_readsSet_114 (by decide)
theorem dX12_readsSet_116 : decode cX12_readsSet 116 = .ok (.iload_n 1, 1) := dc_27 aX12_readsSet_116
theorem dX12_readsSet_117 : decode cX12_readsSet 117 = .ok (.imul, 1) := dc_104 aX12_readsSet_117
theorem dX12_readsSet_118 : decode cX12_readsSet 118 = .ok (.iload_n 2, 1) := dc_28 aX12_readsSet_118
theorem dX12_readsSet_119 : decode cX12_readsSet 119 = .ok (.iadd, 1) := dc_96 aX12_readsSet_119
theorem dX12_readsSet_120 : decode cX12_readsSet 120 = .ok (.iload_n 3, 1) := dc_29 aX12_readsSet_120
theorem dX12_readsSet_121 : decode cX12_readsSet 121 = .ok (.iastore, 1) := dc_79 aX12_readsSet_121
theorem dX12_readsSet_122 : decode cX12_readsSet 122 = .ok (.aload_n 0, 1) := dc_42 aX12_readsSet_122
theorem dX12_readsSet_123 : decode cX12_readsSet 123 = .ok (.getfield 44, 3) := dc_180 (a0 := 0) (b0 := 44) aX12_readsSet_123
theorem dX12_readsSet_126 : decode cX12_readsSet 126 = .ok (.bipush 7, 2) := dc_16 (a0 := 7) aX12_readsSet_126 (by decide)
theorem dX12_readsSet_128 : decode cX12_readsSet 128 = .ok (.iload_n 1, 1) := dc_27 aX12_readsSet_128
theorem dX12_readsSet_129 : decode cX12_readsSet 129 = .ok (.imul, 1) := dc_104 aX12_readsSet_129
theorem dX12_readsSet_130 : decode cX12_readsSet 130 = .ok (.iload_n 2, 1) := dc_28 aX12_readsSet_130
theorem dX12_readsSet_131 : decode cX12_readsSet 131 = .ok (.iadd, 1) := dc_96 aX12_readsSet_131
theorem dX12_readsSet_132 : decode cX12_readsSet 132 = .ok (.iload 4, 2) := dc_21 (a0 := 4) aX12_readsSet_132
theorem dX12_readsSet_134 : decode cX12_readsSet 134 = .ok (.iastore, 1) := dc_79 aX12_readsSet_134
theorem dX12_readsSet_135 : decode cX12_readsSet 135 = .ok (.aload_n 0, 1) := dc_42 aX12_readsSet_135
theorem dX12_readsSet_136 : decode cX12_readsSet 136 = .ok (.getfield 47, 3) := dc_180 (a0 := 0) (b0 := 47) aX12_readsSet_136
theorem dX12_readsSet_139 : decode cX12_readsSet 139 = .ok (.bipush 7, 2) := dc_16 (a0 := 7) aX12_readsSet_139 (by decide)
theorem dX12_readsSet_141 : decode cX12_readsSet 141 = .ok (.iload_n 1, 1) := dc_27 aX12_readsSet_141
theorem dX12_readsSet_142 : decode cX12_readsSet 142 = .ok (.imul, 1) := dc_104 aX12_readsSet_142
theorem dX12_readsSet_143 : decode cX12_readsSet 143 = .ok (.iload_n 2, 1) := dc_28 aX12_readsSet_143
theorem dX12_readsSet_144 : decode cX12_readsSet 144 = .ok (.iadd, 1) := dc_96 aX12_readsSet_144
theorem dX12_readsSet_145 : decode cX12_readsSet 145 = .ok (.iload 5, 2) := dc_21 (a0 := 5) aX12_readsSet_145
theorem dX12_readsSet_147 : decode cX12_readsSet 147 = .ok (.iastore, 1) := dc_79 aX12_readsSet_147
theorem dX12_readsSet_148 : decode cX12_readsSet 148 = .ok (.aload_n 0, 1) := dc_42 aX12_readsSet_148
theorem dX12_readsSet_149 : decode cX12_readsSet 149 = .ok (.getfield 50, 3) := dc_180 (a0 := 0) (b0 := 50) aX12_readsSet_149
theorem dX12_readsSet_152 : decode cX12_readsSet 152 = .ok (.bipush 7, 2) := dc_16 (a0 := 7) aX12_readsSet_152 (by decide)
theorem dX12_readsSet_154 : decode cX12_readsSet 154 = .ok (.iload_n 1, 1) := dc_27 aX12_readsSet_154
theorem dX12_readsSet_155 : decode cX12_readsSet 155 = .ok (.imul, 1) := dc_104 aX12_readsSet_155
theorem dX12_readsSet_156 : decode cX12_readsSet 156 = .ok (.iload_n 2, 1) := dc_28 aX12_readsSet_156
theorem dX12_readsSet_157 : decode cX12_readsSet 157 = .ok (.iadd, 1) := dc_96 aX12_readsSet_157
theorem dX12_readsSet_158 : decode cX12_readsSet 158 = .ok (.iload 6, 2) := dc_21 (a0 := 6) aX12_readsSet_158
theorem dX12_readsSet_160 : decode cX12_readsSet 160 = .ok (.iastore, 1) := dc_79 aX12_readsSet_160
theorem dX12_readsSet_161 : decode cX12_readsSet 161 = .ok (.return_, 1) := dc_177 aX12_readsSet_161
set_option maxRecDepth 20000 in
theorem ggX12_readsClimate_X12_wrong : GoodIn wsX12_readsClimate wsX12_wrong := goodIn_k _ [[10, 0, 0, 0, 26, 0, 0, 0, 0, 0, 0, 0, 0, 0, 0, 0, 0, 0, 0, 0, 0, 0, 0, 0, 0, 0, 0, 0, 0, 0, 0, 0, 0, 0, 0, 0, 0, 0, 0, 0, 0, 0, 0, 0, 0, 0, 0, 0, 0, 0, 0, 0, 0, 0, 0, 0, 0, 0, 0, 0, 0, 0]] (by rfl) (by decide +kernel)
set_option maxRecDepth 20000 in
theorem gX12_readsClimate_X12_wrong : GoodIn wsX12_readsClimate (wsV RX12 190 RX12 yX12_wrong wsX12_wrong) := goodIn_app (goodIn_of _ (by decide +kernel)) ggX12_readsClimate_X12_wrong
set_option maxRecDepth 20000 in
theorem ggX12_readsClimate_X12_isGood : GoodIn wsX12_readsClimate wsX12_isGood := goodIn_k _ [[17], [11, 28, 0, 0, 0, 0, 0, 0, 0, 0, 0, 0, 0, 0, 0, 0, 0, 0, 0, 0, 0, 0, 0, 0, 0, 0, 0, 0, 0, 0, 0, 0, 0, 0, 0, 0, 0, 0, 0, 0, 0, 0, 0, 0, 0, 0, 0, 0, 0, 0, 0, 0, 0, 0, 0, 0, 0, 0, 0]] (by rfl) (by decide +kernel)
set_option maxRecDepth 20000 in
theorem gX12_readsClimate_X12_isGood : GoodIn wsX12_readsClimate (wsV RX12 183 RX12 yX12_isGood wsX12_isGood) := goodIn_app (goodIn_of _ (by decide +kernel)) ggX12_readsClimate_X12_isGood
set_option maxRecDepth 20000 in
theorem ggX12_readsClimate_X12_steps : GoodIn wsX12_readsClimate wsX12_steps := goodIn_k _ [[21, 0, 0], [12, 11], [4], [2, 0, 21, 0, 0], [9, 18, 0, 0, 0, 0, 0, 0, 0, 4, 0, 0, 0, 0, 0, 0, 0, 0, 0, 0, 0, 0, 0, 0, 0, 0, 0, 0, 0, 0, 0, 0, 0, 0, 0, 0, 0, 0, 0, 0, 0, 0, 0, 0, 0, 0, 0, 0, 0, 0, 0, 0, 0, 0, 0, 0, 0, 0, 0, 0, 0, 0, 0, 0, 0, 0, 0]] (by rfl) (by decide +kernel)
set_option maxRecDepth 20000 in
theorem gX12_readsClimate_X12_steps : GoodIn wsX12_readsClimate (wsV RX12 187 RX12 yX12_steps wsX12_steps) := goodIn_app (goodIn_of _ (by decide +kernel)) ggX12_readsClimate_X12_steps
set_option maxRecDepth 20000 in
theorem ggX12_readsClimate_X12_number : GoodIn wsX12_readsClimate wsX12_number := goodIn_k _ [[39], [2, 0, 0, 9, 0, 0], [9, 7], [11], [6, 0, 0, 1, 1, 0, 4, 0, 0, 0, 0, 0, 0, 0, 0, 0, 0, 0, 0, 0, 0, 0, 0, 0, 4, 0, 0, 0, 0, 0, 0, 0, 0, 0, 0, 0, 0, 0, 0, 0, 0, 0, 0, 0, 0, 0, 0, 0, 0, 0, 0, 0, 0, 0, 0, 0, 0, 0, 0, 0, 0, 0, 0, 0, 0, 0, 0, 0, 0, 0, 0, 0, 0, 0, 0, 0, 0, 0, 0, 0, 0, 0]] (by rfl) (by decide +kernel)
set_option maxRecDepth 20000 in
theorem gX12_readsClimate_X12_number : GoodIn wsX12_readsClimate (wsV RX12 201 RX12 yX12_number wsX12_number) := goodIn_app (goodIn_of _ (by decide +kernel)) ggX12_readsClimate_X12_number
noncomputable def sX12_readsClimate_172 : List Nat := 177 :: []
noncomputable def sX12_readsClimate_169 : List Nat := 181 :: 0 :: 219 :: sX12_readsClimate_172
noncomputable def sX12_readsClimate_168 : List Nat := 96 :: sX12_readsClimate_169
noncomputable def sX12_readsClimate_167 : List Nat := 4 :: sX12_readsClimate_168
noncomputable def sX12_readsClimate_164 : List Nat := 180 :: 0 :: 219 :: sX12_readsClimate_167
noncomputable def sX12_readsClimate_163 : List Nat := 89 :: sX12_readsClimate_164
noncomputable def sX12_readsClimate_162 : List Nat := 42 :: sX12_readsClimate_163
noncomputable def sX12_readsClimate_159 : List Nat := 153 :: 0 :: 13 :: sX12_readsClimate_162
noncomputable def sX12_readsClimate_156 : List Nat := 182 :: 0 :: 183 :: sX12_readsClimate_159
noncomputable def sX12_readsClimate_155 : List Nat := 42 :: sX12_readsClimate_156
noncomputable def sX12_readsClimate_152 : List Nat := 167 :: 255 :: 147 :: sX12_readsClimate_155
noncomputable def sX12_readsClimate_149 : List Nat := 132 :: 2 :: 1 :: sX12_readsClimate_152
noncomputable def sX12_readsClimate_148 : List Nat := 60 :: sX12_readsClimate_149
noncomputable def sX12_readsClimate_147 : List Nat := 96 :: sX12_readsClimate_148
noncomputable def sX12_readsClimate_145 : List Nat := 21 :: 4 :: sX12_readsClimate_147
noncomputable def sX12_readsClimate_144 : List Nat := 27 :: sX12_readsClimate_145
noncomputable def sX12_readsClimate_143 : List Nat := 79 :: sX12_readsClimate_144
noncomputable def sX12_readsClimate_141 : List Nat := 21 :: 4 :: sX12_readsClimate_143
noncomputable def sX12_readsClimate_140 : List Nat := 96 :: sX12_readsClimate_141
noncomputable def sX12_readsClimate_139 : List Nat := 28 :: sX12_readsClimate_140
noncomputable def sX12_readsClimate_138 : List Nat := 104 :: sX12_readsClimate_139
noncomputable def sX12_readsClimate_135 : List Nat := 180 :: 0 :: 219 :: sX12_readsClimate_138
noncomputable def sX12_readsClimate_134 : List Nat := 42 :: sX12_readsClimate_135
noncomputable def sX12_readsClimate_132 : List Nat := 16 :: 12 :: sX12_readsClimate_134
noncomputable def sX12_readsClimate_129 : List Nat := 180 :: 0 :: 53 :: sX12_readsClimate_132
noncomputable def sX12_readsClimate_128 : List Nat := 42 :: sX12_readsClimate_129
noncomputable def sX12_readsClimate_125 : List Nat := 153 :: 0 :: 19 :: sX12_readsClimate_128
noncomputable def sX12_readsClimate_122 : List Nat := 182 :: 0 :: 183 :: sX12_readsClimate_125
noncomputable def sX12_readsClimate_121 : List Nat := 42 :: sX12_readsClimate_122
noncomputable def sX12_readsClimate_119 : List Nat := 54 :: 4 :: sX12_readsClimate_121
noncomputable def sX12_readsClimate_116 : List Nat := 182 :: 0 :: 201 :: sX12_readsClimate_119
noncomputable def sX12_readsClimate_113 : List Nat := 17 :: 14 :: 16 :: sX12_readsClimate_116
noncomputable def sX12_readsClimate_112 : List Nat := 4 :: sX12_readsClimate_113
noncomputable def sX12_readsClimate_111 : List Nat := 42 :: sX12_readsClimate_112
noncomputable def sX12_readsClimate_108 : List Nat := 182 :: 0 :: 190 :: sX12_readsClimate_111
noncomputable def sX12_readsClimate_107 : List Nat := 5 :: sX12_readsClimate_108
noncomputable def sX12_readsClimate_106 : List Nat := 42 :: sX12_readsClimate_107
noncomputable def sX12_readsClimate_103 : List Nat := 160 :: 0 :: 8 :: sX12_readsClimate_106
noncomputable def sX12_readsClimate_102 : List Nat := 2 :: sX12_readsClimate_103
noncomputable def sX12_readsClimate_100 : List Nat := 21 :: 4 :: sX12_readsClimate_102
noncomputable def sX12_readsClimate_98 : List Nat := 54 :: 4 :: sX12_readsClimate_100
noncomputable def sX12_readsClimate_97 : List Nat := 3 :: sX12_readsClimate_98
noncomputable def sX12_readsClimate_94 : List Nat := 167 :: 0 :: 4 :: sX12_readsClimate_97
noncomputable def sX12_readsClimate_93 : List Nat := 2 :: sX12_readsClimate_94
noncomputable def sX12_readsClimate_90 : List Nat := 159 :: 0 :: 7 :: sX12_readsClimate_93
noncomputable def sX12_readsClimate_89 : List Nat := 29 :: sX12_readsClimate_90
noncomputable def sX12_readsClimate_86 : List Nat := 180 :: 0 :: 156 :: sX12_readsClimate_89
noncomputable def sX12_readsClimate_85 : List Nat := 42 :: sX12_readsClimate_86
noncomputable def sX12_readsClimate_82 : List Nat := 163 :: 0 :: 15 :: sX12_readsClimate_85
noncomputable def sX12_readsClimate_80 : List Nat := 16 :: 7 :: sX12_readsClimate_82
noncomputable def sX12_readsClimate_77 : List Nat := 180 :: 0 :: 169 :: sX12_readsClimate_80
noncomputable def sX12_readsClimate_76 : List Nat := 42 :: sX12_readsClimate_77
noncomputable def sX12_readsClimate_73 : List Nat := 160 :: 0 :: 24 :: sX12_readsClimate_76
noncomputable def sX12_readsClimate_72 : List Nat := 5 :: sX12_readsClimate_73
noncomputable def sX12_readsClimate_69 : List Nat := 180 :: 0 :: 159 :: sX12_readsClimate_72
noncomputable def sX12_readsClimate_68 : List Nat := 42 :: sX12_readsClimate_69
noncomputable def sX12_readsClimate_65 : List Nat := 160 :: 0 :: 32 :: sX12_readsClimate_68
noncomputable def sX12_readsClimate_63 : List Nat := 16 :: 11 :: sX12_readsClimate_65
noncomputable def sX12_readsClimate_62 : List Nat := 28 :: sX12_readsClimate_63
noncomputable def sX12_readsClimate_61 : List Nat := 62 :: sX12_readsClimate_62
noncomputable def sX12_readsClimate_60 : List Nat := 100 :: sX12_readsClimate_61
noncomputable def sX12_readsClimate_59 : List Nat := 27 :: sX12_readsClimate_60
noncomputable def sX12_readsClimate_56 : List Nat := 17 :: 14 :: 16 :: sX12_readsClimate_59
noncomputable def sX12_readsClimate_53 : List Nat := 153 :: 0 :: 102 :: sX12_readsClimate_56
noncomputable def sX12_readsClimate_50 : List Nat := 182 :: 0 :: 183 :: sX12_readsClimate_53
noncomputable def sX12_readsClimate_49 : List Nat := 42 :: sX12_readsClimate_50
noncomputable def sX12_readsClimate_46 : List Nat := 162 :: 0 :: 109 :: sX12_readsClimate_49
noncomputable def sX12_readsClimate_44 : List Nat := 16 :: 12 :: sX12_readsClimate_46
noncomputable def sX12_readsClimate_43 : List Nat := 28 :: sX12_readsClimate_44
noncomputable def sX12_readsClimate_42 : List Nat := 61 :: sX12_readsClimate_43
noncomputable def sX12_readsClimate_41 : List Nat := 3 :: sX12_readsClimate_42
noncomputable def sX12_readsClimate_40 : List Nat := 60 :: sX12_readsClimate_41
noncomputable def sX12_readsClimate_39 : List Nat := 3 :: sX12_readsClimate_40
noncomputable def sX12_readsClimate_38 : List Nat := 87 :: sX12_readsClimate_39
noncomputable def sX12_readsClimate_35 : List Nat := 182 :: 0 :: 201 :: sX12_readsClimate_38
noncomputable def sX12_readsClimate_32 : List Nat := 180 :: 0 :: 219 :: sX12_readsClimate_35
noncomputable def sX12_readsClimate_31 : List Nat := 42 :: sX12_readsClimate_32
noncomputable def sX12_readsClimate_28 : List Nat := 180 :: 0 :: 219 :: sX12_readsClimate_31
noncomputable def sX12_readsClimate_27 : List Nat := 42 :: sX12_readsClimate_28
noncomputable def sX12_readsClimate_26 : List Nat := 42 :: sX12_readsClimate_27
noncomputable def sX12_readsClimate_23 : List Nat := 182 :: 0 :: 187 :: sX12_readsClimate_26
noncomputable def sX12_readsClimate_22 : List Nat := 42 :: sX12_readsClimate_23
noncomputable def sX12_readsClimate_21 : List Nat := 177 :: sX12_readsClimate_22
noncomputable def sX12_readsClimate_18 : List Nat := 154 :: 0 :: 4 :: sX12_readsClimate_21
noncomputable def sX12_readsClimate_15 : List Nat := 182 :: 0 :: 183 :: sX12_readsClimate_18
noncomputable def sX12_readsClimate_14 : List Nat := 42 :: sX12_readsClimate_15
noncomputable def sX12_readsClimate_11 : List Nat := 182 :: 0 :: 190 :: sX12_readsClimate_14
noncomputable def sX12_readsClimate_10 : List Nat := 5 :: sX12_readsClimate_11
noncomputable def sX12_readsClimate_9 : List Nat := 42 :: sX12_readsClimate_10
noncomputable def sX12_readsClimate_6 : List Nat := 160 :: 0 :: 8 :: sX12_readsClimate_9
noncomputable def sX12_readsClimate_4 : List Nat := 16 :: 7 :: sX12_readsClimate_6
noncomputable def sX12_readsClimate_1 : List Nat := 180 :: 0 :: 219 :: sX12_readsClimate_4
noncomputable def sX12_readsClimate_0 : List Nat := 42 :: sX12_readsClimate_1
theorem aX12_readsClimate_0 : dc_at cX12_readsClimate 0 sX12_readsClimate_0 := dc_base (by decide +kernel)
theorem aX12_readsClimate_1 : dc_at cX12_readsClimate 1 sX12_readsClimate_1 := dc_n1 aX12_readsClimate_0
theorem aX12_readsClimate_4 : dc_at cX12_readsClimate 4 sX12_readsClimate_4 := dc_n3 aX12_readsClimate_1
theorem aX12_readsClimate_6 : dc_at cX12_readsClimate 6 sX12_readsClimate_6 := dc_n2 aX12_readsClimate_4
theorem aX12_readsClimate_9 : dc_at cX12_readsClimate 9 sX12_readsClimate_9 := dc_n3 aX12_readsClimate_6
theorem aX12_readsClimate_10 : dc_at cX12_readsClimate 10 sX12_readsClimate_10 := dc_n1 aX12_readsClimate_9
theorem aX12_readsClimate_11 : dc_at cX12_readsClimate 11 sX12_readsClimate_11 := dc_n1 aX12_readsClimate_10
theorem aX12_readsClimate_14 : dc_at cX12_readsClimate 14 sX12_readsClimate_14 := dc_n3 aX12_readsClimate_11
theorem aX12_readsClimate_15 : dc_at cX12_readsClimate 15 sX12_readsClimate_15 := dc_n1 aX12_readsClimate_14
theorem aX12_readsClimate_18 : dc_at cX12_readsClimate 18 sX12_readsClimate_18 := dc_n3 aX12_readsClimate_15
theorem aX12_readsClimate_21 : dc_at cX12_readsClimate 21 sX12_readsClimate_21 := dc_n3 aX12_readsClimate_18
theorem aX12_readsClimate_22 : dc_at cX12_readsClimate 22 sX12_readsClimate_22 := dc_n1 aX12_readsClimate_21
theorem aX12_readsClimate_23 : dc_at cX12_readsClimate 23 sX12_readsClimate_23 := dc_n1 aX12_readsClimate_22
theorem aX12_readsClimate_26 : dc_at cX12_readsClimate 26 sX12_readsClimate_26 := dc_n3 aX12_readsClimate_23
theorem aX12_readsClimate_27 : dc_at cX12_readsClimate 27 sX12_readsClimate_27 := dc_n1 aX12_readsClimate_26
theorem aX12_readsClimate_28 : dc_at cX12_readsClimate 28 sX12_readsClimate_28 := dc_n1 aX12_readsClimate_27
theorem aX12_readsClimate_31 : dc_at cX12_readsClimate 31 sX12_readsClimate_31 := dc_n3 aX12_readsClimate_28
theorem aX12_readsClimate_32 : dc_at cX12_readsClimate 32 sX12_readsClimate_32 := dc_n1 aX12_readsClimate_31
theorem aX12_readsClimate_35 : dc_at cX12_readsClimate 35 sX12_readsClimate_35 := dc_n3 aX12_readsClimate_32
theorem aX12_readsClimate_38 : dc_at cX12_readsClimate 38 sX12_readsClimate_38 := dc_n3 aX12_readsClimate_35
theorem aX12_readsClimate_39 : dc_at cX12_readsClimate 39 sX12_readsClimate_39 := dc_n1 aX12_readsClimate_38
theorem aX12_readsClimate_40 : dc_at cX12_readsClimate 40 sX12_readsClimate_40 := dc_n1 aX12_readsClimate_39
theorem aX12_readsClimate_41 : dc_at cX12_readsClimate 41 sX12_readsClimate_41 := dc_n1 aX12_readsClimate_40
theorem aX12_readsClimate_42 : dc_at cX12_readsClimate 42 sX12_readsClimate_42 := dc_n1 aX12_readsClimate_41
theorem aX12_readsClimate_43 : dc_at cX12_readsClimate 43 sX12_readsClimate_43 := dc_n1 aX12_readsClimate_42
theorem aX12_readsClimate_44 : dc_at cX12_readsClimate 44 sX12_readsClimate_44 := dc_n1 aX12_readsClimate_43
theorem aX12_readsClimate_46 : dc_at cX12_readsClimate 46 sX12_readsClimate_46 := dc_n2 aX12_readsClimate_44
theorem aX12_readsClimate_49 : dc_at cX12_readsClimate 49 sX12_readsClimate_49 := dc_n3 aX12_readsClimate_46
theorem aX12_readsClimate_50 : dc_at cX12_readsClimate 50 sX12_readsClimate_50 := dc_n1 aX12_readsClimate_49
theorem aX12_readsClimate_53 : dc_at cX12_readsClimate 53 sX12_readsClimate_53 := dc_n3 aX12_readsClimate_50
theorem aX12_readsClimate_56 : dc_at cX12_readsClimate 56 sX12_readsClimate_56 := dc_n3 aX12_readsClimate_53
theorem aX12_readsClimate_59 : dc_at cX12_readsClimate 59 sX12_readsClimate_59 := dc_n3 aX12_readsClimate_56
theorem aX12_readsClimate_60 : dc_at cX12_readsClimate 60 sX12_readsClimate_60 := dc_n1 aX12_readsClimate_59
theorem aX12_readsClimate_61 : dc_at cX12_readsClimate 61 sX12_readsClimate_61 := dc_n1 aX12_readsClimate_60
theorem aX12_readsClimate_62 : dc_at cX12_readsClimate 62 sX12_readsClimate_62 := dc_n1 aX12_readsClimate_61
theorem aX12_readsClimate_63 : dc_at cX12_readsClimate 63 sX12_readsClimate_63 := dc_n1 aX12_readsClimate_62
theorem aX12_readsClimate_65 : dc_at cX12_readsClimate 65 sX12_readsClimate_65 := dc_n2 aX12_readsClimate_63
theorem aX12_readsClimate_68 : dc_at cX12_readsClimate 68 sX12_readsClimate_68 := dc_n3 aX12_readsClimate_65
theorem aX12_readsClimate_69 : dc_at cX12_readsClimate 69 sX12_readsClimate_69 := dc_n1 aX12_readsClimate_68
theorem aX12_readsClimate_72 : dc_at cX12_readsClimate 72 sX12_readsClimate_72 := dc_n3 aX12_readsClimate_69
theorem aX12_readsClimate_73 : dc_at cX12_readsClimate 73 sX12_readsClimate_73 := dc_n1 aX12_readsClimate_72
theorem aX12_readsClimate_76 : dc_at cX12_readsClimate 76 sX12_readsClimate_76 := dc_n3 aX12_readsClimate_73
theorem aX12_readsClimate_77 : dc_at cX12_readsClimate 77 sX12_readsClimate_77 := dc_n1 aX12_readsClimate_76
theorem aX12_readsClimate_80 : dc_at cX12_readsClimate 80 sX12_readsClimate_80 := dc_n3 aX12_readsClimate_77
theorem aX12_readsClimate_82 : dc_at cX12_readsClimate 82 sX12_readsClimate_82 := dc_n2 aX12_readsClimate_80
theorem aX12_readsClimate_85 : dc_at cX12_readsClimate 85 sX12_readsClimate_85 := dc_n3 aX12_readsClimate_82
theorem aX12_readsClimate_86 : dc_at cX12_readsClimate 86 sX12_readsClimate_86 := dc_n1 aX12_readsClimate_85
theorem aX12_readsClimate_89 : dc_at cX12_readsClimate 89 sX12_readsClimate_89 := dc_n3 aX12_readsClimate_86
theorem aX12_readsClimate_90 : dc_at cX12_readsClimate 90 sX12_readsClimate_90 := dc_n1 aX12_readsClimate_89
theorem aX12_readsClimate_93 : dc_at cX12_readsClimate 93 sX12_readsClimate_93 := dc_n3 aX12_readsClimate_90
theorem aX12_readsClimate_94 : dc_at cX12_readsClimate 94 sX12_readsClimate_94 := dc_n1 aX12_readsClimate_93
theorem aX12_readsClimate_97 : dc_at cX12_readsClimate 97 sX12_readsClimate_97 := dc_n3 aX12_readsClimate_94
theorem aX12_readsClimate_98 : dc_at cX12_readsClimate 98 sX12_readsClimate_98 := dc_n1 aX12_readsClimate_97
theorem aX12_readsClimate_100 : dc_at cX12_readsClimate 100 sX12_readsClimate_100 := dc_n2 aX12_readsClimate_98
theorem aX12_readsClimate_102 : dc_at cX12_readsClimate 102 sX12_readsClimate_102 := dc_n2 aX12_readsClimate_100
theorem aX12_readsClimate_103 : dc_at cX12_readsClimate 103 sX12_readsClimate_103 := dc_n1 aX12_readsClimate_102
theorem aX12_readsClimate_106 : dc_at cX12_readsClimate 106 sX12_readsClimate_106 := dc_n3 aX12_readsClimate_103
theorem aX12_readsClimate_107 : dc_at cX12_readsClimate 107 sX12_readsClimate_107 := dc_n1 aX12_readsClimate_106
theorem aX12_readsClimate_108 : dc_at cX12_readsClimate 108 sX12_readsClimate_108 := dc_n1 aX12_readsClimate_107
theorem aX12_readsClimate_111 : dc_at cX12_readsClimate 111 sX12_readsClimate_111 := dc_n3 aX12_readsClimate_108
theorem aX12_readsClimate_112 : dc_at cX12_readsClimate 112 sX12_readsClimate_112 := dc_n1 aX12_readsClimate_111
theorem aX12_readsClimate_113 : dc_at cX12_readsClimate 113 sX12_readsClimate_113 := dc_n1 aX12_readsClimate_112
theorem aX12_readsClimate_116 : dc_at cX12_readsClimate 116 sX12_readsClimate_116 := dc_n3 aX12_readsClimate_113
theorem aX12_readsClimate_119 : dc_at cX12_readsClimate 119 sX12_readsClimate_119 := dc_n3 aX12_readsClimate_116
theorem aX12_readsClimate_121 : dc_at cX12_readsClimate 121 sX12_readsClimate_121 := dc_n2 aX12_readsClimate_119
theorem aX12_readsClimate_122 : dc_at cX12_readsClimate 122 sX12_readsClimate_122 := dc_n1 aX12_readsClimate_121
theorem aX12_readsClimate_125 : dc_at cX12_readsClimate 125 sX12_readsClimate_125 := dc_n3 aX12_readsClimate_122
theorem aX12_readsClimate_128 : dc_at cX12_readsClimate 128 sX12_readsClimate_128 := dc_n3 aX12_readsClimate_125
theorem aX12_readsClimate_129 : dc_at cX12_readsClimate 129 sX12_readsClimate_129 := dc_n1 aX12_readsClimate_128
theorem aX12_readsClimate_132 : dc_at cX12_readsClimate 132 sX12_readsClimate_132 := dc_n3 aX12_readsClimate_129
theorem aX12_readsClimate_134 : dc_at cX12_readsClimate 134 sX12_readsClimate_134 := dc_n2 aX12_readsClimate_132
theorem aX12_readsClimate_135 : dc_at cX12_readsClimate 135 sX12_readsClimate_135 := dc_n1 aX12_readsClimate_134
theorem aX12_readsClimate_138 : dc_at cX12_readsClimate 138 sX12_readsClimate_138 := dc_n3 aX12_readsClimate_135
theorem aX12_readsClimate_139 : dc_at cX12_readsClimate 139 sX12_readsClimate_139 := dc_n1 aX12_readsClimate_138
theorem aX12_readsClimate_140 : dc_at cX12_readsClimate 140 sX12_readsClimate_140 := dc_n1 aX12_readsClimate_139
theorem aX12_readsClimate_141 : dc_at cX12_readsClimate 141 sX12_readsClimate_141 := dc_n1 aX12_readsClimate_140
theorem aX12_readsClimate_143 : dc_at cX12_readsClimate 143 sX12_readsClimate_143 := dc_n2 aX12_readsClimate_141
theorem aX12_readsClimate_144 : dc_at cX12_readsClimate 144 sX12_readsClimate_144 := dc_n1 aX12_readsClimate_143
theorem aX12_readsClimate_145 : dc_at cX12_readsClimate 145 sX12_readsClimate_145 := dc_n1 aX12_readsClimate_144
theorem aX12_readsClimate_147 : dc_at cX12_readsClimate 147 sX12_readsClimate_147 := dc_n2 aX12_readsClimate_145
theorem aX12_readsClimate_148 : dc_at cX12_readsClimate 148 sX12_readsClimate_148 := dc_n1 aX12_readsClimate_147
theorem aX12_readsClimate_149 : dc_at cX12_readsClimate 149 sX12_readsClimate_149 := dc_n1 aX12_readsClimate_148
theorem aX12_readsClimate_152 : dc_at cX12_readsClimate 152 sX12_readsClimate_152 := dc_n3 aX12_readsClimate_149
theorem aX12_readsClimate_155 : dc_at cX12_readsClimate 155 sX12_readsClimate_155 := dc_n3 aX12_readsClimate_152
theorem aX12_readsClimate_156 : dc_at cX12_readsClimate 156 sX12_readsClimate_156 := dc_n1 aX12_readsClimate_155
theorem aX12_readsClimate_159 : dc_at cX12_readsClimate 159 sX12_readsClimate_159 := dc_n3 aX12_readsClimate_156
theorem aX12_readsClimate_162 : dc_at cX12_readsClimate 162 sX12_readsClimate_162 := dc_n3 aX12_readsClimate_159
theorem aX12_readsClimate_163 : dc_at cX12_readsClimate 163 sX12_readsClimate_163 := dc_n1 aX12_readsClimate_162
theorem aX12_readsClimate_164 : dc_at cX12_readsClimate 164 sX12_readsClimate_164 := dc_n1 aX12_readsClimate_163
theorem aX12_readsClimate_167 : dc_at cX12_readsClimate 167 sX12_readsClimate_167 := dc_n3 aX12_readsClimate_164
theorem aX12_readsClimate_168 : dc_at cX12_readsClimate 168 sX12_readsClimate_168 := dc_n1 aX12_readsClimate_167
theorem aX12_readsClimate_169 : dc_at cX12_readsClimate 169 sX12_readsClimate_169 := dc_n1 aX12_readsClimate_168
theorem aX12_readsClimate_172 : dc_at cX12_readsClimate 172 sX12_readsClimate_172 := dc_n3 aX12_readsClimate_169
theorem dX12_readsClimate_0 : decode cX12_readsClimate 0 = .ok (.aload_n 0, 1) := dc_42 aX12_readsClimate_0
theorem dX12_readsClimate_1 : decode cX12_readsClimate 1 = .ok (.getfield 219, 3) := dc_180 (a0 := 0) (b0 := 219) aX12_readsClimate_1
theorem dX12_readsClimate_4 : decode cX12_readsClimate 4 = .ok (.bipush 7, 2) := dc_16 (a0 := 7) aX12_readsClimate_4 (by decide)
theorem dX12_readsClimate_6 : decode cX12_readsClimate 6 = .ok (.if_icmp .ne 8, 3) := dc_160 (a0 := 0) (b0 := 8) aX12_readsClimate_6 (by decide)
theorem dX12_readsClimate_9 : decode cX12_readsClimate 9 = .ok (.aload_n 0, 1) := dc_42 aX12_readsClimate_9
theorem dX12_readsClimate_10 : decode cX12_readsClimate 10 = .ok (.iconst 2, 1) := dc_5 aX12_readsClimate_10
theorem dX12_readsClimate_11 : decode cX12_readsClimate 11 = .ok (.invokevirtual 190, 3) := dc_182 (a0 := 0) (b0 := 190) aX12_readsClimate_11
theorem dX12_readsClimate_14 : decode cX12_readsClimate 14 = .ok (.aload_n 0, 1) := dc_42 aX12_readsClimate_14
theorem dX12_readsClimate_15 : decode cX12_readsClimate 15 = .ok (.invokevirtual 183, 3) := dc_182 (a0 := 0) (b0 := 183) aX12_readsClimate_15
theorem dX12_readsClimate_18 : decode cX12_readsClimate 18 = .ok (.ifCond .ne 4, 3) := dc_154 (a0 := 0) (b0 := 4) aX12_readsClimate_18 (by decide)
theorem dX12_readsClimate_21 : decode cX12_readsClimate 21 = .ok (.return_, 1) := dc_177 aX12_readsClimate_21
theorem dX12_readsClimate_22 : decode cX12_readsClimate 22 = .ok (.aload_n 0, 1) := dc_42 aX12_readsClimate_22
theorem dX12_readsClimate_23 : decode cX12_readsClimate 23 = .ok (.invokevirtual 187, 3) := dc_182 (a0 := 0) (b0 := 187) aX12_readsClimate_23
theorem dX12_readsClimate_26 : decode cX12_readsClimate 26 = .ok (.aload_n 0, 1) := dc_42 aX12_readsClimate_26
theorem dX12_readsClimate_27 : decode cX12_readsClimate 27 = .ok (.aload_n 0, 1) := dc_42 aX12_readsClimate_27
theorem dX12_readsClimate_28 : decode cX12_readsClimate 28 = .ok (.getfield 219, 3) := dc_180 (a0 := 0) (b0 := 219) aX12_readsClimate_28
theorem dX12_readsClimate_31 : decode cX12_readsClimate 31 = .ok (.aload_n 0, 1) := dc_42 aX12_readsClimate_31
theorem dX12_readsClimate_32 : decode cX12_readsClimate 32 = .ok (.getfield 219, 3) := dc_180 (a0 := 0) (b0 := 219) aX12_readsClimate_32
theorem dX12_readsClimate_35 : decode cX12_readsClimate 35 = .ok (.invokevirtual 201, 3) := dc_182 (a0 := 0) (b0 := 201) aX12_readsClimate_35
theorem dX12_readsClimate_38 : decode cX12_readsClimate 38 = .ok (.pop, 1) := dc_87 aX12_readsClimate_38
theorem dX12_readsClimate_39 : decode cX12_readsClimate 39 = .ok (.iconst 0, 1) := dc_3 aX12_readsClimate_39
theorem dX12_readsClimate_40 : decode cX12_readsClimate 40 = .ok (.istore_n 1, 1) := dc_60 aX12_readsClimate_40
theorem dX12_readsClimate_41 : decode cX12_readsClimate 41 = .ok (.iconst 0, 1) := dc_3 aX12_readsClimate_41
theorem dX12_readsClimate_42 : decode cX12_readsClimate 42 = .ok (.istore_n 2, 1) := dc_61 aX12_readsClimate_42
theorem dX12_readsClimate_43 : decode cX12_readsClimate 43 = .ok (.iload_n 2, 1) := dc_28 aX12_readsClimate_43
theorem dX12_readsClimate_44 : decode cX12_readsClimate 44 = .ok (.bipush 12, 2) := dc_16 (a0 := 12) aX12_readsClimate_44 (by decide)
theorem dX12_readsClimate_46 : decode cX12_readsClimate 46 = .ok (.if_icmp .ge 109, 3) := dc_162 (a0 := 0) (b0 := 109) aX12_readsClimate_46 (by decide)
theorem dX12_readsClimate_49 : decode cX12_readsClimate 49 = .ok (.aload_n 0, 1) := dc_42 aX12_readsClimate_49
theorem dX12_readsClimate_50 : decode cX12_readsClimate 50 = .ok (.invokevirtual 183, 3) := dc_182 (a0 := 0) (b0 := 183) aX12_readsClimate_50
theorem dX12_readsClimate_53 : decode cX12_readsClimate 53 = .ok (.ifCond .eq 102, 3) := dc_153 (a0 := 0) (b0 := 102) aX12_readsClimate_53 (by decide)
theorem dX12_readsClimate_56 : decode cX12_readsClimate 56 = .ok (.sipush 3600, 3) := dc_17 (a0 := 14) (b0 := 16) aX12_readsClimate_56 (by decide)
theorem dX12_readsClimate_59 : decode cX12_readsClimate 59 = .ok (.iload_n 1, 1) := dc_27 aX12_readsClimate_59
theorem dX12_readsClimate_60 : decode cX12_readsClimate 60 = .ok (.isub, 1) := dc_100 aX12_readsClimate_60
theorem dX12_readsClimate_61 : decode cX12_readsClimate 61 = .ok (.istore_n 3, 1) := dc_62 aX12_readsClimate_61
theorem dX12_readsClimate_62 : decode cX12_readsClimate 62 = .ok (.iload_n 2, 1) := dc_28 aX12_readsClimate_62
theorem dX12_readsClimate_63 : decode cX12_readsClimate 63 = .ok (.bipush 11, 2) := dc_16 (a0 := 11) aX12_readsClimate_63 (by decide)
theorem dX12_readsClimate_65 : decode cX12_readsClimate 65 = .ok (.if_icmp .ne 32, 3) := dc_160 (a0 := 0) (b0 := 32) aX12_readsClimate_65 (by decide)
theorem dX12_readsClimate_68 : decode cX12_readsClimate 68 = .ok (.aload_n 0, 1) := dc_42 aX12_readsClimate_68
theorem dX12_readsClimate_69 : decode cX12_readsClimate 69 = .ok (.getfield 159, 3) := dc_180 (a0 := 0) (b0 := 159) aX12_readsClimate_69
theorem dX12_readsClimate_72 : decode cX12_readsClimate 72 = .ok (.iconst 2, 1) := dc_5 aX12_readsClimate_72
theorem dX12_readsClimate_73 : decode cX12_readsClimate 73 = .ok (.if_icmp .ne 24, 3) := dc_160 (a0 := 0) (b0 := 24) aX12_readsClimate_73 (by decide)
theorem dX12_readsClimate_76 : decode cX12_readsClimate 76 = .ok (.aload_n 0, 1) := dc_42 aX12_readsClimate_76
theorem dX12_readsClimate_77 : decode cX12_readsClimate 77 = .ok (.getfield 169, 3) := dc_180 (a0 := 0) (b0 := 169) aX12_readsClimate_77
theorem dX12_readsClimate_80 : decode cX12_readsClimate 80 = .ok (.bipush 7, 2) := dc_16 (a0 := 7) aX12_readsClimate_80 (by decide)
theorem dX12_readsClimate_82 : decode cX12_readsClimate 82 = .ok (.if_icmp .gt 15, 3) := dc_163 (a0 := 0) (b0 := 15) aX12_readsClimate_82 (by decide)
theorem dX12_readsClimate_85 : decode cX12_readsClimate 85 = .ok (.aload_n 0, 1) := dc_42 aX12_readsClimate_85
theorem dX12_readsClimate_86 : decode cX12_readsClimate 86 = .ok (.getfield 156, 3) := dc_180 (a0 := 0) (b0 := 156) aX12_readsClimate_86
theorem dX12_readsClimate_89 : decode cX12_readsClimate 89 = .ok (.iload_n 3, 1) := dc_29 aX12_readsClimate_89
theorem dX12_readsClimate_90 : decode cX12_readsClimate 90 = .ok (.if_icmp .eq 7, 3) := dc_159 (a0 := 0) (b0 := 7) aX12_readsClimate_90 (by decide)
theorem dX12_readsClimate_93 : decode cX12_readsClimate 93 = .ok (.iconst (-1), 1) := dc_2 aX12_readsClimate_93
theorem dX12_readsClimate_94 : decode cX12_readsClimate 94 = .ok (.goto 4, 3) := dc_167 (a0 := 0) (b0 := 4) aX12_readsClimate_94 (by decide)
theorem dX12_readsClimate_97 : decode cX12_readsClimate 97 = .ok (.iconst 0, 1) := dc_3 aX12_readsClimate_97
theorem dX12_readsClimate_98 : decode cX12_readsClimate 98 = .ok (.istore 4, 2) := dc_54 (a0 := 4) aX12_readsClimate_98
theorem dX12_readsClimate_100 : decode cX12_readsClimate 100 = .ok (.iload 4, 2) := dc_21 (a0 := 4) aX12_readsClimate_100
theorem dX12_readsClimate_102 : decode cX12_readsClimate 102 = .ok (.iconst (-1), 1) := dc_2 aX12_readsClimate_102
theorem dX12_readsClimate_103 : decode cX12_readsClimate 103 = .ok (.if_icmp .ne 8, 3) := dc_160 (a0 := 0) (b0 := 8) aX12_readsClimate_103 (by decide)
theorem dX12_readsClimate_106 : decode cX12_readsClimate 106 = .ok (.aload_n 0, 1) := dc_42 aX12_readsClimate_106
theorem dX12_readsClimate_107 : decode cX12_readsClimate 107 = .ok (.iconst 2, 1) := dc_5 aX12_readsClimate_107
theorem dX12_readsClimate_108 : decode cX12_readsClimate 108 = .ok (.invokevirtual 190, 3) := dc_182 (a0 := 0) (b0 := 190) aX12_readsClimate_108
theorem dX12_readsClimate_111 : decode cX12_readsClimate 111 = .ok (.aload_n 0, 1) := dc_42 aX12_readsClimate_111
theorem dX12_readsClimate_112 : decode cX12_readsClimate 112 = .ok (.iconst 1, 1) := dc_4 aX12_readsClimate_112
theorem dX12_readsClimate_113 : decode cX12_readsClimate 113 = .ok (.sipush 3600, 3) := dc_17 (a0 := 14) (b0 := 16) aX12_readsClimate_113 (by decide)
theorem dX12_readsClimate_116 : decode cX12_readsClimate 116 = .ok (.invokevirtual 201, 3) := dc_182 (a0 := 0) (b0 := 201) aX12_readsClimate_116
theorem dX12_readsClimate_119 : decode cX12_readsClimate 119 = .ok (.istore 4, 2) := dc_54 (a0 := 4) aX12_readsClimate_119
theorem dX12_readsClimate_121 : decode cX12_readsClimate 121 = .ok (.aload_n 0, 1) := dc_42 aX12_readsClimate_121
theorem dX12_readsClimate_122 : decode cX12_readsClimate 122 = .ok (.invokevirtual 183, 3) := dc_182 (a0 := 0) (b0 := 183) aX12_readsClimate_122
theorem dX12_readsClimate_125 : decode cX12_readsClimate 125 = .ok (.ifCond .eq 19, 3) := dc_153 (a0 := 0) (b0 := 19) aX12_readsClimate_125 (by decide)
theorem dX12_readsClimate_128 : decode cX12_readsClimate 128 = .ok (.aload_n 0, 1) := dc_42 aX12_readsClimate_128
theorem dX12_readsClimate_129 : decode cX12_readsClimate 129 = .ok (.getfield 53, 3) := dc_180 (a0 := 0) (b0 := 53) aX12_readsClimate_129
theorem dX12_readsClimate_132 : decode cX12_readsClimate 132 = .ok (.bipush 12, 2) := dc_16 (a0 := 12) aX12_readsClimate_132 (by decide)
theorem dX12_readsClimate_134 : decode cX12_readsClimate 134 = .ok (.aload_n 0, 1) := dc_42 aX12_readsClimate_134
theorem dX12_readsClimate_135 : decode cX12_readsClimate 135 = .ok (.getfield 219, 3) := dc_180 (a0 := 0) (b0 := 219) aX12_readsClimate_135
theorem dX12_readsClimate_138 : decode cX12_readsClimate 138 = .ok (.imul, 1) := dc_104 aX12_readsClimate_138
theorem dX12_readsClimate_139 : decode cX12_readsClimate 139 = .ok (.iload_n 2, 1) := dc_28 aX12_readsClimate_139
theorem dX12_readsClimate_140 : decode cX12_readsClimate 140 = .ok (.iadd, 1) := dc_96 aX12_readsClimate_140
theorem dX12_readsClimate_141 : decode cX12_readsClimate 141 = .ok (.iload 4, 2) := dc_21 (a0 := 4) aX12_readsClimate_141
theorem dX12_readsClimate_143 : decode cX12_readsClimate 143 = .ok (.iastore, 1) := dc_79 aX12_readsClimate_143
theorem dX12_readsClimate_144 : decode cX12_readsClimate 144 = .ok (.iload_n 1, 1) := dc_27 aX12_readsClimate_144
theorem dX12_readsClimate_145 : decode cX12_readsClimate 145 = .ok (.iload 4, 2) := dc_21 (a0 := 4) aX12_readsClimate_145
theorem dX12_readsClimate_147 : decode cX12_readsClimate 147 = .ok (.iadd, 1) := dc_96 aX12_readsClimate_147
theorem dX12_readsClimate_148 : decode cX12_readsClimate 148 = .ok (.istore_n 1, 1) := dc_60 aX12_readsClimate_148
theorem dX12_readsClimate_149 : decode cX12_readsClimate 149 = .ok (.iinc 2 1, 3) := dc_132 (a0 := 2) (a1 := 1) aX12_readsClimate_149 (by decide)
theorem dX12_readsClimate_152 : decode cX12_readsClimate 152 = .ok (.goto (-109), 3) := dc_167 (a0 := 255) (b0 := 147) aX12_readsClimate_152 (by decide)
theorem dX12_readsClimate_155 : decode cX12_readsClimate 155 = .ok (.aload_n 0, 1) := dc_42 aX12_readsClimate_155
theorem dX12_readsClimate_156 : decode cX12_readsClimate 156 = .ok (.invokevirtual 183, 3) := dc_182 (a0 := 0) (b0 := 183) aX12_readsClimate_156
theorem dX12_readsClimate_159 : decode cX12_readsClimate 159 = .ok (.ifCond .eq 13, 3) := dc_153 (a0 := 0) (b0 := 13) aX12_readsClimate_159 (by decide)
theorem dX12_readsClimate_162 : decode cX12_readsClimate 162 = .ok (.aload_n 0, 1) := dc_42 aX12_readsClimate_162
theorem dX12_readsClimate_163 : decode cX12_readsClimate 163 = .ok (.dup, 1) := dc_89 aX12_readsClimate_163
theorem dX12_readsClimate_164 : decode cX12_readsClimate 164 = .ok (.getfield 219, 3) := dc_180 (a0 := 0) (b0 := 219) aX12_readsClimate_164
theorem dX12_readsClimate_167 : decode cX12_readsClimate 167 = .ok (.iconst 1, 1) := dc_4 aX12_readsClimate_167
theorem dX12_readsClimate_168 : decode cX12_readsClimate 168 = .ok (.iadd, 1) := dc_96 aX12_readsClimate_168
theorem dX12_readsClimate_169 : decode cX12_readsClimate 169 = .ok (.putfield 219, 3) := dc_181 (a0 := 0) (b0 := 219) aX12_readsClimate_169
theorem dX12_readsClimate_172 : decode cX12_readsClimate 172 = .ok (.return_, 1) := dc_177 aX12_readsClimate_172
set_option maxRecDepth 20000 in
theorem ggX12_readsHand_X12_wrong : GoodIn wsX12_readsHand wsX12_wrong := goodIn_k _ [[8, 0, 0, 0, 47, 0, 0, 0, 0, 0, 0, 0, 0, 0, 0, 0, 0, 0, 0, 0, 0, 0, 0, 0, 0, 0, 0, 0, 0, 0, 0, 0, 0, 0, 0, 0, 0, 0, 0, 0, 0, 0, 0, 0, 0, 0, 0, 0, 0, 0, 0, 0, 0, 0, 0, 0, 0, 0, 0, 0, 0, 0]] (by rfl) (by decide +kernel)
set_option maxRecDepth 20000 in
theorem gX12_readsHand_X12_wrong : GoodIn wsX12_readsHand (wsV RX12 190 RX12 yX12_wrong wsX12_wrong) := goodIn_app (goodIn_of _ (by decide +kernel)) ggX12_readsHand_X12_wrong
set_option maxRecDepth 20000 in
theorem ggX12_readsHand_X12_isGood : GoodIn wsX12_readsHand wsX12_isGood := goodIn_k _ [[15], [9, 49, 0, 0, 0, 0, 0, 0, 0, 0, 0, 0, 0, 0, 0, 0, 0, 0, 0, 0, 0, 0, 0, 0, 0, 0, 0, 0, 0, 0, 0, 0, 0, 0, 0, 0, 0, 0, 0, 0, 0, 0, 0, 0, 0, 0, 0, 0, 0, 0, 0, 0, 0, 0, 0, 0, 0, 0, 0]] (by rfl) (by decide +kernel)
set_option maxRecDepth 20000 in
theorem gX12_readsHand_X12_isGood : GoodIn wsX12_readsHand (wsV RX12 183 RX12 yX12_isGood wsX12_isGood) := goodIn_app (goodIn_of _ (by decide +kernel)) ggX12_readsHand_X12_isGood
set_option maxRecDepth 20000 in
theorem ggX12_readsHand_X12_steps : GoodIn wsX12_readsHand wsX12_steps := goodIn_k _ [[19, 0, 0], [10, 11, 0, 0, 0, 0, 0, 0], [7, 21, 0, 0, 0, 0, 0, 0, 0, 22, 0, 0, 0, 0, 0, 0, 0, 0, 0, 0, 0, 0, 0, 0, 0, 0, 0, 0, 0, 0, 0, 0, 0, 0, 0, 0, 0, 0, 0, 0, 0, 0, 0, 0, 0, 0, 0, 0, 0, 0, 0, 0, 0, 0, 0, 0, 0, 0, 0, 0, 0, 0, 0, 0, 0, 0, 0]] (by rfl) (by decide +kernel)
set_option maxRecDepth 20000 in
theorem gX12_readsHand_X12_steps : GoodIn wsX12_readsHand (wsV RX12 187 RX12 yX12_steps wsX12_steps) := goodIn_app (goodIn_of _ (by decide +kernel)) ggX12_readsHand_X12_steps
set_option maxRecDepth 20000 in
theorem ggX12_readsHand_X12_number : GoodIn wsX12_readsHand wsX12_number := goodIn_k _ [[40], [24, 0], [23], [12, 0, 0], [7, 7], [9], [4, 0, 0, 1, 1, 0, 4, 0, 0, 0, 0, 0, 0, 3, 0, 0, 0, 0, 0, 0, 0, 0, 0, 0, 22, 0, 0, 0, 0, 0, 0, 0, 0, 0, 0, 0, 0, 0, 0, 0, 0, 0, 0, 0, 0, 0, 0, 0, 0, 0, 0, 0, 0, 0, 0, 0, 0, 0, 0, 0, 0, 0, 0, 0, 0, 0, 0, 0, 0, 0, 0, 0, 0, 0, 0, 0, 0, 0, 0, 0, 0, 0]] (by rfl) (by decide +kernel)
set_option maxRecDepth 20000 in
theorem gX12_readsHand_X12_number : GoodIn wsX12_readsHand (wsV RX12 201 RX12 yX12_number wsX12_number) := goodIn_app (goodIn_of _ (by decide +kernel)) ggX12_readsHand_X12_number
set_option maxRecDepth 20000 in
theorem ggX12_readsHand_X12_named : GoodIn wsX12_readsHand wsX12_named := goodIn_k _ [[44, 0, 0, 0], [7, 40], [24, 0], [22, 26, 0, 0, 0, 0, 0, 0, 0, 0, 0], [12, 0, 0, 0], [9, 6, 0, 0, 0, 0, 0], [10, 12, 2, 0, 0, 0, 0, 0, 0, 0, 0, 0, 0], [4, 0, 0, 1, 2, 25, 0, 0, 0, 18, 0, 0, 0, 0, 0, 0, 0, 0, 0, 0, 0, 0, 0, 0, 0, 0, 0, 0, 0, 0, 0, 0, 0, 0, 0, 0, 0, 0, 0, 0, 0, 0, 0, 0, 0, 0, 0, 0, 0, 0, 0, 0, 0, 0, 0, 0, 0, 0, 0, 0, 0, 0, 0, 0, 0, 0, 0]] (by rfl) (by decide +kernel)
set_option maxRecDepth 20000 in
theorem gX12_readsHand_X12_named : GoodIn wsX12_readsHand (wsV RX12 213 RX12 yX12_named wsX12_named) := goodIn_app (goodIn_of _ (by decide +kernel)) ggX12_readsHand_X12_named
noncomputable def sX12_readsHand_82 : List Nat := 177 :: []
noncomputable def sX12_readsHand_79 : List Nat := 181 :: 0 :: 222 :: sX12_readsHand_82
noncomputable def sX12_readsHand_78 : List Nat := 96 :: sX12_readsHand_79
noncomputable def sX12_readsHand_77 : List Nat := 4 :: sX12_readsHand_78
noncomputable def sX12_readsHand_74 : List Nat := 180 :: 0 :: 222 :: sX12_readsHand_77
noncomputable def sX12_readsHand_73 : List Nat := 89 :: sX12_readsHand_74
noncomputable def sX12_readsHand_72 : List Nat := 42 :: sX12_readsHand_73
noncomputable def sX12_readsHand_71 : List Nat := 79 :: sX12_readsHand_72
noncomputable def sX12_readsHand_70 : List Nat := 28 :: sX12_readsHand_71
noncomputable def sX12_readsHand_67 : List Nat := 180 :: 0 :: 222 :: sX12_readsHand_70
noncomputable def sX12_readsHand_66 : List Nat := 42 :: sX12_readsHand_67
noncomputable def sX12_readsHand_63 : List Nat := 180 :: 0 :: 56 :: sX12_readsHand_66
noncomputable def sX12_readsHand_62 : List Nat := 42 :: sX12_readsHand_63
noncomputable def sX12_readsHand_61 : List Nat := 79 :: sX12_readsHand_62
noncomputable def sX12_readsHand_60 : List Nat := 27 :: sX12_readsHand_61
noncomputable def sX12_readsHand_57 : List Nat := 180 :: 0 :: 222 :: sX12_readsHand_60
noncomputable def sX12_readsHand_56 : List Nat := 42 :: sX12_readsHand_57
noncomputable def sX12_readsHand_53 : List Nat := 180 :: 0 :: 59 :: sX12_readsHand_56
noncomputable def sX12_readsHand_52 : List Nat := 42 :: sX12_readsHand_53
noncomputable def sX12_readsHand_51 : List Nat := 177 :: sX12_readsHand_52
noncomputable def sX12_readsHand_48 : List Nat := 154 :: 0 :: 4 :: sX12_readsHand_51
noncomputable def sX12_readsHand_45 : List Nat := 182 :: 0 :: 183 :: sX12_readsHand_48
noncomputable def sX12_readsHand_44 : List Nat := 42 :: sX12_readsHand_45
noncomputable def sX12_readsHand_43 : List Nat := 61 :: sX12_readsHand_44
noncomputable def sX12_readsHand_40 : List Nat := 182 :: 0 :: 213 :: sX12_readsHand_43
noncomputable def sX12_readsHand_38 : List Nat := 16 :: 29 :: sX12_readsHand_40
noncomputable def sX12_readsHand_37 : List Nat := 3 :: sX12_readsHand_38
noncomputable def sX12_readsHand_35 : List Nat := 16 :: 18 :: sX12_readsHand_37
noncomputable def sX12_readsHand_34 : List Nat := 42 :: sX12_readsHand_35
noncomputable def sX12_readsHand_33 : List Nat := 60 :: sX12_readsHand_34
noncomputable def sX12_readsHand_30 : List Nat := 182 :: 0 :: 201 :: sX12_readsHand_33
noncomputable def sX12_readsHand_28 : List Nat := 16 :: 29 :: sX12_readsHand_30
noncomputable def sX12_readsHand_27 : List Nat := 3 :: sX12_readsHand_28
noncomputable def sX12_readsHand_26 : List Nat := 42 :: sX12_readsHand_27
noncomputable def sX12_readsHand_23 : List Nat := 182 :: 0 :: 187 :: sX12_readsHand_26
noncomputable def sX12_readsHand_22 : List Nat := 42 :: sX12_readsHand_23
noncomputable def sX12_readsHand_21 : List Nat := 177 :: sX12_readsHand_22
noncomputable def sX12_readsHand_18 : List Nat := 154 :: 0 :: 4 :: sX12_readsHand_21
noncomputable def sX12_readsHand_15 : List Nat := 182 :: 0 :: 183 :: sX12_readsHand_18
noncomputable def sX12_readsHand_14 : List Nat := 42 :: sX12_readsHand_15
noncomputable def sX12_readsHand_11 : List Nat := 182 :: 0 :: 190 :: sX12_readsHand_14
noncomputable def sX12_readsHand_10 : List Nat := 5 :: sX12_readsHand_11
noncomputable def sX12_readsHand_9 : List Nat := 42 :: sX12_readsHand_10
noncomputable def sX12_readsHand_6 : List Nat := 160 :: 0 :: 8 :: sX12_readsHand_9
noncomputable def sX12_readsHand_4 : List Nat := 16 :: 30 :: sX12_readsHand_6
noncomputable def sX12_readsHand_1 : List Nat := 180 :: 0 :: 222 :: sX12_readsHand_4
noncomputable def sX12_readsHand_0 : List Nat := 42 :: sX12_readsHand_1
theorem aX12_readsHand_0 : dc_at cX12_readsHand 0 sX12_readsHand_0 := dc_base (by decide +kernel)
theorem aX12_readsHand_1 : dc_at cX12_readsHand 1 sX12_readsHand_1 := dc_n1 aX12_readsHand_0
theorem aX12_readsHand_4 : dc_at cX12_readsHand 4 sX12_readsHand_4 := dc_n3 aX12_readsHand_1
theorem aX12_readsHand_6 : dc_at cX12_readsHand 6 sX12_readsHand_6 := dc_n2 aX12_readsHand_4
theorem aX12_readsHand_9 : dc_at cX12_readsHand 9 sX12_readsHand_9 := dc_n3 aX12_readsHand_6
theorem aX12_readsHand_10 : dc_at cX12_readsHand 10 sX12_readsHand_10 := dc_n1 aX12_readsHand_9
theorem aX12_readsHand_11 : dc_at cX12_readsHand 11 sX12_readsHand_11 := dc_n1 aX12_readsHand_10
theorem aX12_readsHand_14 : dc_at cX12_readsHand 14 sX12_readsHand_14 := dc_n3 aX12_readsHand_11
theorem aX12_readsHand_15 : dc_at cX12_readsHand 15 sX12_readsHand_15 := dc_n1 aX12_readsHand_14
theorem aX12_readsHand_18 : dc_at cX12_readsHand 18 sX12_readsHand_18 := dc_n3 aX12_readsHand_15
theorem aX12_readsHand_21 : dc_at cX12_readsHand 21 sX12_readsHand_21 := dc_n3 aX12_readsHand_18
theorem aX12_readsHand_22 : dc_at cX12_readsHand 22 sX12_readsHand_22 := dc_n1 aX12_readsHand_21
theorem aX12_readsHand_23 : dc_at cX12_readsHand 23 sX12_readsHand_23 := dc_n1 aX12_readsHand_22
theorem aX12_readsHand_26 : dc_at cX12_readsHand 26 sX12_readsHand_26 := dc_n3 aX12_readsHand_23
theorem aX12_readsHand_27 : dc_at cX12_readsHand 27 sX12_readsHand_27 := dc_n1 aX12_readsHand_26
theorem aX12_readsHand_28 : dc_at cX12_readsHand 28 sX12_readsHand_28 := dc_n1 aX12_readsHand_27
theorem aX12_readsHand_30 : dc_at cX12_readsHand 30 sX12_readsHand_30 := dc_n2 aX12_readsHand_28
theorem aX12_readsHand_33 : dc_at cX12_readsHand 33 sX12_readsHand_33 := dc_n3 aX12_readsHand_30
theorem aX12_readsHand_34 : dc_at cX12_readsHand 34 sX12_readsHand_34 := dc_n1 aX12_readsHand_33
theorem aX12_readsHand_35 : dc_at cX12_readsHand 35 sX12_readsHand_35 := dc_n1 aX12_readsHand_34
theorem aX12_readsHand_37 : dc_at cX12_readsHand 37 sX12_readsHand_37 := dc_n2 aX12_readsHand_35
theorem aX12_readsHand_38 : dc_at cX12_readsHand 38 sX12_readsHand_38 := dc_n1 aX12_readsHand_37
theorem aX12_readsHand_40 : dc_at cX12_readsHand 40 sX12_readsHand_40 := dc_n2 aX12_readsHand_38
theorem aX12_readsHand_43 : dc_at cX12_readsHand 43 sX12_readsHand_43 := dc_n3 aX12_readsHand_40
theorem aX12_readsHand_44 : dc_at cX12_readsHand 44 sX12_readsHand_44 := dc_n1 aX12_readsHand_43
theorem aX12_readsHand_45 : dc_at cX12_readsHand 45 sX12_readsHand_45 := dc_n1 aX12_readsHand_44
theorem aX12_readsHand_48 : dc_at cX12_readsHand 48 sX12_readsHand_48 := dc_n3 aX12_readsHand_45
theorem aX12_readsHand_51 : dc_at cX12_readsHand 51 sX12_readsHand_51 := dc_n3 aX12_readsHand_48
theorem aX12_readsHand_52 : dc_at cX12_readsHand 52 sX12_readsHand_52 := dc_n1 aX12_readsHand_51
theorem aX12_readsHand_53 : dc_at cX12_readsHand 53 sX12_readsHand_53 := dc_n1 aX12_readsHand_52
theorem aX12_readsHand_56 : dc_at cX12_readsHand 56 sX12_readsHand_56 := dc_n3 aX12_readsHand_53
theorem aX12_readsHand_57 : dc_at cX12_readsHand 57 sX12_readsHand_57 := dc_n1 aX12_readsHand_56
theorem aX12_readsHand_60 : dc_at cX12_readsHand 60 sX12_readsHand_60 := dc_n3 aX12_readsHand_57
theorem aX12_readsHand_61 : dc_at cX12_readsHand 61 sX12_readsHand_61 := dc_n1 aX12_readsHand_60
theorem aX12_readsHand_62 : dc_at cX12_readsHand 62 sX12_readsHand_62 := dc_n1 aX12_readsHand_61
theorem aX12_readsHand_63 : dc_at cX12_readsHand 63 sX12_readsHand_63 := dc_n1 aX12_readsHand_62
theorem aX12_readsHand_66 : dc_at cX12_readsHand 66 sX12_readsHand_66 := dc_n3 aX12_readsHand_63
theorem aX12_readsHand_67 : dc_at cX12_readsHand 67 sX12_readsHand_67 := dc_n1 aX12_readsHand_66
theorem aX12_readsHand_70 : dc_at cX12_readsHand 70 sX12_readsHand_70 := dc_n3 aX12_readsHand_67
theorem aX12_readsHand_71 : dc_at cX12_readsHand 71 sX12_readsHand_71 := dc_n1 aX12_readsHand_70
theorem aX12_readsHand_72 : dc_at cX12_readsHand 72 sX12_readsHand_72 := dc_n1 aX12_readsHand_71
theorem aX12_readsHand_73 : dc_at cX12_readsHand 73 sX12_readsHand_73 := dc_n1 aX12_readsHand_72
theorem aX12_readsHand_74 : dc_at cX12_readsHand 74 sX12_readsHand_74 := dc_n1 aX12_readsHand_73
theorem aX12_readsHand_77 : dc_at cX12_readsHand 77 sX12_readsHand_77 := dc_n3 aX12_readsHand_74
theorem aX12_readsHand_78 : dc_at cX12_readsHand 78 sX12_readsHand_78 := dc_n1 aX12_readsHand_77
theorem aX12_readsHand_79 : dc_at cX12_readsHand 79 sX12_readsHand_79 := dc_n1 aX12_readsHand_78
theorem aX12_readsHand_82 : dc_at cX12_readsHand 82 sX12_readsHand_82 := dc_n3 aX12_readsHand_79
theorem dX12_readsHand_0 : decode cX12_readsHand 0 = .ok (.aload_n 0, 1) := dc_42 aX12_readsHand_0
theorem dX12_readsHand_1 : decode cX12_readsHand 1 = .ok (.getfield 222, 3) := dc_180 (a0 := 0) (b0 := 222) aX12_readsHand_1
theorem dX12_readsHand_4 : decode cX12_readsHand 4 = .ok (.bipush 30, 2) := dc_16 (a0 := 30) aX12_readsHand_4 (by decide)
theorem dX12_readsHand_6 : decode cX12_readsHand 6 = .ok (.if_icmp .ne 8, 3) := dc_160 (a0 := 0) (b0 := 8) aX12_readsHand_6 (by decide)
theorem dX12_readsHand_9 : decode cX12_readsHand 9 = .ok (.aload_n 0, 1) := dc_42 aX12_readsHand_9
theorem dX12_readsHand_10 : decode cX12_readsHand 10 = .ok (.iconst 2, 1) := dc_5 aX12_readsHand_10
theorem dX12_readsHand_11 : decode cX12_readsHand 11 = .ok (.invokevirtual 190, 3) := dc_182 (a0 := 0) (b0 := 190) aX12_readsHand_11
theorem dX12_readsHand_14 : decode cX12_readsHand 14 = .ok (.aload_n 0, 1) := dc_42 aX12_readsHand_14
theorem dX12_readsHand_15 : decode cX12_readsHand 15 = .ok (.invokevirtual 183, 3) := dc_182 (a0 := 0) (b0 := 183) aX12_readsHand_15
theorem dX12_readsHand_18 : decode cX12_readsHand 18 = .ok (.ifCond .ne 4, 3) := dc_154 (a0 := 0) (b0 := 4) aX12_readsHand_18 (by decide)
theorem dX12_readsHand_21 : decode cX12_readsHand 21 = .ok (.return_, 1) := dc_177 aX12_readsHand_21
theorem dX12_readsHand_22 : decode cX12_readsHand 22 = .ok (.aload_n 0, 1) := dc_42 aX12_readsHand_22
theorem dX12_readsHand_23 : decode cX12_readsHand 23 = .ok (.invokevirtual 187, 3) := dc_182 (a0 := 0) (b0 := 187) aX12_readsHand_23
theorem dX12_readsHand_26 : decode cX12_readsHand 26 = .ok (.aload_n 0, 1) := dc_42 aX12_readsHand_26
theorem dX12_readsHand_27 : decode cX12_readsHand 27 = .ok (.iconst 0, 1) := dc_3 aX12_readsHand_27
theorem dX12_readsHand_28 : decode cX12_readsHand 28 = .ok (.bipush 29, 2) := dc_16 (a0 := 29) aX12_readsHand_28 (by decide)
theorem dX12_readsHand_30 : decode cX12_readsHand 30 = .ok (.invokevirtual 201, 3) := dc_182 (a0 := 0) (b0 := 201) aX12_readsHand_30
theorem dX12_readsHand_33 : decode cX12_readsHand 33 = .ok (.istore_n 1, 1) := dc_60 aX12_readsHand_33
theorem dX12_readsHand_34 : decode cX12_readsHand 34 = .ok (.aload_n 0, 1) := dc_42 aX12_readsHand_34
theorem dX12_readsHand_35 : decode cX12_readsHand 35 = .ok (.bipush 18, 2) := dc_16 (a0 := 18) aX12_readsHand_35 (by decide)
theorem dX12_readsHand_37 : decode cX12_readsHand 37 = .ok (.iconst 0, 1) := dc_3 aX12_readsHand_37
theorem dX12_readsHand_38 : decode cX12_readsHand 38 = .ok (.bipush 29, 2) := dc_16 (a0 := 29) aX12_readsHand_38 (by decide)
theorem dX12_readsHand_40 : decode cX12_readsHand 40 = .ok (.invokevirtual 213, 3) := dc_182 (a0 := 0) (b0 := 213) aX12_readsHand_40
theorem dX12_readsHand_43 : decode cX12_readsHand 43 = .ok (.istore_n 2, 1) := dc_61 aX12_readsHand_43
theorem dX12_readsHand_44 : decode cX12_readsHand 44 = .ok (.aload_n 0, 1) := dc_42 aX12_readsHand_44
theorem dX12_readsHand_45 : decode cX12_readsHand 45 = .ok (.invokevirtual 183, 3) := dc_182 (a0 := 0) (b0 := 183) aX12_readsHand_45
theorem dX12_readsHand_48 : decode cX12_readsHand 48 = .ok (.ifCond .ne 4, 3) := dc_154 (a0 := 0) (b0 := 4) aX12_readsHand_48 (by decide)
theorem dX12_readsHand_51 : decode cX12_readsHand 51 = .ok (.return_, 1) := dc_177 aX12_readsHand_51
theorem dX12_readsHand_52 : decode cX12_readsHand 52 = .ok (.aload_n 0, 1) := dc_42 aX12_readsHand_52
theorem dX12_readsHand_53 : decode cX12_readsHand 53 = .ok (.getfield 59, 3) := dc_180 (a0 := 0) (b0 := 59) aX12_readsHand_53
theorem dX12_readsHand_56 : decode cX12_readsHand 56 = .ok (.aload_n 0, 1) := dc_42 aX12_readsHand_56
theorem dX12_readsHand_57 : decode cX12_readsHand 57 = .ok (.getfield 222, 3) := dc_180 (a0 := 0) (b0 := 222) aX12_readsHand_57
theorem dX12_readsHand_60 : decode cX12_readsHand 60 = .ok (.iload_n 1, 1) := dc_27 aX12_readsHand_60
theorem dX12_readsHand_61 : decode cX12_readsHand 61 = .ok (.iastore, 1) := dc_79 aX12_readsHand_61
theorem dX12_readsHand_62 : decode cX12_readsHand 62 = .ok (.aload_n 0, 1) := dc_42 aX12_readsHand_62
theorem dX12_readsHand_63 : decode cX12_readsHand 63 = .ok (.getfield 56, 3) := dc_180 (a0 := 0) (b0 := 56) aX12_readsHand_63
theorem dX12_readsHand_66 : decode cX12_readsHand 66 = .ok (.aload_n 0, 1) := dc_42 aX12_readsHand_66
theorem dX12_readsHand_67 : decode cX12_readsHand 67 = .ok (.getfield 222, 3) := dc_180 (a0 := 0) (b0 := 222) aX12_readsHand_67
theorem dX12_readsHand_70 : decode cX12_readsHand 70 = .ok (.iload_n 2, 1) := dc_28 aX12_readsHand_70
theorem dX12_readsHand_71 : decode cX12_readsHand 71 = .ok (.iastore, 1) := dc_79 aX12_readsHand_71
theorem dX12_readsHand_72 : decode cX12_readsHand 72 = .ok (.aload_n 0, 1) := dc_42 aX12_readsHand_72
theorem dX12_readsHand_73 : decode cX12_readsHand 73 = .ok (.dup, 1) := dc_89 aX12_readsHand_73
theorem dX12_readsHand_74 : decode cX12_readsHand 74 = .ok (.getfield 222, 3) := dc_180 (a0 := 0) (b0 := 222) aX12_readsHand_74
theorem dX12_readsHand_77 : decode cX12_readsHand 77 = .ok (.iconst 1, 1) := dc_4 aX12_readsHand_77
theorem dX12_readsHand_78 : decode cX12_readsHand 78 = .ok (.iadd, 1) := dc_96 aX12_readsHand_78
theorem dX12_readsHand_79 : decode cX12_readsHand 79 = .ok (.putfield 222, 3) := dc_181 (a0 := 0) (b0 := 222) aX12_readsHand_79
theorem dX12_readsHand_82 : decode cX12_readsHand 82 = .ok (.return_, 1) := dc_177 aX12_readsHand_82
noncomputable def sX12_copies_20 : List Nat := 177 :: []
noncomputable def sX12_copies_17 : List Nat := 167 :: 255 :: 241 :: sX12_copies_20
noncomputable def sX12_copies_14 : List Nat := 132 :: 3 :: 1 :: sX12_copies_17
noncomputable def sX12_copies_13 : List Nat := 79 :: sX12_copies_14
noncomputable def sX12_copies_12 : List Nat := 46 :: sX12_copies_13
noncomputable def sX12_copies_11 : List Nat := 29 :: sX12_copies_12
noncomputable def sX12_copies_10 : List Nat := 43 :: sX12_copies_11
noncomputable def sX12_copies_9 : List Nat := 29 :: sX12_copies_10
noncomputable def sX12_copies_8 : List Nat := 44 :: sX12_copies_9
noncomputable def sX12_copies_5 : List Nat := 162 :: 0 :: 15 :: sX12_copies_8
noncomputable def sX12_copies_4 : List Nat := 190 :: sX12_copies_5
noncomputable def sX12_copies_3 : List Nat := 43 :: sX12_copies_4
noncomputable def sX12_copies_2 : List Nat := 29 :: sX12_copies_3
noncomputable def sX12_copies_1 : List Nat := 62 :: sX12_copies_2
noncomputable def sX12_copies_0 : List Nat := 3 :: sX12_copies_1
theorem aX12_copies_0 : dc_at cX12_copies 0 sX12_copies_0 := dc_base (by decide +kernel)
theorem aX12_copies_1 : dc_at cX12_copies 1 sX12_copies_1 := dc_n1 aX12_copies_0
theorem aX12_copies_2 : dc_at cX12_copies 2 sX12_copies_2 := dc_n1 aX12_copies_1
theorem aX12_copies_3 : dc_at cX12_copies 3 sX12_copies_3 := dc_n1 aX12_copies_2
theorem aX12_copies_4 : dc_at cX12_copies 4 sX12_copies_4 := dc_n1 aX12_copies_3
theorem aX12_copies_5 : dc_at cX12_copies 5 sX12_copies_5 := dc_n1 aX12_copies_4
theorem aX12_copies_8 : dc_at cX12_copies 8 sX12_copies_8 := dc_n3 aX12_copies_5
theorem aX12_copies_9 : dc_at cX12_copies 9 sX12_copies_9 := dc_n1 aX12_copies_8
theorem aX12_copies_10 : dc_at cX12_copies 10 sX12_copies_10 := dc_n1 aX12_copies_9
theorem aX12_copies_11 : dc_at cX12_copies 11 sX12_copies_11 := dc_n1 aX12_copies_10
theorem aX12_copies_12 : dc_at cX12_copies 12 sX12_copies_12 := dc_n1 aX12_copies_11
theorem aX12_copies_13 : dc_at cX12_copies 13 sX12_copies_13 := dc_n1 aX12_copies_12
theorem aX12_copies_14 : dc_at cX12_copies 14 sX12_copies_14 := dc_n1 aX12_copies_13
theorem aX12_copies_17 : dc_at cX12_copies 17 sX12_copies_17 := dc_n3 aX12_copies_14
theorem aX12_copies_20 : dc_at cX12_copies 20 sX12_copies_20 := dc_n3 aX12_copies_17
theorem dX12_copies_0 : decode cX12_copies 0 = .ok (.iconst 0, 1) := dc_3 aX12_copies_0
theorem dX12_copies_1 : decode cX12_copies 1 = .ok (.istore_n 3, 1) := dc_62 aX12_copies_1
theorem dX12_copies_2 : decode cX12_copies 2 = .ok (.iload_n 3, 1) := dc_29 aX12_copies_2
theorem dX12_copies_3 : decode cX12_copies 3 = .ok (.aload_n 1, 1) := dc_43 aX12_copies_3
theorem dX12_copies_4 : decode cX12_copies 4 = .ok (.arraylength, 1) := dc_190 aX12_copies_4
theorem dX12_copies_5 : decode cX12_copies 5 = .ok (.if_icmp .ge 15, 3) := dc_162 (a0 := 0) (b0 := 15) aX12_copies_5 (by decide)
theorem dX12_copies_8 : decode cX12_copies 8 = .ok (.aload_n 2, 1) := dc_44 aX12_copies_8
theorem dX12_copies_9 : decode cX12_copies 9 = .ok (.iload_n 3, 1) := dc_29 aX12_copies_9
theorem dX12_copies_10 : decode cX12_copies 10 = .ok (.aload_n 1, 1) := dc_43 aX12_copies_10
theorem dX12_copies_11 : decode cX12_copies 11 = .ok (.iload_n 3, 1) := dc_29 aX12_copies_11
theorem dX12_copies_12 : decode cX12_copies 12 = .ok (.iaload, 1) := dc_46 aX12_copies_12
theorem dX12_copies_13 : decode cX12_copies 13 = .ok (.iastore, 1) := dc_79 aX12_copies_13
theorem dX12_copies_14 : decode cX12_copies 14 = .ok (.iinc 3 1, 3) := dc_132 (a0 := 3) (a1 := 1) aX12_copies_14 (by decide)
theorem dX12_copies_17 : decode cX12_copies 17 = .ok (.goto (-15), 3) := dc_167 (a0 := 255) (b0 := 241) aX12_copies_17 (by decide)
theorem dX12_copies_20 : decode cX12_copies 20 = .ok (.return_, 1) := dc_177 aX12_copies_20
set_option maxRecDepth 20000 in
theorem ggX12_house_X12_begins : GoodIn wsX12_house wsX12_begins := goodIn_k _ [[27, 0], [1, 0, 26], [22, 7, 0, 0, 0, 0], [26, 8, 0, 0, 0, 0, 0, 0, 0], [21, 21, 0, 0, 0, 0, 0, 0, 0, 0, 0, 0, 0, 48, 0, 0, 0, 0, 0, 0, 0, 0, 0, 0, 0, 0, 0, 0, 0, 0, 0, 0, 0, 0, 0, 0, 0, 0, 0, 0, 0, 0, 0, 0, 0, 0, 0, 0, 0, 0, 0, 0, 0, 0, 0, 0, 0, 0, 0, 0, 0, 0, 0, 0, 0, 0, 0, 0, 0, 0, 0]] (by rfl) (by decide +kernel)
set_option maxRecDepth 20000 in
theorem gX12_house_X12_begins : GoodIn wsX12_house (wsV RX12 225 RX12 yX12_begins wsX12_begins) := goodIn_app (goodIn_of _ (by decide +kernel)) ggX12_house_X12_begins
set_option maxRecDepth 20000 in
theorem ggX12_house_X12_copies : GoodIn wsX12_house wsX12_copies := goodIn_k _ [[58]] (by rfl) (by decide +kernel)
set_option maxRecDepth 20000 in
theorem gX12_house_X12_copies : GoodIn wsX12_house (wsV RX12 234 RX12 yX12_copies wsX12_copies) := goodIn_app (goodIn_of _ (by decide +kernel)) ggX12_house_X12_copies
set_option maxRecDepth 20000 in
theorem ggX12_house_X12_isGood : GoodIn wsX12_house wsX12_isGood := goodIn_k _ [[62], [22, 80, 0, 0, 0, 0, 0, 0, 0, 0, 0, 0, 0, 0, 0, 0, 0, 0, 0, 0, 0, 0, 0, 0, 0, 0, 0, 0, 0, 0, 0, 0, 0, 0, 0, 0, 0, 0, 0, 0, 0, 0, 0, 0, 0, 0, 0, 0, 0, 0, 0, 0, 0, 0, 0, 0, 0, 0, 0]] (by rfl) (by decide +kernel)
set_option maxRecDepth 20000 in
theorem gX12_house_X12_isGood : GoodIn wsX12_house (wsV RX12 183 RX12 yX12_isGood wsX12_isGood) := goodIn_app (goodIn_of _ (by decide +kernel)) ggX12_house_X12_isGood
set_option maxRecDepth 20000 in
theorem ggX12_house_X12_knownWord : GoodIn wsX12_house wsX12_knownWord := goodIn_k _ [[66], [21, 21], [41, 25, 0], [26, 42, 0, 0, 0, 30, 0, 0, 0, 0, 0, 0, 0, 0, 0, 0, 0, 0, 0, 0, 0, 0, 0, 0, 0, 0, 0, 0, 0, 0, 0, 0, 0, 0, 0, 0, 0, 0, 0, 0, 0, 0, 0, 0, 0, 0, 0, 0, 0, 0, 0, 0, 0, 0, 0, 0, 0, 0, 0, 0, 0, 0, 0]] (by rfl) (by decide +kernel)
set_option maxRecDepth 20000 in
theorem gX12_house_X12_knownWord : GoodIn wsX12_house (wsV RX12 193 RX12 yX12_knownWord wsX12_knownWord) := goodIn_app (goodIn_of _ (by decide +kernel)) ggX12_house_X12_knownWord
set_option maxRecDepth 20000 in
theorem ggX12_house_X12_readsSet : GoodIn wsX12_house wsX12_readsSet := goodIn_k _ [[76, 0, 0], [8, 1, 1, 1, 21, 0, 0], [26, 12], [31], [30, 9, 0, 0], [21, 21, 0, 0, 0, 0, 0, 0, 0, 0, 0, 0, 0, 24, 0, 0, 0], [59, 0, 0, 0], [22, 60, 0, 0, 0], [29, 33, 0, 0, 0, 0, 0, 0, 0, 0, 0, 14, 0, 0, 0, 0, 0, 0, 0, 8, 0, 0, 0, 0, 0, 0, 0, 0, 0, 0, 0, 0, 0, 0, 0, 0, 0, 0, 0, 0, 0, 0, 0, 0, 0, 0, 0, 0, 0, 0, 0, 0, 0, 0, 0, 0, 0, 0, 0, 0, 0, 0, 0, 0, 0, 0, 0, 0, 0, 0, 0, 0, 0, 0, 0, 0, 0]] (by rfl) (by decide +kernel)
set_option maxRecDepth 20000 in
theorem gX12_house_X12_readsSet : GoodIn wsX12_house (wsV RX12 238 RX12 yX12_readsSet wsX12_readsSet) := goodIn_app (goodIn_of _ (by decide +kernel)) ggX12_house_X12_readsSet
set_option maxRecDepth 20000 in
theorem ggX12_house_X12_readsClimate : GoodIn wsX12_house wsX12_readsClimate := goodIn_k _ [[98], [4, 16, 21], [42], [16, 66, 0, 0], [26, 59], [22, 17], [29, 29, 0, 0, 0], [36, 0, 0, 0], [31], [30, 10, 2, 0, 0, 0, 0, 0, 0, 0, 0, 0, 0, 24, 0, 0, 0, 20, 0, 0, 0, 0, 0, 0, 0, 0, 0, 0, 0, 0, 0, 0, 0, 0, 0, 0, 0, 0, 0, 0, 0, 0, 0, 0, 0, 0, 0, 0, 0, 0, 0, 0, 0, 0, 0, 0, 0, 0, 0, 0, 0, 0, 0, 0, 0, 0, 0, 0, 0, 0, 0, 0, 0, 0, 0]] (by rfl) (by decide +kernel)
set_option maxRecDepth 20000 in
theorem gX12_house_X12_readsClimate : GoodIn wsX12_house (wsV RX12 241 RX12 yX12_readsClimate wsX12_readsClimate) := goodIn_app (goodIn_of _ (by decide +kernel)) ggX12_house_X12_readsClimate
set_option maxRecDepth 20000 in
theorem ggX12_house_X12_readsHand : GoodIn wsX12_house wsX12_readsHand := goodIn_k _ [[102], [6, 13], [18, 64, 0, 0], [26, 59], [22, 17], [29, 29, 0, 0, 0], [36, 0, 0, 0], [31], [30, 10, 0], [21, 21, 0, 0, 0, 0, 0, 0, 0, 0, 0, 0, 0, 24, 0, 0, 0, 8, 0, 0, 0], [63, 0, 0, 0, 0, 0, 0, 0, 0, 0, 14, 0, 0, 0, 12, 0, 0, 0, 0, 0, 0, 0, 0, 0, 0, 0, 0, 0, 0, 0, 0, 0, 0, 0, 0, 0, 0, 0, 0, 0, 0, 0, 0, 0, 0, 0, 0, 0, 0, 0, 0, 0, 0, 0, 0, 0, 0, 0, 0, 0, 0, 0, 0, 0, 0, 0, 0, 0, 0, 0, 0, 0]] (by rfl) (by decide +kernel)
set_option maxRecDepth 20000 in
theorem gX12_house_X12_readsHand : GoodIn wsX12_house (wsV RX12 244 RX12 yX12_readsHand wsX12_readsHand) := goodIn_app (goodIn_of _ (by decide +kernel)) ggX12_house_X12_readsHand
set_option maxRecDepth 20000 in
theorem ggX12_house_X12_wrong : GoodIn wsX12_house wsX12_wrong := goodIn_k _ [[86], [22, 17], [29, 73, 0, 0, 0, 0, 0, 0, 0, 0, 0, 0, 0, 0, 0, 0, 0, 0, 0, 0, 0, 0, 0, 0, 0, 0, 0, 0, 0, 0, 0, 0, 0, 0, 0, 0, 0, 0, 0, 0, 0, 0, 0, 0, 0, 0, 0, 0, 0, 0, 0, 0, 0, 0, 0, 0, 0, 0, 0]] (by rfl) (by decide +kernel)
set_option maxRecDepth 20000 in
theorem gX12_house_X12_wrong : GoodIn wsX12_house (wsV RX12 190 RX12 yX12_wrong wsX12_wrong) := goodIn_app (goodIn_of _ (by decide +kernel)) ggX12_house_X12_wrong
set_option maxRecDepth 20000 in
theorem ggX12_house_X12_need : GoodIn wsX12_house wsX12_need := goodIn_k _ [[90], [59, 0, 0], [26, 35], [22, 13, 0, 0, 0], [31], [30, 9, 0, 0], [21, 21, 0, 0, 0, 0, 0, 0, 0, 0, 0, 0, 0, 28, 0, 0, 0], [29, 73, 0, 0, 0, 0, 0, 0, 0, 0, 0, 0, 0, 0, 0, 0, 0, 0, 0, 0, 0, 0, 0, 0, 0, 0, 0, 0, 0, 0, 0, 0, 0, 0, 0, 0, 0, 0, 0, 0, 0, 0, 0, 0, 0, 0, 0, 0, 0, 0, 0, 0, 0, 0, 0, 0, 0, 0, 0]] (by rfl) (by decide +kernel)
set_option maxRecDepth 20000 in
theorem gX12_house_X12_need : GoodIn wsX12_house (wsV RX12 197 RX12 yX12_need wsX12_need) := goodIn_app (goodIn_of _ (by decide +kernel)) ggX12_house_X12_need
noncomputable def sX12_house_316 : List Nat := 172 :: []
noncomputable def sX12_house_315 : List Nat := 3 :: sX12_house_316
noncomputable def sX12_house_312 : List Nat := 182 :: 0 :: 234 :: sX12_house_315
noncomputable def sX12_house_309 : List Nat := 180 :: 0 :: 28 :: sX12_house_312
noncomputable def sX12_house_308 : List Nat := 42 :: sX12_house_309
noncomputable def sX12_house_305 : List Nat := 180 :: 0 :: 59 :: sX12_house_308
noncomputable def sX12_house_304 : List Nat := 42 :: sX12_house_305
noncomputable def sX12_house_303 : List Nat := 42 :: sX12_house_304
noncomputable def sX12_house_300 : List Nat := 182 :: 0 :: 234 :: sX12_house_303
noncomputable def sX12_house_297 : List Nat := 180 :: 0 :: 25 :: sX12_house_300
noncomputable def sX12_house_296 : List Nat := 42 :: sX12_house_297
noncomputable def sX12_house_293 : List Nat := 180 :: 0 :: 56 :: sX12_house_296
noncomputable def sX12_house_292 : List Nat := 42 :: sX12_house_293
noncomputable def sX12_house_291 : List Nat := 42 :: sX12_house_292
noncomputable def sX12_house_288 : List Nat := 182 :: 0 :: 234 :: sX12_house_291
noncomputable def sX12_house_285 : List Nat := 180 :: 0 :: 22 :: sX12_house_288
noncomputable def sX12_house_284 : List Nat := 42 :: sX12_house_285
noncomputable def sX12_house_281 : List Nat := 180 :: 0 :: 53 :: sX12_house_284
noncomputable def sX12_house_280 : List Nat := 42 :: sX12_house_281
noncomputable def sX12_house_279 : List Nat := 42 :: sX12_house_280
noncomputable def sX12_house_276 : List Nat := 182 :: 0 :: 234 :: sX12_house_279
noncomputable def sX12_house_273 : List Nat := 180 :: 0 :: 19 :: sX12_house_276
noncomputable def sX12_house_272 : List Nat := 42 :: sX12_house_273
noncomputable def sX12_house_269 : List Nat := 180 :: 0 :: 50 :: sX12_house_272
noncomputable def sX12_house_268 : List Nat := 42 :: sX12_house_269
noncomputable def sX12_house_267 : List Nat := 42 :: sX12_house_268
noncomputable def sX12_house_264 : List Nat := 182 :: 0 :: 234 :: sX12_house_267
noncomputable def sX12_house_261 : List Nat := 180 :: 0 :: 16 :: sX12_house_264
noncomputable def sX12_house_260 : List Nat := 42 :: sX12_house_261
noncomputable def sX12_house_257 : List Nat := 180 :: 0 :: 47 :: sX12_house_260
noncomputable def sX12_house_256 : List Nat := 42 :: sX12_house_257
noncomputable def sX12_house_255 : List Nat := 42 :: sX12_house_256
noncomputable def sX12_house_252 : List Nat := 182 :: 0 :: 234 :: sX12_house_255
noncomputable def sX12_house_249 : List Nat := 180 :: 0 :: 13 :: sX12_house_252
noncomputable def sX12_house_248 : List Nat := 42 :: sX12_house_249
noncomputable def sX12_house_245 : List Nat := 180 :: 0 :: 44 :: sX12_house_248
noncomputable def sX12_house_244 : List Nat := 42 :: sX12_house_245
noncomputable def sX12_house_243 : List Nat := 42 :: sX12_house_244
noncomputable def sX12_house_240 : List Nat := 182 :: 0 :: 234 :: sX12_house_243
noncomputable def sX12_house_237 : List Nat := 180 :: 0 :: 7 :: sX12_house_240
noncomputable def sX12_house_236 : List Nat := 42 :: sX12_house_237
noncomputable def sX12_house_233 : List Nat := 180 :: 0 :: 41 :: sX12_house_236
noncomputable def sX12_house_232 : List Nat := 42 :: sX12_house_233
noncomputable def sX12_house_231 : List Nat := 42 :: sX12_house_232
noncomputable def sX12_house_228 : List Nat := 181 :: 0 :: 231 :: sX12_house_231
noncomputable def sX12_house_225 : List Nat := 180 :: 0 :: 222 :: sX12_house_228
noncomputable def sX12_house_224 : List Nat := 42 :: sX12_house_225
noncomputable def sX12_house_223 : List Nat := 42 :: sX12_house_224
noncomputable def sX12_house_220 : List Nat := 181 :: 0 :: 228 :: sX12_house_223
noncomputable def sX12_house_217 : List Nat := 180 :: 0 :: 219 :: sX12_house_220
noncomputable def sX12_house_216 : List Nat := 42 :: sX12_house_217
noncomputable def sX12_house_215 : List Nat := 42 :: sX12_house_216
noncomputable def sX12_house_214 : List Nat := 172 :: sX12_house_215
noncomputable def sX12_house_211 : List Nat := 180 :: 0 :: 180 :: sX12_house_214
noncomputable def sX12_house_210 : List Nat := 42 :: sX12_house_211
noncomputable def sX12_house_207 : List Nat := 154 :: 0 :: 8 :: sX12_house_210
noncomputable def sX12_house_204 : List Nat := 182 :: 0 :: 183 :: sX12_house_207
noncomputable def sX12_house_203 : List Nat := 42 :: sX12_house_204
noncomputable def sX12_house_200 : List Nat := 167 :: 255 :: 176 :: sX12_house_203
noncomputable def sX12_house_197 : List Nat := 182 :: 0 :: 197 :: sX12_house_200
noncomputable def sX12_house_196 : List Nat := 3 :: sX12_house_197
noncomputable def sX12_house_193 : List Nat := 167 :: 0 :: 4 :: sX12_house_196
noncomputable def sX12_house_192 : List Nat := 4 :: sX12_house_193
noncomputable def sX12_house_189 : List Nat := 160 :: 0 :: 7 :: sX12_house_192
noncomputable def sX12_house_188 : List Nat := 6 :: sX12_house_189
noncomputable def sX12_house_185 : List Nat := 180 :: 0 :: 159 :: sX12_house_188
noncomputable def sX12_house_184 : List Nat := 42 :: sX12_house_185
noncomputable def sX12_house_183 : List Nat := 42 :: sX12_house_184
noncomputable def sX12_house_180 : List Nat := 182 :: 0 :: 190 :: sX12_house_183
noncomputable def sX12_house_179 : List Nat := 4 :: sX12_house_180
noncomputable def sX12_house_178 : List Nat := 42 :: sX12_house_179
noncomputable def sX12_house_175 : List Nat := 167 :: 0 :: 8 :: sX12_house_178
noncomputable def sX12_house_172 : List Nat := 182 :: 0 :: 244 :: sX12_house_175
noncomputable def sX12_house_171 : List Nat := 42 :: sX12_house_172
noncomputable def sX12_house_168 : List Nat := 160 :: 0 :: 10 :: sX12_house_171
noncomputable def sX12_house_166 : List Nat := 16 :: 17 :: sX12_house_168
noncomputable def sX12_house_165 : List Nat := 28 :: sX12_house_166
noncomputable def sX12_house_162 : List Nat := 167 :: 0 :: 21 :: sX12_house_165
noncomputable def sX12_house_159 : List Nat := 182 :: 0 :: 241 :: sX12_house_162
noncomputable def sX12_house_158 : List Nat := 42 :: sX12_house_159
noncomputable def sX12_house_155 : List Nat := 160 :: 0 :: 10 :: sX12_house_158
noncomputable def sX12_house_153 : List Nat := 16 :: 16 :: sX12_house_155
noncomputable def sX12_house_152 : List Nat := 28 :: sX12_house_153
noncomputable def sX12_house_149 : List Nat := 167 :: 0 :: 34 :: sX12_house_152
noncomputable def sX12_house_146 : List Nat := 182 :: 0 :: 238 :: sX12_house_149
noncomputable def sX12_house_145 : List Nat := 42 :: sX12_house_146
noncomputable def sX12_house_142 : List Nat := 160 :: 0 :: 10 :: sX12_house_145
noncomputable def sX12_house_140 : List Nat := 16 :: 11 :: sX12_house_142
noncomputable def sX12_house_139 : List Nat := 28 :: sX12_house_140
noncomputable def sX12_house_138 : List Nat := 61 :: sX12_house_139
noncomputable def sX12_house_135 : List Nat := 182 :: 0 :: 193 :: sX12_house_138
noncomputable def sX12_house_134 : List Nat := 42 :: sX12_house_135
noncomputable def sX12_house_131 : List Nat := 153 :: 0 :: 72 :: sX12_house_134
noncomputable def sX12_house_128 : List Nat := 180 :: 0 :: 159 :: sX12_house_131
noncomputable def sX12_house_127 : List Nat := 42 :: sX12_house_128
noncomputable def sX12_house_124 : List Nat := 153 :: 0 :: 79 :: sX12_house_127
noncomputable def sX12_house_121 : List Nat := 182 :: 0 :: 183 :: sX12_house_124
noncomputable def sX12_house_120 : List Nat := 42 :: sX12_house_121
noncomputable def sX12_house_117 : List Nat := 182 :: 0 :: 234 :: sX12_house_120
noncomputable def sX12_house_114 : List Nat := 180 :: 0 :: 59 :: sX12_house_117
noncomputable def sX12_house_113 : List Nat := 42 :: sX12_house_114
noncomputable def sX12_house_110 : List Nat := 180 :: 0 :: 28 :: sX12_house_113
noncomputable def sX12_house_109 : List Nat := 42 :: sX12_house_110
noncomputable def sX12_house_108 : List Nat := 42 :: sX12_house_109
noncomputable def sX12_house_105 : List Nat := 182 :: 0 :: 234 :: sX12_house_108
noncomputable def sX12_house_102 : List Nat := 180 :: 0 :: 56 :: sX12_house_105
noncomputable def sX12_house_101 : List Nat := 42 :: sX12_house_102
noncomputable def sX12_house_98 : List Nat := 180 :: 0 :: 25 :: sX12_house_101
noncomputable def sX12_house_97 : List Nat := 42 :: sX12_house_98
noncomputable def sX12_house_96 : List Nat := 42 :: sX12_house_97
noncomputable def sX12_house_93 : List Nat := 182 :: 0 :: 234 :: sX12_house_96
noncomputable def sX12_house_90 : List Nat := 180 :: 0 :: 53 :: sX12_house_93
noncomputable def sX12_house_89 : List Nat := 42 :: sX12_house_90
noncomputable def sX12_house_86 : List Nat := 180 :: 0 :: 22 :: sX12_house_89
noncomputable def sX12_house_85 : List Nat := 42 :: sX12_house_86
noncomputable def sX12_house_84 : List Nat := 42 :: sX12_house_85
noncomputable def sX12_house_81 : List Nat := 182 :: 0 :: 234 :: sX12_house_84
noncomputable def sX12_house_78 : List Nat := 180 :: 0 :: 50 :: sX12_house_81
noncomputable def sX12_house_77 : List Nat := 42 :: sX12_house_78
noncomputable def sX12_house_74 : List Nat := 180 :: 0 :: 19 :: sX12_house_77
noncomputable def sX12_house_73 : List Nat := 42 :: sX12_house_74
noncomputable def sX12_house_72 : List Nat := 42 :: sX12_house_73
noncomputable def sX12_house_69 : List Nat := 182 :: 0 :: 234 :: sX12_house_72
noncomputable def sX12_house_66 : List Nat := 180 :: 0 :: 47 :: sX12_house_69
noncomputable def sX12_house_65 : List Nat := 42 :: sX12_house_66
noncomputable def sX12_house_62 : List Nat := 180 :: 0 :: 16 :: sX12_house_65
noncomputable def sX12_house_61 : List Nat := 42 :: sX12_house_62
noncomputable def sX12_house_60 : List Nat := 42 :: sX12_house_61
noncomputable def sX12_house_57 : List Nat := 182 :: 0 :: 234 :: sX12_house_60
noncomputable def sX12_house_54 : List Nat := 180 :: 0 :: 44 :: sX12_house_57
noncomputable def sX12_house_53 : List Nat := 42 :: sX12_house_54
noncomputable def sX12_house_50 : List Nat := 180 :: 0 :: 13 :: sX12_house_53
noncomputable def sX12_house_49 : List Nat := 42 :: sX12_house_50
noncomputable def sX12_house_48 : List Nat := 42 :: sX12_house_49
noncomputable def sX12_house_45 : List Nat := 182 :: 0 :: 234 :: sX12_house_48
noncomputable def sX12_house_42 : List Nat := 180 :: 0 :: 41 :: sX12_house_45
noncomputable def sX12_house_41 : List Nat := 42 :: sX12_house_42
noncomputable def sX12_house_38 : List Nat := 180 :: 0 :: 7 :: sX12_house_41
noncomputable def sX12_house_37 : List Nat := 42 :: sX12_house_38
noncomputable def sX12_house_36 : List Nat := 42 :: sX12_house_37
noncomputable def sX12_house_33 : List Nat := 181 :: 0 :: 222 :: sX12_house_36
noncomputable def sX12_house_30 : List Nat := 180 :: 0 :: 231 :: sX12_house_33
noncomputable def sX12_house_29 : List Nat := 42 :: sX12_house_30
noncomputable def sX12_house_28 : List Nat := 42 :: sX12_house_29
noncomputable def sX12_house_25 : List Nat := 181 :: 0 :: 219 :: sX12_house_28
noncomputable def sX12_house_22 : List Nat := 180 :: 0 :: 228 :: sX12_house_25
noncomputable def sX12_house_21 : List Nat := 42 :: sX12_house_22
noncomputable def sX12_house_20 : List Nat := 42 :: sX12_house_21
noncomputable def sX12_house_19 : List Nat := 172 :: sX12_house_20
noncomputable def sX12_house_18 : List Nat := 3 :: sX12_house_19
noncomputable def sX12_house_15 : List Nat := 154 :: 0 :: 5 :: sX12_house_18
noncomputable def sX12_house_12 : List Nat := 182 :: 0 :: 225 :: sX12_house_15
noncomputable def sX12_house_11 : List Nat := 27 :: sX12_house_12
noncomputable def sX12_house_10 : List Nat := 42 :: sX12_house_11
noncomputable def sX12_house_7 : List Nat := 181 :: 0 :: 205 :: sX12_house_10
noncomputable def sX12_house_6 : List Nat := 3 :: sX12_house_7
noncomputable def sX12_house_5 : List Nat := 42 :: sX12_house_6
noncomputable def sX12_house_2 : List Nat := 181 :: 0 :: 129 :: sX12_house_5
noncomputable def sX12_house_1 : List Nat := 3 :: sX12_house_2
noncomputable def sX12_house_0 : List Nat := 42 :: sX12_house_1
theorem aX12_house_0 : dc_at cX12_house 0 sX12_house_0 := dc_base (by decide +kernel)
theorem aX12_house_1 : dc_at cX12_house 1 sX12_house_1 := dc_n1 aX12_house_0
theorem aX12_house_2 : dc_at cX12_house 2 sX12_house_2 := dc_n1 aX12_house_1
theorem aX12_house_5 : dc_at cX12_house 5 sX12_house_5 := dc_n3 aX12_house_2
theorem aX12_house_6 : dc_at cX12_house 6 sX12_house_6 := dc_n1 aX12_house_5
theorem aX12_house_7 : dc_at cX12_house 7 sX12_house_7 := dc_n1 aX12_house_6
theorem aX12_house_10 : dc_at cX12_house 10 sX12_house_10 := dc_n3 aX12_house_7
theorem aX12_house_11 : dc_at cX12_house 11 sX12_house_11 := dc_n1 aX12_house_10
theorem aX12_house_12 : dc_at cX12_house 12 sX12_house_12 := dc_n1 aX12_house_11
theorem aX12_house_15 : dc_at cX12_house 15 sX12_house_15 := dc_n3 aX12_house_12
theorem aX12_house_18 : dc_at cX12_house 18 sX12_house_18 := dc_n3 aX12_house_15
theorem aX12_house_19 : dc_at cX12_house 19 sX12_house_19 := dc_n1 aX12_house_18
theorem aX12_house_20 : dc_at cX12_house 20 sX12_house_20 := dc_n1 aX12_house_19
theorem aX12_house_21 : dc_at cX12_house 21 sX12_house_21 := dc_n1 aX12_house_20
theorem aX12_house_22 : dc_at cX12_house 22 sX12_house_22 := dc_n1 aX12_house_21
theorem aX12_house_25 : dc_at cX12_house 25 sX12_house_25 := dc_n3 aX12_house_22
theorem aX12_house_28 : dc_at cX12_house 28 sX12_house_28 := dc_n3 aX12_house_25
theorem aX12_house_29 : dc_at cX12_house 29 sX12_house_29 := dc_n1 aX12_house_28
theorem aX12_house_30 : dc_at cX12_house 30 sX12_house_30 := dc_n1 aX12_house_29
theorem aX12_house_33 : dc_at cX12_house 33 sX12_house_33 := dc_n3 aX12_house_30
theorem aX12_house_36 : dc_at cX12_house 36 sX12_house_36 := dc_n3 aX12_house_33
theorem aX12_house_37 : dc_at cX12_house 37 sX12_house_37 := dc_n1 aX12_house_36
theorem aX12_house_38 : dc_at cX12_house 38 sX12_house_38 := dc_n1 aX12_house_37
theorem aX12_house_41 : dc_at cX12_house 41 sX12_house_41 := dc_n3 aX12_house_38
theorem aX12_house_42 : dc_at cX12_house 42 sX12_house_42 := dc_n1 aX12_house_41
theorem aX12_house_45 : dc_at cX12_house 45 sX12_house_45 := dc_n3 aX12_house_42
theorem aX12_house_48 : dc_at cX12_house 48 sX12_house_48 := dc_n3 aX12_house_45
theorem aX12_house_49 : dc_at cX12_house 49 sX12_house_49 := dc_n1 aX12_house_48
theorem aX12_house_50 : dc_at cX12_house 50 sX12_house_50 := dc_n1 aX12_house_49
theorem aX12_house_53 : dc_at cX12_house 53 sX12_house_53 := dc_n3 aX12_house_50
theorem aX12_house_54 : dc_at cX12_house 54 sX12_house_54 := dc_n1 aX12_house_53
theorem aX12_house_57 : dc_at cX12_house 57 sX12_house_57 := dc_n3 aX12_house_54
theorem aX12_house_60 : dc_at cX12_house 60 sX12_house_60 := dc_n3 aX12_house_57
theorem aX12_house_61 : dc_at cX12_house 61 sX12_house_61 := dc_n1 aX12_house_60
theorem aX12_house_62 : dc_at cX12_house 62 sX12_house_62 := dc_n1 aX12_house_61
theorem aX12_house_65 : dc_at cX12_house 65 sX12_house_65 := dc_n3 aX12_house_62
theorem aX12_house_66 : dc_at cX12_house 66 sX12_house_66 := dc_n1 aX12_house_65
theorem aX12_house_69 : dc_at cX12_house 69 sX12_house_69 := dc_n3 aX12_house_66
theorem aX12_house_72 : dc_at cX12_house 72 sX12_house_72 := dc_n3 aX12_house_69
theorem aX12_house_73 : dc_at cX12_house 73 sX12_house_73 := dc_n1 aX12_house_72
theorem aX12_house_74 : dc_at cX12_house 74 sX12_house_74 := dc_n1 aX12_house_73
theorem aX12_house_77 : dc_at cX12_house 77 sX12_house_77 := dc_n3 aX12_house_74
theorem aX12_house_78 : dc_at cX12_house 78 sX12_house_78 := dc_n1 aX12_house_77
theorem aX12_house_81 : dc_at cX12_house 81 sX12_house_81 := dc_n3 aX12_house_78
theorem aX12_house_84 : dc_at cX12_house 84 sX12_house_84 := dc_n3 aX12_house_81
theorem aX12_house_85 : dc_at cX12_house 85 sX12_house_85 := dc_n1 aX12_house_84
theorem aX12_house_86 : dc_at cX12_house 86 sX12_house_86 := dc_n1 aX12_house_85
theorem aX12_house_89 : dc_at cX12_house 89 sX12_house_89 := dc_n3 aX12_house_86
theorem aX12_house_90 : dc_at cX12_house 90 sX12_house_90 := dc_n1 aX12_house_89
theorem aX12_house_93 : dc_at cX12_house 93 sX12_house_93 := dc_n3 aX12_house_90
theorem aX12_house_96 : dc_at cX12_house 96 sX12_house_96 := dc_n3 aX12_house_93
theorem aX12_house_97 : dc_at cX12_house 97 sX12_house_97 := dc_n1 aX12_house_96
theorem aX12_house_98 : dc_at cX12_house 98 sX12_house_98 := dc_n1 aX12_house_97
theorem aX12_house_101 : dc_at cX12_house 101 sX12_house_101 := dc_n3 aX12_house_98
theorem aX12_house_102 : dc_at cX12_house 102 sX12_house_102 := dc_n1 aX12_house_101
theorem aX12_house_105 : dc_at cX12_house 105 sX12_house_105 := dc_n3 aX12_house_102
theorem aX12_house_108 : dc_at cX12_house 108 sX12_house_108 := dc_n3 aX12_house_105
theorem aX12_house_109 : dc_at cX12_house 109 sX12_house_109 := dc_n1 aX12_house_108
theorem aX12_house_110 : dc_at cX12_house 110 sX12_house_110 := dc_n1 aX12_house_109
theorem aX12_house_113 : dc_at cX12_house 113 sX12_house_113 := dc_n3 aX12_house_110
theorem aX12_house_114 : dc_at cX12_house 114 sX12_house_114 := dc_n1 aX12_house_113
theorem aX12_house_117 : dc_at cX12_house 117 sX12_house_117 := dc_n3 aX12_house_114
theorem aX12_house_120 : dc_at cX12_house 120 sX12_house_120 := dc_n3 aX12_house_117
theorem aX12_house_121 : dc_at cX12_house 121 sX12_house_121 := dc_n1 aX12_house_120
theorem aX12_house_124 : dc_at cX12_house 124 sX12_house_124 := dc_n3 aX12_house_121
theorem aX12_house_127 : dc_at cX12_house 127 sX12_house_127 := dc_n3 aX12_house_124
theorem aX12_house_128 : dc_at cX12_house 128 sX12_house_128 := dc_n1 aX12_house_127
theorem aX12_house_131 : dc_at cX12_house 131 sX12_house_131 := dc_n3 aX12_house_128
theorem aX12_house_134 : dc_at cX12_house 134 sX12_house_134 := dc_n3 aX12_house_131
theorem aX12_house_135 : dc_at cX12_house 135 sX12_house_135 := dc_n1 aX12_house_134
theorem aX12_house_138 : dc_at cX12_house 138 sX12_house_138 := dc_n3 aX12_house_135
theorem aX12_house_139 : dc_at cX12_house 139 sX12_house_139 := dc_n1 aX12_house_138
theorem aX12_house_140 : dc_at cX12_house 140 sX12_house_140 := dc_n1 aX12_house_139
theorem aX12_house_142 : dc_at cX12_house 142 sX12_house_142 := dc_n2 aX12_house_140
theorem aX12_house_145 : dc_at cX12_house 145 sX12_house_145 := dc_n3 aX12_house_142
theorem aX12_house_146 : dc_at cX12_house 146 sX12_house_146 := dc_n1 aX12_house_145
theorem aX12_house_149 : dc_at cX12_house 149 sX12_house_149 := dc_n3 aX12_house_146
theorem aX12_house_152 : dc_at cX12_house 152 sX12_house_152 := dc_n3 aX12_house_149
theorem aX12_house_153 : dc_at cX12_house 153 sX12_house_153 := dc_n1 aX12_house_152
theorem aX12_house_155 : dc_at cX12_house 155 sX12_house_155 := dc_n2 aX12_house_153
theorem aX12_house_158 : dc_at cX12_house 158 sX12_house_158 := dc_n3 aX12_house_155
theorem aX12_house_159 : dc_at cX12_house 159 sX12_house_159 := dc_n1 aX12_house_158
theorem aX12_house_162 : dc_at cX12_house 162 sX12_house_162 := dc_n3 aX12_house_159
theorem aX12_house_165 : dc_at cX12_house 165 sX12_house_165 := dc_n3 aX12_house_162
theorem aX12_house_166 : dc_at cX12_house 166 sX12_house_166 := dc_n1 aX12_house_165
theorem aX12_house_168 : dc_at cX12_house 168 sX12_house_168 := dc_n2 aX12_house_166
theorem aX12_house_171 : dc_at cX12_house 171 sX12_house_171 := dc_n3 aX12_house_168
theorem aX12_house_172 : dc_at cX12_house 172 sX12_house_172 := dc_n1 aX12_house_171
theorem aX12_house_175 : dc_at cX12_house 175 sX12_house_175 := dc_n3 aX12_house_172
theorem aX12_house_178 : dc_at cX12_house 178 sX12_house_178 := dc_n3 aX12_house_175
theorem aX12_house_179 : dc_at cX12_house 179 sX12_house_179 := dc_n1 aX12_house_178
theorem aX12_house_180 : dc_at cX12_house 180 sX12_house_180 := dc_n1 aX12_house_179
theorem aX12_house_183 : dc_at cX12_house 183 sX12_house_183 := dc_n3 aX12_house_180
theorem aX12_house_184 : dc_at cX12_house 184 sX12_house_184 := dc_n1 aX12_house_183
theorem aX12_house_185 : dc_at cX12_house 185 sX12_house_185 := dc_n1 aX12_house_184
theorem aX12_house_188 : dc_at cX12_house 188 sX12_house_188 := dc_n3 aX12_house_185
theorem aX12_house_189 : dc_at cX12_house 189 sX12_house_189 := dc_n1 aX12_house_188
theorem aX12_house_192 : dc_at cX12_house 192 sX12_house_192 := dc_n3 aX12_house_189
theorem aX12_house_193 : dc_at cX12_house 193 sX12_house_193 := dc_n1 aX12_house_192
theorem aX12_house_196 : dc_at cX12_house 196 sX12_house_196 := dc_n3 aX12_house_193
theorem aX12_house_197 : dc_at cX12_house 197 sX12_house_197 := dc_n1 aX12_house_196
theorem aX12_house_200 : dc_at cX12_house 200 sX12_house_200 := dc_n3 aX12_house_197
theorem aX12_house_203 : dc_at cX12_house 203 sX12_house_203 := dc_n3 aX12_house_200
theorem aX12_house_204 : dc_at cX12_house 204 sX12_house_204 := dc_n1 aX12_house_203
theorem aX12_house_207 : dc_at cX12_house 207 sX12_house_207 := dc_n3 aX12_house_204
theorem aX12_house_210 : dc_at cX12_house 210 sX12_house_210 := dc_n3 aX12_house_207
theorem aX12_house_211 : dc_at cX12_house 211 sX12_house_211 := dc_n1 aX12_house_210
theorem aX12_house_214 : dc_at cX12_house 214 sX12_house_214 := dc_n3 aX12_house_211
theorem aX12_house_215 : dc_at cX12_house 215 sX12_house_215 := dc_n1 aX12_house_214
theorem aX12_house_216 : dc_at cX12_house 216 sX12_house_216 := dc_n1 aX12_house_215
theorem aX12_house_217 : dc_at cX12_house 217 sX12_house_217 := dc_n1 aX12_house_216
theorem aX12_house_220 : dc_at cX12_house 220 sX12_house_220 := dc_n3 aX12_house_217
theorem aX12_house_223 : dc_at cX12_house 223 sX12_house_223 := dc_n3 aX12_house_220
theorem aX12_house_224 : dc_at cX12_house 224 sX12_house_224 := dc_n1 aX12_house_223
theorem aX12_house_225 : dc_at cX12_house 225 sX12_house_225 := dc_n1 aX12_house_224
theorem aX12_house_228 : dc_at cX12_house 228 sX12_house_228 := dc_n3 aX12_house_225
theorem aX12_house_231 : dc_at cX12_house 231 sX12_house_231 := dc_n3 aX12_house_228
theorem aX12_house_232 : dc_at cX12_house 232 sX12_house_232 := dc_n1 aX12_house_231
theorem aX12_house_233 : dc_at cX12_house 233 sX12_house_233 := dc_n1 aX12_house_232
theorem aX12_house_236 : dc_at cX12_house 236 sX12_house_236 := dc_n3 aX12_house_233
theorem aX12_house_237 : dc_at cX12_house 237 sX12_house_237 := dc_n1 aX12_house_236
theorem aX12_house_240 : dc_at cX12_house 240 sX12_house_240 := dc_n3 aX12_house_237
theorem aX12_house_243 : dc_at cX12_house 243 sX12_house_243 := dc_n3 aX12_house_240
theorem aX12_house_244 : dc_at cX12_house 244 sX12_house_244 := dc_n1 aX12_house_243
theorem aX12_house_245 : dc_at cX12_house 245 sX12_house_245 := dc_n1 aX12_house_244
theorem aX12_house_248 : dc_at cX12_house 248 sX12_house_248 := dc_n3 aX12_house_245
theorem aX12_house_249 : dc_at cX12_house 249 sX12_house_249 := dc_n1 aX12_house_248
theorem aX12_house_252 : dc_at cX12_house 252 sX12_house_252 := dc_n3 aX12_house_249
theorem aX12_house_255 : dc_at cX12_house 255 sX12_house_255 := dc_n3 aX12_house_252
theorem aX12_house_256 : dc_at cX12_house 256 sX12_house_256 := dc_n1 aX12_house_255
theorem aX12_house_257 : dc_at cX12_house 257 sX12_house_257 := dc_n1 aX12_house_256
theorem aX12_house_260 : dc_at cX12_house 260 sX12_house_260 := dc_n3 aX12_house_257
theorem aX12_house_261 : dc_at cX12_house 261 sX12_house_261 := dc_n1 aX12_house_260
theorem aX12_house_264 : dc_at cX12_house 264 sX12_house_264 := dc_n3 aX12_house_261
theorem aX12_house_267 : dc_at cX12_house 267 sX12_house_267 := dc_n3 aX12_house_264
theorem aX12_house_268 : dc_at cX12_house 268 sX12_house_268 := dc_n1 aX12_house_267
theorem aX12_house_269 : dc_at cX12_house 269 sX12_house_269 := dc_n1 aX12_house_268
theorem aX12_house_272 : dc_at cX12_house 272 sX12_house_272 := dc_n3 aX12_house_269
theorem aX12_house_273 : dc_at cX12_house 273 sX12_house_273 := dc_n1 aX12_house_272
theorem aX12_house_276 : dc_at cX12_house 276 sX12_house_276 := dc_n3 aX12_house_273
theorem aX12_house_279 : dc_at cX12_house 279 sX12_house_279 := dc_n3 aX12_house_276
theorem aX12_house_280 : dc_at cX12_house 280 sX12_house_280 := dc_n1 aX12_house_279
theorem aX12_house_281 : dc_at cX12_house 281 sX12_house_281 := dc_n1 aX12_house_280
theorem aX12_house_284 : dc_at cX12_house 284 sX12_house_284 := dc_n3 aX12_house_281
theorem aX12_house_285 : dc_at cX12_house 285 sX12_house_285 := dc_n1 aX12_house_284
theorem aX12_house_288 : dc_at cX12_house 288 sX12_house_288 := dc_n3 aX12_house_285
theorem aX12_house_291 : dc_at cX12_house 291 sX12_house_291 := dc_n3 aX12_house_288
theorem aX12_house_292 : dc_at cX12_house 292 sX12_house_292 := dc_n1 aX12_house_291
theorem aX12_house_293 : dc_at cX12_house 293 sX12_house_293 := dc_n1 aX12_house_292
theorem aX12_house_296 : dc_at cX12_house 296 sX12_house_296 := dc_n3 aX12_house_293
theorem aX12_house_297 : dc_at cX12_house 297 sX12_house_297 := dc_n1 aX12_house_296
theorem aX12_house_300 : dc_at cX12_house 300 sX12_house_300 := dc_n3 aX12_house_297
theorem aX12_house_303 : dc_at cX12_house 303 sX12_house_303 := dc_n3 aX12_house_300
theorem aX12_house_304 : dc_at cX12_house 304 sX12_house_304 := dc_n1 aX12_house_303
theorem aX12_house_305 : dc_at cX12_house 305 sX12_house_305 := dc_n1 aX12_house_304
theorem aX12_house_308 : dc_at cX12_house 308 sX12_house_308 := dc_n3 aX12_house_305
theorem aX12_house_309 : dc_at cX12_house 309 sX12_house_309 := dc_n1 aX12_house_308
theorem aX12_house_312 : dc_at cX12_house 312 sX12_house_312 := dc_n3 aX12_house_309
theorem aX12_house_315 : dc_at cX12_house 315 sX12_house_315 := dc_n3 aX12_house_312
theorem aX12_house_316 : dc_at cX12_house 316 sX12_house_316 := dc_n1 aX12_house_315
theorem dX12_house_0 : decode cX12_house 0 = .ok (.aload_n 0, 1) := dc_42 aX12_house_0
theorem dX12_house_1 : decode cX12_house 1 = .ok (.iconst 0, 1) := dc_3 aX12_house_1
theorem dX12_house_2 : decode cX12_house 2 = .ok (.putfield 129, 3) := dc_181 (a0 := 0) (b0 := 129) aX12_house_2
theorem dX12_house_5 : decode cX12_house 5 = .ok (.aload_n 0, 1) := dc_42 aX12_house_5
theorem dX12_house_6 : decode cX12_house 6 = .ok (.iconst 0, 1) := dc_3 aX12_house_6
theorem dX12_house_7 : decode cX12_house 7 = .ok (.putfield 205, 3) := dc_181 (a0 := 0) (b0 := 205) aX12_house_7
theorem dX12_house_10 : decode cX12_house 10 = .ok (.aload_n 0, 1) := dc_42 aX12_house_10
theorem dX12_house_11 : decode cX12_house 11 = .ok (.iload_n 1, 1) := dc_27 aX12_house_11
theorem dX12_house_12 : decode cX12_house 12 = .ok (.invokevirtual 225, 3) := dc_182 (a0 := 0) (b0 := 225) aX12_house_12
theorem dX12_house_15 : decode cX12_house 15 = .ok (.ifCond .ne 5, 3) := dc_154 (a0 := 0) (b0 := 5) aX12_house_15 (by decide)
theorem dX12_house_18 : decode cX12_house 18 = .ok (.iconst 0, 1) := dc_3 aX12_house_18
theorem dX12_house_19 : decode cX12_house 19 = .ok (.ireturn, 1) := dc_172 aX12_house_19
theorem dX12_house_20 : decode cX12_house 20 = .ok (.aload_n 0, 1) := dc_42 aX12_house_20
theorem dX12_house_21 : decode cX12_house 21 = .ok (.aload_n 0, 1) := dc_42 aX12_house_21
theorem dX12_house_22 : decode cX12_house 22 = .ok (.getfield 228, 3) := dc_180 (a0 := 0) (b0 := 228) aX12_house_22
theorem dX12_house_25 : decode cX12_house 25 = .ok (.putfield 219, 3) := dc_181 (a0 := 0) (b0 := 219) aX12_house_25
theorem dX12_house_28 : decode cX12_house 28 = .ok (.aload_n 0, 1) := dc_42 aX12_house_28
theorem dX12_house_29 : decode cX12_house 29 = .ok (.aload_n 0, 1) := dc_42 aX12_house_29
theorem dX12_house_30 : decode cX12_house 30 = .ok (.getfield 231, 3) := dc_180 (a0 := 0) (b0 := 231) aX12_house_30
theorem dX12_house_33 : decode cX12_house 33 = .ok (.putfield 222, 3) := dc_181 (a0 := 0) (b0 := 222) aX12_house_33
theorem dX12_house_36 : decode cX12_house 36 = .ok (.aload_n 0, 1) := dc_42 aX12_house_36
theorem dX12_house_37 : decode cX12_house 37 = .ok (.aload_n 0, 1) := dc_42 aX12_house_37
theorem dX12_house_38 : decode cX12_house 38 = .ok (.getfield 7, 3) := dc_180 (a0 := 0) (b0 := 7) aX12_house_38
theorem dX12_house_41 : decode cX12_house 41 = .ok (.aload_n 0, 1) := dc_42 aX12_house_41
theorem dX12_house_42 : decode cX12_house 42 = .ok (.getfield 41, 3) := dc_180 (a0 := 0) (b0 := 41) aX12_house_42
theorem dX12_house_45 : decode cX12_house 45 = .ok (.invokevirtual 234, 3) := dc_182 (a0 := 0) (b0 := 234) aX12_house_45
theorem dX12_house_48 : decode cX12_house 48 = .ok (.aload_n 0, 1) := dc_42 aX12_house_48
theorem dX12_house_49 : decode cX12_house 49 = .ok (.aload_n 0, 1) := dc_42 aX12_house_49
theorem dX12_house_50 : decode cX12_house 50 = .ok (.getfield 13, 3) := dc_180 (a0 := 0) (b0 := 13) aX12_house_50
theorem dX12_house_53 : decode cX12_house 53 = .ok (.aload_n 0, 1) := dc_42 aX12_house_53
theorem dX12_house_54 : decode cX12_house 54 = .ok (.getfield 44, 3) := dc_180 (a0 := 0) (b0 := 44) aX12_house_54
theorem dX12_house_57 : decode cX12_house 57 = .ok (.invokevirtual 234, 3) := dc_182 (a0 := 0) (b0 := 234) aX12_house_57
theorem dX12_house_60 : decode cX12_house 60 = .ok (.aload_n 0, 1) := dc_42 aX12_house_60
theorem dX12_house_61 : decode cX12_house 61 = .ok (.aload_n 0, 1) := dc_42 aX12_house_61
theorem dX12_house_62 : decode cX12_house 62 = .ok (.getfield 16, 3) := dc_180 (a0 := 0) (b0 := 16) aX12_house_62
theorem dX12_house_65 : decode cX12_house 65 = .ok (.aload_n 0, 1) := dc_42 aX12_house_65
theorem dX12_house_66 : decode cX12_house 66 = .ok (.getfield 47, 3) := dc_180 (a0 := 0) (b0 := 47) aX12_house_66
theorem dX12_house_69 : decode cX12_house 69 = .ok (.invokevirtual 234, 3) := dc_182 (a0 := 0) (b0 := 234) aX12_house_69
theorem dX12_house_72 : decode cX12_house 72 = .ok (.aload_n 0, 1) := dc_42 aX12_house_72
theorem dX12_house_73 : decode cX12_house 73 = .ok (.aload_n 0, 1) := dc_42 aX12_house_73
theorem dX12_house_74 : decode cX12_house 74 = .ok (.getfield 19, 3) := dc_180 (a0 := 0) (b0 := 19) aX12_house_74
theorem dX12_house_77 : decode cX12_house 77 = .ok (.aload_n 0, 1) := dc_42 aX12_house_77
theorem dX12_house_78 : decode cX12_house 78 = .ok (.getfield 50, 3) := dc_180 (a0 := 0) (b0 := 50) aX12_house_78
theorem dX12_house_81 : decode cX12_house 81 = .ok (.invokevirtual 234, 3) := dc_182 (a0 := 0) (b0 := 234) aX12_house_81
theorem dX12_house_84 : decode cX12_house 84 = .ok (.aload_n 0, 1) := dc_42 aX12_house_84
theorem dX12_house_85 : decode cX12_house 85 = .ok (.aload_n 0, 1) := dc_42 aX12_house_85
theorem dX12_house_86 : decode cX12_house 86 = .ok (.getfield 22, 3) := dc_180 (a0 := 0) (b0 := 22) aX12_house_86
theorem dX12_house_89 : decode cX12_house 89 = .ok (.aload_n 0, 1) := dc_42 aX12_house_89
theorem dX12_house_90 : decode cX12_house 90 = .ok (.getfield 53, 3) := dc_180 (a0 := 0) (b0 := 53) aX12_house_90
theorem dX12_house_93 : decode cX12_house 93 = .ok (.invokevirtual 234, 3) := dc_182 (a0 := 0) (b0 := 234) aX12_house_93
theorem dX12_house_96 : decode cX12_house 96 = .ok (.aload_n 0, 1) := dc_42 aX12_house_96
theorem dX12_house_97 : decode cX12_house 97 = .ok (.aload_n 0, 1) := dc_42 aX12_house_97
theorem dX12_house_98 : decode cX12_house 98 = .ok (.getfield 25, 3) := dc_180 (a0 := 0) (b0 := 25) aX12_house_98
theorem dX12_house_101 : decode cX12_house 101 = .ok (.aload_n 0, 1) := dc_42 aX12_house_101
theorem dX12_house_102 : decode cX12_house 102 = .ok (.getfield 56, 3) := dc_180 (a0 := 0) (b0 := 56) aX12_house_102
theorem dX12_house_105 : decode cX12_house 105 = .ok (.invokevirtual 234, 3) := dc_182 (a0 := 0) (b0 := 234) aX12_house_105
theorem dX12_house_108 : decode cX12_house 108 = .ok (.aload_n 0, 1) := dc_42 aX12_house_108
theorem dX12_house_109 : decode cX12_house 109 = .ok (.aload_n 0, 1) := dc_42 aX12_house_109
theorem dX12_house_110 : decode cX12_house 110 = .ok (.getfield 28, 3) := dc_180 (a0 := 0) (b0 := 28) aX12_house_110
theorem dX12_house_113 : decode cX12_house 113 = .ok (.aload_n 0, 1) := dc_42 aX12_house_113
theorem dX12_house_114 : decode cX12_house 114 = .ok (.getfield 59, 3) := dc_180 (a0 := 0) (b0 := 59) aX12_house_114
theorem dX12_house_117 : decode cX12_house 117 = .ok (.invokevirtual 234, 3) := dc_182 (a0 := 0) (b0 := 234) aX12_house_117
theorem dX12_house_120 : decode cX12_house 120 = .ok (.aload_n 0, 1) := dc_42 aX12_house_120
theorem dX12_house_121 : decode cX12_house 121 = .ok (.invokevirtual 183, 3) := dc_182 (a0 := 0) (b0 := 183) aX12_house_121
theorem dX12_house_124 : decode cX12_house 124 = .ok (.ifCond .eq 79, 3) := dc_153 (a0 := 0) (b0 := 79) aX12_house_124 (by decide)
theorem dX12_house_127 : decode cX12_house 127 = .ok (.aload_n 0, 1) := dc_42 aX12_house_127
theorem dX12_house_128 : decode cX12_house 128 = .ok (.getfield 159, 3) := dc_180 (a0 := 0) (b0 := 159) aX12_house_128
theorem dX12_house_131 : decode cX12_house 131 = .ok (.ifCond .eq 72, 3) := dc_153 (a0 := 0) (b0 := 72) aX12_house_131 (by decide)
theorem dX12_house_134 : decode cX12_house 134 = .ok (.aload_n 0, 1) := dc_42 aX12_house_134
theorem dX12_house_135 : decode cX12_house 135 = .ok (.invokevirtual 193, 3) := dc_182 (a0 := 0) (b0 := 193) aX12_house_135
theorem dX12_house_138 : decode cX12_house 138 = .ok (.istore_n 2, 1) := dc_61 aX12_house_138
theorem dX12_house_139 : decode cX12_house 139 = .ok (.iload_n 2, 1) := dc_28 aX12_house_139
theorem dX12_house_140 : decode cX12_house 140 = .ok (.bipush 11, 2) := dc_16 (a0 := 11) aX12_house_140 (by decide)
theorem dX12_house_142 : decode cX12_house 142 = .ok (.if_icmp .ne 10, 3) := dc_160 (a0 := 0) (b0 := 10) aX12_house_142 (by decide)
theorem dX12_house_145 : decode cX12_house 145 = .ok (.aload_n 0, 1) := dc_42 aX12_house_145
theorem dX12_house_146 : decode cX12_house 146 = .ok (.invokevirtual 238, 3) := dc_182 (a0 := 0) (b0 := 238) aX12_house_146
theorem dX12_house_149 : decode cX12_house 149 = .ok (.goto 34, 3) := dc_167 (a0 := 0) (b0 := 34) aX12_house_149 (by decide)
theorem dX12_house_152 : decode cX12_house 152 = .ok (.iload_n 2, 1) := dc_28 aX12_house_152
theorem dX12_house_153 : decode cX12_house 153 = .ok (.bipush 16, 2) := dc_16 (a0 := 16) aX12_house_153 (by decide)
theorem dX12_house_155 : decode cX12_house 155 = .ok (.if_icmp .ne 10, 3) := dc_160 (a0 := 0) (b0 := 10) aX12_house_155 (by decide)
theorem dX12_house_158 : decode cX12_house 158 = .ok (.aload_n 0, 1) := dc_42 aX12_house_158
theorem dX12_house_159 : decode cX12_house 159 = .ok (.invokevirtual 241, 3) := dc_182 (a0 := 0) (b0 := 241) aX12_house_159
theorem dX12_house_162 : decode cX12_house 162 = .ok (.goto 21, 3) := dc_167 (a0 := 0) (b0 := 21) aX12_house_162 (by decide)
theorem dX12_house_165 : decode cX12_house 165 = .ok (.iload_n 2, 1) := dc_28 aX12_house_165
theorem dX12_house_166 : decode cX12_house 166 = .ok (.bipush 17, 2) := dc_16 (a0 := 17) aX12_house_166 (by decide)
theorem dX12_house_168 : decode cX12_house 168 = .ok (.if_icmp .ne 10, 3) := dc_160 (a0 := 0) (b0 := 10) aX12_house_168 (by decide)
theorem dX12_house_171 : decode cX12_house 171 = .ok (.aload_n 0, 1) := dc_42 aX12_house_171
theorem dX12_house_172 : decode cX12_house 172 = .ok (.invokevirtual 244, 3) := dc_182 (a0 := 0) (b0 := 244) aX12_house_172
theorem dX12_house_175 : decode cX12_house 175 = .ok (.goto 8, 3) := dc_167 (a0 := 0) (b0 := 8) aX12_house_175 (by decide)
theorem dX12_house_178 : decode cX12_house 178 = .ok (.aload_n 0, 1) := dc_42 aX12_house_178
theorem dX12_house_179 : decode cX12_house 179 = .ok (.iconst 1, 1) := dc_4 aX12_house_179
theorem dX12_house_180 : decode cX12_house 180 = .ok (.invokevirtual 190, 3) := dc_182 (a0 := 0) (b0 := 190) aX12_house_180
theorem dX12_house_183 : decode cX12_house 183 = .ok (.aload_n 0, 1) := dc_42 aX12_house_183
theorem dX12_house_184 : decode cX12_house 184 = .ok (.aload_n 0, 1) := dc_42 aX12_house_184
theorem dX12_house_185 : decode cX12_house 185 = .ok (.getfield 159, 3) := dc_180 (a0 := 0) (b0 := 159) aX12_house_185
theorem dX12_house_188 : decode cX12_house 188 = .ok (.iconst 3, 1) := dc_6 aX12_house_188
theorem dX12_house_189 : decode cX12_house 189 = .ok (.if_icmp .ne 7, 3) := dc_160 (a0 := 0) (b0 := 7) aX12_house_189 (by decide)
theorem dX12_house_192 : decode cX12_house 192 = .ok (.iconst 1, 1) := dc_4 aX12_house_192
theorem dX12_house_193 : decode cX12_house 193 = .ok (.goto 4, 3) := dc_167 (a0 := 0) (b0 := 4) aX12_house_193 (by decide)
theorem dX12_house_196 : decode cX12_house 196 = .ok (.iconst 0, 1) := dc_3 aX12_house_196
theorem dX12_house_197 : decode cX12_house 197 = .ok (.invokevirtual 197, 3) := dc_182 (a0 := 0) (b0 := 197) aX12_house_197
theorem dX12_house_200 : decode cX12_house 200 = .ok (.goto (-80), 3) := dc_167 (a0 := 255) (b0 := 176) aX12_house_200 (by decide)
theorem dX12_house_203 : decode cX12_house 203 = .ok (.aload_n 0, 1) := dc_42 aX12_house_203
theorem dX12_house_204 : decode cX12_house 204 = .ok (.invokevirtual 183, 3) := dc_182 (a0 := 0) (b0 := 183) aX12_house_204
theorem dX12_house_207 : decode cX12_house 207 = .ok (.ifCond .ne 8, 3) := dc_154 (a0 := 0) (b0 := 8) aX12_house_207 (by decide)
theorem dX12_house_210 : decode cX12_house 210 = .ok (.aload_n 0, 1) := dc_42 aX12_house_210
theorem dX12_house_211 : decode cX12_house 211 = .ok (.getfield 180, 3) := dc_180 (a0 := 0) (b0 := 180) aX12_house_211
theorem dX12_house_214 : decode cX12_house 214 = .ok (.ireturn, 1) := dc_172 aX12_house_214
theorem dX12_house_215 : decode cX12_house 215 = .ok (.aload_n 0, 1) := dc_42 aX12_house_215
theorem dX12_house_216 : decode cX12_house 216 = .ok (.aload_n 0, 1) := dc_42 aX12_house_216
theorem dX12_house_217 : decode cX12_house 217 = .ok (.getfield 219, 3) := dc_180 (a0 := 0) (b0 := 219) aX12_house_217
theorem dX12_house_220 : decode cX12_house 220 = .ok (.putfield 228, 3) := dc_181 (a0 := 0) (b0 := 228) aX12_house_220
theorem dX12_house_223 : decode cX12_house 223 = .ok (.aload_n 0, 1) := dc_42 aX12_house_223
theorem dX12_house_224 : decode cX12_house 224 = .ok (.aload_n 0, 1) := dc_42 aX12_house_224
theorem dX12_house_225 : decode cX12_house 225 = .ok (.getfield 222, 3) := dc_180 (a0 := 0) (b0 := 222) aX12_house_225
theorem dX12_house_228 : decode cX12_house 228 = .ok (.putfield 231, 3) := dc_181 (a0 := 0) (b0 := 231) aX12_house_228
theorem dX12_house_231 : decode cX12_house 231 = .ok (.aload_n 0, 1) := dc_42 aX12_house_231
theorem dX12_house_232 : decode cX12_house 232 = .ok (.aload_n 0, 1) := dc_42 aX12_house_232
theorem dX12_house_233 : decode cX12_house 233 = .ok (.getfield 41, 3) := dc_180 (a0 := 0) (b0 := 41) aX12_house_233
theorem dX12_house_236 : decode cX12_house 236 = .ok (.aload_n 0, 1) := dc_42 aX12_house_236
theorem dX12_house_237 : decode cX12_house 237 = .ok (.getfield 7, 3) := dc_180 (a0 := 0) (b0 := 7) aX12_house_237
theorem dX12_house_240 : decode cX12_house 240 = .ok (.invokevirtual 234, 3) := dc_182 (a0 := 0) (b0 := 234) aX12_house_240
theorem dX12_house_243 : decode cX12_house 243 = .ok (.aload_n 0, 1) := dc_42 aX12_house_243
theorem dX12_house_244 : decode cX12_house 244 = .ok (.aload_n 0, 1) := dc_42 aX12_house_244
theorem dX12_house_245 : decode cX12_house 245 = .ok (.getfield 44, 3) := dc_180 (a0 := 0) (b0 := 44) aX12_house_245
theorem dX12_house_248 : decode cX12_house 248 = .ok (.aload_n 0, 1) := dc_42 aX12_house_248
theorem dX12_house_249 : decode cX12_house 249 = .ok (.getfield 13, 3) := dc_180 (a0 := 0) (b0 := 13) aX12_house_249
theorem dX12_house_252 : decode cX12_house 252 = .ok (.invokevirtual 234, 3) := dc_182 (a0 := 0) (b0 := 234) aX12_house_252
theorem dX12_house_255 : decode cX12_house 255 = .ok (.aload_n 0, 1) := dc_42 aX12_house_255
theorem dX12_house_256 : decode cX12_house 256 = .ok (.aload_n 0, 1) := dc_42 aX12_house_256
theorem dX12_house_257 : decode cX12_house 257 = .ok (.getfield 47, 3) := dc_180 (a0 := 0) (b0 := 47) aX12_house_257
theorem dX12_house_260 : decode cX12_house 260 = .ok (.aload_n 0, 1) := dc_42 aX12_house_260
theorem dX12_house_261 : decode cX12_house 261 = .ok (.getfield 16, 3) := dc_180 (a0 := 0) (b0 := 16) aX12_house_261
theorem dX12_house_264 : decode cX12_house 264 = .ok (.invokevirtual 234, 3) := dc_182 (a0 := 0) (b0 := 234) aX12_house_264
theorem dX12_house_267 : decode cX12_house 267 = .ok (.aload_n 0, 1) := dc_42 aX12_house_267
theorem dX12_house_268 : decode cX12_house 268 = .ok (.aload_n 0, 1) := dc_42 aX12_house_268
theorem dX12_house_269 : decode cX12_house 269 = .ok (.getfield 50, 3) := dc_180 (a0 := 0) (b0 := 50) aX12_house_269
theorem dX12_house_272 : decode cX12_house 272 = .ok (.aload_n 0, 1) := dc_42 aX12_house_272
theorem dX12_house_273 : decode cX12_house 273 = .ok (.getfield 19, 3) := dc_180 (a0 := 0) (b0 := 19) aX12_house_273
theorem dX12_house_276 : decode cX12_house 276 = .ok (.invokevirtual 234, 3) := dc_182 (a0 := 0) (b0 := 234) aX12_house_276
theorem dX12_house_279 : decode cX12_house 279 = .ok (.aload_n 0, 1) := dc_42 aX12_house_279
theorem dX12_house_280 : decode cX12_house 280 = .ok (.aload_n 0, 1) := dc_42 aX12_house_280
theorem dX12_house_281 : decode cX12_house 281 = .ok (.getfield 53, 3) := dc_180 (a0 := 0) (b0 := 53) aX12_house_281
theorem dX12_house_284 : decode cX12_house 284 = .ok (.aload_n 0, 1) := dc_42 aX12_house_284
theorem dX12_house_285 : decode cX12_house 285 = .ok (.getfield 22, 3) := dc_180 (a0 := 0) (b0 := 22) aX12_house_285
theorem dX12_house_288 : decode cX12_house 288 = .ok (.invokevirtual 234, 3) := dc_182 (a0 := 0) (b0 := 234) aX12_house_288
theorem dX12_house_291 : decode cX12_house 291 = .ok (.aload_n 0, 1) := dc_42 aX12_house_291
theorem dX12_house_292 : decode cX12_house 292 = .ok (.aload_n 0, 1) := dc_42 aX12_house_292
theorem dX12_house_293 : decode cX12_house 293 = .ok (.getfield 56, 3) := dc_180 (a0 := 0) (b0 := 56) aX12_house_293
theorem dX12_house_296 : decode cX12_house 296 = .ok (.aload_n 0, 1) := dc_42 aX12_house_296
theorem dX12_house_297 : decode cX12_house 297 = .ok (.getfield 25, 3) := dc_180 (a0 := 0) (b0 := 25) aX12_house_297
theorem dX12_house_300 : decode cX12_house 300 = .ok (.invokevirtual 234, 3) := dc_182 (a0 := 0) (b0 := 234) aX12_house_300
theorem dX12_house_303 : decode cX12_house 303 = .ok (.aload_n 0, 1) := dc_42 aX12_house_303
theorem dX12_house_304 : decode cX12_house 304 = .ok (.aload_n 0, 1) := dc_42 aX12_house_304
theorem dX12_house_305 : decode cX12_house 305 = .ok (.getfield 59, 3) := dc_180 (a0 := 0) (b0 := 59) aX12_house_305
theorem dX12_house_308 : decode cX12_house 308 = .ok (.aload_n 0, 1) := dc_42 aX12_house_308
theorem dX12_house_309 : decode cX12_house 309 = .ok (.getfield 28, 3) := dc_180 (a0 := 0) (b0 := 28) aX12_house_309
theorem dX12_house_312 : decode cX12_house 312 = .ok (.invokevirtual 234, 3) := dc_182 (a0 := 0) (b0 := 234) aX12_house_312
theorem dX12_house_315 : decode cX12_house 315 = .ok (.iconst 0, 1) := dc_3 aX12_house_315
theorem dX12_house_316 : decode cX12_house 316 = .ok (.ireturn, 1) := dc_172 aX12_house_316
set_option maxRecDepth 20000 in
theorem ggX12_isBook_X12_right : GoodIn wsX12_isBook wsX12_right := goodIn_k _ [[5, 0, 0, 0, 0, 0, 0, 0, 0, 0, 0, 0, 0, 0, 0, 0, 0, 0, 0, 0, 0, 0, 0, 0, 0, 0, 0, 0, 0, 0, 0, 0, 0, 0, 0, 0, 0, 0, 0, 0, 0, 0, 0, 0, 0, 0, 0, 0, 0, 0, 0, 0, 0, 0, 0, 0, 0, 0, 0, 0]] (by rfl) (by decide +kernel)
set_option maxRecDepth 20000 in
theorem gX12_isBook_X12_right : GoodIn wsX12_isBook (wsV RX12 209 RX12 yX12_right wsX12_right) := goodIn_app (goodIn_of _ (by decide +kernel)) ggX12_isBook_X12_right
noncomputable def sX12_isBook_20 : List Nat := 172 :: []
noncomputable def sX12_isBook_17 : List Nat := 182 :: 0 :: 209 :: sX12_isBook_20
noncomputable def sX12_isBook_16 : List Nat := 4 :: sX12_isBook_17
noncomputable def sX12_isBook_15 : List Nat := 3 :: sX12_isBook_16
noncomputable def sX12_isBook_12 : List Nat := 167 :: 0 :: 4 :: sX12_isBook_15
noncomputable def sX12_isBook_11 : List Nat := 4 :: sX12_isBook_12
noncomputable def sX12_isBook_8 : List Nat := 162 :: 0 :: 7 :: sX12_isBook_11
noncomputable def sX12_isBook_6 : List Nat := 16 :: 6 :: sX12_isBook_8
noncomputable def sX12_isBook_5 : List Nat := 27 :: sX12_isBook_6
noncomputable def sX12_isBook_2 : List Nat := 155 :: 0 :: 13 :: sX12_isBook_5
noncomputable def sX12_isBook_1 : List Nat := 27 :: sX12_isBook_2
noncomputable def sX12_isBook_0 : List Nat := 42 :: sX12_isBook_1
theorem aX12_isBook_0 : dc_at cX12_isBook 0 sX12_isBook_0 := dc_base (by decide +kernel)
theorem aX12_isBook_1 : dc_at cX12_isBook 1 sX12_isBook_1 := dc_n1 aX12_isBook_0
theorem aX12_isBook_2 : dc_at cX12_isBook 2 sX12_isBook_2 := dc_n1 aX12_isBook_1
theorem aX12_isBook_5 : dc_at cX12_isBook 5 sX12_isBook_5 := dc_n3 aX12_isBook_2
theorem aX12_isBook_6 : dc_at cX12_isBook 6 sX12_isBook_6 := dc_n1 aX12_isBook_5
theorem aX12_isBook_8 : dc_at cX12_isBook 8 sX12_isBook_8 := dc_n2 aX12_isBook_6
theorem aX12_isBook_11 : dc_at cX12_isBook 11 sX12_isBook_11 := dc_n3 aX12_isBook_8
theorem aX12_isBook_12 : dc_at cX12_isBook 12 sX12_isBook_12 := dc_n1 aX12_isBook_11
theorem aX12_isBook_15 : dc_at cX12_isBook 15 sX12_isBook_15 := dc_n3 aX12_isBook_12
theorem aX12_isBook_16 : dc_at cX12_isBook 16 sX12_isBook_16 := dc_n1 aX12_isBook_15
theorem aX12_isBook_17 : dc_at cX12_isBook 17 sX12_isBook_17 := dc_n1 aX12_isBook_16
theorem aX12_isBook_20 : dc_at cX12_isBook 20 sX12_isBook_20 := dc_n3 aX12_isBook_17
theorem dX12_isBook_0 : decode cX12_isBook 0 = .ok (.aload_n 0, 1) := dc_42 aX12_isBook_0
theorem dX12_isBook_1 : decode cX12_isBook 1 = .ok (.iload_n 1, 1) := dc_27 aX12_isBook_1
theorem dX12_isBook_2 : decode cX12_isBook 2 = .ok (.ifCond .lt 13, 3) := dc_155 (a0 := 0) (b0 := 13) aX12_isBook_2 (by decide)
theorem dX12_isBook_5 : decode cX12_isBook 5 = .ok (.iload_n 1, 1) := dc_27 aX12_isBook_5
theorem dX12_isBook_6 : decode cX12_isBook 6 = .ok (.bipush 6, 2) := dc_16 (a0 := 6) aX12_isBook_6 (by decide)
theorem dX12_isBook_8 : decode cX12_isBook 8 = .ok (.if_icmp .ge 7, 3) := dc_162 (a0 := 0) (b0 := 7) aX12_isBook_8 (by decide)
theorem dX12_isBook_11 : decode cX12_isBook 11 = .ok (.iconst 1, 1) := dc_4 aX12_isBook_11
theorem dX12_isBook_12 : decode cX12_isBook 12 = .ok (.goto 4, 3) := dc_167 (a0 := 0) (b0 := 4) aX12_isBook_12 (by decide)
theorem dX12_isBook_15 : decode cX12_isBook 15 = .ok (.iconst 0, 1) := dc_3 aX12_isBook_15
theorem dX12_isBook_16 : decode cX12_isBook 16 = .ok (.iconst 1, 1) := dc_4 aX12_isBook_16
theorem dX12_isBook_17 : decode cX12_isBook 17 = .ok (.invokevirtual 209, 3) := dc_182 (a0 := 0) (b0 := 209) aX12_isBook_17
theorem dX12_isBook_20 : decode cX12_isBook 20 = .ok (.ireturn, 1) := dc_172 aX12_isBook_20
set_option maxRecDepth 20000 in
theorem ggX12_isWheel_X12_right : GoodIn wsX12_isWheel wsX12_right := goodIn_k _ [[6], [1, 5, 0, 0, 0, 0, 0, 0, 0, 0, 0, 0, 0, 0, 0, 0, 0, 0, 0, 0, 0, 0, 0, 0, 0, 0, 0, 0, 0, 0, 0, 0, 0, 0, 0, 0, 0, 0, 0, 0, 0, 0, 0, 0, 0, 0, 0, 0, 0, 0, 0, 0, 0, 0, 0, 0, 0, 0, 0]] (by rfl) (by decide +kernel)
set_option maxRecDepth 20000 in
theorem gX12_isWheel_X12_right : GoodIn wsX12_isWheel (wsV RX12 209 RX12 yX12_right wsX12_right) := goodIn_app (goodIn_of _ (by decide +kernel)) ggX12_isWheel_X12_right
noncomputable def sX12_isWheel_35 : List Nat := 172 :: []
noncomputable def sX12_isWheel_32 : List Nat := 182 :: 0 :: 209 :: sX12_isWheel_35
noncomputable def sX12_isWheel_31 : List Nat := 4 :: sX12_isWheel_32
noncomputable def sX12_isWheel_30 : List Nat := 3 :: sX12_isWheel_31
noncomputable def sX12_isWheel_27 : List Nat := 167 :: 0 :: 4 :: sX12_isWheel_30
noncomputable def sX12_isWheel_26 : List Nat := 4 :: sX12_isWheel_27
noncomputable def sX12_isWheel_23 : List Nat := 162 :: 0 :: 7 :: sX12_isWheel_26
noncomputable def sX12_isWheel_21 : List Nat := 16 :: 20 :: sX12_isWheel_23
noncomputable def sX12_isWheel_20 : List Nat := 28 :: sX12_isWheel_21
noncomputable def sX12_isWheel_17 : List Nat := 155 :: 0 :: 13 :: sX12_isWheel_20
noncomputable def sX12_isWheel_16 : List Nat := 28 :: sX12_isWheel_17
noncomputable def sX12_isWheel_13 : List Nat := 162 :: 0 :: 17 :: sX12_isWheel_16
noncomputable def sX12_isWheel_11 : List Nat := 16 :: 6 :: sX12_isWheel_13
noncomputable def sX12_isWheel_10 : List Nat := 27 :: sX12_isWheel_11
noncomputable def sX12_isWheel_7 : List Nat := 155 :: 0 :: 23 :: sX12_isWheel_10
noncomputable def sX12_isWheel_6 : List Nat := 27 :: sX12_isWheel_7
noncomputable def sX12_isWheel_5 : List Nat := 42 :: sX12_isWheel_6
noncomputable def sX12_isWheel_2 : List Nat := 181 :: 0 :: 129 :: sX12_isWheel_5
noncomputable def sX12_isWheel_1 : List Nat := 3 :: sX12_isWheel_2
noncomputable def sX12_isWheel_0 : List Nat := 42 :: sX12_isWheel_1
theorem aX12_isWheel_0 : dc_at cX12_isWheel 0 sX12_isWheel_0 := dc_base (by decide +kernel)
theorem aX12_isWheel_1 : dc_at cX12_isWheel 1 sX12_isWheel_1 := dc_n1 aX12_isWheel_0
theorem aX12_isWheel_2 : dc_at cX12_isWheel 2 sX12_isWheel_2 := dc_n1 aX12_isWheel_1
theorem aX12_isWheel_5 : dc_at cX12_isWheel 5 sX12_isWheel_5 := dc_n3 aX12_isWheel_2
theorem aX12_isWheel_6 : dc_at cX12_isWheel 6 sX12_isWheel_6 := dc_n1 aX12_isWheel_5
theorem aX12_isWheel_7 : dc_at cX12_isWheel 7 sX12_isWheel_7 := dc_n1 aX12_isWheel_6
theorem aX12_isWheel_10 : dc_at cX12_isWheel 10 sX12_isWheel_10 := dc_n3 aX12_isWheel_7
theorem aX12_isWheel_11 : dc_at cX12_isWheel 11 sX12_isWheel_11 := dc_n1 aX12_isWheel_10
theorem aX12_isWheel_13 : dc_at cX12_isWheel 13 sX12_isWheel_13 := dc_n2 aX12_isWheel_11
theorem aX12_isWheel_16 : dc_at cX12_isWheel 16 sX12_isWheel_16 := dc_n3 aX12_isWheel_13
theorem aX12_isWheel_17 : dc_at cX12_isWheel 17 sX12_isWheel_17 := dc_n1 aX12_isWheel_16
theorem aX12_isWheel_20 : dc_at cX12_isWheel 20 sX12_isWheel_20 := dc_n3 aX12_isWheel_17
theorem aX12_isWheel_21 : dc_at cX12_isWheel 21 sX12_isWheel_21 := dc_n1 aX12_isWheel_20
theorem aX12_isWheel_23 : dc_at cX12_isWheel 23 sX12_isWheel_23 := dc_n2 aX12_isWheel_21
theorem aX12_isWheel_26 : dc_at cX12_isWheel 26 sX12_isWheel_26 := dc_n3 aX12_isWheel_23
theorem aX12_isWheel_27 : dc_at cX12_isWheel 27 sX12_isWheel_27 := dc_n1 aX12_isWheel_26
theorem aX12_isWheel_30 : dc_at cX12_isWheel 30 sX12_isWheel_30 := dc_n3 aX12_isWheel_27
theorem aX12_isWheel_31 : dc_at cX12_isWheel 31 sX12_isWheel_31 := dc_n1 aX12_isWheel_30
theorem aX12_isWheel_32 : dc_at cX12_isWheel 32 sX12_isWheel_32 := dc_n1 aX12_isWheel_31
theorem aX12_isWheel_35 : dc_at cX12_isWheel 35 sX12_isWheel_35 := dc_n3 aX12_isWheel_32
theorem dX12_isWheel_0 : decode cX12_isWheel 0 = .ok (.aload_n 0, 1) := dc_42 aX12_isWheel_0
theorem dX12_isWheel_1 : decode cX12_isWheel 1 = .ok (.iconst 0, 1) := dc_3 aX12_isWheel_1
theorem dX12_isWheel_2 : decode cX12_isWheel 2 = .ok (.putfield 129, 3) := dc_181 (a0 := 0) (b0 := 129) aX12_isWheel_2
theorem dX12_isWheel_5 : decode cX12_isWheel 5 = .ok (.aload_n 0, 1) := dc_42 aX12_isWheel_5
theorem dX12_isWheel_6 : decode cX12_isWheel 6 = .ok (.iload_n 1, 1) := dc_27 aX12_isWheel_6
theorem dX12_isWheel_7 : decode cX12_isWheel 7 = .ok (.ifCond .lt 23, 3) := dc_155 (a0 := 0) (b0 := 23) aX12_isWheel_7 (by decide)
theorem dX12_isWheel_10 : decode cX12_isWheel 10 = .ok (.iload_n 1, 1) := dc_27 aX12_isWheel_10
theorem dX12_isWheel_11 : decode cX12_isWheel 11 = .ok (.bipush 6, 2) := dc_16 (a0 := 6) aX12_isWheel_11 (by decide)
theorem dX12_isWheel_13 : decode cX12_isWheel 13 = .ok (.if_icmp .ge 17, 3) := dc_162 (a0 := 0) (b0 := 17) aX12_isWheel_13 (by decide)
theorem dX12_isWheel_16 : decode cX12_isWheel 16 = .ok (.iload_n 2, 1) := dc_28 aX12_isWheel_16
theorem dX12_isWheel_17 : decode cX12_isWheel 17 = .ok (.ifCond .lt 13, 3) := dc_155 (a0 := 0) (b0 := 13) aX12_isWheel_17 (by decide)
theorem dX12_isWheel_20 : decode cX12_isWheel 20 = .ok (.iload_n 2, 1) := dc_28 aX12_isWheel_20
theorem dX12_isWheel_21 : decode cX12_isWheel 21 = .ok (.bipush 20, 2) := dc_16 (a0 := 20) aX12_isWheel_21 (by decide)
theorem dX12_isWheel_23 : decode cX12_isWheel 23 = .ok (.if_icmp .ge 7, 3) := dc_162 (a0 := 0) (b0 := 7) aX12_isWheel_23 (by decide)
theorem dX12_isWheel_26 : decode cX12_isWheel 26 = .ok (.iconst 1, 1) := dc_4 aX12_isWheel_26
theorem dX12_isWheel_27 : decode cX12_isWheel 27 = .ok (.goto 4, 3) := dc_167 (a0 := 0) (b0 := 4) aX12_isWheel_27 (by decide)
theorem dX12_isWheel_30 : decode cX12_isWheel 30 = .ok (.iconst 0, 1) := dc_3 aX12_isWheel_30
theorem dX12_isWheel_31 : decode cX12_isWheel 31 = .ok (.iconst 1, 1) := dc_4 aX12_isWheel_31
theorem dX12_isWheel_32 : decode cX12_isWheel 32 = .ok (.invokevirtual 209, 3) := dc_182 (a0 := 0) (b0 := 209) aX12_isWheel_32
theorem dX12_isWheel_35 : decode cX12_isWheel 35 = .ok (.ireturn, 1) := dc_172 aX12_isWheel_35
set_option maxRecDepth 20000 in
theorem ggX12_readsEntry_X12_knownWord : GoodIn wsX12_readsEntry wsX12_knownWord := goodIn_k _ [[10], [5, 5, 0, 0, 0], [9, 5, 0, 0, 0, 34, 0, 0, 0, 0, 0, 0, 0, 0, 0, 0, 0, 0, 0, 0, 0, 0, 0, 0, 0, 0, 0, 0, 0, 0, 0, 0, 0, 0, 0, 0, 0, 0, 0, 0, 0, 0, 0, 0, 0, 0, 0, 0, 0, 0, 0, 0, 0, 0, 0, 0, 0, 0, 0, 0, 0, 0, 0]] (by rfl) (by decide +kernel)
set_option maxRecDepth 20000 in
theorem gX12_readsEntry_X12_knownWord : GoodIn wsX12_readsEntry (wsV RX12 193 RX12 yX12_knownWord wsX12_knownWord) := goodIn_app (goodIn_of _ (by decide +kernel)) ggX12_readsEntry_X12_knownWord
set_option maxRecDepth 20000 in
theorem ggX12_readsEntry_X12_wrong : GoodIn wsX12_readsEntry wsX12_wrong := goodIn_k _ [[22], [3], [2, 1, 48, 0, 0, 0, 0, 0, 0, 0, 0, 0, 0, 0, 0, 0, 0, 0, 0, 0, 0, 0, 0, 0, 0, 0, 0, 0, 0, 0, 0, 0, 0, 0, 0, 0, 0, 0, 0, 0, 0, 0, 0, 0, 0, 0, 0, 0, 0, 0, 0, 0, 0, 0, 0, 0, 0, 0, 0, 0]] (by rfl) (by decide +kernel)
set_option maxRecDepth 20000 in
theorem gX12_readsEntry_X12_wrong : GoodIn wsX12_readsEntry (wsV RX12 190 RX12 yX12_wrong wsX12_wrong) := goodIn_app (goodIn_of _ (by decide +kernel)) ggX12_readsEntry_X12_wrong
set_option maxRecDepth 20000 in
theorem ggX12_readsEntry_X12_isGood : GoodIn wsX12_readsEntry wsX12_isGood := goodIn_k _ [[26], [3, 49, 0, 0, 0, 0, 0, 0, 0, 0, 0, 0, 0, 0, 0, 0, 0, 0, 0, 0, 0, 0, 0, 0, 0, 0, 0, 0, 0, 0, 0, 0, 0, 0, 0, 0, 0, 0, 0, 0, 0, 0, 0, 0, 0, 0, 0, 0, 0, 0, 0, 0, 0, 0, 0, 0, 0, 0, 0]] (by rfl) (by decide +kernel)
set_option maxRecDepth 20000 in
theorem gX12_readsEntry_X12_isGood : GoodIn wsX12_readsEntry (wsV RX12 183 RX12 yX12_isGood wsX12_isGood) := goodIn_app (goodIn_of _ (by decide +kernel)) ggX12_readsEntry_X12_isGood
set_option maxRecDepth 20000 in
theorem ggX12_readsEntry_X12_steps : GoodIn wsX12_readsEntry wsX12_steps := goodIn_k _ [[30, 0, 0], [2, 9, 20], [5, 5, 22, 0, 0], [9, 27, 0, 0, 0, 0, 0, 0, 0, 8, 0, 0, 0, 0, 0, 0, 0, 0, 0, 0, 0, 0, 0, 0, 0, 0, 0, 0, 0, 0, 0, 0, 0, 0, 0, 0, 0, 0, 0, 0, 0, 0, 0, 0, 0, 0, 0, 0, 0, 0, 0, 0, 0, 0, 0, 0, 0, 0, 0, 0, 0, 0, 0, 0, 0, 0, 0]] (by rfl) (by decide +kernel)
set_option maxRecDepth 20000 in
theorem gX12_readsEntry_X12_steps : GoodIn wsX12_readsEntry (wsV RX12 187 RX12 yX12_steps wsX12_steps) := goodIn_app (goodIn_of _ (by decide +kernel)) ggX12_readsEntry_X12_steps
set_option maxRecDepth 20000 in
theorem ggX12_readsEntry_X12_number : GoodIn wsX12_readsEntry wsX12_number := goodIn_k _ [[48], [5, 5, 21], [23, 0, 0], [9, 16], [3, 15, 0, 0, 0], [2, 1, 22, 0, 0, 0, 0, 0], [12, 21, 0, 0, 0, 0, 0, 0, 0, 0, 0, 0, 8, 0, 0, 0, 0, 0, 0, 0, 0, 0, 0, 0, 0, 0, 0, 0, 0, 0, 0, 0, 0, 0, 0, 0, 0, 0, 0, 0, 0, 0, 0, 0, 0, 0, 0, 0, 0, 0, 0, 0, 0, 0, 0, 0, 0, 0, 0, 0, 0, 0, 0, 0, 0, 0, 0, 0, 0, 0]] (by rfl) (by decide +kernel)
set_option maxRecDepth 20000 in
theorem gX12_readsEntry_X12_number : GoodIn wsX12_readsEntry (wsV RX12 201 RX12 yX12_number wsX12_number) := goodIn_app (goodIn_of _ (by decide +kernel)) ggX12_readsEntry_X12_number
set_option maxRecDepth 20000 in
theorem ggX12_readsEntry_X12_need : GoodIn wsX12_readsEntry wsX12_need := goodIn_k _ [[52], [23, 0, 0], [9, 16], [3, 23, 0, 0, 0, 0, 0], [2, 9, 20], [5, 5, 22, 0, 0, 0, 0, 0, 0, 0, 0, 0, 0], [19, 0, 0, 0], [4, 48, 0, 0, 0, 0, 0, 0, 0, 0, 0, 0, 0, 0, 0, 0, 0, 0, 0, 0, 0, 0, 0, 0, 0, 0, 0, 0, 0, 0, 0, 0, 0, 0, 0, 0, 0, 0, 0, 0, 0, 0, 0, 0, 0, 0, 0, 0, 0, 0, 0, 0, 0, 0, 0, 0, 0, 0, 0]] (by rfl) (by decide +kernel)
set_option maxRecDepth 20000 in
theorem gX12_readsEntry_X12_need : GoodIn wsX12_readsEntry (wsV RX12 197 RX12 yX12_need wsX12_need) := goodIn_app (goodIn_of _ (by decide +kernel)) ggX12_readsEntry_X12_need
noncomputable def sX12_readsEntry_210 : List Nat := 177 :: []
noncomputable def sX12_readsEntry_207 : List Nat := 182 :: 0 :: 197 :: sX12_readsEntry_210
noncomputable def sX12_readsEntry_206 : List Nat := 3 :: sX12_readsEntry_207
noncomputable def sX12_readsEntry_203 : List Nat := 167 :: 0 :: 4 :: sX12_readsEntry_206
noncomputable def sX12_readsEntry_202 : List Nat := 4 :: sX12_readsEntry_203
noncomputable def sX12_readsEntry_199 : List Nat := 160 :: 0 :: 7 :: sX12_readsEntry_202
noncomputable def sX12_readsEntry_198 : List Nat := 6 :: sX12_readsEntry_199
noncomputable def sX12_readsEntry_195 : List Nat := 180 :: 0 :: 159 :: sX12_readsEntry_198
noncomputable def sX12_readsEntry_194 : List Nat := 42 :: sX12_readsEntry_195
noncomputable def sX12_readsEntry_193 : List Nat := 42 :: sX12_readsEntry_194
noncomputable def sX12_readsEntry_192 : List Nat := 79 :: sX12_readsEntry_193
noncomputable def sX12_readsEntry_191 : List Nat := 96 :: sX12_readsEntry_192
noncomputable def sX12_readsEntry_189 : List Nat := 21 :: 4 :: sX12_readsEntry_191
noncomputable def sX12_readsEntry_188 : List Nat := 104 :: sX12_readsEntry_189
noncomputable def sX12_readsEntry_187 : List Nat := 29 :: sX12_readsEntry_188
noncomputable def sX12_readsEntry_185 : List Nat := 16 :: 30 :: sX12_readsEntry_187
noncomputable def sX12_readsEntry_184 : List Nat := 28 :: sX12_readsEntry_185
noncomputable def sX12_readsEntry_181 : List Nat := 180 :: 0 :: 62 :: sX12_readsEntry_184
noncomputable def sX12_readsEntry_180 : List Nat := 42 :: sX12_readsEntry_181
noncomputable def sX12_readsEntry_177 : List Nat := 153 :: 0 :: 16 :: sX12_readsEntry_180
noncomputable def sX12_readsEntry_174 : List Nat := 182 :: 0 :: 183 :: sX12_readsEntry_177
noncomputable def sX12_readsEntry_173 : List Nat := 42 :: sX12_readsEntry_174
noncomputable def sX12_readsEntry_171 : List Nat := 54 :: 4 :: sX12_readsEntry_173
noncomputable def sX12_readsEntry_168 : List Nat := 182 :: 0 :: 201 :: sX12_readsEntry_171
noncomputable def sX12_readsEntry_166 : List Nat := 16 :: 29 :: sX12_readsEntry_168
noncomputable def sX12_readsEntry_163 : List Nat := 167 :: 0 :: 5 :: sX12_readsEntry_166
noncomputable def sX12_readsEntry_162 : List Nat := 7 :: sX12_readsEntry_163
noncomputable def sX12_readsEntry_159 : List Nat := 160 :: 0 :: 7 :: sX12_readsEntry_162
noncomputable def sX12_readsEntry_157 : List Nat := 16 :: 12 :: sX12_readsEntry_159
noncomputable def sX12_readsEntry_156 : List Nat := 29 :: sX12_readsEntry_157
noncomputable def sX12_readsEntry_153 : List Nat := 160 :: 0 :: 13 :: sX12_readsEntry_156
noncomputable def sX12_readsEntry_151 : List Nat := 16 :: 10 :: sX12_readsEntry_153
noncomputable def sX12_readsEntry_150 : List Nat := 27 :: sX12_readsEntry_151
noncomputable def sX12_readsEntry_149 : List Nat := 3 :: sX12_readsEntry_150
noncomputable def sX12_readsEntry_148 : List Nat := 42 :: sX12_readsEntry_149
noncomputable def sX12_readsEntry_147 : List Nat := 62 :: sX12_readsEntry_148
noncomputable def sX12_readsEntry_144 : List Nat := 182 :: 0 :: 201 :: sX12_readsEntry_147
noncomputable def sX12_readsEntry_142 : List Nat := 16 :: 11 :: sX12_readsEntry_144
noncomputable def sX12_readsEntry_139 : List Nat := 167 :: 0 :: 5 :: sX12_readsEntry_142
noncomputable def sX12_readsEntry_137 : List Nat := 16 :: 12 :: sX12_readsEntry_139
noncomputable def sX12_readsEntry_134 : List Nat := 160 :: 0 :: 8 :: sX12_readsEntry_137
noncomputable def sX12_readsEntry_132 : List Nat := 16 :: 10 :: sX12_readsEntry_134
noncomputable def sX12_readsEntry_131 : List Nat := 27 :: sX12_readsEntry_132
noncomputable def sX12_readsEntry_130 : List Nat := 3 :: sX12_readsEntry_131
noncomputable def sX12_readsEntry_129 : List Nat := 42 :: sX12_readsEntry_130
noncomputable def sX12_readsEntry_126 : List Nat := 181 :: 0 :: 37 :: sX12_readsEntry_129
noncomputable def sX12_readsEntry_125 : List Nat := 29 :: sX12_readsEntry_126
noncomputable def sX12_readsEntry_124 : List Nat := 42 :: sX12_readsEntry_125
noncomputable def sX12_readsEntry_121 : List Nat := 181 :: 0 :: 180 :: sX12_readsEntry_124
noncomputable def sX12_readsEntry_120 : List Nat := 6 :: sX12_readsEntry_121
noncomputable def sX12_readsEntry_119 : List Nat := 42 :: sX12_readsEntry_120
noncomputable def sX12_readsEntry_116 : List Nat := 159 :: 0 :: 13 :: sX12_readsEntry_119
noncomputable def sX12_readsEntry_115 : List Nat := 2 :: sX12_readsEntry_116
noncomputable def sX12_readsEntry_114 : List Nat := 46 :: sX12_readsEntry_115
noncomputable def sX12_readsEntry_113 : List Nat := 28 :: sX12_readsEntry_114
noncomputable def sX12_readsEntry_110 : List Nat := 180 :: 0 :: 62 :: sX12_readsEntry_113
noncomputable def sX12_readsEntry_109 : List Nat := 42 :: sX12_readsEntry_110
noncomputable def sX12_readsEntry_106 : List Nat := 153 :: 0 :: 23 :: sX12_readsEntry_109
noncomputable def sX12_readsEntry_103 : List Nat := 182 :: 0 :: 183 :: sX12_readsEntry_106
noncomputable def sX12_readsEntry_102 : List Nat := 42 :: sX12_readsEntry_103
noncomputable def sX12_readsEntry_101 : List Nat := 61 :: sX12_readsEntry_102
noncomputable def sX12_readsEntry_100 : List Nat := 100 :: sX12_readsEntry_101
noncomputable def sX12_readsEntry_99 : List Nat := 4 :: sX12_readsEntry_100
noncomputable def sX12_readsEntry_98 : List Nat := 96 :: sX12_readsEntry_99
noncomputable def sX12_readsEntry_96 : List Nat := 21 :: 4 :: sX12_readsEntry_98
noncomputable def sX12_readsEntry_94 : List Nat := 16 :: 9 :: sX12_readsEntry_96
noncomputable def sX12_readsEntry_92 : List Nat := 54 :: 4 :: sX12_readsEntry_94
noncomputable def sX12_readsEntry_89 : List Nat := 182 :: 0 :: 201 :: sX12_readsEntry_92
noncomputable def sX12_readsEntry_87 : List Nat := 16 :: 12 :: sX12_readsEntry_89
noncomputable def sX12_readsEntry_86 : List Nat := 4 :: sX12_readsEntry_87
noncomputable def sX12_readsEntry_85 : List Nat := 42 :: sX12_readsEntry_86
noncomputable def sX12_readsEntry_84 : List Nat := 62 :: sX12_readsEntry_85
noncomputable def sX12_readsEntry_81 : List Nat := 180 :: 0 :: 149 :: sX12_readsEntry_84
noncomputable def sX12_readsEntry_80 : List Nat := 42 :: sX12_readsEntry_81
noncomputable def sX12_readsEntry_77 : List Nat := 160 :: 0 :: 52 :: sX12_readsEntry_80
noncomputable def sX12_readsEntry_75 : List Nat := 16 :: 9 :: sX12_readsEntry_77
noncomputable def sX12_readsEntry_74 : List Nat := 27 :: sX12_readsEntry_75
noncomputable def sX12_readsEntry_71 : List Nat := 182 :: 0 :: 187 :: sX12_readsEntry_74
noncomputable def sX12_readsEntry_70 : List Nat := 42 :: sX12_readsEntry_71
noncomputable def sX12_readsEntry_69 : List Nat := 177 :: sX12_readsEntry_70
noncomputable def sX12_readsEntry_66 : List Nat := 154 :: 0 :: 4 :: sX12_readsEntry_69
noncomputable def sX12_readsEntry_63 : List Nat := 182 :: 0 :: 183 :: sX12_readsEntry_66
noncomputable def sX12_readsEntry_62 : List Nat := 42 :: sX12_readsEntry_63
noncomputable def sX12_readsEntry_59 : List Nat := 182 :: 0 :: 190 :: sX12_readsEntry_62
noncomputable def sX12_readsEntry_58 : List Nat := 6 :: sX12_readsEntry_59
noncomputable def sX12_readsEntry_57 : List Nat := 42 :: sX12_readsEntry_58
noncomputable def sX12_readsEntry_54 : List Nat := 159 :: 0 :: 8 :: sX12_readsEntry_57
noncomputable def sX12_readsEntry_53 : List Nat := 2 :: sX12_readsEntry_54
noncomputable def sX12_readsEntry_52 : List Nat := 46 :: sX12_readsEntry_53
noncomputable def sX12_readsEntry_51 : List Nat := 28 :: sX12_readsEntry_52
noncomputable def sX12_readsEntry_48 : List Nat := 180 :: 0 :: 62 :: sX12_readsEntry_51
noncomputable def sX12_readsEntry_47 : List Nat := 42 :: sX12_readsEntry_48
noncomputable def sX12_readsEntry_44 : List Nat := 159 :: 0 :: 18 :: sX12_readsEntry_47
noncomputable def sX12_readsEntry_42 : List Nat := 16 :: 9 :: sX12_readsEntry_44
noncomputable def sX12_readsEntry_41 : List Nat := 27 :: sX12_readsEntry_42
noncomputable def sX12_readsEntry_40 : List Nat := 61 :: sX12_readsEntry_41
noncomputable def sX12_readsEntry_39 : List Nat := 27 :: sX12_readsEntry_40
noncomputable def sX12_readsEntry_36 : List Nat := 167 :: 0 :: 4 :: sX12_readsEntry_39
noncomputable def sX12_readsEntry_34 : List Nat := 16 :: 21 :: sX12_readsEntry_36
noncomputable def sX12_readsEntry_31 : List Nat := 160 :: 0 :: 8 :: sX12_readsEntry_34
noncomputable def sX12_readsEntry_29 : List Nat := 16 :: 10 :: sX12_readsEntry_31
noncomputable def sX12_readsEntry_28 : List Nat := 27 :: sX12_readsEntry_29
noncomputable def sX12_readsEntry_27 : List Nat := 177 :: sX12_readsEntry_28
noncomputable def sX12_readsEntry_24 : List Nat := 154 :: 0 :: 4 :: sX12_readsEntry_27
noncomputable def sX12_readsEntry_21 : List Nat := 182 :: 0 :: 183 :: sX12_readsEntry_24
noncomputable def sX12_readsEntry_20 : List Nat := 42 :: sX12_readsEntry_21
noncomputable def sX12_readsEntry_17 : List Nat := 182 :: 0 :: 190 :: sX12_readsEntry_20
noncomputable def sX12_readsEntry_16 : List Nat := 4 :: sX12_readsEntry_17
noncomputable def sX12_readsEntry_15 : List Nat := 42 :: sX12_readsEntry_16
noncomputable def sX12_readsEntry_12 : List Nat := 164 :: 0 :: 8 :: sX12_readsEntry_15
noncomputable def sX12_readsEntry_10 : List Nat := 16 :: 10 :: sX12_readsEntry_12
noncomputable def sX12_readsEntry_9 : List Nat := 27 :: sX12_readsEntry_10
noncomputable def sX12_readsEntry_6 : List Nat := 155 :: 0 :: 9 :: sX12_readsEntry_9
noncomputable def sX12_readsEntry_5 : List Nat := 27 :: sX12_readsEntry_6
noncomputable def sX12_readsEntry_4 : List Nat := 60 :: sX12_readsEntry_5
noncomputable def sX12_readsEntry_1 : List Nat := 182 :: 0 :: 193 :: sX12_readsEntry_4
noncomputable def sX12_readsEntry_0 : List Nat := 42 :: sX12_readsEntry_1
theorem aX12_readsEntry_0 : dc_at cX12_readsEntry 0 sX12_readsEntry_0 := dc_base (by decide +kernel)
theorem aX12_readsEntry_1 : dc_at cX12_readsEntry 1 sX12_readsEntry_1 := dc_n1 aX12_readsEntry_0
theorem aX12_readsEntry_4 : dc_at cX12_readsEntry 4 sX12_readsEntry_4 := dc_n3 aX12_readsEntry_1
theorem aX12_readsEntry_5 : dc_at cX12_readsEntry 5 sX12_readsEntry_5 := dc_n1 aX12_readsEntry_4
theorem aX12_readsEntry_6 : dc_at cX12_readsEntry 6 sX12_readsEntry_6 := dc_n1 aX12_readsEntry_5
theorem aX12_readsEntry_9 : dc_at cX12_readsEntry 9 sX12_readsEntry_9 := dc_n3 aX12_readsEntry_6
theorem aX12_readsEntry_10 : dc_at cX12_readsEntry 10 sX12_readsEntry_10 := dc_n1 aX12_readsEntry_9
theorem aX12_readsEntry_12 : dc_at cX12_readsEntry 12 sX12_readsEntry_12 := dc_n2 aX12_readsEntry_10
theorem aX12_readsEntry_15 : dc_at cX12_readsEntry 15 sX12_readsEntry_15 := dc_n3 aX12_readsEntry_12
theorem aX12_readsEntry_16 : dc_at cX12_readsEntry 16 sX12_readsEntry_16 := dc_n1 aX12_readsEntry_15
theorem aX12_readsEntry_17 : dc_at cX12_readsEntry 17 sX12_readsEntry_17 := dc_n1 aX12_readsEntry_16
theorem aX12_readsEntry_20 : dc_at cX12_readsEntry 20 sX12_readsEntry_20 := dc_n3 aX12_readsEntry_17
theorem aX12_readsEntry_21 : dc_at cX12_readsEntry 21 sX12_readsEntry_21 := dc_n1 aX12_readsEntry_20
theorem aX12_readsEntry_24 : dc_at cX12_readsEntry 24 sX12_readsEntry_24 := dc_n3 aX12_readsEntry_21
theorem aX12_readsEntry_27 : dc_at cX12_readsEntry 27 sX12_readsEntry_27 := dc_n3 aX12_readsEntry_24
theorem aX12_readsEntry_28 : dc_at cX12_readsEntry 28 sX12_readsEntry_28 := dc_n1 aX12_readsEntry_27
theorem aX12_readsEntry_29 : dc_at cX12_readsEntry 29 sX12_readsEntry_29 := dc_n1 aX12_readsEntry_28
theorem aX12_readsEntry_31 : dc_at cX12_readsEntry 31 sX12_readsEntry_31 := dc_n2 aX12_readsEntry_29
theorem aX12_readsEntry_34 : dc_at cX12_readsEntry 34 sX12_readsEntry_34 := dc_n3 aX12_readsEntry_31
theorem aX12_readsEntry_36 : dc_at cX12_readsEntry 36 sX12_readsEntry_36 := dc_n2 aX12_readsEntry_34
theorem aX12_readsEntry_39 : dc_at cX12_readsEntry 39 sX12_readsEntry_39 := dc_n3 aX12_readsEntry_36
theorem aX12_readsEntry_40 : dc_at cX12_readsEntry 40 sX12_readsEntry_40 := dc_n1 aX12_readsEntry_39
theorem aX12_readsEntry_41 : dc_at cX12_readsEntry 41 sX12_readsEntry_41 := dc_n1 aX12_readsEntry_40
theorem aX12_readsEntry_42 : dc_at cX12_readsEntry 42 sX12_readsEntry_42 := dc_n1 aX12_readsEntry_41
theorem aX12_readsEntry_44 : dc_at cX12_readsEntry 44 sX12_readsEntry_44 := dc_n2 aX12_readsEntry_42
theorem aX12_readsEntry_47 : dc_at cX12_readsEntry 47 sX12_readsEntry_47 := dc_n3 aX12_readsEntry_44
theorem aX12_readsEntry_48 : dc_at cX12_readsEntry 48 sX12_readsEntry_48 := dc_n1 aX12_readsEntry_47
theorem aX12_readsEntry_51 : dc_at cX12_readsEntry 51 sX12_readsEntry_51 := dc_n3 aX12_readsEntry_48
theorem aX12_readsEntry_52 : dc_at cX12_readsEntry 52 sX12_readsEntry_52 := dc_n1 aX12_readsEntry_51
theorem aX12_readsEntry_53 : dc_at cX12_readsEntry 53 sX12_readsEntry_53 := dc_n1 aX12_readsEntry_52
theorem aX12_readsEntry_54 : dc_at cX12_readsEntry 54 sX12_readsEntry_54 := dc_n1 aX12_readsEntry_53
theorem aX12_readsEntry_57 : dc_at cX12_readsEntry 57 sX12_readsEntry_57 := dc_n3 aX12_readsEntry_54
theorem aX12_readsEntry_58 : dc_at cX12_readsEntry 58 sX12_readsEntry_58 := dc_n1 aX12_readsEntry_57
theorem aX12_readsEntry_59 : dc_at cX12_readsEntry 59 sX12_readsEntry_59 := dc_n1 aX12_readsEntry_58
theorem aX12_readsEntry_62 : dc_at cX12_readsEntry 62 sX12_readsEntry_62 := dc_n3 aX12_readsEntry_59
theorem aX12_readsEntry_63 : dc_at cX12_readsEntry 63 sX12_readsEntry_63 := dc_n1 aX12_readsEntry_62
theorem aX12_readsEntry_66 : dc_at cX12_readsEntry 66 sX12_readsEntry_66 := dc_n3 aX12_readsEntry_63
theorem aX12_readsEntry_69 : dc_at cX12_readsEntry 69 sX12_readsEntry_69 := dc_n3 aX12_readsEntry_66
theorem aX12_readsEntry_70 : dc_at cX12_readsEntry 70 sX12_readsEntry_70 := dc_n1 aX12_readsEntry_69
theorem aX12_readsEntry_71 : dc_at cX12_readsEntry 71 sX12_readsEntry_71 := dc_n1 aX12_readsEntry_70
theorem aX12_readsEntry_74 : dc_at cX12_readsEntry 74 sX12_readsEntry_74 := dc_n3 aX12_readsEntry_71
theorem aX12_readsEntry_75 : dc_at cX12_readsEntry 75 sX12_readsEntry_75 := dc_n1 aX12_readsEntry_74
theorem aX12_readsEntry_77 : dc_at cX12_readsEntry 77 sX12_readsEntry_77 := dc_n2 aX12_readsEntry_75
theorem aX12_readsEntry_80 : dc_at cX12_readsEntry 80 sX12_readsEntry_80 := dc_n3 aX12_readsEntry_77
theorem aX12_readsEntry_81 : dc_at cX12_readsEntry 81 sX12_readsEntry_81 := dc_n1 aX12_readsEntry_80
theorem aX12_readsEntry_84 : dc_at cX12_readsEntry 84 sX12_readsEntry_84 := dc_n3 aX12_readsEntry_81
theorem aX12_readsEntry_85 : dc_at cX12_readsEntry 85 sX12_readsEntry_85 := dc_n1 aX12_readsEntry_84
theorem aX12_readsEntry_86 : dc_at cX12_readsEntry 86 sX12_readsEntry_86 := dc_n1 aX12_readsEntry_85
theorem aX12_readsEntry_87 : dc_at cX12_readsEntry 87 sX12_readsEntry_87 := dc_n1 aX12_readsEntry_86
theorem aX12_readsEntry_89 : dc_at cX12_readsEntry 89 sX12_readsEntry_89 := dc_n2 aX12_readsEntry_87
theorem aX12_readsEntry_92 : dc_at cX12_readsEntry 92 sX12_readsEntry_92 := dc_n3 aX12_readsEntry_89
theorem aX12_readsEntry_94 : dc_at cX12_readsEntry 94 sX12_readsEntry_94 := dc_n2 aX12_readsEntry_92
theorem aX12_readsEntry_96 : dc_at cX12_readsEntry 96 sX12_readsEntry_96 := dc_n2 aX12_readsEntry_94
theorem aX12_readsEntry_98 : dc_at cX12_readsEntry 98 sX12_readsEntry_98 := dc_n2 aX12_readsEntry_96
theorem aX12_readsEntry_99 : dc_at cX12_readsEntry 99 sX12_readsEntry_99 := dc_n1 aX12_readsEntry_98
theorem aX12_readsEntry_100 : dc_at cX12_readsEntry 100 sX12_readsEntry_100 := dc_n1 aX12_readsEntry_99
theorem aX12_readsEntry_101 : dc_at cX12_readsEntry 101 sX12_readsEntry_101 := dc_n1 aX12_readsEntry_100
theorem aX12_readsEntry_102 : dc_at cX12_readsEntry 102 sX12_readsEntry_102 := dc_n1 aX12_readsEntry_101
theorem aX12_readsEntry_103 : dc_at cX12_readsEntry 103 sX12_readsEntry_103 := dc_n1 aX12_readsEntry_102
theorem aX12_readsEntry_106 : dc_at cX12_readsEntry 106 sX12_readsEntry_106 := dc_n3 aX12_readsEntry_103
theorem aX12_readsEntry_109 : dc_at cX12_readsEntry 109 sX12_readsEntry_109 := dc_n3 aX12_readsEntry_106
theorem aX12_readsEntry_110 : dc_at cX12_readsEntry 110 sX12_readsEntry_110 := dc_n1 aX12_readsEntry_109
theorem aX12_readsEntry_113 : dc_at cX12_readsEntry 113 sX12_readsEntry_113 := dc_n3 aX12_readsEntry_110
theorem aX12_readsEntry_114 : dc_at cX12_readsEntry 114 sX12_readsEntry_114 := dc_n1 aX12_readsEntry_113
theorem aX12_readsEntry_115 : dc_at cX12_readsEntry 115 sX12_readsEntry_115 := dc_n1 aX12_readsEntry_114
theorem aX12_readsEntry_116 : dc_at cX12_readsEntry 116 sX12_readsEntry_116 := dc_n1 aX12_readsEntry_115
theorem aX12_readsEntry_119 : dc_at cX12_readsEntry 119 sX12_readsEntry_119 := dc_n3 aX12_readsEntry_116
theorem aX12_readsEntry_120 : dc_at cX12_readsEntry 120 sX12_readsEntry_120 := dc_n1 aX12_readsEntry_119
theorem aX12_readsEntry_121 : dc_at cX12_readsEntry 121 sX12_readsEntry_121 := dc_n1 aX12_readsEntry_120
theorem aX12_readsEntry_124 : dc_at cX12_readsEntry 124 sX12_readsEntry_124 := dc_n3 aX12_readsEntry_121
theorem aX12_readsEntry_125 : dc_at cX12_readsEntry 125 sX12_readsEntry_125 := dc_n1 aX12_readsEntry_124
theorem aX12_readsEntry_126 : dc_at cX12_readsEntry 126 sX12_readsEntry_126 := dc_n1 aX12_readsEntry_125
theorem aX12_readsEntry_129 : dc_at cX12_readsEntry 129 sX12_readsEntry_129 := dc_n3 aX12_readsEntry_126
theorem aX12_readsEntry_130 : dc_at cX12_readsEntry 130 sX12_readsEntry_130 := dc_n1 aX12_readsEntry_129
theorem aX12_readsEntry_131 : dc_at cX12_readsEntry 131 sX12_readsEntry_131 := dc_n1 aX12_readsEntry_130
theorem aX12_readsEntry_132 : dc_at cX12_readsEntry 132 sX12_readsEntry_132 := dc_n1 aX12_readsEntry_131
theorem aX12_readsEntry_134 : dc_at cX12_readsEntry 134 sX12_readsEntry_134 := dc_n2 aX12_readsEntry_132
theorem aX12_readsEntry_137 : dc_at cX12_readsEntry 137 sX12_readsEntry_137 := dc_n3 aX12_readsEntry_134
theorem aX12_readsEntry_139 : dc_at cX12_readsEntry 139 sX12_readsEntry_139 := dc_n2 aX12_readsEntry_137
theorem aX12_readsEntry_142 : dc_at cX12_readsEntry 142 sX12_readsEntry_142 := dc_n3 aX12_readsEntry_139
theorem aX12_readsEntry_144 : dc_at cX12_readsEntry 144 sX12_readsEntry_144 := dc_n2 aX12_readsEntry_142
theorem aX12_readsEntry_147 : dc_at cX12_readsEntry 147 sX12_readsEntry_147 := dc_n3 aX12_readsEntry_144
theorem aX12_readsEntry_148 : dc_at cX12_readsEntry 148 sX12_readsEntry_148 := dc_n1 aX12_readsEntry_147
theorem aX12_readsEntry_149 : dc_at cX12_readsEntry 149 sX12_readsEntry_149 := dc_n1 aX12_readsEntry_148
theorem aX12_readsEntry_150 : dc_at cX12_readsEntry 150 sX12_readsEntry_150 := dc_n1 aX12_readsEntry_149
theorem aX12_readsEntry_151 : dc_at cX12_readsEntry 151 sX12_readsEntry_151 := dc_n1 aX12_readsEntry_150
theorem aX12_readsEntry_153 : dc_at cX12_readsEntry 153 sX12_readsEntry_153 := dc_n2 aX12_readsEntry_151
theorem aX12_readsEntry_156 : dc_at cX12_readsEntry 156 sX12_readsEntry_156 := dc_n3 aX12_readsEntry_153
theorem aX12_readsEntry_157 : dc_at cX12_readsEntry 157 sX12_readsEntry_157 := dc_n1 aX12_readsEntry_156
theorem aX12_readsEntry_159 : dc_at cX12_readsEntry 159 sX12_readsEntry_159 := dc_n2 aX12_readsEntry_157
theorem aX12_readsEntry_162 : dc_at cX12_readsEntry 162 sX12_readsEntry_162 := dc_n3 aX12_readsEntry_159
theorem aX12_readsEntry_163 : dc_at cX12_readsEntry 163 sX12_readsEntry_163 := dc_n1 aX12_readsEntry_162
theorem aX12_readsEntry_166 : dc_at cX12_readsEntry 166 sX12_readsEntry_166 := dc_n3 aX12_readsEntry_163
theorem aX12_readsEntry_168 : dc_at cX12_readsEntry 168 sX12_readsEntry_168 := dc_n2 aX12_readsEntry_166
theorem aX12_readsEntry_171 : dc_at cX12_readsEntry 171 sX12_readsEntry_171 := dc_n3 aX12_readsEntry_168
theorem aX12_readsEntry_173 : dc_at cX12_readsEntry 173 sX12_readsEntry_173 := dc_n2 aX12_readsEntry_171
theorem aX12_readsEntry_174 : dc_at cX12_readsEntry 174 sX12_readsEntry_174 := dc_n1 aX12_readsEntry_173
theorem aX12_readsEntry_177 : dc_at cX12_readsEntry 177 sX12_readsEntry_177 := dc_n3 aX12_readsEntry_174
theorem aX12_readsEntry_180 : dc_at cX12_readsEntry 180 sX12_readsEntry_180 := dc_n3 aX12_readsEntry_177
theorem aX12_readsEntry_181 : dc_at cX12_readsEntry 181 sX12_readsEntry_181 := dc_n1 aX12_readsEntry_180
theorem aX12_readsEntry_184 : dc_at cX12_readsEntry 184 sX12_readsEntry_184 := dc_n3 aX12_readsEntry_181
theorem aX12_readsEntry_185 : dc_at cX12_readsEntry 185 sX12_readsEntry_185 := dc_n1 aX12_readsEntry_184
theorem aX12_readsEntry_187 : dc_at cX12_readsEntry 187 sX12_readsEntry_187 := dc_n2 aX12_readsEntry_185
theorem aX12_readsEntry_188 : dc_at cX12_readsEntry 188 sX12_readsEntry_188 := dc_n1 aX12_readsEntry_187
theorem aX12_readsEntry_189 : dc_at cX12_readsEntry 189 sX12_readsEntry_189 := dc_n1 aX12_readsEntry_188
theorem aX12_readsEntry_191 : dc_at cX12_readsEntry 191 sX12_readsEntry_191 := dc_n2 aX12_readsEntry_189
theorem aX12_readsEntry_192 : dc_at cX12_readsEntry 192 sX12_readsEntry_192 := dc_n1 aX12_readsEntry_191
theorem aX12_readsEntry_193 : dc_at cX12_readsEntry 193 sX12_readsEntry_193 := dc_n1 aX12_readsEntry_192
theorem aX12_readsEntry_194 : dc_at cX12_readsEntry 194 sX12_readsEntry_194 := dc_n1 aX12_readsEntry_193
theorem aX12_readsEntry_195 : dc_at cX12_readsEntry 195 sX12_readsEntry_195 := dc_n1 aX12_readsEntry_194
theorem aX12_readsEntry_198 : dc_at cX12_readsEntry 198 sX12_readsEntry_198 := dc_n3 aX12_readsEntry_195
theorem aX12_readsEntry_199 : dc_at cX12_readsEntry 199 sX12_readsEntry_199 := dc_n1 aX12_readsEntry_198
theorem aX12_readsEntry_202 : dc_at cX12_readsEntry 202 sX12_readsEntry_202 := dc_n3 aX12_readsEntry_199
theorem aX12_readsEntry_203 : dc_at cX12_readsEntry 203 sX12_readsEntry_203 := dc_n1 aX12_readsEntry_202
theorem aX12_readsEntry_206 : dc_at cX12_readsEntry 206 sX12_readsEntry_206 := dc_n3 aX12_readsEntry_203
theorem aX12_readsEntry_207 : dc_at cX12_readsEntry 207 sX12_readsEntry_207 := dc_n1 aX12_readsEntry_206
theorem aX12_readsEntry_210 : dc_at cX12_readsEntry 210 sX12_readsEntry_210 := dc_n3 aX12_readsEntry_207
theorem dX12_readsEntry_0 : decode cX12_readsEntry 0 = .ok (.aload_n 0, 1) := dc_42 aX12_readsEntry_0
theorem dX12_readsEntry_1 : decode cX12_readsEntry 1 = .ok (.invokevirtual 193, 3) := dc_182 (a0 := 0) (b0 := 193) aX12_readsEntry_1
theorem dX12_readsEntry_4 : decode cX12_readsEntry 4 = .ok (.istore_n 1, 1) := dc_60 aX12_readsEntry_4
theorem dX12_readsEntry_5 : decode cX12_readsEntry 5 = .ok (.iload_n 1, 1) := dc_27 aX12_readsEntry_5
theorem dX12_readsEntry_6 : decode cX12_readsEntry 6 = .ok (.ifCond .lt 9, 3) := dc_155 (a0 := 0) (b0 := 9) aX12_readsEntry_6 (by decide)
theorem dX12_readsEntry_9 : decode cX12_readsEntry 9 = .ok (.iload_n 1, 1) := dc_27 aX12_readsEntry_9
theorem dX12_readsEntry_10 : decode cX12_readsEntry 10 = .ok (.bipush 10, 2) := dc_16 (a0 := 10) aX12_readsEntry_10 (by decide)
theorem dX12_readsEntry_12 : decode cX12_readsEntry 12 = .ok (.if_icmp .le 8, 3) := dc_164 (a0 := 0) (b0 := 8) aX12_readsEntry_12 (by decide)
theorem dX12_readsEntry_15 : decode cX12_readsEntry 15 = .ok (.aload_n 0, 1) := dc_42 aX12_readsEntry_15
theorem dX12_readsEntry_16 : decode cX12_readsEntry 16 = .ok (.iconst 1, 1) := dc_4 aX12_readsEntry_16
theorem dX12_readsEntry_17 : decode cX12_readsEntry 17 = .ok (.invokevirtual 190, 3) := dc_182 (a0 := 0) (b0 := 190) aX12_readsEntry_17
theorem dX12_readsEntry_20 : decode cX12_readsEntry 20 = .ok (.aload_n 0, 1) := dc_42 aX12_readsEntry_20
theorem dX12_readsEntry_21 : decode cX12_readsEntry 21 = .ok (.invokevirtual 183, 3) := dc_182 (a0 := 0) (b0 := 183) aX12_readsEntry_21
theorem dX12_readsEntry_24 : decode cX12_readsEntry 24 = .ok (.ifCond .ne 4, 3) := dc_154 (a0 := 0) (b0 := 4) aX12_readsEntry_24 (by decide)
theorem dX12_readsEntry_27 : decode cX12_readsEntry 27 = .ok (.return_, 1) := dc_177 aX12_readsEntry_27
theorem dX12_readsEntry_28 : decode cX12_readsEntry 28 = .ok (.iload_n 1, 1) := dc_27 aX12_readsEntry_28
theorem dX12_readsEntry_29 : decode cX12_readsEntry 29 = .ok (.bipush 10, 2) := dc_16 (a0 := 10) aX12_readsEntry_29 (by decide)
theorem dX12_readsEntry_31 : decode cX12_readsEntry 31 = .ok (.if_icmp .ne 8, 3) := dc_160 (a0 := 0) (b0 := 8) aX12_readsEntry_31 (by decide)
theorem dX12_readsEntry_34 : decode cX12_readsEntry 34 = .ok (.bipush 21, 2) := dc_16 (a0 := 21) aX12_readsEntry_34 (by decide)
theorem dX12_readsEntry_36 : decode cX12_readsEntry 36 = .ok (.goto 4, 3) := dc_167 (a0 := 0) (b0 := 4) aX12_readsEntry_36 (by decide)
theorem dX12_readsEntry_39 : decode cX12_readsEntry 39 = .ok (.iload_n 1, 1) := dc_27 aX12_readsEntry_39
theorem dX12_readsEntry_40 : decode cX12_readsEntry 40 = .ok (.istore_n 2, 1) := dc_61 aX12_readsEntry_40
theorem dX12_readsEntry_41 : decode cX12_readsEntry 41 = .ok (.iload_n 1, 1) := dc_27 aX12_readsEntry_41
theorem dX12_readsEntry_42 : decode cX12_readsEntry 42 = .ok (.bipush 9, 2) := dc_16 (a0 := 9) aX12_readsEntry_42 (by decide)
theorem dX12_readsEntry_44 : decode cX12_readsEntry 44 = .ok (.if_icmp .eq 18, 3) := dc_159 (a0 := 0) (b0 := 18) aX12_readsEntry_44 (by decide)
theorem dX12_readsEntry_47 : decode cX12_readsEntry 47 = .ok (.aload_n 0, 1) := dc_42 aX12_readsEntry_47
theorem dX12_readsEntry_48 : decode cX12_readsEntry 48 = .ok (.getfield 62, 3) := dc_180 (a0 := 0) (b0 := 62) aX12_readsEntry_48
theorem dX12_readsEntry_51 : decode cX12_readsEntry 51 = .ok (.iload_n 2, 1) := dc_28 aX12_readsEntry_51
theorem dX12_readsEntry_52 : decode cX12_readsEntry 52 = .ok (.iaload, 1) := dc_46 aX12_readsEntry_52
theorem dX12_readsEntry_53 : decode cX12_readsEntry 53 = .ok (.iconst (-1), 1) := dc_2 aX12_readsEntry_53
theorem dX12_readsEntry_54 : decode cX12_readsEntry 54 = .ok (.if_icmp .eq 8, 3) := dc_159 (a0 := 0) (b0 := 8) aX12_readsEntry_54 (by decide)
theorem dX12_readsEntry_57 : decode cX12_readsEntry 57 = .ok (.aload_n 0, 1) := dc_42 aX12_readsEntry_57
theorem dX12_readsEntry_58 : decode cX12_readsEntry 58 = .ok (.iconst 3, 1) := dc_6 aX12_readsEntry_58
theorem dX12_readsEntry_59 : decode cX12_readsEntry 59 = .ok (.invokevirtual 190, 3) := dc_182 (a0 := 0) (b0 := 190) aX12_readsEntry_59
theorem dX12_readsEntry_62 : decode cX12_readsEntry 62 = .ok (.aload_n 0, 1) := dc_42 aX12_readsEntry_62
theorem dX12_readsEntry_63 : decode cX12_readsEntry 63 = .ok (.invokevirtual 183, 3) := dc_182 (a0 := 0) (b0 := 183) aX12_readsEntry_63
theorem dX12_readsEntry_66 : decode cX12_readsEntry 66 = .ok (.ifCond .ne 4, 3) := dc_154 (a0 := 0) (b0 := 4) aX12_readsEntry_66 (by decide)
theorem dX12_readsEntry_69 : decode cX12_readsEntry 69 = .ok (.return_, 1) := dc_177 aX12_readsEntry_69
theorem dX12_readsEntry_70 : decode cX12_readsEntry 70 = .ok (.aload_n 0, 1) := dc_42 aX12_readsEntry_70
theorem dX12_readsEntry_71 : decode cX12_readsEntry 71 = .ok (.invokevirtual 187, 3) := dc_182 (a0 := 0) (b0 := 187) aX12_readsEntry_71
theorem dX12_readsEntry_74 : decode cX12_readsEntry 74 = .ok (.iload_n 1, 1) := dc_27 aX12_readsEntry_74
theorem dX12_readsEntry_75 : decode cX12_readsEntry 75 = .ok (.bipush 9, 2) := dc_16 (a0 := 9) aX12_readsEntry_75 (by decide)
theorem dX12_readsEntry_77 : decode cX12_readsEntry 77 = .ok (.if_icmp .ne 52, 3) := dc_160 (a0 := 0) (b0 := 52) aX12_readsEntry_77 (by decide)
theorem dX12_readsEntry_80 : decode cX12_readsEntry 80 = .ok (.aload_n 0, 1) := dc_42 aX12_readsEntry_80
theorem dX12_readsEntry_81 : decode cX12_readsEntry 81 = .ok (.getfield 149, 3) := dc_180 (a0 := 0) (b0 := 149) aX12_readsEntry_81
theorem dX12_readsEntry_84 : decode cX12_readsEntry 84 = .ok (.istore_n 3, 1) := dc_62 aX12_readsEntry_84
theorem dX12_readsEntry_85 : decode cX12_readsEntry 85 = .ok (.aload_n 0, 1) := dc_42 aX12_readsEntry_85
theorem dX12_readsEntry_86 : decode cX12_readsEntry 86 = .ok (.iconst 1, 1) := dc_4 aX12_readsEntry_86
theorem dX12_readsEntry_87 : decode cX12_readsEntry 87 = .ok (.bipush 12, 2) := dc_16 (a0 := 12) aX12_readsEntry_87 (by decide)
theorem dX12_readsEntry_89 : decode cX12_readsEntry 89 = .ok (.invokevirtual 201, 3) := dc_182 (a0 := 0) (b0 := 201) aX12_readsEntry_89
theorem dX12_readsEntry_92 : decode cX12_readsEntry 92 = .ok (.istore 4, 2) := dc_54 (a0 := 4) aX12_readsEntry_92
theorem dX12_readsEntry_94 : decode cX12_readsEntry 94 = .ok (.bipush 9, 2) := dc_16 (a0 := 9) aX12_readsEntry_94 (by decide)
theorem dX12_readsEntry_96 : decode cX12_readsEntry 96 = .ok (.iload 4, 2) := dc_21 (a0 := 4) aX12_readsEntry_96
theorem dX12_readsEntry_98 : decode cX12_readsEntry 98 = .ok (.iadd, 1) := dc_96 aX12_readsEntry_98
theorem dX12_readsEntry_99 : decode cX12_readsEntry 99 = .ok (.iconst 1, 1) := dc_4 aX12_readsEntry_99
theorem dX12_readsEntry_100 : decode cX12_readsEntry 100 = .ok (.isub, 1) := dc_100 aX12_readsEntry_100
theorem dX12_readsEntry_101 : decode cX12_readsEntry 101 = .ok (.istore_n 2, 1) := dc_61 aX12_readsEntry_101
theorem dX12_readsEntry_102 : decode cX12_readsEntry 102 = .ok (.aload_n 0, 1) := dc_42 aX12_readsEntry_102
theorem dX12_readsEntry_103 : decode cX12_readsEntry 103 = .ok (.invokevirtual 183, 3) := dc_182 (a0 := 0) (b0 := 183) aX12_readsEntry_103
theorem dX12_readsEntry_106 : decode cX12_readsEntry 106 = .ok (.ifCond .eq 23, 3) := dc_153 (a0 := 0) (b0 := 23) aX12_readsEntry_106 (by decide)
theorem dX12_readsEntry_109 : decode cX12_readsEntry 109 = .ok (.aload_n 0, 1) := dc_42 aX12_readsEntry_109
theorem dX12_readsEntry_110 : decode cX12_readsEntry 110 = .ok (.getfield 62, 3) := dc_180 (a0 := 0) (b0 := 62) aX12_readsEntry_110
theorem dX12_readsEntry_113 : decode cX12_readsEntry 113 = .ok (.iload_n 2, 1) := dc_28 aX12_readsEntry_113
theorem dX12_readsEntry_114 : decode cX12_readsEntry 114 = .ok (.iaload, 1) := dc_46 aX12_readsEntry_114
theorem dX12_readsEntry_115 : decode cX12_readsEntry 115 = .ok (.iconst (-1), 1) := dc_2 aX12_readsEntry_115
theorem dX12_readsEntry_116 : decode cX12_readsEntry 116 = .ok (.if_icmp .eq 13, 3) := dc_159 (a0 := 0) (b0 := 13) aX12_readsEntry_116 (by decide)
theorem dX12_readsEntry_119 : decode cX12_readsEntry 119 = .ok (.aload_n 0, 1) := dc_42 aX12_readsEntry_119
theorem dX12_readsEntry_120 : decode cX12_readsEntry 120 = .ok (.iconst 3, 1) := dc_6 aX12_readsEntry_120
theorem dX12_readsEntry_121 : decode cX12_readsEntry 121 = .ok (.putfield 180, 3) := dc_181 (a0 := 0) (b0 := 180) aX12_readsEntry_121
theorem dX12_readsEntry_124 : decode cX12_readsEntry 124 = .ok (.aload_n 0, 1) := dc_42 aX12_readsEntry_124
theorem dX12_readsEntry_125 : decode cX12_readsEntry 125 = .ok (.iload_n 3, 1) := dc_29 aX12_readsEntry_125
theorem dX12_readsEntry_126 : decode cX12_readsEntry 126 = .ok (.putfield 37, 3) := dc_181 (a0 := 0) (b0 := 37) aX12_readsEntry_126
theorem dX12_readsEntry_129 : decode cX12_readsEntry 129 = .ok (.aload_n 0, 1) := dc_42 aX12_readsEntry_129
theorem dX12_readsEntry_130 : decode cX12_readsEntry 130 = .ok (.iconst 0, 1) := dc_3 aX12_readsEntry_130
theorem dX12_readsEntry_131 : decode cX12_readsEntry 131 = .ok (.iload_n 1, 1) := dc_27 aX12_readsEntry_131
theorem dX12_readsEntry_132 : decode cX12_readsEntry 132 = .ok (.bipush 10, 2) := dc_16 (a0 := 10) aX12_readsEntry_132 (by decide)
theorem dX12_readsEntry_134 : decode cX12_readsEntry 134 = .ok (.if_icmp .ne 8, 3) := dc_160 (a0 := 0) (b0 := 8) aX12_readsEntry_134 (by decide)
theorem dX12_readsEntry_137 : decode cX12_readsEntry 137 = .ok (.bipush 12, 2) := dc_16 (a0 := 12) aX12_readsEntry_137 (by decide)
theorem dX12_readsEntry_139 : decode cX12_readsEntry 139 = .ok (.goto 5, 3) := dc_167 (a0 := 0) (b0 := 5) aX12_readsEntry_139 (by decide)
theorem dX12_readsEntry_142 : decode cX12_readsEntry 142 = .ok (.bipush 11, 2) := dc_16 (a0 := 11) aX12_readsEntry_142 (by decide)
theorem dX12_readsEntry_144 : decode cX12_readsEntry 144 = .ok (.invokevirtual 201, 3) := dc_182 (a0 := 0) (b0 := 201) aX12_readsEntry_144
theorem dX12_readsEntry_147 : decode cX12_readsEntry 147 = .ok (.istore_n 3, 1) := dc_62 aX12_readsEntry_147
theorem dX12_readsEntry_148 : decode cX12_readsEntry 148 = .ok (.aload_n 0, 1) := dc_42 aX12_readsEntry_148
theorem dX12_readsEntry_149 : decode cX12_readsEntry 149 = .ok (.iconst 0, 1) := dc_3 aX12_readsEntry_149
theorem dX12_readsEntry_150 : decode cX12_readsEntry 150 = .ok (.iload_n 1, 1) := dc_27 aX12_readsEntry_150
theorem dX12_readsEntry_151 : decode cX12_readsEntry 151 = .ok (.bipush 10, 2) := dc_16 (a0 := 10) aX12_readsEntry_151 (by decide)
theorem dX12_readsEntry_153 : decode cX12_readsEntry 153 = .ok (.if_icmp .ne 13, 3) := dc_160 (a0 := 0) (b0 := 13) aX12_readsEntry_153 (by decide)
theorem dX12_readsEntry_156 : decode cX12_readsEntry 156 = .ok (.iload_n 3, 1) := dc_29 aX12_readsEntry_156
theorem dX12_readsEntry_157 : decode cX12_readsEntry 157 = .ok (.bipush 12, 2) := dc_16 (a0 := 12) aX12_readsEntry_157 (by decide)
theorem dX12_readsEntry_159 : decode cX12_readsEntry 159 = .ok (.if_icmp .ne 7, 3) := dc_160 (a0 := 0) (b0 := 7) aX12_readsEntry_159 (by decide)
theorem dX12_readsEntry_162 : decode cX12_readsEntry 162 = .ok (.iconst 4, 1) := dc_7 aX12_readsEntry_162
theorem dX12_readsEntry_163 : decode cX12_readsEntry 163 = .ok (.goto 5, 3) := dc_167 (a0 := 0) (b0 := 5) aX12_readsEntry_163 (by decide)
theorem dX12_readsEntry_166 : decode cX12_readsEntry 166 = .ok (.bipush 29, 2) := dc_16 (a0 := 29) aX12_readsEntry_166 (by decide)
theorem dX12_readsEntry_168 : decode cX12_readsEntry 168 = .ok (.invokevirtual 201, 3) := dc_182 (a0 := 0) (b0 := 201) aX12_readsEntry_168
theorem dX12_readsEntry_171 : decode cX12_readsEntry 171 = .ok (.istore 4, 2) := dc_54 (a0 := 4) aX12_readsEntry_171
theorem dX12_readsEntry_173 : decode cX12_readsEntry 173 = .ok (.aload_n 0, 1) := dc_42 aX12_readsEntry_173
theorem dX12_readsEntry_174 : decode cX12_readsEntry 174 = .ok (.invokevirtual 183, 3) := dc_182 (a0 := 0) (b0 := 183) aX12_readsEntry_174
theorem dX12_readsEntry_177 : decode cX12_readsEntry 177 = .ok (.ifCond .eq 16, 3) := dc_153 (a0 := 0) (b0 := 16) aX12_readsEntry_177 (by decide)
theorem dX12_readsEntry_180 : decode cX12_readsEntry 180 = .ok (.aload_n 0, 1) := dc_42 aX12_readsEntry_180
theorem dX12_readsEntry_181 : decode cX12_readsEntry 181 = .ok (.getfield 62, 3) := dc_180 (a0 := 0) (b0 := 62) aX12_readsEntry_181
theorem dX12_readsEntry_184 : decode cX12_readsEntry 184 = .ok (.iload_n 2, 1) := dc_28 aX12_readsEntry_184
theorem dX12_readsEntry_185 : decode cX12_readsEntry 185 = .ok (.bipush 30, 2) := dc_16 (a0 := 30) aX12_readsEntry_185 (by decide)
theorem dX12_readsEntry_187 : decode cX12_readsEntry 187 = .ok (.iload_n 3, 1) := dc_29 aX12_readsEntry_187
theorem dX12_readsEntry_188 : decode cX12_readsEntry 188 = .ok (.imul, 1) := dc_104 aX12_readsEntry_188
theorem dX12_readsEntry_189 : decode cX12_readsEntry 189 = .ok (.iload 4, 2) := dc_21 (a0 := 4) aX12_readsEntry_189
theorem dX12_readsEntry_191 : decode cX12_readsEntry 191 = .ok (.iadd, 1) := dc_96 aX12_readsEntry_191
theorem dX12_readsEntry_192 : decode cX12_readsEntry 192 = .ok (.iastore, 1) := dc_79 aX12_readsEntry_192
theorem dX12_readsEntry_193 : decode cX12_readsEntry 193 = .ok (.aload_n 0, 1) := dc_42 aX12_readsEntry_193
theorem dX12_readsEntry_194 : decode cX12_readsEntry 194 = .ok (.aload_n 0, 1) := dc_42 aX12_readsEntry_194
theorem dX12_readsEntry_195 : decode cX12_readsEntry 195 = .ok (.getfield 159, 3) := dc_180 (a0 := 0) (b0 := 159) aX12_readsEntry_195
theorem dX12_readsEntry_198 : decode cX12_readsEntry 198 = .ok (.iconst 3, 1) := dc_6 aX12_readsEntry_198
theorem dX12_readsEntry_199 : decode cX12_readsEntry 199 = .ok (.if_icmp .ne 7, 3) := dc_160 (a0 := 0) (b0 := 7) aX12_readsEntry_199 (by decide)
theorem dX12_readsEntry_202 : decode cX12_readsEntry 202 = .ok (.iconst 1, 1) := dc_4 aX12_readsEntry_202
theorem dX12_readsEntry_203 : decode cX12_readsEntry 203 = .ok (.goto 4, 3) := dc_167 (a0 := 0) (b0 := 4) aX12_readsEntry_203 (by decide)
theorem dX12_readsEntry_206 : decode cX12_readsEntry 206 = .ok (.iconst 0, 1) := dc_3 aX12_readsEntry_206
theorem dX12_readsEntry_207 : decode cX12_readsEntry 207 = .ok (.invokevirtual 197, 3) := dc_182 (a0 := 0) (b0 := 197) aX12_readsEntry_207
theorem dX12_readsEntry_210 : decode cX12_readsEntry 210 = .ok (.return_, 1) := dc_177 aX12_readsEntry_210
set_option maxRecDepth 20000 in
theorem ggX12_wheel_X12_isWheel : GoodIn wsX12_wheel wsX12_isWheel := goodIn_k _ [[10, 0, 0, 0, 0], [9, 5, 57, 0, 0, 0, 0, 0, 0, 0, 0, 0, 0, 0, 0, 0, 0, 0, 0, 0, 0, 0, 0, 0, 0, 0, 0, 0, 0, 0, 0, 0, 0, 0, 0, 0, 0, 0, 0, 0, 0, 0, 0, 0, 0, 0, 0, 0, 0, 0, 0, 0, 0, 0, 0, 0, 0, 0, 0, 0]] (by rfl) (by decide +kernel)
set_option maxRecDepth 20000 in
theorem gX12_wheel_X12_isWheel : GoodIn wsX12_wheel (wsV RX12 247 RX12 yX12_isWheel wsX12_isWheel) := goodIn_app (goodIn_of _ (by decide +kernel)) ggX12_wheel_X12_isWheel
set_option maxRecDepth 20000 in
theorem ggX12_wheel_X12_begins : GoodIn wsX12_wheel wsX12_begins := goodIn_k _ [[19, 0], [11], [1, 19], [4, 17, 0], [12, 0, 0], [9, 5, 8, 0, 0, 0, 0, 0, 0], [3, 27, 0, 0, 0, 0, 0, 0, 0, 0, 0, 0, 0, 30, 0, 0, 0, 0, 0, 0, 0, 0, 0, 0, 0, 0, 0, 0, 0, 0, 0, 0, 0, 0, 0, 0, 0, 0, 0, 0, 0, 0, 0, 0, 0, 0, 0, 0, 0, 0, 0, 0, 0, 0, 0, 0, 0, 0, 0, 0, 0, 0, 0, 0, 0, 0, 0, 0, 0, 0, 0]] (by rfl) (by decide +kernel)
set_option maxRecDepth 20000 in
theorem gX12_wheel_X12_begins : GoodIn wsX12_wheel (wsV RX12 225 RX12 yX12_begins wsX12_begins) := goodIn_app (goodIn_of _ (by decide +kernel)) ggX12_wheel_X12_begins
set_option maxRecDepth 20000 in
theorem ggX12_wheel_X12_isGood : GoodIn wsX12_wheel wsX12_isGood := goodIn_k _ [[46], [4, 68, 0, 0, 0, 0, 0, 0, 0, 0, 0, 0, 0, 0, 0, 0, 0, 0, 0, 0, 0, 0, 0, 0, 0, 0, 0, 0, 0, 0, 0, 0, 0, 0, 0, 0, 0, 0, 0, 0, 0, 0, 0, 0, 0, 0, 0, 0, 0, 0, 0, 0, 0, 0, 0, 0, 0, 0, 0]] (by rfl) (by decide +kernel)
set_option maxRecDepth 20000 in
theorem gX12_wheel_X12_isGood : GoodIn wsX12_wheel (wsV RX12 183 RX12 yX12_isGood wsX12_isGood) := goodIn_app (goodIn_of _ (by decide +kernel)) ggX12_wheel_X12_isGood
set_option maxRecDepth 20000 in
theorem ggX12_wheel_X12_readsEntry : GoodIn wsX12_wheel wsX12_readsEntry := goodIn_k _ [[50], [2, 25], [4, 16], [3, 47, 0, 0], [9, 44], [31], [29, 25, 0, 0, 0, 0, 0, 0, 0, 0, 0], [43, 0, 0, 0], [24, 0, 0, 0], [23], [22, 7, 1, 0, 0, 0, 0, 0, 0, 0, 0, 0, 0, 22, 0, 0, 0, 0, 0, 0, 0, 0, 0, 0, 0, 0, 0, 0, 0, 0, 0, 0, 0, 0, 0, 0, 0, 0, 0, 0, 0, 0, 0, 0, 0, 0, 0, 0, 0, 0, 0, 0, 0, 0, 0, 0, 0, 0, 0, 0, 0, 0, 0, 0, 0, 0, 0, 0, 0, 0, 0, 0, 0, 0, 0, 0, 0, 0, 0]] (by rfl) (by decide +kernel)
set_option maxRecDepth 20000 in
theorem gX12_wheel_X12_readsEntry : GoodIn wsX12_wheel (wsV RX12 251 RX12 yX12_readsEntry wsX12_readsEntry) := goodIn_app (goodIn_of _ (by decide +kernel)) ggX12_wheel_X12_readsEntry
noncomputable def sX12_wheel_124 : List Nat := 172 :: []
noncomputable def sX12_wheel_123 : List Nat := 3 :: sX12_wheel_124
noncomputable def sX12_wheel_120 : List Nat := 167 :: 255 :: 222 :: sX12_wheel_123
noncomputable def sX12_wheel_117 : List Nat := 132 :: 4 :: 1 :: sX12_wheel_120
noncomputable def sX12_wheel_116 : List Nat := 79 :: sX12_wheel_117
noncomputable def sX12_wheel_115 : List Nat := 46 :: sX12_wheel_116
noncomputable def sX12_wheel_113 : List Nat := 21 :: 4 :: sX12_wheel_115
noncomputable def sX12_wheel_110 : List Nat := 180 :: 0 :: 62 :: sX12_wheel_113
noncomputable def sX12_wheel_109 : List Nat := 42 :: sX12_wheel_110
noncomputable def sX12_wheel_108 : List Nat := 96 :: sX12_wheel_109
noncomputable def sX12_wheel_106 : List Nat := 21 :: 4 :: sX12_wheel_108
noncomputable def sX12_wheel_105 : List Nat := 104 :: sX12_wheel_106
noncomputable def sX12_wheel_104 : List Nat := 96 :: sX12_wheel_105
noncomputable def sX12_wheel_103 : List Nat := 28 :: sX12_wheel_104
noncomputable def sX12_wheel_102 : List Nat := 104 :: sX12_wheel_103
noncomputable def sX12_wheel_101 : List Nat := 27 :: sX12_wheel_102
noncomputable def sX12_wheel_99 : List Nat := 16 :: 20 :: sX12_wheel_101
noncomputable def sX12_wheel_97 : List Nat := 16 :: 22 :: sX12_wheel_99
noncomputable def sX12_wheel_94 : List Nat := 180 :: 0 :: 31 :: sX12_wheel_97
noncomputable def sX12_wheel_93 : List Nat := 42 :: sX12_wheel_94
noncomputable def sX12_wheel_90 : List Nat := 162 :: 0 :: 33 :: sX12_wheel_93
noncomputable def sX12_wheel_88 : List Nat := 16 :: 22 :: sX12_wheel_90
noncomputable def sX12_wheel_86 : List Nat := 21 :: 4 :: sX12_wheel_88
noncomputable def sX12_wheel_84 : List Nat := 54 :: 4 :: sX12_wheel_86
noncomputable def sX12_wheel_83 : List Nat := 3 :: sX12_wheel_84
noncomputable def sX12_wheel_82 : List Nat := 172 :: sX12_wheel_83
noncomputable def sX12_wheel_79 : List Nat := 180 :: 0 :: 180 :: sX12_wheel_82
noncomputable def sX12_wheel_78 : List Nat := 42 :: sX12_wheel_79
noncomputable def sX12_wheel_75 : List Nat := 154 :: 0 :: 8 :: sX12_wheel_78
noncomputable def sX12_wheel_72 : List Nat := 182 :: 0 :: 183 :: sX12_wheel_75
noncomputable def sX12_wheel_71 : List Nat := 42 :: sX12_wheel_72
noncomputable def sX12_wheel_68 : List Nat := 167 :: 255 :: 238 :: sX12_wheel_71
noncomputable def sX12_wheel_65 : List Nat := 182 :: 0 :: 251 :: sX12_wheel_68
noncomputable def sX12_wheel_64 : List Nat := 42 :: sX12_wheel_65
noncomputable def sX12_wheel_61 : List Nat := 153 :: 0 :: 10 :: sX12_wheel_64
noncomputable def sX12_wheel_58 : List Nat := 180 :: 0 :: 159 :: sX12_wheel_61
noncomputable def sX12_wheel_57 : List Nat := 42 :: sX12_wheel_58
noncomputable def sX12_wheel_54 : List Nat := 153 :: 0 :: 17 :: sX12_wheel_57
noncomputable def sX12_wheel_51 : List Nat := 182 :: 0 :: 183 :: sX12_wheel_54
noncomputable def sX12_wheel_50 : List Nat := 42 :: sX12_wheel_51
noncomputable def sX12_wheel_47 : List Nat := 167 :: 255 :: 238 :: sX12_wheel_50
noncomputable def sX12_wheel_44 : List Nat := 132 :: 4 :: 1 :: sX12_wheel_47
noncomputable def sX12_wheel_43 : List Nat := 79 :: sX12_wheel_44
noncomputable def sX12_wheel_42 : List Nat := 2 :: sX12_wheel_43
noncomputable def sX12_wheel_40 : List Nat := 21 :: 4 :: sX12_wheel_42
noncomputable def sX12_wheel_37 : List Nat := 180 :: 0 :: 62 :: sX12_wheel_40
noncomputable def sX12_wheel_36 : List Nat := 42 :: sX12_wheel_37
noncomputable def sX12_wheel_33 : List Nat := 162 :: 0 :: 17 :: sX12_wheel_36
noncomputable def sX12_wheel_31 : List Nat := 16 :: 22 :: sX12_wheel_33
noncomputable def sX12_wheel_29 : List Nat := 21 :: 4 :: sX12_wheel_31
noncomputable def sX12_wheel_27 : List Nat := 54 :: 4 :: sX12_wheel_29
noncomputable def sX12_wheel_26 : List Nat := 3 :: sX12_wheel_27
noncomputable def sX12_wheel_25 : List Nat := 172 :: sX12_wheel_26
noncomputable def sX12_wheel_24 : List Nat := 3 :: sX12_wheel_25
noncomputable def sX12_wheel_21 : List Nat := 154 :: 0 :: 5 :: sX12_wheel_24
noncomputable def sX12_wheel_18 : List Nat := 182 :: 0 :: 225 :: sX12_wheel_21
noncomputable def sX12_wheel_17 : List Nat := 29 :: sX12_wheel_18
noncomputable def sX12_wheel_16 : List Nat := 42 :: sX12_wheel_17
noncomputable def sX12_wheel_13 : List Nat := 181 :: 0 :: 205 :: sX12_wheel_16
noncomputable def sX12_wheel_12 : List Nat := 4 :: sX12_wheel_13
noncomputable def sX12_wheel_11 : List Nat := 42 :: sX12_wheel_12
noncomputable def sX12_wheel_10 : List Nat := 172 :: sX12_wheel_11
noncomputable def sX12_wheel_9 : List Nat := 3 :: sX12_wheel_10
noncomputable def sX12_wheel_6 : List Nat := 154 :: 0 :: 5 :: sX12_wheel_9
noncomputable def sX12_wheel_3 : List Nat := 182 :: 0 :: 247 :: sX12_wheel_6
noncomputable def sX12_wheel_2 : List Nat := 28 :: sX12_wheel_3
noncomputable def sX12_wheel_1 : List Nat := 27 :: sX12_wheel_2
noncomputable def sX12_wheel_0 : List Nat := 42 :: sX12_wheel_1
theorem aX12_wheel_0 : dc_at cX12_wheel 0 sX12_wheel_0 := dc_base (by decide +kernel)
theorem aX12_wheel_1 : dc_at cX12_wheel 1 sX12_wheel_1 := dc_n1 aX12_wheel_0
theorem aX12_wheel_2 : dc_at cX12_wheel 2 sX12_wheel_2 := dc_n1 aX12_wheel_1
theorem aX12_wheel_3 : dc_at cX12_wheel 3 sX12_wheel_3 := dc_n1 aX12_wheel_2
theorem aX12_wheel_6 : dc_at cX12_wheel 6 sX12_wheel_6 := dc_n3 aX12_wheel_3
theorem aX12_wheel_9 : dc_at cX12_wheel 9 sX12_wheel_9 := dc_n3 aX12_wheel_6
theorem aX12_wheel_10 : dc_at cX12_wheel 10 sX12_wheel_10 := dc_n1 aX12_wheel_9
theorem aX12_wheel_11 : dc_at cX12_wheel 11 sX12_wheel_11 := dc_n1 aX12_wheel_10
theorem aX12_wheel_12 : dc_at cX12_wheel 12 sX12_wheel_12 := dc_n1 aX12_wheel_11
theorem aX12_wheel_13 : dc_at cX12_wheel 13 sX12_wheel_13 := dc_n1 aX12_wheel_12
theorem aX12_wheel_16 : dc_at cX12_wheel 16 sX12_wheel_16 := dc_n3 aX12_wheel_13
theorem aX12_wheel_17 : dc_at cX12_wheel 17 sX12_wheel_17 := dc_n1 aX12_wheel_16
theorem aX12_wheel_18 : dc_at cX12_wheel 18 sX12_wheel_18 := dc_n1 aX12_wheel_17
theorem aX12_wheel_21 : dc_at cX12_wheel 21 sX12_wheel_21 := dc_n3 aX12_wheel_18
theorem aX12_wheel_24 : dc_at cX12_wheel 24 sX12_wheel_24 := dc_n3 aX12_wheel_21
theorem aX12_wheel_25 : dc_at cX12_wheel 25 sX12_wheel_25 := dc_n1 aX12_wheel_24
theorem aX12_wheel_26 : dc_at cX12_wheel 26 sX12_wheel_26 := dc_n1 aX12_wheel_25
theorem aX12_wheel_27 : dc_at cX12_wheel 27 sX12_wheel_27 := dc_n1 aX12_wheel_26
theorem aX12_wheel_29 : dc_at cX12_wheel 29 sX12_wheel_29 := dc_n2 aX12_wheel_27
theorem aX12_wheel_31 : dc_at cX12_wheel 31 sX12_wheel_31 := dc_n2 aX12_wheel_29
theorem aX12_wheel_33 : dc_at cX12_wheel 33 sX12_wheel_33 := dc_n2 aX12_wheel_31
theorem aX12_wheel_36 : dc_at cX12_wheel 36 sX12_wheel_36 := dc_n3 aX12_wheel_33
theorem aX12_wheel_37 : dc_at cX12_wheel 37 sX12_wheel_37 := dc_n1 aX12_wheel_36
theorem aX12_wheel_40 : dc_at cX12_wheel 40 sX12_wheel_40 := dc_n3 aX12_wheel_37
theorem aX12_wheel_42 : dc_at cX12_wheel 42 sX12_wheel_42 := dc_n2 aX12_wheel_40
theorem aX12_wheel_43 : dc_at cX12_wheel 43 sX12_wheel_43 := dc_n1 aX12_wheel_42
theorem aX12_wheel_44 : dc_at cX12_wheel 44 sX12_wheel_44 := dc_n1 aX12_wheel_43
theorem aX12_wheel_47 : dc_at cX12_wheel 47 sX12_wheel_47 := dc_n3 aX12_wheel_44
theorem aX12_wheel_50 : dc_at cX12_wheel 50 sX12_wheel_50 := dc_n3 aX12_wheel_47
theorem aX12_wheel_51 : dc_at cX12_wheel 51 sX12_wheel_51 := dc_n1 aX12_wheel_50
theorem aX12_wheel_54 : dc_at cX12_wheel 54 sX12_wheel_54 := dc_n3 aX12_wheel_51
theorem aX12_wheel_57 : dc_at cX12_wheel 57 sX12_wheel_57 := dc_n3 aX12_wheel_54
theorem aX12_wheel_58 : dc_at cX12_wheel 58 sX12_wheel_58 := dc_n1 aX12_wheel_57
theorem aX12_wheel_61 : dc_at cX12_wheel 61 sX12_wheel_61 := dc_n3 aX12_wheel_58
theorem aX12_wheel_64 : dc_at cX12_wheel 64 sX12_wheel_64 := dc_n3 aX12_wheel_61
theorem aX12_wheel_65 : dc_at cX12_wheel 65 sX12_wheel_65 := dc_n1 aX12_wheel_64
theorem aX12_wheel_68 : dc_at cX12_wheel 68 sX12_wheel_68 := dc_n3 aX12_wheel_65
theorem aX12_wheel_71 : dc_at cX12_wheel 71 sX12_wheel_71 := dc_n3 aX12_wheel_68
theorem aX12_wheel_72 : dc_at cX12_wheel 72 sX12_wheel_72 := dc_n1 aX12_wheel_71
theorem aX12_wheel_75 : dc_at cX12_wheel 75 sX12_wheel_75 := dc_n3 aX12_wheel_72
theorem aX12_wheel_78 : dc_at cX12_wheel 78 sX12_wheel_78 := dc_n3 aX12_wheel_75
theorem aX12_wheel_79 : dc_at cX12_wheel 79 sX12_wheel_79 := dc_n1 aX12_wheel_78
theorem aX12_wheel_82 : dc_at cX12_wheel 82 sX12_wheel_82 := dc_n3 aX12_wheel_79
theorem aX12_wheel_83 : dc_at cX12_wheel 83 sX12_wheel_83 := dc_n1 aX12_wheel_82
theorem aX12_wheel_84 : dc_at cX12_wheel 84 sX12_wheel_84 := dc_n1 aX12_wheel_83
theorem aX12_wheel_86 : dc_at cX12_wheel 86 sX12_wheel_86 := dc_n2 aX12_wheel_84
theorem aX12_wheel_88 : dc_at cX12_wheel 88 sX12_wheel_88 := dc_n2 aX12_wheel_86
theorem aX12_wheel_90 : dc_at cX12_wheel 90 sX12_wheel_90 := dc_n2 aX12_wheel_88
theorem aX12_wheel_93 : dc_at cX12_wheel 93 sX12_wheel_93 := dc_n3 aX12_wheel_90
theorem aX12_wheel_94 : dc_at cX12_wheel 94 sX12_wheel_94 := dc_n1 aX12_wheel_93
theorem aX12_wheel_97 : dc_at cX12_wheel 97 sX12_wheel_97 := dc_n3 aX12_wheel_94
theorem aX12_wheel_99 : dc_at cX12_wheel 99 sX12_wheel_99 := dc_n2 aX12_wheel_97
theorem aX12_wheel_101 : dc_at cX12_wheel 101 sX12_wheel_101 := dc_n2 aX12_wheel_99
theorem aX12_wheel_102 : dc_at cX12_wheel 102 sX12_wheel_102 := dc_n1 aX12_wheel_101
theorem aX12_wheel_103 : dc_at cX12_wheel 103 sX12_wheel_103 := dc_n1 aX12_wheel_102
theorem aX12_wheel_104 : dc_at cX12_wheel 104 sX12_wheel_104 := dc_n1 aX12_wheel_103
theorem aX12_wheel_105 : dc_at cX12_wheel 105 sX12_wheel_105 := dc_n1 aX12_wheel_104
theorem aX12_wheel_106 : dc_at cX12_wheel 106 sX12_wheel_106 := dc_n1 aX12_wheel_105
theorem aX12_wheel_108 : dc_at cX12_wheel 108 sX12_wheel_108 := dc_n2 aX12_wheel_106
theorem aX12_wheel_109 : dc_at cX12_wheel 109 sX12_wheel_109 := dc_n1 aX12_wheel_108
theorem aX12_wheel_110 : dc_at cX12_wheel 110 sX12_wheel_110 := dc_n1 aX12_wheel_109
theorem aX12_wheel_113 : dc_at cX12_wheel 113 sX12_wheel_113 := dc_n3 aX12_wheel_110
theorem aX12_wheel_115 : dc_at cX12_wheel 115 sX12_wheel_115 := dc_n2 aX12_wheel_113
theorem aX12_wheel_116 : dc_at cX12_wheel 116 sX12_wheel_116 := dc_n1 aX12_wheel_115
theorem aX12_wheel_117 : dc_at cX12_wheel 117 sX12_wheel_117 := dc_n1 aX12_wheel_116
theorem aX12_wheel_120 : dc_at cX12_wheel 120 sX12_wheel_120 := dc_n3 aX12_wheel_117
theorem aX12_wheel_123 : dc_at cX12_wheel 123 sX12_wheel_123 := dc_n3 aX12_wheel_120
theorem aX12_wheel_124 : dc_at cX12_wheel 124 sX12_wheel_124 := dc_n1 aX12_wheel_123
theorem dX12_wheel_0 : decode cX12_wheel 0 = .ok (.aload_n 0, 1) := dc_42 aX12_wheel_0
theorem dX12_wheel_1 : decode cX12_wheel 1 = .ok (.iload_n 1, 1) := dc_27 aX12_wheel_1
theorem dX12_wheel_2 : decode cX12_wheel 2 = .ok (.iload_n 2, 1) := dc_28 aX12_wheel_2
theorem dX12_wheel_3 : decode cX12_wheel 3 = .ok (.invokevirtual 247, 3) := dc_182 (a0 := 0) (b0 := 247) aX12_wheel_3
theorem dX12_wheel_6 : decode cX12_wheel 6 = .ok (.ifCond .ne 5, 3) := dc_154 (a0 := 0) (b0 := 5) aX12_wheel_6 (by decide)
theorem dX12_wheel_9 : decode cX12_wheel 9 = .ok (.iconst 0, 1) := dc_3 aX12_wheel_9
theorem dX12_wheel_10 : decode cX12_wheel 10 = .ok (.ireturn, 1) := dc_172 aX12_wheel_10
theorem dX12_wheel_11 : decode cX12_wheel 11 = .ok (.aload_n 0, 1) := dc_42 aX12_wheel_11
theorem dX12_wheel_12 : decode cX12_wheel 12 = .ok (.iconst 1, 1) := dc_4 aX12_wheel_12
theorem dX12_wheel_13 : decode cX12_wheel 13 = .ok (.putfield 205, 3) := dc_181 (a0 := 0) (b0 := 205) aX12_wheel_13
theorem dX12_wheel_16 : decode cX12_wheel 16 = .ok (.aload_n 0, 1) := dc_42 aX12_wheel_16
theorem dX12_wheel_17 : decode cX12_wheel 17 = .ok (.iload_n 3, 1) := dc_29 aX12_wheel_17
theorem dX12_wheel_18 : decode cX12_wheel 18 = .ok (.invokevirtual 225, 3) := dc_182 (a0 := 0) (b0 := 225) aX12_wheel_18
theorem dX12_wheel_21 : decode cX12_wheel 21 = .ok (.ifCond .ne 5, 3) := dc_154 (a0 := 0) (b0 := 5) aX12_wheel_21 (by decide)
theorem dX12_wheel_24 : decode cX12_wheel 24 = .ok (.iconst 0, 1) := dc_3 aX12_wheel_24
theorem dX12_wheel_25 : decode cX12_wheel 25 = .ok (.ireturn, 1) := dc_172 aX12_wheel_25
theorem dX12_wheel_26 : decode cX12_wheel 26 = .ok (.iconst 0, 1) := dc_3 aX12_wheel_26
theorem dX12_wheel_27 : decode cX12_wheel 27 = .ok (.istore 4, 2) := dc_54 (a0 := 4) aX12_wheel_27
theorem dX12_wheel_29 : decode cX12_wheel 29 = .ok (.iload 4, 2) := dc_21 (a0 := 4) aX12_wheel_29
theorem dX12_wheel_31 : decode cX12_wheel 31 = .ok (.bipush 22, 2) := dc_16 (a0 := 22) aX12_wheel_31 (by decide)
theorem dX12_wheel_33 : decode cX12_wheel 33 = .ok (.if_icmp .ge 17, 3) := dc_162 (a0 := 0) (b0 := 17) aX12_wheel_33 (by decide)
theorem dX12_wheel_36 : decode cX12_wheel 36 = .ok (.aload_n 0, 1) := dc_42 aX12_wheel_36
theorem dX12_wheel_37 : decode cX12_wheel 37 = .ok (.getfield 62, 3) := dc_180 (a0 := 0) (b0 := 62) aX12_wheel_37
theorem dX12_wheel_40 : decode cX12_wheel 40 = .ok (.iload 4, 2) := dc_21 (a0 := 4) aX12_wheel_40
theorem dX12_wheel_42 : decode cX12_wheel 42 = .ok (.iconst (-1), 1) := dc_2 aX12_wheel_42
theorem dX12_wheel_43 : decode cX12_wheel 43 = .ok (.iastore, 1) := dc_79 aX12_wheel_43
theorem dX12_wheel_44 : decode cX12_wheel 44 = .ok (.iinc 4 1, 3) := dc_132 (a0 := 4) (a1 := 1) aX12_wheel_44 (by decide)
theorem dX12_wheel_47 : decode cX12_wheel 47 = .ok (.goto (-18), 3) := dc_167 (a0 := 255) (b0 := 238) aX12_wheel_47 (by decide)
theorem dX12_wheel_50 : decode cX12_wheel 50 = .ok (.aload_n 0, 1) := dc_42 aX12_wheel_50
theorem dX12_wheel_51 : decode cX12_wheel 51 = .ok (.invokevirtual 183, 3) := dc_182 (a0 := 0) (b0 := 183) aX12_wheel_51
theorem dX12_wheel_54 : decode cX12_wheel 54 = .ok (.ifCond .eq 17, 3) := dc_153 (a0 := 0) (b0 := 17) aX12_wheel_54 (by decide)
theorem dX12_wheel_57 : decode cX12_wheel 57 = .ok (.aload_n 0, 1) := dc_42 aX12_wheel_57
theorem dX12_wheel_58 : decode cX12_wheel 58 = .ok (.getfield 159, 3) := dc_180 (a0 := 0) (b0 := 159) aX12_wheel_58
theorem dX12_wheel_61 : decode cX12_wheel 61 = .ok (.ifCond .eq 10, 3) := dc_153 (a0 := 0) (b0 := 10) aX12_wheel_61 (by decide)
theorem dX12_wheel_64 : decode cX12_wheel 64 = .ok (.aload_n 0, 1) := dc_42 aX12_wheel_64
theorem dX12_wheel_65 : decode cX12_wheel 65 = .ok (.invokevirtual 251, 3) := dc_182 (a0 := 0) (b0 := 251) aX12_wheel_65
theorem dX12_wheel_68 : decode cX12_wheel 68 = .ok (.goto (-18), 3) := dc_167 (a0 := 255) (b0 := 238) aX12_wheel_68 (by decide)
theorem dX12_wheel_71 : decode cX12_wheel 71 = .ok (.aload_n 0, 1) := dc_42 aX12_wheel_71
theorem dX12_wheel_72 : decode cX12_wheel 72 = .ok (.invokevirtual 183, 3) := dc_182 (a0 := 0) (b0 := 183) aX12_wheel_72
theorem dX12_wheel_75 : decode cX12_wheel 75 = .ok (.ifCond .ne 8, 3) := dc_154 (a0 := 0) (b0 := 8) aX12_wheel_75 (by decide)
theorem dX12_wheel_78 : decode cX12_wheel 78 = .ok (.aload_n 0, 1) := dc_42 aX12_wheel_78
theorem dX12_wheel_79 : decode cX12_wheel 79 = .ok (.getfield 180, 3) := dc_180 (a0 := 0) (b0 := 180) aX12_wheel_79
theorem dX12_wheel_82 : decode cX12_wheel 82 = .ok (.ireturn, 1) := dc_172 aX12_wheel_82
theorem dX12_wheel_83 : decode cX12_wheel 83 = .ok (.iconst 0, 1) := dc_3 aX12_wheel_83
theorem dX12_wheel_84 : decode cX12_wheel 84 = .ok (.istore 4, 2) := dc_54 (a0 := 4) aX12_wheel_84
theorem dX12_wheel_86 : decode cX12_wheel 86 = .ok (.iload 4, 2) := dc_21 (a0 := 4) aX12_wheel_86
theorem dX12_wheel_88 : decode cX12_wheel 88 = .ok (.bipush 22, 2) := dc_16 (a0 := 22) aX12_wheel_88 (by decide)
theorem dX12_wheel_90 : decode cX12_wheel 90 = .ok (.if_icmp .ge 33, 3) := dc_162 (a0 := 0) (b0 := 33) aX12_wheel_90 (by decide)
theorem dX12_wheel_93 : decode cX12_wheel 93 = .ok (.aload_n 0, 1) := dc_42 aX12_wheel_93
theorem dX12_wheel_94 : decode cX12_wheel 94 = .ok (.getfield 31, 3) := dc_180 (a0 := 0) (b0 := 31) aX12_wheel_94
theorem dX12_wheel_97 : decode cX12_wheel 97 = .ok (.bipush 22, 2) := dc_16 (a0 := 22) aX12_wheel_97 (by decide)
theorem dX12_wheel_99 : decode cX12_wheel 99 = .ok (.bipush 20, 2) := dc_16 (a0 := 20) aX12_wheel_99 (by decide)
theorem dX12_wheel_101 : decode cX12_wheel 101 = .ok (.iload_n 1, 1) := dc_27 aX12_wheel_101
theorem dX12_wheel_102 : decode cX12_wheel 102 = .ok (.imul, 1) := dc_104 aX12_wheel_102
theorem dX12_wheel_103 : decode cX12_wheel 103 = .ok (.iload_n 2, 1) := dc_28 aX12_wheel_103
theorem dX12_wheel_104 : decode cX12_wheel 104 = .ok (.iadd, 1) := dc_96 aX12_wheel_104
theorem dX12_wheel_105 : decode cX12_wheel 105 = .ok (.imul, 1) := dc_104 aX12_wheel_105
theorem dX12_wheel_106 : decode cX12_wheel 106 = .ok (.iload 4, 2) := dc_21 (a0 := 4) aX12_wheel_106
theorem dX12_wheel_108 : decode cX12_wheel 108 = .ok (.iadd, 1) := dc_96 aX12_wheel_108
theorem dX12_wheel_109 : decode cX12_wheel 109 = .ok (.aload_n 0, 1) := dc_42 aX12_wheel_109
theorem dX12_wheel_110 : decode cX12_wheel 110 = .ok (.getfield 62, 3) := dc_180 (a0 := 0) (b0 := 62) aX12_wheel_110
theorem dX12_wheel_113 : decode cX12_wheel 113 = .ok (.iload 4, 2) := dc_21 (a0 := 4) aX12_wheel_113
theorem dX12_wheel_115 : decode cX12_wheel 115 = .ok (.iaload, 1) := dc_46 aX12_wheel_115
theorem dX12_wheel_116 : decode cX12_wheel 116 = .ok (.iastore, 1) := dc_79 aX12_wheel_116
theorem dX12_wheel_117 : decode cX12_wheel 117 = .ok (.iinc 4 1, 3) := dc_132 (a0 := 4) (a1 := 1) aX12_wheel_117 (by decide)
theorem dX12_wheel_120 : decode cX12_wheel 120 = .ok (.goto (-34), 3) := dc_167 (a0 := 255) (b0 := 222) aX12_wheel_120 (by decide)
theorem dX12_wheel_123 : decode cX12_wheel 123 = .ok (.iconst 0, 1) := dc_3 aX12_wheel_123
theorem dX12_wheel_124 : decode cX12_wheel 124 = .ok (.ireturn, 1) := dc_172 aX12_wheel_124
noncomputable def sX12_fault_9 : List Nat := 172 :: []
noncomputable def sX12_fault_6 : List Nat := 180 :: 0 :: 37 :: sX12_fault_9
noncomputable def sX12_fault_5 : List Nat := 42 :: sX12_fault_6
noncomputable def sX12_fault_2 : List Nat := 181 :: 0 :: 129 :: sX12_fault_5
noncomputable def sX12_fault_1 : List Nat := 3 :: sX12_fault_2
noncomputable def sX12_fault_0 : List Nat := 42 :: sX12_fault_1
theorem aX12_fault_0 : dc_at cX12_fault 0 sX12_fault_0 := dc_base (by decide +kernel)
theorem aX12_fault_1 : dc_at cX12_fault 1 sX12_fault_1 := dc_n1 aX12_fault_0
theorem aX12_fault_2 : dc_at cX12_fault 2 sX12_fault_2 := dc_n1 aX12_fault_1
theorem aX12_fault_5 : dc_at cX12_fault 5 sX12_fault_5 := dc_n3 aX12_fault_2
theorem aX12_fault_6 : dc_at cX12_fault 6 sX12_fault_6 := dc_n1 aX12_fault_5
theorem aX12_fault_9 : dc_at cX12_fault 9 sX12_fault_9 := dc_n3 aX12_fault_6
theorem dX12_fault_0 : decode cX12_fault 0 = .ok (.aload_n 0, 1) := dc_42 aX12_fault_0
theorem dX12_fault_1 : decode cX12_fault 1 = .ok (.iconst 0, 1) := dc_3 aX12_fault_1
theorem dX12_fault_2 : decode cX12_fault 2 = .ok (.putfield 129, 3) := dc_181 (a0 := 0) (b0 := 129) aX12_fault_2
theorem dX12_fault_5 : decode cX12_fault 5 = .ok (.aload_n 0, 1) := dc_42 aX12_fault_5
theorem dX12_fault_6 : decode cX12_fault 6 = .ok (.getfield 37, 3) := dc_180 (a0 := 0) (b0 := 37) aX12_fault_6
theorem dX12_fault_9 : decode cX12_fault 9 = .ok (.ireturn, 1) := dc_172 aX12_fault_9
noncomputable def sX12_at_11 : List Nat := 172 :: []
noncomputable def sX12_at_10 : List Nat := 46 :: sX12_at_11
noncomputable def sX12_at_9 : List Nat := 96 :: sX12_at_10
noncomputable def sX12_at_8 : List Nat := 28 :: sX12_at_9
noncomputable def sX12_at_7 : List Nat := 104 :: sX12_at_8
noncomputable def sX12_at_6 : List Nat := 27 :: sX12_at_7
noncomputable def sX12_at_4 : List Nat := 16 :: 22 :: sX12_at_6
noncomputable def sX12_at_1 : List Nat := 180 :: 0 :: 31 :: sX12_at_4
noncomputable def sX12_at_0 : List Nat := 42 :: sX12_at_1
theorem aX12_at_0 : dc_at cX12_at 0 sX12_at_0 := dc_base (by decide +kernel)
theorem aX12_at_1 : dc_at cX12_at 1 sX12_at_1 := dc_n1 aX12_at_0
theorem aX12_at_4 : dc_at cX12_at 4 sX12_at_4 := dc_n3 aX12_at_1
theorem aX12_at_6 : dc_at cX12_at 6 sX12_at_6 := dc_n2 aX12_at_4
theorem aX12_at_7 : dc_at cX12_at 7 sX12_at_7 := dc_n1 aX12_at_6
theorem aX12_at_8 : dc_at cX12_at 8 sX12_at_8 := dc_n1 aX12_at_7
theorem aX12_at_9 : dc_at cX12_at 9 sX12_at_9 := dc_n1 aX12_at_8
theorem aX12_at_10 : dc_at cX12_at 10 sX12_at_10 := dc_n1 aX12_at_9
theorem aX12_at_11 : dc_at cX12_at 11 sX12_at_11 := dc_n1 aX12_at_10
theorem dX12_at_0 : decode cX12_at 0 = .ok (.aload_n 0, 1) := dc_42 aX12_at_0
theorem dX12_at_1 : decode cX12_at 1 = .ok (.getfield 31, 3) := dc_180 (a0 := 0) (b0 := 31) aX12_at_1
theorem dX12_at_4 : decode cX12_at 4 = .ok (.bipush 22, 2) := dc_16 (a0 := 22) aX12_at_4 (by decide)
theorem dX12_at_6 : decode cX12_at 6 = .ok (.iload_n 1, 1) := dc_27 aX12_at_6
theorem dX12_at_7 : decode cX12_at 7 = .ok (.imul, 1) := dc_104 aX12_at_7
theorem dX12_at_8 : decode cX12_at 8 = .ok (.iload_n 2, 1) := dc_28 aX12_at_8
theorem dX12_at_9 : decode cX12_at 9 = .ok (.iadd, 1) := dc_96 aX12_at_9
theorem dX12_at_10 : decode cX12_at 10 = .ok (.iaload, 1) := dc_46 aX12_at_10
theorem dX12_at_11 : decode cX12_at 11 = .ok (.ireturn, 1) := dc_172 aX12_at_11
set_option maxRecDepth 20000 in
theorem ggX12_tells_X12_at : GoodIn wsX12_tells wsX12_at := goodIn_k _ [[5, 0, 0, 0, 0, 0, 0, 0, 0, 0, 0, 0, 0, 0, 0, 0, 0, 0, 0, 0, 0, 0, 0, 0, 0, 0, 0, 0, 0, 0, 0, 0, 0, 0, 0, 0, 0, 0, 0, 0, 0, 0, 0, 0, 0, 0, 0, 0, 0, 0, 0, 0, 0, 0, 0, 0, 0, 0, 0, 0]] (by rfl) (by decide +kernel)
set_option maxRecDepth 20000 in
theorem gX12_tells_X12_at : GoodIn wsX12_tells (wsV RX12 254 RX12 yX12_at wsX12_at) := goodIn_app (goodIn_of _ (by decide +kernel)) ggX12_tells_X12_at
noncomputable def sX12_tells_37 : List Nat := 172 :: []
noncomputable def sX12_tells_36 : List Nat := 28 :: sX12_tells_37
noncomputable def sX12_tells_33 : List Nat := 167 :: 255 :: 227 :: sX12_tells_36
noncomputable def sX12_tells_30 : List Nat := 132 :: 3 :: 1 :: sX12_tells_33
noncomputable def sX12_tells_29 : List Nat := 61 :: sX12_tells_30
noncomputable def sX12_tells_28 : List Nat := 3 :: sX12_tells_29
noncomputable def sX12_tells_25 : List Nat := 167 :: 0 :: 4 :: sX12_tells_28
noncomputable def sX12_tells_24 : List Nat := 4 :: sX12_tells_25
noncomputable def sX12_tells_21 : List Nat := 159 :: 0 :: 7 :: sX12_tells_24
noncomputable def sX12_tells_20 : List Nat := 2 :: sX12_tells_21
noncomputable def sX12_tells_17 : List Nat := 182 :: 0 :: 254 :: sX12_tells_20
noncomputable def sX12_tells_16 : List Nat := 29 :: sX12_tells_17
noncomputable def sX12_tells_15 : List Nat := 27 :: sX12_tells_16
noncomputable def sX12_tells_14 : List Nat := 42 :: sX12_tells_15
noncomputable def sX12_tells_11 : List Nat := 154 :: 0 :: 13 :: sX12_tells_14
noncomputable def sX12_tells_10 : List Nat := 28 :: sX12_tells_11
noncomputable def sX12_tells_7 : List Nat := 162 :: 0 :: 29 :: sX12_tells_10
noncomputable def sX12_tells_5 : List Nat := 16 :: 22 :: sX12_tells_7
noncomputable def sX12_tells_4 : List Nat := 29 :: sX12_tells_5
noncomputable def sX12_tells_3 : List Nat := 62 :: sX12_tells_4
noncomputable def sX12_tells_2 : List Nat := 3 :: sX12_tells_3
noncomputable def sX12_tells_1 : List Nat := 61 :: sX12_tells_2
noncomputable def sX12_tells_0 : List Nat := 3 :: sX12_tells_1
theorem aX12_tells_0 : dc_at cX12_tells 0 sX12_tells_0 := dc_base (by decide +kernel)
theorem aX12_tells_1 : dc_at cX12_tells 1 sX12_tells_1 := dc_n1 aX12_tells_0
theorem aX12_tells_2 : dc_at cX12_tells 2 sX12_tells_2 := dc_n1 aX12_tells_1
theorem aX12_tells_3 : dc_at cX12_tells 3 sX12_tells_3 := dc_n1 aX12_tells_2
theorem aX12_tells_4 : dc_at cX12_tells 4 sX12_tells_4 := dc_n1 aX12_tells_3
theorem aX12_tells_5 : dc_at cX12_tells 5 sX12_tells_5 := dc_n1 aX12_tells_4
theorem aX12_tells_7 : dc_at cX12_tells 7 sX12_tells_7 := dc_n2 aX12_tells_5
theorem aX12_tells_10 : dc_at cX12_tells 10 sX12_tells_10 := dc_n3 aX12_tells_7
theorem aX12_tells_11 : dc_at cX12_tells 11 sX12_tells_11 := dc_n1 aX12_tells_10
theorem aX12_tells_14 : dc_at cX12_tells 14 sX12_tells_14 := dc_n3 aX12_tells_11
theorem aX12_tells_15 : dc_at cX12_tells 15 sX12_tells_15 := dc_n1 aX12_tells_14
theorem aX12_tells_16 : dc_at cX12_tells 16 sX12_tells_16 := dc_n1 aX12_tells_15
theorem aX12_tells_17 : dc_at cX12_tells 17 sX12_tells_17 := dc_n1 aX12_tells_16
theorem aX12_tells_20 : dc_at cX12_tells 20 sX12_tells_20 := dc_n3 aX12_tells_17
theorem aX12_tells_21 : dc_at cX12_tells 21 sX12_tells_21 := dc_n1 aX12_tells_20
theorem aX12_tells_24 : dc_at cX12_tells 24 sX12_tells_24 := dc_n3 aX12_tells_21
theorem aX12_tells_25 : dc_at cX12_tells 25 sX12_tells_25 := dc_n1 aX12_tells_24
theorem aX12_tells_28 : dc_at cX12_tells 28 sX12_tells_28 := dc_n3 aX12_tells_25
theorem aX12_tells_29 : dc_at cX12_tells 29 sX12_tells_29 := dc_n1 aX12_tells_28
theorem aX12_tells_30 : dc_at cX12_tells 30 sX12_tells_30 := dc_n1 aX12_tells_29
theorem aX12_tells_33 : dc_at cX12_tells 33 sX12_tells_33 := dc_n3 aX12_tells_30
theorem aX12_tells_36 : dc_at cX12_tells 36 sX12_tells_36 := dc_n3 aX12_tells_33
theorem aX12_tells_37 : dc_at cX12_tells 37 sX12_tells_37 := dc_n1 aX12_tells_36
theorem dX12_tells_0 : decode cX12_tells 0 = .ok (.iconst 0, 1) := dc_3 aX12_tells_0
theorem dX12_tells_1 : decode cX12_tells 1 = .ok (.istore_n 2, 1) := dc_61 aX12_tells_1
theorem dX12_tells_2 : decode cX12_tells 2 = .ok (.iconst 0, 1) := dc_3 aX12_tells_2
theorem dX12_tells_3 : decode cX12_tells 3 = .ok (.istore_n 3, 1) := dc_62 aX12_tells_3
theorem dX12_tells_4 : decode cX12_tells 4 = .ok (.iload_n 3, 1) := dc_29 aX12_tells_4
theorem dX12_tells_5 : decode cX12_tells 5 = .ok (.bipush 22, 2) := dc_16 (a0 := 22) aX12_tells_5 (by decide)
theorem dX12_tells_7 : decode cX12_tells 7 = .ok (.if_icmp .ge 29, 3) := dc_162 (a0 := 0) (b0 := 29) aX12_tells_7 (by decide)
theorem dX12_tells_10 : decode cX12_tells 10 = .ok (.iload_n 2, 1) := dc_28 aX12_tells_10
theorem dX12_tells_11 : decode cX12_tells 11 = .ok (.ifCond .ne 13, 3) := dc_154 (a0 := 0) (b0 := 13) aX12_tells_11 (by decide)
theorem dX12_tells_14 : decode cX12_tells 14 = .ok (.aload_n 0, 1) := dc_42 aX12_tells_14
theorem dX12_tells_15 : decode cX12_tells 15 = .ok (.iload_n 1, 1) := dc_27 aX12_tells_15
theorem dX12_tells_16 : decode cX12_tells 16 = .ok (.iload_n 3, 1) := dc_29 aX12_tells_16
theorem dX12_tells_17 : decode cX12_tells 17 = .ok (.invokevirtual 254, 3) := dc_182 (a0 := 0) (b0 := 254) aX12_tells_17
theorem dX12_tells_20 : decode cX12_tells 20 = .ok (.iconst (-1), 1) := dc_2 aX12_tells_20
theorem dX12_tells_21 : decode cX12_tells 21 = .ok (.if_icmp .eq 7, 3) := dc_159 (a0 := 0) (b0 := 7) aX12_tells_21 (by decide)
theorem dX12_tells_24 : decode cX12_tells 24 = .ok (.iconst 1, 1) := dc_4 aX12_tells_24
theorem dX12_tells_25 : decode cX12_tells 25 = .ok (.goto 4, 3) := dc_167 (a0 := 0) (b0 := 4) aX12_tells_25 (by decide)
theorem dX12_tells_28 : decode cX12_tells 28 = .ok (.iconst 0, 1) := dc_3 aX12_tells_28
theorem dX12_tells_29 : decode cX12_tells 29 = .ok (.istore_n 2, 1) := dc_61 aX12_tells_29
theorem dX12_tells_30 : decode cX12_tells 30 = .ok (.iinc 3 1, 3) := dc_132 (a0 := 3) (a1 := 1) aX12_tells_30 (by decide)
theorem dX12_tells_33 : decode cX12_tells 33 = .ok (.goto (-29), 3) := dc_167 (a0 := 255) (b0 := 227) aX12_tells_33 (by decide)
theorem dX12_tells_36 : decode cX12_tells 36 = .ok (.iload_n 2, 1) := dc_28 aX12_tells_36
theorem dX12_tells_37 : decode cX12_tells 37 = .ok (.ireturn, 1) := dc_172 aX12_tells_37
set_option maxRecDepth 20000 in
theorem ggX12_bookTells_X12_tells : GoodIn wsX12_bookTells wsX12_tells := goodIn_k _ [[5, 0, 0, 0], [4, 4, 0, 0, 0, 0, 0, 0, 0, 0, 0, 0, 0, 0, 0, 0, 0, 0, 0, 0, 0, 0, 0, 0, 0, 0, 0, 0, 0, 0, 0, 0, 0, 0, 0, 0, 0, 0, 0, 0, 0, 0, 0, 0, 0, 0, 0, 0, 0, 0, 0, 0, 0, 0, 0, 0, 0, 0, 0, 0, 0]] (by rfl) (by decide +kernel)
set_option maxRecDepth 20000 in
theorem gX12_bookTells_X12_tells : GoodIn wsX12_bookTells (wsV RX12 257 RX12 yX12_tells wsX12_tells) := goodIn_app (goodIn_of _ (by decide +kernel)) ggX12_bookTells_X12_tells
noncomputable def sX12_bookTells_40 : List Nat := 172 :: []
noncomputable def sX12_bookTells_39 : List Nat := 28 :: sX12_bookTells_40
noncomputable def sX12_bookTells_36 : List Nat := 167 :: 255 :: 224 :: sX12_bookTells_39
noncomputable def sX12_bookTells_33 : List Nat := 132 :: 3 :: 1 :: sX12_bookTells_36
noncomputable def sX12_bookTells_32 : List Nat := 61 :: sX12_bookTells_33
noncomputable def sX12_bookTells_31 : List Nat := 3 :: sX12_bookTells_32
noncomputable def sX12_bookTells_28 : List Nat := 167 :: 0 :: 4 :: sX12_bookTells_31
noncomputable def sX12_bookTells_27 : List Nat := 4 :: sX12_bookTells_28
noncomputable def sX12_bookTells_24 : List Nat := 153 :: 0 :: 7 :: sX12_bookTells_27
noncomputable def sX12_bookTells_21 : List Nat := 182 :: 1 :: 1 :: sX12_bookTells_24
noncomputable def sX12_bookTells_20 : List Nat := 96 :: sX12_bookTells_21
noncomputable def sX12_bookTells_19 : List Nat := 29 :: sX12_bookTells_20
noncomputable def sX12_bookTells_18 : List Nat := 104 :: sX12_bookTells_19
noncomputable def sX12_bookTells_17 : List Nat := 27 :: sX12_bookTells_18
noncomputable def sX12_bookTells_15 : List Nat := 16 :: 20 :: sX12_bookTells_17
noncomputable def sX12_bookTells_14 : List Nat := 42 :: sX12_bookTells_15
noncomputable def sX12_bookTells_11 : List Nat := 154 :: 0 :: 16 :: sX12_bookTells_14
noncomputable def sX12_bookTells_10 : List Nat := 28 :: sX12_bookTells_11
noncomputable def sX12_bookTells_7 : List Nat := 162 :: 0 :: 32 :: sX12_bookTells_10
noncomputable def sX12_bookTells_5 : List Nat := 16 :: 20 :: sX12_bookTells_7
noncomputable def sX12_bookTells_4 : List Nat := 29 :: sX12_bookTells_5
noncomputable def sX12_bookTells_3 : List Nat := 62 :: sX12_bookTells_4
noncomputable def sX12_bookTells_2 : List Nat := 3 :: sX12_bookTells_3
noncomputable def sX12_bookTells_1 : List Nat := 61 :: sX12_bookTells_2
noncomputable def sX12_bookTells_0 : List Nat := 3 :: sX12_bookTells_1
theorem aX12_bookTells_0 : dc_at cX12_bookTells 0 sX12_bookTells_0 := dc_base (by decide +kernel)
theorem aX12_bookTells_1 : dc_at cX12_bookTells 1 sX12_bookTells_1 := dc_n1 aX12_bookTells_0
theorem aX12_bookTells_2 : dc_at cX12_bookTells 2 sX12_bookTells_2 := dc_n1 aX12_bookTells_1
theorem aX12_bookTells_3 : dc_at cX12_bookTells 3 sX12_bookTells_3 := dc_n1 aX12_bookTells_2
theorem aX12_bookTells_4 : dc_at cX12_bookTells 4 sX12_bookTells_4 := dc_n1 aX12_bookTells_3
theorem aX12_bookTells_5 : dc_at cX12_bookTells 5 sX12_bookTells_5 := dc_n1 aX12_bookTells_4
theorem aX12_bookTells_7 : dc_at cX12_bookTells 7 sX12_bookTells_7 := dc_n2 aX12_bookTells_5
theorem aX12_bookTells_10 : dc_at cX12_bookTells 10 sX12_bookTells_10 := dc_n3 aX12_bookTells_7
theorem aX12_bookTells_11 : dc_at cX12_bookTells 11 sX12_bookTells_11 := dc_n1 aX12_bookTells_10
theorem aX12_bookTells_14 : dc_at cX12_bookTells 14 sX12_bookTells_14 := dc_n3 aX12_bookTells_11
theorem aX12_bookTells_15 : dc_at cX12_bookTells 15 sX12_bookTells_15 := dc_n1 aX12_bookTells_14
theorem aX12_bookTells_17 : dc_at cX12_bookTells 17 sX12_bookTells_17 := dc_n2 aX12_bookTells_15
theorem aX12_bookTells_18 : dc_at cX12_bookTells 18 sX12_bookTells_18 := dc_n1 aX12_bookTells_17
theorem aX12_bookTells_19 : dc_at cX12_bookTells 19 sX12_bookTells_19 := dc_n1 aX12_bookTells_18
theorem aX12_bookTells_20 : dc_at cX12_bookTells 20 sX12_bookTells_20 := dc_n1 aX12_bookTells_19
theorem aX12_bookTells_21 : dc_at cX12_bookTells 21 sX12_bookTells_21 := dc_n1 aX12_bookTells_20
theorem aX12_bookTells_24 : dc_at cX12_bookTells 24 sX12_bookTells_24 := dc_n3 aX12_bookTells_21
theorem aX12_bookTells_27 : dc_at cX12_bookTells 27 sX12_bookTells_27 := dc_n3 aX12_bookTells_24
theorem aX12_bookTells_28 : dc_at cX12_bookTells 28 sX12_bookTells_28 := dc_n1 aX12_bookTells_27
theorem aX12_bookTells_31 : dc_at cX12_bookTells 31 sX12_bookTells_31 := dc_n3 aX12_bookTells_28
theorem aX12_bookTells_32 : dc_at cX12_bookTells 32 sX12_bookTells_32 := dc_n1 aX12_bookTells_31
theorem aX12_bookTells_33 : dc_at cX12_bookTells 33 sX12_bookTells_33 := dc_n1 aX12_bookTells_32
theorem aX12_bookTells_36 : dc_at cX12_bookTells 36 sX12_bookTells_36 := dc_n3 aX12_bookTells_33
theorem aX12_bookTells_39 : dc_at cX12_bookTells 39 sX12_bookTells_39 := dc_n3 aX12_bookTells_36
theorem aX12_bookTells_40 : dc_at cX12_bookTells 40 sX12_bookTells_40 := dc_n1 aX12_bookTells_39
theorem dX12_bookTells_0 : decode cX12_bookTells 0 = .ok (.iconst 0, 1) := dc_3 aX12_bookTells_0
theorem dX12_bookTells_1 : decode cX12_bookTells 1 = .ok (.istore_n 2, 1) := dc_61 aX12_bookTells_1
theorem dX12_bookTells_2 : decode cX12_bookTells 2 = .ok (.iconst 0, 1) := dc_3 aX12_bookTells_2
theorem dX12_bookTells_3 : decode cX12_bookTells 3 = .ok (.istore_n 3, 1) := dc_62 aX12_bookTells_3
theorem dX12_bookTells_4 : decode cX12_bookTells 4 = .ok (.iload_n 3, 1) := dc_29 aX12_bookTells_4
theorem dX12_bookTells_5 : decode cX12_bookTells 5 = .ok (.bipush 20, 2) := dc_16 (a0 := 20) aX12_bookTells_5 (by decide)
theorem dX12_bookTells_7 : decode cX12_bookTells 7 = .ok (.if_icmp .ge 32, 3) := dc_162 (a0 := 0) (b0 := 32) aX12_bookTells_7 (by decide)
theorem dX12_bookTells_10 : decode cX12_bookTells 10 = .ok (.iload_n 2, 1) := dc_28 aX12_bookTells_10
theorem dX12_bookTells_11 : decode cX12_bookTells 11 = .ok (.ifCond .ne 16, 3) := dc_154 (a0 := 0) (b0 := 16) aX12_bookTells_11 (by decide)
theorem dX12_bookTells_14 : decode cX12_bookTells 14 = .ok (.aload_n 0, 1) := dc_42 aX12_bookTells_14
theorem dX12_bookTells_15 : decode cX12_bookTells 15 = .ok (.bipush 20, 2) := dc_16 (a0 := 20) aX12_bookTells_15 (by decide)
theorem dX12_bookTells_17 : decode cX12_bookTells 17 = .ok (.iload_n 1, 1) := dc_27 aX12_bookTells_17
theorem dX12_bookTells_18 : decode cX12_bookTells 18 = .ok (.imul, 1) := dc_104 aX12_bookTells_18
theorem dX12_bookTells_19 : decode cX12_bookTells 19 = .ok (.iload_n 3, 1) := dc_29 aX12_bookTells_19
theorem dX12_bookTells_20 : decode cX12_bookTells 20 = .ok (.iadd, 1) := dc_96 aX12_bookTells_20
theorem dX12_bookTells_21 : decode cX12_bookTells 21 = .ok (.invokevirtual 257, 3) := dc_182 (a0 := 1) (b0 := 1) aX12_bookTells_21
theorem dX12_bookTells_24 : decode cX12_bookTells 24 = .ok (.ifCond .eq 7, 3) := dc_153 (a0 := 0) (b0 := 7) aX12_bookTells_24 (by decide)
theorem dX12_bookTells_27 : decode cX12_bookTells 27 = .ok (.iconst 1, 1) := dc_4 aX12_bookTells_27
theorem dX12_bookTells_28 : decode cX12_bookTells 28 = .ok (.goto 4, 3) := dc_167 (a0 := 0) (b0 := 4) aX12_bookTells_28 (by decide)
theorem dX12_bookTells_31 : decode cX12_bookTells 31 = .ok (.iconst 0, 1) := dc_3 aX12_bookTells_31
theorem dX12_bookTells_32 : decode cX12_bookTells 32 = .ok (.istore_n 2, 1) := dc_61 aX12_bookTells_32
theorem dX12_bookTells_33 : decode cX12_bookTells 33 = .ok (.iinc 3 1, 3) := dc_132 (a0 := 3) (a1 := 1) aX12_bookTells_33 (by decide)
theorem dX12_bookTells_36 : decode cX12_bookTells 36 = .ok (.goto (-32), 3) := dc_167 (a0 := 255) (b0 := 224) aX12_bookTells_36 (by decide)
theorem dX12_bookTells_39 : decode cX12_bookTells 39 = .ok (.iload_n 2, 1) := dc_28 aX12_bookTells_39
theorem dX12_bookTells_40 : decode cX12_bookTells 40 = .ok (.ireturn, 1) := dc_172 aX12_bookTells_40
noncomputable def sX12_floor_28 : List Nat := 173 :: []
noncomputable def sX12_floor_26 : List Nat := 22 :: 4 :: sX12_floor_28
noncomputable def sX12_floor_23 : List Nat := 167 :: 0 :: 5 :: sX12_floor_26
noncomputable def sX12_floor_22 : List Nat := 101 :: sX12_floor_23
noncomputable def sX12_floor_21 : List Nat := 10 :: sX12_floor_22
noncomputable def sX12_floor_19 : List Nat := 22 :: 4 :: sX12_floor_21
noncomputable def sX12_floor_16 : List Nat := 156 :: 0 :: 10 :: sX12_floor_19
noncomputable def sX12_floor_15 : List Nat := 148 :: sX12_floor_16
noncomputable def sX12_floor_14 : List Nat := 9 :: sX12_floor_15
noncomputable def sX12_floor_13 : List Nat := 30 :: sX12_floor_14
noncomputable def sX12_floor_10 : List Nat := 153 :: 0 :: 16 :: sX12_floor_13
noncomputable def sX12_floor_9 : List Nat := 148 :: sX12_floor_10
noncomputable def sX12_floor_8 : List Nat := 9 :: sX12_floor_9
noncomputable def sX12_floor_7 : List Nat := 113 :: sX12_floor_8
noncomputable def sX12_floor_6 : List Nat := 32 :: sX12_floor_7
noncomputable def sX12_floor_5 : List Nat := 30 :: sX12_floor_6
noncomputable def sX12_floor_3 : List Nat := 55 :: 4 :: sX12_floor_5
noncomputable def sX12_floor_2 : List Nat := 109 :: sX12_floor_3
noncomputable def sX12_floor_1 : List Nat := 32 :: sX12_floor_2
noncomputable def sX12_floor_0 : List Nat := 30 :: sX12_floor_1
theorem aX12_floor_0 : dc_at cX12_floor 0 sX12_floor_0 := dc_base (by decide +kernel)
theorem aX12_floor_1 : dc_at cX12_floor 1 sX12_floor_1 := dc_n1 aX12_floor_0
theorem aX12_floor_2 : dc_at cX12_floor 2 sX12_floor_2 := dc_n1 aX12_floor_1
theorem aX12_floor_3 : dc_at cX12_floor 3 sX12_floor_3 := dc_n1 aX12_floor_2
theorem aX12_floor_5 : dc_at cX12_floor 5 sX12_floor_5 := dc_n2 aX12_floor_3
theorem aX12_floor_6 : dc_at cX12_floor 6 sX12_floor_6 := dc_n1 aX12_floor_5
theorem aX12_floor_7 : dc_at cX12_floor 7 sX12_floor_7 := dc_n1 aX12_floor_6
theorem aX12_floor_8 : dc_at cX12_floor 8 sX12_floor_8 := dc_n1 aX12_floor_7
theorem aX12_floor_9 : dc_at cX12_floor 9 sX12_floor_9 := dc_n1 aX12_floor_8
theorem aX12_floor_10 : dc_at cX12_floor 10 sX12_floor_10 := dc_n1 aX12_floor_9
theorem aX12_floor_13 : dc_at cX12_floor 13 sX12_floor_13 := dc_n3 aX12_floor_10
theorem aX12_floor_14 : dc_at cX12_floor 14 sX12_floor_14 := dc_n1 aX12_floor_13
theorem aX12_floor_15 : dc_at cX12_floor 15 sX12_floor_15 := dc_n1 aX12_floor_14
theorem aX12_floor_16 : dc_at cX12_floor 16 sX12_floor_16 := dc_n1 aX12_floor_15
theorem aX12_floor_19 : dc_at cX12_floor 19 sX12_floor_19 := dc_n3 aX12_floor_16
theorem aX12_floor_21 : dc_at cX12_floor 21 sX12_floor_21 := dc_n2 aX12_floor_19
theorem aX12_floor_22 : dc_at cX12_floor 22 sX12_floor_22 := dc_n1 aX12_floor_21
theorem aX12_floor_23 : dc_at cX12_floor 23 sX12_floor_23 := dc_n1 aX12_floor_22
theorem aX12_floor_26 : dc_at cX12_floor 26 sX12_floor_26 := dc_n3 aX12_floor_23
theorem aX12_floor_28 : dc_at cX12_floor 28 sX12_floor_28 := dc_n2 aX12_floor_26
theorem dX12_floor_0 : decode cX12_floor 0 = .ok (.lload_n 0, 1) := dc_30 aX12_floor_0
theorem dX12_floor_1 : decode cX12_floor 1 = .ok (.lload_n 2, 1) := dc_32 aX12_floor_1
theorem dX12_floor_2 : decode cX12_floor 2 = .ok (.ldiv, 1) := dc_109 aX12_floor_2
theorem dX12_floor_3 : decode cX12_floor 3 = .ok (.lstore 4, 2) := dc_55 (a0 := 4) aX12_floor_3
theorem dX12_floor_5 : decode cX12_floor 5 = .ok (.lload_n 0, 1) := dc_30 aX12_floor_5
theorem dX12_floor_6 : decode cX12_floor 6 = .ok (.lload_n 2, 1) := dc_32 aX12_floor_6
theorem dX12_floor_7 : decode cX12_floor 7 = .ok (.lrem, 1) := dc_113 aX12_floor_7
theorem dX12_floor_8 : decode cX12_floor 8 = .ok (.lconst 0, 1) := dc_9 aX12_floor_8
theorem dX12_floor_9 : decode cX12_floor 9 = .ok (.lcmp, 1) := dc_148 aX12_floor_9
theorem dX12_floor_10 : decode cX12_floor 10 = .ok (.ifCond .eq 16, 3) := dc_153 (a0 := 0) (b0 := 16) aX12_floor_10 (by decide)
theorem dX12_floor_13 : decode cX12_floor 13 = .ok (.lload_n 0, 1) := dc_30 aX12_floor_13
theorem dX12_floor_14 : decode cX12_floor 14 = .ok (.lconst 0, 1) := dc_9 aX12_floor_14
theorem dX12_floor_15 : decode cX12_floor 15 = .ok (.lcmp, 1) := dc_148 aX12_floor_15
theorem dX12_floor_16 : decode cX12_floor 16 = .ok (.ifCond .ge 10, 3) := dc_156 (a0 := 0) (b0 := 10) aX12_floor_16 (by decide)
theorem dX12_floor_19 : decode cX12_floor 19 = .ok (.lload 4, 2) := dc_22 (a0 := 4) aX12_floor_19
theorem dX12_floor_21 : decode cX12_floor 21 = .ok (.lconst 1, 1) := dc_10 aX12_floor_21
theorem dX12_floor_22 : decode cX12_floor 22 = .ok (.lsub, 1) := dc_101 aX12_floor_22
theorem dX12_floor_23 : decode cX12_floor 23 = .ok (.goto 5, 3) := dc_167 (a0 := 0) (b0 := 5) aX12_floor_23 (by decide)
theorem dX12_floor_26 : decode cX12_floor 26 = .ok (.lload 4, 2) := dc_22 (a0 := 4) aX12_floor_26
theorem dX12_floor_28 : decode cX12_floor 28 = .ok (.lreturn, 1) := dc_173 aX12_floor_28
set_option maxRecDepth 20000 in
theorem ggX12_placeOn_X12_floor : GoodIn wsX12_placeOn wsX12_floor := goodIn_k _ [[11]] (by rfl) (by decide +kernel)
set_option maxRecDepth 20000 in
theorem gX12_placeOn_X12_floor : GoodIn wsX12_placeOn (va_wsS RX12 264 yX12_floor wsX12_floor) := goodIn_app (goodIn_of _ (by decide +kernel)) ggX12_placeOn_X12_floor
noncomputable def sX12_placeOn_137 : List Nat := 172 :: []
noncomputable def sX12_placeOn_135 : List Nat := 21 :: 11 :: sX12_placeOn_137
noncomputable def sX12_placeOn_132 : List Nat := 167 :: 0 :: 5 :: sX12_placeOn_135
noncomputable def sX12_placeOn_131 : List Nat := 96 :: sX12_placeOn_132
noncomputable def sX12_placeOn_128 : List Nat := 17 :: 84 :: 96 :: sX12_placeOn_131
noncomputable def sX12_placeOn_126 : List Nat := 21 :: 11 :: sX12_placeOn_128
noncomputable def sX12_placeOn_123 : List Nat := 156 :: 0 :: 12 :: sX12_placeOn_126
noncomputable def sX12_placeOn_121 : List Nat := 21 :: 11 :: sX12_placeOn_123
noncomputable def sX12_placeOn_119 : List Nat := 54 :: 11 :: sX12_placeOn_121
noncomputable def sX12_placeOn_118 : List Nat := 136 :: sX12_placeOn_119
noncomputable def sX12_placeOn_117 : List Nat := 113 :: sX12_placeOn_118
noncomputable def sX12_placeOn_114 : List Nat := 20 :: 1 :: 12 :: sX12_placeOn_117
noncomputable def sX12_placeOn_112 : List Nat := 22 :: 9 :: sX12_placeOn_114
noncomputable def sX12_placeOn_110 : List Nat := 55 :: 9 :: sX12_placeOn_112
noncomputable def sX12_placeOn_109 : List Nat := 97 :: sX12_placeOn_110
noncomputable def sX12_placeOn_106 : List Nat := 184 :: 1 :: 8 :: sX12_placeOn_109
noncomputable def sX12_placeOn_105 : List Nat := 133 :: sX12_placeOn_106
noncomputable def sX12_placeOn_104 : List Nat := 46 :: sX12_placeOn_105
noncomputable def sX12_placeOn_102 : List Nat := 21 :: 4 :: sX12_placeOn_104
noncomputable def sX12_placeOn_99 : List Nat := 180 :: 0 :: 19 :: sX12_placeOn_102
noncomputable def sX12_placeOn_98 : List Nat := 42 :: sX12_placeOn_99
noncomputable def sX12_placeOn_97 : List Nat := 105 :: sX12_placeOn_98
noncomputable def sX12_placeOn_96 : List Nat := 133 :: sX12_placeOn_97
noncomputable def sX12_placeOn_95 : List Nat := 46 :: sX12_placeOn_96
noncomputable def sX12_placeOn_93 : List Nat := 21 :: 4 :: sX12_placeOn_95
noncomputable def sX12_placeOn_90 : List Nat := 180 :: 0 :: 16 :: sX12_placeOn_93
noncomputable def sX12_placeOn_89 : List Nat := 42 :: sX12_placeOn_90
noncomputable def sX12_placeOn_88 : List Nat := 101 :: sX12_placeOn_89
noncomputable def sX12_placeOn_87 : List Nat := 133 :: sX12_placeOn_88
noncomputable def sX12_placeOn_86 : List Nat := 46 :: sX12_placeOn_87
noncomputable def sX12_placeOn_84 : List Nat := 21 :: 4 :: sX12_placeOn_86
noncomputable def sX12_placeOn_81 : List Nat := 180 :: 0 :: 19 :: sX12_placeOn_84
noncomputable def sX12_placeOn_80 : List Nat := 42 :: sX12_placeOn_81
noncomputable def sX12_placeOn_79 : List Nat := 105 :: sX12_placeOn_80
noncomputable def sX12_placeOn_77 : List Nat := 22 :: 7 :: sX12_placeOn_79
noncomputable def sX12_placeOn_74 : List Nat := 167 :: 0 :: 5 :: sX12_placeOn_77
noncomputable def sX12_placeOn_73 : List Nat := 117 :: sX12_placeOn_74
noncomputable def sX12_placeOn_71 : List Nat := 22 :: 7 :: sX12_placeOn_73
noncomputable def sX12_placeOn_68 : List Nat := 156 :: 0 :: 9 :: sX12_placeOn_71
noncomputable def sX12_placeOn_67 : List Nat := 148 :: sX12_placeOn_68
noncomputable def sX12_placeOn_66 : List Nat := 9 :: sX12_placeOn_67
noncomputable def sX12_placeOn_64 : List Nat := 22 :: 7 :: sX12_placeOn_66
noncomputable def sX12_placeOn_61 : List Nat := 20 :: 1 :: 4 :: sX12_placeOn_64
noncomputable def sX12_placeOn_60 : List Nat := 97 :: sX12_placeOn_61
noncomputable def sX12_placeOn_59 : List Nat := 109 :: sX12_placeOn_60
noncomputable def sX12_placeOn_56 : List Nat := 20 :: 1 :: 6 :: sX12_placeOn_59
noncomputable def sX12_placeOn_55 : List Nat := 105 :: sX12_placeOn_56
noncomputable def sX12_placeOn_54 : List Nat := 133 :: sX12_placeOn_55
noncomputable def sX12_placeOn_53 : List Nat := 29 :: sX12_placeOn_54
noncomputable def sX12_placeOn_52 : List Nat := 133 :: sX12_placeOn_53
noncomputable def sX12_placeOn_51 : List Nat := 46 :: sX12_placeOn_52
noncomputable def sX12_placeOn_49 : List Nat := 21 :: 4 :: sX12_placeOn_51
noncomputable def sX12_placeOn_46 : List Nat := 180 :: 0 :: 13 :: sX12_placeOn_49
noncomputable def sX12_placeOn_45 : List Nat := 42 :: sX12_placeOn_46
noncomputable def sX12_placeOn_44 : List Nat := 133 :: sX12_placeOn_45
noncomputable def sX12_placeOn_43 : List Nat := 46 :: sX12_placeOn_44
noncomputable def sX12_placeOn_41 : List Nat := 21 :: 4 :: sX12_placeOn_43
noncomputable def sX12_placeOn_38 : List Nat := 180 :: 0 :: 7 :: sX12_placeOn_41
noncomputable def sX12_placeOn_37 : List Nat := 42 :: sX12_placeOn_38
noncomputable def sX12_placeOn_35 : List Nat := 55 :: 7 :: sX12_placeOn_37
noncomputable def sX12_placeOn_34 : List Nat := 101 :: sX12_placeOn_35
noncomputable def sX12_placeOn_33 : List Nat := 133 :: sX12_placeOn_34
noncomputable def sX12_placeOn_32 : List Nat := 46 :: sX12_placeOn_33
noncomputable def sX12_placeOn_30 : List Nat := 21 :: 4 :: sX12_placeOn_32
noncomputable def sX12_placeOn_27 : List Nat := 180 :: 0 :: 19 :: sX12_placeOn_30
noncomputable def sX12_placeOn_26 : List Nat := 42 :: sX12_placeOn_27
noncomputable def sX12_placeOn_25 : List Nat := 105 :: sX12_placeOn_26
noncomputable def sX12_placeOn_23 : List Nat := 22 :: 5 :: sX12_placeOn_25
noncomputable def sX12_placeOn_20 : List Nat := 20 :: 1 :: 4 :: sX12_placeOn_23
noncomputable def sX12_placeOn_18 : List Nat := 55 :: 5 :: sX12_placeOn_20
noncomputable def sX12_placeOn_17 : List Nat := 133 :: sX12_placeOn_18
noncomputable def sX12_placeOn_16 : List Nat := 112 :: sX12_placeOn_17
noncomputable def sX12_placeOn_15 : List Nat := 46 :: sX12_placeOn_16
noncomputable def sX12_placeOn_13 : List Nat := 21 :: 4 :: sX12_placeOn_15
noncomputable def sX12_placeOn_10 : List Nat := 180 :: 0 :: 19 :: sX12_placeOn_13
noncomputable def sX12_placeOn_9 : List Nat := 42 :: sX12_placeOn_10
noncomputable def sX12_placeOn_8 : List Nat := 29 :: sX12_placeOn_9
noncomputable def sX12_placeOn_6 : List Nat := 54 :: 4 :: sX12_placeOn_8
noncomputable def sX12_placeOn_5 : List Nat := 96 :: sX12_placeOn_6
noncomputable def sX12_placeOn_4 : List Nat := 28 :: sX12_placeOn_5
noncomputable def sX12_placeOn_3 : List Nat := 104 :: sX12_placeOn_4
noncomputable def sX12_placeOn_2 : List Nat := 27 :: sX12_placeOn_3
noncomputable def sX12_placeOn_0 : List Nat := 16 :: 7 :: sX12_placeOn_2
theorem aX12_placeOn_0 : dc_at cX12_placeOn 0 sX12_placeOn_0 := dc_base (by decide +kernel)
theorem aX12_placeOn_2 : dc_at cX12_placeOn 2 sX12_placeOn_2 := dc_n2 aX12_placeOn_0
theorem aX12_placeOn_3 : dc_at cX12_placeOn 3 sX12_placeOn_3 := dc_n1 aX12_placeOn_2
theorem aX12_placeOn_4 : dc_at cX12_placeOn 4 sX12_placeOn_4 := dc_n1 aX12_placeOn_3
theorem aX12_placeOn_5 : dc_at cX12_placeOn 5 sX12_placeOn_5 := dc_n1 aX12_placeOn_4
theorem aX12_placeOn_6 : dc_at cX12_placeOn 6 sX12_placeOn_6 := dc_n1 aX12_placeOn_5
theorem aX12_placeOn_8 : dc_at cX12_placeOn 8 sX12_placeOn_8 := dc_n2 aX12_placeOn_6
theorem aX12_placeOn_9 : dc_at cX12_placeOn 9 sX12_placeOn_9 := dc_n1 aX12_placeOn_8
theorem aX12_placeOn_10 : dc_at cX12_placeOn 10 sX12_placeOn_10 := dc_n1 aX12_placeOn_9
theorem aX12_placeOn_13 : dc_at cX12_placeOn 13 sX12_placeOn_13 := dc_n3 aX12_placeOn_10
theorem aX12_placeOn_15 : dc_at cX12_placeOn 15 sX12_placeOn_15 := dc_n2 aX12_placeOn_13
theorem aX12_placeOn_16 : dc_at cX12_placeOn 16 sX12_placeOn_16 := dc_n1 aX12_placeOn_15
theorem aX12_placeOn_17 : dc_at cX12_placeOn 17 sX12_placeOn_17 := dc_n1 aX12_placeOn_16
theorem aX12_placeOn_18 : dc_at cX12_placeOn 18 sX12_placeOn_18 := dc_n1 aX12_placeOn_17
theorem aX12_placeOn_20 : dc_at cX12_placeOn 20 sX12_placeOn_20 := dc_n2 aX12_placeOn_18
theorem aX12_placeOn_23 : dc_at cX12_placeOn 23 sX12_placeOn_23 := dc_n3 aX12_placeOn_20
theorem aX12_placeOn_25 : dc_at cX12_placeOn 25 sX12_placeOn_25 := dc_n2 aX12_placeOn_23
theorem aX12_placeOn_26 : dc_at cX12_placeOn 26 sX12_placeOn_26 := dc_n1 aX12_placeOn_25
theorem aX12_placeOn_27 : dc_at cX12_placeOn 27 sX12_placeOn_27 := dc_n1 aX12_placeOn_26
theorem aX12_placeOn_30 : dc_at cX12_placeOn 30 sX12_placeOn_30 := dc_n3 aX12_placeOn_27
theorem aX12_placeOn_32 : dc_at cX12_placeOn 32 sX12_placeOn_32 := dc_n2 aX12_placeOn_30
theorem aX12_placeOn_33 : dc_at cX12_placeOn 33 sX12_placeOn_33 := dc_n1 aX12_placeOn_32
theorem aX12_placeOn_34 : dc_at cX12_placeOn 34 sX12_placeOn_34 := dc_n1 aX12_placeOn_33
theorem aX12_placeOn_35 : dc_at cX12_placeOn 35 sX12_placeOn_35 := dc_n1 aX12_placeOn_34
theorem aX12_placeOn_37 : dc_at cX12_placeOn 37 sX12_placeOn_37 := dc_n2 aX12_placeOn_35
theorem aX12_placeOn_38 : dc_at cX12_placeOn 38 sX12_placeOn_38 := dc_n1 aX12_placeOn_37
theorem aX12_placeOn_41 : dc_at cX12_placeOn 41 sX12_placeOn_41 := dc_n3 aX12_placeOn_38
theorem aX12_placeOn_43 : dc_at cX12_placeOn 43 sX12_placeOn_43 := dc_n2 aX12_placeOn_41
theorem aX12_placeOn_44 : dc_at cX12_placeOn 44 sX12_placeOn_44 := dc_n1 aX12_placeOn_43
theorem aX12_placeOn_45 : dc_at cX12_placeOn 45 sX12_placeOn_45 := dc_n1 aX12_placeOn_44
theorem aX12_placeOn_46 : dc_at cX12_placeOn 46 sX12_placeOn_46 := dc_n1 aX12_placeOn_45
theorem aX12_placeOn_49 : dc_at cX12_placeOn 49 sX12_placeOn_49 := dc_n3 aX12_placeOn_46
theorem aX12_placeOn_51 : dc_at cX12_placeOn 51 sX12_placeOn_51 := dc_n2 aX12_placeOn_49
theorem aX12_placeOn_52 : dc_at cX12_placeOn 52 sX12_placeOn_52 := dc_n1 aX12_placeOn_51
theorem aX12_placeOn_53 : dc_at cX12_placeOn 53 sX12_placeOn_53 := dc_n1 aX12_placeOn_52
theorem aX12_placeOn_54 : dc_at cX12_placeOn 54 sX12_placeOn_54 := dc_n1 aX12_placeOn_53
theorem aX12_placeOn_55 : dc_at cX12_placeOn 55 sX12_placeOn_55 := dc_n1 aX12_placeOn_54
theorem aX12_placeOn_56 : dc_at cX12_placeOn 56 sX12_placeOn_56 := dc_n1 aX12_placeOn_55
theorem aX12_placeOn_59 : dc_at cX12_placeOn 59 sX12_placeOn_59 := dc_n3 aX12_placeOn_56
theorem aX12_placeOn_60 : dc_at cX12_placeOn 60 sX12_placeOn_60 := dc_n1 aX12_placeOn_59
theorem aX12_placeOn_61 : dc_at cX12_placeOn 61 sX12_placeOn_61 := dc_n1 aX12_placeOn_60
theorem aX12_placeOn_64 : dc_at cX12_placeOn 64 sX12_placeOn_64 := dc_n3 aX12_placeOn_61
theorem aX12_placeOn_66 : dc_at cX12_placeOn 66 sX12_placeOn_66 := dc_n2 aX12_placeOn_64
theorem aX12_placeOn_67 : dc_at cX12_placeOn 67 sX12_placeOn_67 := dc_n1 aX12_placeOn_66
theorem aX12_placeOn_68 : dc_at cX12_placeOn 68 sX12_placeOn_68 := dc_n1 aX12_placeOn_67
theorem aX12_placeOn_71 : dc_at cX12_placeOn 71 sX12_placeOn_71 := dc_n3 aX12_placeOn_68
theorem aX12_placeOn_73 : dc_at cX12_placeOn 73 sX12_placeOn_73 := dc_n2 aX12_placeOn_71
theorem aX12_placeOn_74 : dc_at cX12_placeOn 74 sX12_placeOn_74 := dc_n1 aX12_placeOn_73
theorem aX12_placeOn_77 : dc_at cX12_placeOn 77 sX12_placeOn_77 := dc_n3 aX12_placeOn_74
theorem aX12_placeOn_79 : dc_at cX12_placeOn 79 sX12_placeOn_79 := dc_n2 aX12_placeOn_77
theorem aX12_placeOn_80 : dc_at cX12_placeOn 80 sX12_placeOn_80 := dc_n1 aX12_placeOn_79
theorem aX12_placeOn_81 : dc_at cX12_placeOn 81 sX12_placeOn_81 := dc_n1 aX12_placeOn_80
theorem aX12_placeOn_84 : dc_at cX12_placeOn 84 sX12_placeOn_84 := dc_n3 aX12_placeOn_81
theorem aX12_placeOn_86 : dc_at cX12_placeOn 86 sX12_placeOn_86 := dc_n2 aX12_placeOn_84
theorem aX12_placeOn_87 : dc_at cX12_placeOn 87 sX12_placeOn_87 := dc_n1 aX12_placeOn_86
theorem aX12_placeOn_88 : dc_at cX12_placeOn 88 sX12_placeOn_88 := dc_n1 aX12_placeOn_87
theorem aX12_placeOn_89 : dc_at cX12_placeOn 89 sX12_placeOn_89 := dc_n1 aX12_placeOn_88
theorem aX12_placeOn_90 : dc_at cX12_placeOn 90 sX12_placeOn_90 := dc_n1 aX12_placeOn_89
theorem aX12_placeOn_93 : dc_at cX12_placeOn 93 sX12_placeOn_93 := dc_n3 aX12_placeOn_90
theorem aX12_placeOn_95 : dc_at cX12_placeOn 95 sX12_placeOn_95 := dc_n2 aX12_placeOn_93
theorem aX12_placeOn_96 : dc_at cX12_placeOn 96 sX12_placeOn_96 := dc_n1 aX12_placeOn_95
theorem aX12_placeOn_97 : dc_at cX12_placeOn 97 sX12_placeOn_97 := dc_n1 aX12_placeOn_96
theorem aX12_placeOn_98 : dc_at cX12_placeOn 98 sX12_placeOn_98 := dc_n1 aX12_placeOn_97
theorem aX12_placeOn_99 : dc_at cX12_placeOn 99 sX12_placeOn_99 := dc_n1 aX12_placeOn_98
theorem aX12_placeOn_102 : dc_at cX12_placeOn 102 sX12_placeOn_102 := dc_n3 aX12_placeOn_99
theorem aX12_placeOn_104 : dc_at cX12_placeOn 104 sX12_placeOn_104 := dc_n2 aX12_placeOn_102
theorem aX12_placeOn_105 : dc_at cX12_placeOn 105 sX12_placeOn_105 := dc_n1 aX12_placeOn_104
theorem aX12_placeOn_106 : dc_at cX12_placeOn 106 sX12_placeOn_106 := dc_n1 aX12_placeOn_105
theorem aX12_placeOn_109 : dc_at cX12_placeOn 109 sX12_placeOn_109 := dc_n3 aX12_placeOn_106
theorem aX12_placeOn_110 : dc_at cX12_placeOn 110 sX12_placeOn_110 := dc_n1 aX12_placeOn_109
theorem aX12_placeOn_112 : dc_at cX12_placeOn 112 sX12_placeOn_112 := dc_n2 aX12_placeOn_110
theorem aX12_placeOn_114 : dc_at cX12_placeOn 114 sX12_placeOn_114 := dc_n2 aX12_placeOn_112
theorem aX12_placeOn_117 : dc_at cX12_placeOn 117 sX12_placeOn_117 := dc_n3 aX12_placeOn_114
theorem aX12_placeOn_118 : dc_at cX12_placeOn 118 sX12_placeOn_118 := dc_n1 aX12_placeOn_117
theorem aX12_placeOn_119 : dc_at cX12_placeOn 119 sX12_placeOn_119 := dc_n1 aX12_placeOn_118
theorem aX12_placeOn_121 : dc_at cX12_placeOn 121 sX12_placeOn_121 := dc_n2 aX12_placeOn_119
theorem aX12_placeOn_123 : dc_at cX12_placeOn 123 sX12_placeOn_123 := dc_n2 aX12_placeOn_121
theorem aX12_placeOn_126 : dc_at cX12_placeOn 126 sX12_placeOn_126 := dc_n3 aX12_placeOn_123
theorem aX12_placeOn_128 : dc_at cX12_placeOn 128 sX12_placeOn_128 := dc_n2 aX12_placeOn_126
theorem aX12_placeOn_131 : dc_at cX12_placeOn 131 sX12_placeOn_131 := dc_n3 aX12_placeOn_128
theorem aX12_placeOn_132 : dc_at cX12_placeOn 132 sX12_placeOn_132 := dc_n1 aX12_placeOn_131
theorem aX12_placeOn_135 : dc_at cX12_placeOn 135 sX12_placeOn_135 := dc_n3 aX12_placeOn_132
theorem aX12_placeOn_137 : dc_at cX12_placeOn 137 sX12_placeOn_137 := dc_n2 aX12_placeOn_135
theorem dX12_placeOn_0 : decode cX12_placeOn 0 = .ok (.bipush 7, 2) := dc_16 (a0 := 7) aX12_placeOn_0 (by decide)
theorem dX12_placeOn_2 : decode cX12_placeOn 2 = .ok (.iload_n 1, 1) := dc_27 aX12_placeOn_2
theorem dX12_placeOn_3 : decode cX12_placeOn 3 = .ok (.imul, 1) := dc_104 aX12_placeOn_3
theorem dX12_placeOn_4 : decode cX12_placeOn 4 = .ok (.iload_n 2, 1) := dc_28 aX12_placeOn_4
theorem dX12_placeOn_5 : decode cX12_placeOn 5 = .ok (.iadd, 1) := dc_96 aX12_placeOn_5
theorem dX12_placeOn_6 : decode cX12_placeOn 6 = .ok (.istore 4, 2) := dc_54 (a0 := 4) aX12_placeOn_6
theorem dX12_placeOn_8 : decode cX12_placeOn 8 = .ok (.iload_n 3, 1) := dc_29 aX12_placeOn_8
theorem dX12_placeOn_9 : decode cX12_placeOn 9 = .ok (.aload_n 0, 1) := dc_42 aX12_placeOn_9
theorem dX12_placeOn_10 : decode cX12_placeOn 10 = .ok (.getfield 19, 3) := dc_180 (a0 := 0) (b0 := 19) aX12_placeOn_10
theorem dX12_placeOn_13 : decode cX12_placeOn 13 = .ok (.iload 4, 2) := dc_21 (a0 := 4) aX12_placeOn_13
theorem dX12_placeOn_15 : decode cX12_placeOn 15 = .ok (.iaload, 1) := dc_46 aX12_placeOn_15
theorem dX12_placeOn_16 : decode cX12_placeOn 16 = .ok (.irem, 1) := dc_112 aX12_placeOn_16
theorem dX12_placeOn_17 : decode cX12_placeOn 17 = .ok (.i2l, 1) := dc_133 aX12_placeOn_17
theorem dX12_placeOn_18 : decode cX12_placeOn 18 = .ok (.lstore 5, 2) := dc_55 (a0 := 5) aX12_placeOn_18
theorem dX12_placeOn_20 : decode cX12_placeOn 20 = .ok (.ldc2_w 260, 3) := dc_20 (a0 := 1) (b0 := 4) aX12_placeOn_20
theorem dX12_placeOn_23 : decode cX12_placeOn 23 = .ok (.lload 5, 2) := dc_22 (a0 := 5) aX12_placeOn_23
theorem dX12_placeOn_25 : decode cX12_placeOn 25 = .ok (.lmul, 1) := dc_105 aX12_placeOn_25
theorem dX12_placeOn_26 : decode cX12_placeOn 26 = .ok (.aload_n 0, 1) := dc_42 aX12_placeOn_26
theorem dX12_placeOn_27 : decode cX12_placeOn 27 = .ok (.getfield 19, 3) := dc_180 (a0 := 0) (b0 := 19) aX12_placeOn_27
theorem dX12_placeOn_30 : decode cX12_placeOn 30 = .ok (.iload 4, 2) := dc_21 (a0 := 4) aX12_placeOn_30
theorem dX12_placeOn_32 : decode cX12_placeOn 32 = .ok (.iaload, 1) := dc_46 aX12_placeOn_32
theorem dX12_placeOn_33 : decode cX12_placeOn 33 = .ok (.i2l, 1) := dc_133 aX12_placeOn_33
theorem dX12_placeOn_34 : decode cX12_placeOn 34 = .ok (.lsub, 1) := dc_101 aX12_placeOn_34
theorem dX12_placeOn_35 : decode cX12_placeOn 35 = .ok (.lstore 7, 2) := dc_55 (a0 := 7) aX12_placeOn_35
theorem dX12_placeOn_37 : decode cX12_placeOn 37 = .ok (.aload_n 0, 1) := dc_42 aX12_placeOn_37
theorem dX12_placeOn_38 : decode cX12_placeOn 38 = .ok (.getfield 7, 3) := dc_180 (a0 := 0) (b0 := 7) aX12_placeOn_38
theorem dX12_placeOn_41 : decode cX12_placeOn 41 = .ok (.iload 4, 2) := dc_21 (a0 := 4) aX12_placeOn_41
theorem dX12_placeOn_43 : decode cX12_placeOn 43 = .ok (.iaload, 1) := dc_46 aX12_placeOn_43
theorem dX12_placeOn_44 : decode cX12_placeOn 44 = .ok (.i2l, 1) := dc_133 aX12_placeOn_44
theorem dX12_placeOn_45 : decode cX12_placeOn 45 = .ok (.aload_n 0, 1) := dc_42 aX12_placeOn_45
theorem dX12_placeOn_46 : decode cX12_placeOn 46 = .ok (.getfield 13, 3) := dc_180 (a0 := 0) (b0 := 13) aX12_placeOn_46
theorem dX12_placeOn_49 : decode cX12_placeOn 49 = .ok (.iload 4, 2) := dc_21 (a0 := 4) aX12_placeOn_49
theorem dX12_placeOn_51 : decode cX12_placeOn 51 = .ok (.iaload, 1) := dc_46 aX12_placeOn_51
theorem dX12_placeOn_52 : decode cX12_placeOn 52 = .ok (.i2l, 1) := dc_133 aX12_placeOn_52
theorem dX12_placeOn_53 : decode cX12_placeOn 53 = .ok (.iload_n 3, 1) := dc_29 aX12_placeOn_53
theorem dX12_placeOn_54 : decode cX12_placeOn 54 = .ok (.i2l, 1) := dc_133 aX12_placeOn_54
theorem dX12_placeOn_55 : decode cX12_placeOn 55 = .ok (.lmul, 1) := dc_105 aX12_placeOn_55
theorem dX12_placeOn_56 : decode cX12_placeOn 56 = .ok (.ldc2_w 262, 3) := dc_20 (a0 := 1) (b0 := 6) aX12_placeOn_56
theorem dX12_placeOn_59 : decode cX12_placeOn 59 = .ok (.ldiv, 1) := dc_109 aX12_placeOn_59
theorem dX12_placeOn_60 : decode cX12_placeOn 60 = .ok (.ladd, 1) := dc_97 aX12_placeOn_60
theorem dX12_placeOn_61 : decode cX12_placeOn 61 = .ok (.ldc2_w 260, 3) := dc_20 (a0 := 1) (b0 := 4) aX12_placeOn_61
theorem dX12_placeOn_64 : decode cX12_placeOn 64 = .ok (.lload 7, 2) := dc_22 (a0 := 7) aX12_placeOn_64
theorem dX12_placeOn_66 : decode cX12_placeOn 66 = .ok (.lconst 0, 1) := dc_9 aX12_placeOn_66
theorem dX12_placeOn_67 : decode cX12_placeOn 67 = .ok (.lcmp, 1) := dc_148 aX12_placeOn_67
theorem dX12_placeOn_68 : decode cX12_placeOn 68 = .ok (.ifCond .ge 9, 3) := dc_156 (a0 := 0) (b0 := 9) aX12_placeOn_68 (by decide)
theorem dX12_placeOn_71 : decode cX12_placeOn 71 = .ok (.lload 7, 2) := dc_22 (a0 := 7) aX12_placeOn_71
theorem dX12_placeOn_73 : decode cX12_placeOn 73 = .ok (.lneg, 1) := dc_117 aX12_placeOn_73
theorem dX12_placeOn_74 : decode cX12_placeOn 74 = .ok (.goto 5, 3) := dc_167 (a0 := 0) (b0 := 5) aX12_placeOn_74 (by decide)
theorem dX12_placeOn_77 : decode cX12_placeOn 77 = .ok (.lload 7, 2) := dc_22 (a0 := 7) aX12_placeOn_77
theorem dX12_placeOn_79 : decode cX12_placeOn 79 = .ok (.lmul, 1) := dc_105 aX12_placeOn_79
theorem dX12_placeOn_80 : decode cX12_placeOn 80 = .ok (.aload_n 0, 1) := dc_42 aX12_placeOn_80
theorem dX12_placeOn_81 : decode cX12_placeOn 81 = .ok (.getfield 19, 3) := dc_180 (a0 := 0) (b0 := 19) aX12_placeOn_81
theorem dX12_placeOn_84 : decode cX12_placeOn 84 = .ok (.iload 4, 2) := dc_21 (a0 := 4) aX12_placeOn_84
theorem dX12_placeOn_86 : decode cX12_placeOn 86 = .ok (.iaload, 1) := dc_46 aX12_placeOn_86
theorem dX12_placeOn_87 : decode cX12_placeOn 87 = .ok (.i2l, 1) := dc_133 aX12_placeOn_87
theorem dX12_placeOn_88 : decode cX12_placeOn 88 = .ok (.lsub, 1) := dc_101 aX12_placeOn_88
theorem dX12_placeOn_89 : decode cX12_placeOn 89 = .ok (.aload_n 0, 1) := dc_42 aX12_placeOn_89
theorem dX12_placeOn_90 : decode cX12_placeOn 90 = .ok (.getfield 16, 3) := dc_180 (a0 := 0) (b0 := 16) aX12_placeOn_90
theorem dX12_placeOn_93 : decode cX12_placeOn 93 = .ok (.iload 4, 2) := dc_21 (a0 := 4) aX12_placeOn_93
theorem dX12_placeOn_95 : decode cX12_placeOn 95 = .ok (.iaload, 1) := dc_46 aX12_placeOn_95
theorem dX12_placeOn_96 : decode cX12_placeOn 96 = .ok (.i2l, 1) := dc_133 aX12_placeOn_96
theorem dX12_placeOn_97 : decode cX12_placeOn 97 = .ok (.lmul, 1) := dc_105 aX12_placeOn_97
theorem dX12_placeOn_98 : decode cX12_placeOn 98 = .ok (.aload_n 0, 1) := dc_42 aX12_placeOn_98
theorem dX12_placeOn_99 : decode cX12_placeOn 99 = .ok (.getfield 19, 3) := dc_180 (a0 := 0) (b0 := 19) aX12_placeOn_99
theorem dX12_placeOn_102 : decode cX12_placeOn 102 = .ok (.iload 4, 2) := dc_21 (a0 := 4) aX12_placeOn_102
theorem dX12_placeOn_104 : decode cX12_placeOn 104 = .ok (.iaload, 1) := dc_46 aX12_placeOn_104
theorem dX12_placeOn_105 : decode cX12_placeOn 105 = .ok (.i2l, 1) := dc_133 aX12_placeOn_105
theorem dX12_placeOn_106 : decode cX12_placeOn 106 = .ok (.invokestatic 264, 3) := dc_184 (a0 := 1) (b0 := 8) aX12_placeOn_106
theorem dX12_placeOn_109 : decode cX12_placeOn 109 = .ok (.ladd, 1) := dc_97 aX12_placeOn_109
theorem dX12_placeOn_110 : decode cX12_placeOn 110 = .ok (.lstore 9, 2) := dc_55 (a0 := 9) aX12_placeOn_110
theorem dX12_placeOn_112 : decode cX12_placeOn 112 = .ok (.lload 9, 2) := dc_22 (a0 := 9) aX12_placeOn_112
theorem dX12_placeOn_114 : decode cX12_placeOn 114 = .ok (.ldc2_w 268, 3) := dc_20 (a0 := 1) (b0 := 12) aX12_placeOn_114
theorem dX12_placeOn_117 : decode cX12_placeOn 117 = .ok (.lrem, 1) := dc_113 aX12_placeOn_117
theorem dX12_placeOn_118 : decode cX12_placeOn 118 = .ok (.l2i, 1) := dc_136 aX12_placeOn_118
theorem dX12_placeOn_119 : decode cX12_placeOn 119 = .ok (.istore 11, 2) := dc_54 (a0 := 11) aX12_placeOn_119
theorem dX12_placeOn_121 : decode cX12_placeOn 121 = .ok (.iload 11, 2) := dc_21 (a0 := 11) aX12_placeOn_121
theorem dX12_placeOn_123 : decode cX12_placeOn 123 = .ok (.ifCond .ge 12, 3) := dc_156 (a0 := 0) (b0 := 12) aX12_placeOn_123 (by decide)
theorem dX12_placeOn_126 : decode cX12_placeOn 126 = .ok (.iload 11, 2) := dc_21 (a0 := 11) aX12_placeOn_126
theorem dX12_placeOn_128 : decode cX12_placeOn 128 = .ok (.sipush 21600, 3) := dc_17 (a0 := 84) (b0 := 96) aX12_placeOn_128 (by decide)
theorem dX12_placeOn_131 : decode cX12_placeOn 131 = .ok (.iadd, 1) := dc_96 aX12_placeOn_131
theorem dX12_placeOn_132 : decode cX12_placeOn 132 = .ok (.goto 5, 3) := dc_167 (a0 := 0) (b0 := 5) aX12_placeOn_132 (by decide)
theorem dX12_placeOn_135 : decode cX12_placeOn 135 = .ok (.iload 11, 2) := dc_21 (a0 := 11) aX12_placeOn_135
theorem dX12_placeOn_137 : decode cX12_placeOn 137 = .ok (.ireturn, 1) := dc_172 aX12_placeOn_137
set_option maxRecDepth 20000 in
theorem ggX12_place_X12_within : GoodIn wsX12_place wsX12_within := goodIn_k _ [[6]] (by rfl) (by decide +kernel)
set_option maxRecDepth 20000 in
theorem gX12_place_X12_within : GoodIn wsX12_place (va_wsS RX12 270 yX12_within wsX12_within) := goodIn_app (goodIn_of _ (by decide +kernel)) ggX12_place_X12_within
set_option maxRecDepth 20000 in
theorem ggX12_place_X12_right : GoodIn wsX12_place wsX12_right := goodIn_k _ [[10], [1, 23, 0, 0, 0, 0, 0, 0, 0, 0, 0, 0, 0, 0, 0, 0, 0, 0, 0, 0, 0, 0, 0, 0, 0, 0, 0, 0, 0, 0, 0, 0, 0, 0, 0, 0, 0, 0, 0, 0, 0, 0, 0, 0, 0, 0, 0, 0, 0, 0, 0, 0, 0, 0, 0, 0, 0, 0, 0]] (by rfl) (by decide +kernel)
set_option maxRecDepth 20000 in
theorem gX12_place_X12_right : GoodIn wsX12_place (wsV RX12 209 RX12 yX12_right wsX12_right) := goodIn_app (goodIn_of _ (by decide +kernel)) ggX12_place_X12_right
set_option maxRecDepth 20000 in
theorem ggX12_place_X12_placeOn : GoodIn wsX12_place wsX12_placeOn := goodIn_k _ [[14, 0, 0, 0, 0, 0, 0, 0, 0, 0], [5, 18, 0, 0, 0, 0, 0, 0, 0, 0, 0, 0, 0, 0, 0, 0, 0, 0, 0, 0, 0, 0, 0, 0, 0, 0, 0, 0, 0, 0, 0, 0, 0, 0, 0, 0, 0, 0, 0, 0, 0, 0, 0, 0, 0, 0, 0, 0, 0, 0, 0, 0, 0, 0, 0, 0, 0, 0, 0, 0]] (by rfl) (by decide +kernel)
set_option maxRecDepth 20000 in
theorem gX12_place_X12_placeOn : GoodIn wsX12_place (wsV RX12 274 RX12 yX12_placeOn wsX12_placeOn) := goodIn_app (goodIn_of _ (by decide +kernel)) ggX12_place_X12_placeOn
noncomputable def sX12_place_56 : List Nat := 172 :: []
noncomputable def sX12_place_53 : List Nat := 182 :: 1 :: 18 :: sX12_place_56
noncomputable def sX12_place_52 : List Nat := 29 :: sX12_place_53
noncomputable def sX12_place_51 : List Nat := 28 :: sX12_place_52
noncomputable def sX12_place_50 : List Nat := 27 :: sX12_place_51
noncomputable def sX12_place_49 : List Nat := 42 :: sX12_place_50
noncomputable def sX12_place_48 : List Nat := 172 :: sX12_place_49
noncomputable def sX12_place_47 : List Nat := 3 :: sX12_place_48
noncomputable def sX12_place_44 : List Nat := 154 :: 0 :: 5 :: sX12_place_47
noncomputable def sX12_place_41 : List Nat := 182 :: 0 :: 209 :: sX12_place_44
noncomputable def sX12_place_40 : List Nat := 4 :: sX12_place_41
noncomputable def sX12_place_39 : List Nat := 3 :: sX12_place_40
noncomputable def sX12_place_36 : List Nat := 167 :: 0 :: 4 :: sX12_place_39
noncomputable def sX12_place_35 : List Nat := 4 :: sX12_place_36
noncomputable def sX12_place_32 : List Nat := 153 :: 0 :: 7 :: sX12_place_35
noncomputable def sX12_place_29 : List Nat := 184 :: 1 :: 14 :: sX12_place_32
noncomputable def sX12_place_27 : List Nat := 18 :: 218 :: sX12_place_29
noncomputable def sX12_place_26 : List Nat := 3 :: sX12_place_27
noncomputable def sX12_place_25 : List Nat := 29 :: sX12_place_26
noncomputable def sX12_place_22 : List Nat := 153 :: 0 :: 17 :: sX12_place_25
noncomputable def sX12_place_19 : List Nat := 184 :: 1 :: 14 :: sX12_place_22
noncomputable def sX12_place_17 : List Nat := 16 :: 6 :: sX12_place_19
noncomputable def sX12_place_16 : List Nat := 3 :: sX12_place_17
noncomputable def sX12_place_15 : List Nat := 28 :: sX12_place_16
noncomputable def sX12_place_12 : List Nat := 153 :: 0 :: 27 :: sX12_place_15
noncomputable def sX12_place_9 : List Nat := 184 :: 1 :: 14 :: sX12_place_12
noncomputable def sX12_place_8 : List Nat := 6 :: sX12_place_9
noncomputable def sX12_place_7 : List Nat := 3 :: sX12_place_8
noncomputable def sX12_place_6 : List Nat := 27 :: sX12_place_7
noncomputable def sX12_place_5 : List Nat := 42 :: sX12_place_6
noncomputable def sX12_place_2 : List Nat := 181 :: 0 :: 129 :: sX12_place_5
noncomputable def sX12_place_1 : List Nat := 3 :: sX12_place_2
noncomputable def sX12_place_0 : List Nat := 42 :: sX12_place_1
theorem aX12_place_0 : dc_at cX12_place 0 sX12_place_0 := dc_base (by decide +kernel)
theorem aX12_place_1 : dc_at cX12_place 1 sX12_place_1 := dc_n1 aX12_place_0
theorem aX12_place_2 : dc_at cX12_place 2 sX12_place_2 := dc_n1 aX12_place_1
theorem aX12_place_5 : dc_at cX12_place 5 sX12_place_5 := dc_n3 aX12_place_2
theorem aX12_place_6 : dc_at cX12_place 6 sX12_place_6 := dc_n1 aX12_place_5
theorem aX12_place_7 : dc_at cX12_place 7 sX12_place_7 := dc_n1 aX12_place_6
theorem aX12_place_8 : dc_at cX12_place 8 sX12_place_8 := dc_n1 aX12_place_7
theorem aX12_place_9 : dc_at cX12_place 9 sX12_place_9 := dc_n1 aX12_place_8
theorem aX12_place_12 : dc_at cX12_place 12 sX12_place_12 := dc_n3 aX12_place_9
theorem aX12_place_15 : dc_at cX12_place 15 sX12_place_15 := dc_n3 aX12_place_12
theorem aX12_place_16 : dc_at cX12_place 16 sX12_place_16 := dc_n1 aX12_place_15
theorem aX12_place_17 : dc_at cX12_place 17 sX12_place_17 := dc_n1 aX12_place_16
theorem aX12_place_19 : dc_at cX12_place 19 sX12_place_19 := dc_n2 aX12_place_17
theorem aX12_place_22 : dc_at cX12_place 22 sX12_place_22 := dc_n3 aX12_place_19
theorem aX12_place_25 : dc_at cX12_place 25 sX12_place_25 := dc_n3 aX12_place_22
theorem aX12_place_26 : dc_at cX12_place 26 sX12_place_26 := dc_n1 aX12_place_25
theorem aX12_place_27 : dc_at cX12_place 27 sX12_place_27 := dc_n1 aX12_place_26
theorem aX12_place_29 : dc_at cX12_place 29 sX12_place_29 := dc_n2 aX12_place_27
theorem aX12_place_32 : dc_at cX12_place 32 sX12_place_32 := dc_n3 aX12_place_29
theorem aX12_place_35 : dc_at cX12_place 35 sX12_place_35 := dc_n3 aX12_place_32
theorem aX12_place_36 : dc_at cX12_place 36 sX12_place_36 := dc_n1 aX12_place_35
theorem aX12_place_39 : dc_at cX12_place 39 sX12_place_39 := dc_n3 aX12_place_36
theorem aX12_place_40 : dc_at cX12_place 40 sX12_place_40 := dc_n1 aX12_place_39
theorem aX12_place_41 : dc_at cX12_place 41 sX12_place_41 := dc_n1 aX12_place_40
theorem aX12_place_44 : dc_at cX12_place 44 sX12_place_44 := dc_n3 aX12_place_41
theorem aX12_place_47 : dc_at cX12_place 47 sX12_place_47 := dc_n3 aX12_place_44
theorem aX12_place_48 : dc_at cX12_place 48 sX12_place_48 := dc_n1 aX12_place_47
theorem aX12_place_49 : dc_at cX12_place 49 sX12_place_49 := dc_n1 aX12_place_48
theorem aX12_place_50 : dc_at cX12_place 50 sX12_place_50 := dc_n1 aX12_place_49
theorem aX12_place_51 : dc_at cX12_place 51 sX12_place_51 := dc_n1 aX12_place_50
theorem aX12_place_52 : dc_at cX12_place 52 sX12_place_52 := dc_n1 aX12_place_51
theorem aX12_place_53 : dc_at cX12_place 53 sX12_place_53 := dc_n1 aX12_place_52
theorem aX12_place_56 : dc_at cX12_place 56 sX12_place_56 := dc_n3 aX12_place_53
theorem dX12_place_0 : decode cX12_place 0 = .ok (.aload_n 0, 1) := dc_42 aX12_place_0
theorem dX12_place_1 : decode cX12_place 1 = .ok (.iconst 0, 1) := dc_3 aX12_place_1
theorem dX12_place_2 : decode cX12_place 2 = .ok (.putfield 129, 3) := dc_181 (a0 := 0) (b0 := 129) aX12_place_2
theorem dX12_place_5 : decode cX12_place 5 = .ok (.aload_n 0, 1) := dc_42 aX12_place_5
theorem dX12_place_6 : decode cX12_place 6 = .ok (.iload_n 1, 1) := dc_27 aX12_place_6
theorem dX12_place_7 : decode cX12_place 7 = .ok (.iconst 0, 1) := dc_3 aX12_place_7
theorem dX12_place_8 : decode cX12_place 8 = .ok (.iconst 3, 1) := dc_6 aX12_place_8
theorem dX12_place_9 : decode cX12_place 9 = .ok (.invokestatic 270, 3) := dc_184 (a0 := 1) (b0 := 14) aX12_place_9
theorem dX12_place_12 : decode cX12_place 12 = .ok (.ifCond .eq 27, 3) := dc_153 (a0 := 0) (b0 := 27) aX12_place_12 (by decide)
theorem dX12_place_15 : decode cX12_place 15 = .ok (.iload_n 2, 1) := dc_28 aX12_place_15
theorem dX12_place_16 : decode cX12_place 16 = .ok (.iconst 0, 1) := dc_3 aX12_place_16
theorem dX12_place_17 : decode cX12_place 17 = .ok (.bipush 6, 2) := dc_16 (a0 := 6) aX12_place_17 (by decide)
theorem dX12_place_19 : decode cX12_place 19 = .ok (.invokestatic 270, 3) := dc_184 (a0 := 1) (b0 := 14) aX12_place_19
theorem dX12_place_22 : decode cX12_place 22 = .ok (.ifCond .eq 17, 3) := dc_153 (a0 := 0) (b0 := 17) aX12_place_22 (by decide)
theorem dX12_place_25 : decode cX12_place 25 = .ok (.iload_n 3, 1) := dc_29 aX12_place_25
theorem dX12_place_26 : decode cX12_place 26 = .ok (.iconst 0, 1) := dc_3 aX12_place_26
theorem dX12_place_27 : decode cX12_place 27 = .ok (.ldc 218, 2) := dc_18 (a0 := 218) aX12_place_27
theorem dX12_place_29 : decode cX12_place 29 = .ok (.invokestatic 270, 3) := dc_184 (a0 := 1) (b0 := 14) aX12_place_29
theorem dX12_place_32 : decode cX12_place 32 = .ok (.ifCond .eq 7, 3) := dc_153 (a0 := 0) (b0 := 7) aX12_place_32 (by decide)
theorem dX12_place_35 : decode cX12_place 35 = .ok (.iconst 1, 1) := dc_4 aX12_place_35
theorem dX12_place_36 : decode cX12_place 36 = .ok (.goto 4, 3) := dc_167 (a0 := 0) (b0 := 4) aX12_place_36 (by decide)
theorem dX12_place_39 : decode cX12_place 39 = .ok (.iconst 0, 1) := dc_3 aX12_place_39
theorem dX12_place_40 : decode cX12_place 40 = .ok (.iconst 1, 1) := dc_4 aX12_place_40
theorem dX12_place_41 : decode cX12_place 41 = .ok (.invokevirtual 209, 3) := dc_182 (a0 := 0) (b0 := 209) aX12_place_41
theorem dX12_place_44 : decode cX12_place 44 = .ok (.ifCond .ne 5, 3) := dc_154 (a0 := 0) (b0 := 5) aX12_place_44 (by decide)
theorem dX12_place_47 : decode cX12_place 47 = .ok (.iconst 0, 1) := dc_3 aX12_place_47
theorem dX12_place_48 : decode cX12_place 48 = .ok (.ireturn, 1) := dc_172 aX12_place_48
theorem dX12_place_49 : decode cX12_place 49 = .ok (.aload_n 0, 1) := dc_42 aX12_place_49
theorem dX12_place_50 : decode cX12_place 50 = .ok (.iload_n 1, 1) := dc_27 aX12_place_50
theorem dX12_place_51 : decode cX12_place 51 = .ok (.iload_n 2, 1) := dc_28 aX12_place_51
theorem dX12_place_52 : decode cX12_place 52 = .ok (.iload_n 3, 1) := dc_29 aX12_place_52
theorem dX12_place_53 : decode cX12_place 53 = .ok (.invokevirtual 274, 3) := dc_182 (a0 := 1) (b0 := 18) aX12_place_53
theorem dX12_place_56 : decode cX12_place 56 = .ok (.ireturn, 1) := dc_172 aX12_place_56
set_option maxRecDepth 20000 in
theorem ggX12_entry_X12_isWheel : GoodIn wsX12_entry wsX12_isWheel := goodIn_k _ [[5, 0, 0, 0, 0], [4, 5, 8, 0, 0, 0, 0, 0, 0, 0, 0, 0, 0, 0, 0, 0, 0, 0, 0, 0, 0, 0, 0, 0, 0, 0, 0, 0, 0, 0, 0, 0, 0, 0, 0, 0, 0, 0, 0, 0, 0, 0, 0, 0, 0, 0, 0, 0, 0, 0, 0, 0, 0, 0, 0, 0, 0, 0, 0, 0]] (by rfl) (by decide +kernel)
set_option maxRecDepth 20000 in
theorem gX12_entry_X12_isWheel : GoodIn wsX12_entry (wsV RX12 247 RX12 yX12_isWheel wsX12_isWheel) := goodIn_app (goodIn_of _ (by decide +kernel)) ggX12_entry_X12_isWheel
set_option maxRecDepth 20000 in
theorem ggX12_entry_X12_within : GoodIn wsX12_entry wsX12_within := goodIn_k _ [[13]] (by rfl) (by decide +kernel)
set_option maxRecDepth 20000 in
theorem gX12_entry_X12_within : GoodIn wsX12_entry (va_wsS RX12 270 yX12_within wsX12_within) := goodIn_app (goodIn_of _ (by decide +kernel)) ggX12_entry_X12_within
set_option maxRecDepth 20000 in
theorem ggX12_entry_X12_right : GoodIn wsX12_entry wsX12_right := goodIn_k _ [[10], [6, 12, 0, 0, 0, 0, 0, 0, 0, 0, 0, 0, 0, 0, 0, 0, 0, 0, 0, 0, 0, 0, 0, 0, 0, 0, 0, 0, 0, 0, 0, 0, 0, 0, 0, 0, 0, 0, 0, 0, 0, 0, 0, 0, 0, 0, 0, 0, 0, 0, 0, 0, 0, 0, 0, 0, 0, 0, 0]] (by rfl) (by decide +kernel)
set_option maxRecDepth 20000 in
theorem gX12_entry_X12_right : GoodIn wsX12_entry (wsV RX12 209 RX12 yX12_right wsX12_right) := goodIn_app (goodIn_of _ (by decide +kernel)) ggX12_entry_X12_right
set_option maxRecDepth 20000 in
theorem ggX12_entry_X12_at : GoodIn wsX12_entry wsX12_at := goodIn_k _ [[17, 0, 0, 0, 0, 0, 0, 0, 0, 0, 0, 0, 0, 0, 0, 0, 0, 0, 0, 0, 0, 0, 0, 0, 0, 0, 0, 0, 0, 0, 0, 0, 0, 0, 0, 0, 0, 0, 0, 0, 0, 0, 0, 0, 0, 0, 0, 0, 0, 0, 0, 0, 0, 0, 0, 0, 0, 0, 0, 0]] (by rfl) (by decide +kernel)
set_option maxRecDepth 20000 in
theorem gX12_entry_X12_at : GoodIn wsX12_entry (wsV RX12 254 RX12 yX12_at wsX12_at) := goodIn_app (goodIn_of _ (by decide +kernel)) ggX12_entry_X12_at
noncomputable def sX12_entry_37 : List Nat := 172 :: []
noncomputable def sX12_entry_34 : List Nat := 182 :: 0 :: 254 :: sX12_entry_37
noncomputable def sX12_entry_33 : List Nat := 29 :: sX12_entry_34
noncomputable def sX12_entry_32 : List Nat := 96 :: sX12_entry_33
noncomputable def sX12_entry_31 : List Nat := 28 :: sX12_entry_32
noncomputable def sX12_entry_30 : List Nat := 104 :: sX12_entry_31
noncomputable def sX12_entry_29 : List Nat := 27 :: sX12_entry_30
noncomputable def sX12_entry_27 : List Nat := 16 :: 20 :: sX12_entry_29
noncomputable def sX12_entry_26 : List Nat := 42 :: sX12_entry_27
noncomputable def sX12_entry_25 : List Nat := 172 :: sX12_entry_26
noncomputable def sX12_entry_24 : List Nat := 3 :: sX12_entry_25
noncomputable def sX12_entry_21 : List Nat := 154 :: 0 :: 5 :: sX12_entry_24
noncomputable def sX12_entry_18 : List Nat := 182 :: 0 :: 209 :: sX12_entry_21
noncomputable def sX12_entry_17 : List Nat := 4 :: sX12_entry_18
noncomputable def sX12_entry_14 : List Nat := 184 :: 1 :: 14 :: sX12_entry_17
noncomputable def sX12_entry_12 : List Nat := 16 :: 21 :: sX12_entry_14
noncomputable def sX12_entry_11 : List Nat := 3 :: sX12_entry_12
noncomputable def sX12_entry_10 : List Nat := 29 :: sX12_entry_11
noncomputable def sX12_entry_9 : List Nat := 42 :: sX12_entry_10
noncomputable def sX12_entry_6 : List Nat := 153 :: 0 :: 18 :: sX12_entry_9
noncomputable def sX12_entry_3 : List Nat := 182 :: 0 :: 247 :: sX12_entry_6
noncomputable def sX12_entry_2 : List Nat := 28 :: sX12_entry_3
noncomputable def sX12_entry_1 : List Nat := 27 :: sX12_entry_2
noncomputable def sX12_entry_0 : List Nat := 42 :: sX12_entry_1
theorem aX12_entry_0 : dc_at cX12_entry 0 sX12_entry_0 := dc_base (by decide +kernel)
theorem aX12_entry_1 : dc_at cX12_entry 1 sX12_entry_1 := dc_n1 aX12_entry_0
theorem aX12_entry_2 : dc_at cX12_entry 2 sX12_entry_2 := dc_n1 aX12_entry_1
theorem aX12_entry_3 : dc_at cX12_entry 3 sX12_entry_3 := dc_n1 aX12_entry_2
theorem aX12_entry_6 : dc_at cX12_entry 6 sX12_entry_6 := dc_n3 aX12_entry_3
theorem aX12_entry_9 : dc_at cX12_entry 9 sX12_entry_9 := dc_n3 aX12_entry_6
theorem aX12_entry_10 : dc_at cX12_entry 10 sX12_entry_10 := dc_n1 aX12_entry_9
theorem aX12_entry_11 : dc_at cX12_entry 11 sX12_entry_11 := dc_n1 aX12_entry_10
theorem aX12_entry_12 : dc_at cX12_entry 12 sX12_entry_12 := dc_n1 aX12_entry_11
theorem aX12_entry_14 : dc_at cX12_entry 14 sX12_entry_14 := dc_n2 aX12_entry_12
theorem aX12_entry_17 : dc_at cX12_entry 17 sX12_entry_17 := dc_n3 aX12_entry_14
theorem aX12_entry_18 : dc_at cX12_entry 18 sX12_entry_18 := dc_n1 aX12_entry_17
theorem aX12_entry_21 : dc_at cX12_entry 21 sX12_entry_21 := dc_n3 aX12_entry_18
theorem aX12_entry_24 : dc_at cX12_entry 24 sX12_entry_24 := dc_n3 aX12_entry_21
theorem aX12_entry_25 : dc_at cX12_entry 25 sX12_entry_25 := dc_n1 aX12_entry_24
theorem aX12_entry_26 : dc_at cX12_entry 26 sX12_entry_26 := dc_n1 aX12_entry_25
theorem aX12_entry_27 : dc_at cX12_entry 27 sX12_entry_27 := dc_n1 aX12_entry_26
theorem aX12_entry_29 : dc_at cX12_entry 29 sX12_entry_29 := dc_n2 aX12_entry_27
theorem aX12_entry_30 : dc_at cX12_entry 30 sX12_entry_30 := dc_n1 aX12_entry_29
theorem aX12_entry_31 : dc_at cX12_entry 31 sX12_entry_31 := dc_n1 aX12_entry_30
theorem aX12_entry_32 : dc_at cX12_entry 32 sX12_entry_32 := dc_n1 aX12_entry_31
theorem aX12_entry_33 : dc_at cX12_entry 33 sX12_entry_33 := dc_n1 aX12_entry_32
theorem aX12_entry_34 : dc_at cX12_entry 34 sX12_entry_34 := dc_n1 aX12_entry_33
theorem aX12_entry_37 : dc_at cX12_entry 37 sX12_entry_37 := dc_n3 aX12_entry_34
theorem dX12_entry_0 : decode cX12_entry 0 = .ok (.aload_n 0, 1) := dc_42 aX12_entry_0
theorem dX12_entry_1 : decode cX12_entry 1 = .ok (.iload_n 1, 1) := dc_27 aX12_entry_1
theorem dX12_entry_2 : decode cX12_entry 2 = .ok (.iload_n 2, 1) := dc_28 aX12_entry_2
theorem dX12_entry_3 : decode cX12_entry 3 = .ok (.invokevirtual 247, 3) := dc_182 (a0 := 0) (b0 := 247) aX12_entry_3
theorem dX12_entry_6 : decode cX12_entry 6 = .ok (.ifCond .eq 18, 3) := dc_153 (a0 := 0) (b0 := 18) aX12_entry_6 (by decide)
theorem dX12_entry_9 : decode cX12_entry 9 = .ok (.aload_n 0, 1) := dc_42 aX12_entry_9
theorem dX12_entry_10 : decode cX12_entry 10 = .ok (.iload_n 3, 1) := dc_29 aX12_entry_10
theorem dX12_entry_11 : decode cX12_entry 11 = .ok (.iconst 0, 1) := dc_3 aX12_entry_11
theorem dX12_entry_12 : decode cX12_entry 12 = .ok (.bipush 21, 2) := dc_16 (a0 := 21) aX12_entry_12 (by decide)
theorem dX12_entry_14 : decode cX12_entry 14 = .ok (.invokestatic 270, 3) := dc_184 (a0 := 1) (b0 := 14) aX12_entry_14
theorem dX12_entry_17 : decode cX12_entry 17 = .ok (.iconst 1, 1) := dc_4 aX12_entry_17
theorem dX12_entry_18 : decode cX12_entry 18 = .ok (.invokevirtual 209, 3) := dc_182 (a0 := 0) (b0 := 209) aX12_entry_18
theorem dX12_entry_21 : decode cX12_entry 21 = .ok (.ifCond .ne 5, 3) := dc_154 (a0 := 0) (b0 := 5) aX12_entry_21 (by decide)
theorem dX12_entry_24 : decode cX12_entry 24 = .ok (.iconst 0, 1) := dc_3 aX12_entry_24
theorem dX12_entry_25 : decode cX12_entry 25 = .ok (.ireturn, 1) := dc_172 aX12_entry_25
theorem dX12_entry_26 : decode cX12_entry 26 = .ok (.aload_n 0, 1) := dc_42 aX12_entry_26
theorem dX12_entry_27 : decode cX12_entry 27 = .ok (.bipush 20, 2) := dc_16 (a0 := 20) aX12_entry_27 (by decide)
theorem dX12_entry_29 : decode cX12_entry 29 = .ok (.iload_n 1, 1) := dc_27 aX12_entry_29
theorem dX12_entry_30 : decode cX12_entry 30 = .ok (.imul, 1) := dc_104 aX12_entry_30
theorem dX12_entry_31 : decode cX12_entry 31 = .ok (.iload_n 2, 1) := dc_28 aX12_entry_31
theorem dX12_entry_32 : decode cX12_entry 32 = .ok (.iadd, 1) := dc_96 aX12_entry_32
theorem dX12_entry_33 : decode cX12_entry 33 = .ok (.iload_n 3, 1) := dc_29 aX12_entry_33
theorem dX12_entry_34 : decode cX12_entry 34 = .ok (.invokevirtual 254, 3) := dc_182 (a0 := 0) (b0 := 254) aX12_entry_34
theorem dX12_entry_37 : decode cX12_entry 37 = .ok (.ireturn, 1) := dc_172 aX12_entry_37
noncomputable def sX12_isHand_53 : List Nat := 172 :: []
noncomputable def sX12_isHand_52 : List Nat := 29 :: sX12_isHand_53
noncomputable def sX12_isHand_49 : List Nat := 167 :: 255 :: 212 :: sX12_isHand_52
noncomputable def sX12_isHand_46 : List Nat := 132 :: 4 :: 1 :: sX12_isHand_49
noncomputable def sX12_isHand_45 : List Nat := 62 :: sX12_isHand_46
noncomputable def sX12_isHand_44 : List Nat := 3 :: sX12_isHand_45
noncomputable def sX12_isHand_41 : List Nat := 167 :: 0 :: 4 :: sX12_isHand_44
noncomputable def sX12_isHand_40 : List Nat := 4 :: sX12_isHand_41
noncomputable def sX12_isHand_37 : List Nat := 160 :: 0 :: 7 :: sX12_isHand_40
noncomputable def sX12_isHand_36 : List Nat := 28 :: sX12_isHand_37
noncomputable def sX12_isHand_35 : List Nat := 46 :: sX12_isHand_36
noncomputable def sX12_isHand_33 : List Nat := 21 :: 4 :: sX12_isHand_35
noncomputable def sX12_isHand_30 : List Nat := 180 :: 0 :: 25 :: sX12_isHand_33
noncomputable def sX12_isHand_29 : List Nat := 42 :: sX12_isHand_30
noncomputable def sX12_isHand_26 : List Nat := 160 :: 0 :: 18 :: sX12_isHand_29
noncomputable def sX12_isHand_25 : List Nat := 27 :: sX12_isHand_26
noncomputable def sX12_isHand_24 : List Nat := 46 :: sX12_isHand_25
noncomputable def sX12_isHand_22 : List Nat := 21 :: 4 :: sX12_isHand_24
noncomputable def sX12_isHand_19 : List Nat := 180 :: 0 :: 28 :: sX12_isHand_22
noncomputable def sX12_isHand_18 : List Nat := 42 :: sX12_isHand_19
noncomputable def sX12_isHand_15 : List Nat := 154 :: 0 :: 25 :: sX12_isHand_18
noncomputable def sX12_isHand_14 : List Nat := 29 :: sX12_isHand_15
noncomputable def sX12_isHand_11 : List Nat := 162 :: 0 :: 41 :: sX12_isHand_14
noncomputable def sX12_isHand_8 : List Nat := 180 :: 0 :: 231 :: sX12_isHand_11
noncomputable def sX12_isHand_7 : List Nat := 42 :: sX12_isHand_8
noncomputable def sX12_isHand_5 : List Nat := 21 :: 4 :: sX12_isHand_7
noncomputable def sX12_isHand_3 : List Nat := 54 :: 4 :: sX12_isHand_5
noncomputable def sX12_isHand_2 : List Nat := 3 :: sX12_isHand_3
noncomputable def sX12_isHand_1 : List Nat := 62 :: sX12_isHand_2
noncomputable def sX12_isHand_0 : List Nat := 3 :: sX12_isHand_1
theorem aX12_isHand_0 : dc_at cX12_isHand 0 sX12_isHand_0 := dc_base (by decide +kernel)
theorem aX12_isHand_1 : dc_at cX12_isHand 1 sX12_isHand_1 := dc_n1 aX12_isHand_0
theorem aX12_isHand_2 : dc_at cX12_isHand 2 sX12_isHand_2 := dc_n1 aX12_isHand_1
theorem aX12_isHand_3 : dc_at cX12_isHand 3 sX12_isHand_3 := dc_n1 aX12_isHand_2
theorem aX12_isHand_5 : dc_at cX12_isHand 5 sX12_isHand_5 := dc_n2 aX12_isHand_3
theorem aX12_isHand_7 : dc_at cX12_isHand 7 sX12_isHand_7 := dc_n2 aX12_isHand_5
theorem aX12_isHand_8 : dc_at cX12_isHand 8 sX12_isHand_8 := dc_n1 aX12_isHand_7
theorem aX12_isHand_11 : dc_at cX12_isHand 11 sX12_isHand_11 := dc_n3 aX12_isHand_8
theorem aX12_isHand_14 : dc_at cX12_isHand 14 sX12_isHand_14 := dc_n3 aX12_isHand_11
theorem aX12_isHand_15 : dc_at cX12_isHand 15 sX12_isHand_15 := dc_n1 aX12_isHand_14
theorem aX12_isHand_18 : dc_at cX12_isHand 18 sX12_isHand_18 := dc_n3 aX12_isHand_15
theorem aX12_isHand_19 : dc_at cX12_isHand 19 sX12_isHand_19 := dc_n1 aX12_isHand_18
theorem aX12_isHand_22 : dc_at cX12_isHand 22 sX12_isHand_22 := dc_n3 aX12_isHand_19
theorem aX12_isHand_24 : dc_at cX12_isHand 24 sX12_isHand_24 := dc_n2 aX12_isHand_22
theorem aX12_isHand_25 : dc_at cX12_isHand 25 sX12_isHand_25 := dc_n1 aX12_isHand_24
theorem aX12_isHand_26 : dc_at cX12_isHand 26 sX12_isHand_26 := dc_n1 aX12_isHand_25
theorem aX12_isHand_29 : dc_at cX12_isHand 29 sX12_isHand_29 := dc_n3 aX12_isHand_26
theorem aX12_isHand_30 : dc_at cX12_isHand 30 sX12_isHand_30 := dc_n1 aX12_isHand_29
theorem aX12_isHand_33 : dc_at cX12_isHand 33 sX12_isHand_33 := dc_n3 aX12_isHand_30
theorem aX12_isHand_35 : dc_at cX12_isHand 35 sX12_isHand_35 := dc_n2 aX12_isHand_33
theorem aX12_isHand_36 : dc_at cX12_isHand 36 sX12_isHand_36 := dc_n1 aX12_isHand_35
theorem aX12_isHand_37 : dc_at cX12_isHand 37 sX12_isHand_37 := dc_n1 aX12_isHand_36
theorem aX12_isHand_40 : dc_at cX12_isHand 40 sX12_isHand_40 := dc_n3 aX12_isHand_37
theorem aX12_isHand_41 : dc_at cX12_isHand 41 sX12_isHand_41 := dc_n1 aX12_isHand_40
theorem aX12_isHand_44 : dc_at cX12_isHand 44 sX12_isHand_44 := dc_n3 aX12_isHand_41
theorem aX12_isHand_45 : dc_at cX12_isHand 45 sX12_isHand_45 := dc_n1 aX12_isHand_44
theorem aX12_isHand_46 : dc_at cX12_isHand 46 sX12_isHand_46 := dc_n1 aX12_isHand_45
theorem aX12_isHand_49 : dc_at cX12_isHand 49 sX12_isHand_49 := dc_n3 aX12_isHand_46
theorem aX12_isHand_52 : dc_at cX12_isHand 52 sX12_isHand_52 := dc_n3 aX12_isHand_49
theorem aX12_isHand_53 : dc_at cX12_isHand 53 sX12_isHand_53 := dc_n1 aX12_isHand_52
theorem dX12_isHand_0 : decode cX12_isHand 0 = .ok (.iconst 0, 1) := dc_3 aX12_isHand_0
theorem dX12_isHand_1 : decode cX12_isHand 1 = .ok (.istore_n 3, 1) := dc_62 aX12_isHand_1
theorem dX12_isHand_2 : decode cX12_isHand 2 = .ok (.iconst 0, 1) := dc_3 aX12_isHand_2
theorem dX12_isHand_3 : decode cX12_isHand 3 = .ok (.istore 4, 2) := dc_54 (a0 := 4) aX12_isHand_3
theorem dX12_isHand_5 : decode cX12_isHand 5 = .ok (.iload 4, 2) := dc_21 (a0 := 4) aX12_isHand_5
theorem dX12_isHand_7 : decode cX12_isHand 7 = .ok (.aload_n 0, 1) := dc_42 aX12_isHand_7
theorem dX12_isHand_8 : decode cX12_isHand 8 = .ok (.getfield 231, 3) := dc_180 (a0 := 0) (b0 := 231) aX12_isHand_8
theorem dX12_isHand_11 : decode cX12_isHand 11 = .ok (.if_icmp .ge 41, 3) := dc_162 (a0 := 0) (b0 := 41) aX12_isHand_11 (by decide)
theorem dX12_isHand_14 : decode cX12_isHand 14 = .ok (.iload_n 3, 1) := dc_29 aX12_isHand_14
theorem dX12_isHand_15 : decode cX12_isHand 15 = .ok (.ifCond .ne 25, 3) := dc_154 (a0 := 0) (b0 := 25) aX12_isHand_15 (by decide)
theorem dX12_isHand_18 : decode cX12_isHand 18 = .ok (.aload_n 0, 1) := dc_42 aX12_isHand_18
theorem dX12_isHand_19 : decode cX12_isHand 19 = .ok (.getfield 28, 3) := dc_180 (a0 := 0) (b0 := 28) aX12_isHand_19
theorem dX12_isHand_22 : decode cX12_isHand 22 = .ok (.iload 4, 2) := dc_21 (a0 := 4) aX12_isHand_22
theorem dX12_isHand_24 : decode cX12_isHand 24 = .ok (.iaload, 1) := dc_46 aX12_isHand_24
theorem dX12_isHand_25 : decode cX12_isHand 25 = .ok (.iload_n 1, 1) := dc_27 aX12_isHand_25
theorem dX12_isHand_26 : decode cX12_isHand 26 = .ok (.if_icmp .ne 18, 3) := dc_160 (a0 := 0) (b0 := 18) aX12_isHand_26 (by decide)
theorem dX12_isHand_29 : decode cX12_isHand 29 = .ok (.aload_n 0, 1) := dc_42 aX12_isHand_29
theorem dX12_isHand_30 : decode cX12_isHand 30 = .ok (.getfield 25, 3) := dc_180 (a0 := 0) (b0 := 25) aX12_isHand_30
theorem dX12_isHand_33 : decode cX12_isHand 33 = .ok (.iload 4, 2) := dc_21 (a0 := 4) aX12_isHand_33
theorem dX12_isHand_35 : decode cX12_isHand 35 = .ok (.iaload, 1) := dc_46 aX12_isHand_35
theorem dX12_isHand_36 : decode cX12_isHand 36 = .ok (.iload_n 2, 1) := dc_28 aX12_isHand_36
theorem dX12_isHand_37 : decode cX12_isHand 37 = .ok (.if_icmp .ne 7, 3) := dc_160 (a0 := 0) (b0 := 7) aX12_isHand_37 (by decide)
theorem dX12_isHand_40 : decode cX12_isHand 40 = .ok (.iconst 1, 1) := dc_4 aX12_isHand_40
theorem dX12_isHand_41 : decode cX12_isHand 41 = .ok (.goto 4, 3) := dc_167 (a0 := 0) (b0 := 4) aX12_isHand_41 (by decide)
theorem dX12_isHand_44 : decode cX12_isHand 44 = .ok (.iconst 0, 1) := dc_3 aX12_isHand_44
theorem dX12_isHand_45 : decode cX12_isHand 45 = .ok (.istore_n 3, 1) := dc_62 aX12_isHand_45
theorem dX12_isHand_46 : decode cX12_isHand 46 = .ok (.iinc 4 1, 3) := dc_132 (a0 := 4) (a1 := 1) aX12_isHand_46 (by decide)
theorem dX12_isHand_49 : decode cX12_isHand 49 = .ok (.goto (-44), 3) := dc_167 (a0 := 255) (b0 := 212) aX12_isHand_49 (by decide)
theorem dX12_isHand_52 : decode cX12_isHand 52 = .ok (.iload_n 3, 1) := dc_29 aX12_isHand_52
theorem dX12_isHand_53 : decode cX12_isHand 53 = .ok (.ireturn, 1) := dc_172 aX12_isHand_53
set_option maxRecDepth 20000 in
theorem ggX12_beside_X12_isHand : GoodIn wsX12_beside wsX12_isHand := goodIn_k _ [[5, 0, 0, 0, 0, 0, 0, 0, 0, 0, 0, 0, 0, 0, 0, 0, 0, 0, 0, 0, 0, 0, 0, 0, 0, 0, 0, 0, 0, 0, 0, 0, 0, 0, 0, 0, 0, 0, 0, 0, 0, 0, 0, 0, 0, 0, 0, 0, 0, 0, 0, 0, 0, 0, 0, 0, 0, 0, 0, 0, 0, 0]] (by rfl) (by decide +kernel)
set_option maxRecDepth 20000 in
theorem gX12_beside_X12_isHand : GoodIn wsX12_beside (wsV RX12 277 RX12 yX12_isHand wsX12_isHand) := goodIn_app (goodIn_of _ (by decide +kernel)) ggX12_beside_X12_isHand
noncomputable def sX12_beside_72 : List Nat := 172 :: []
noncomputable def sX12_beside_70 : List Nat := 16 :: 9 :: sX12_beside_72
noncomputable def sX12_beside_67 : List Nat := 167 :: 0 :: 5 :: sX12_beside_70
noncomputable def sX12_beside_66 : List Nat := 5 :: sX12_beside_67
noncomputable def sX12_beside_63 : List Nat := 153 :: 0 :: 7 :: sX12_beside_66
noncomputable def sX12_beside_60 : List Nat := 182 :: 1 :: 21 :: sX12_beside_63
noncomputable def sX12_beside_59 : List Nat := 108 :: sX12_beside_60
noncomputable def sX12_beside_57 : List Nat := 16 :: 30 :: sX12_beside_59
noncomputable def sX12_beside_56 : List Nat := 28 :: sX12_beside_57
noncomputable def sX12_beside_55 : List Nat := 108 :: sX12_beside_56
noncomputable def sX12_beside_53 : List Nat := 16 :: 30 :: sX12_beside_55
noncomputable def sX12_beside_52 : List Nat := 27 :: sX12_beside_53
noncomputable def sX12_beside_51 : List Nat := 42 :: sX12_beside_52
noncomputable def sX12_beside_48 : List Nat := 160 :: 0 :: 22 :: sX12_beside_51
noncomputable def sX12_beside_47 : List Nat := 112 :: sX12_beside_48
noncomputable def sX12_beside_45 : List Nat := 16 :: 30 :: sX12_beside_47
noncomputable def sX12_beside_44 : List Nat := 28 :: sX12_beside_45
noncomputable def sX12_beside_43 : List Nat := 112 :: sX12_beside_44
noncomputable def sX12_beside_41 : List Nat := 16 :: 30 :: sX12_beside_43
noncomputable def sX12_beside_40 : List Nat := 27 :: sX12_beside_41
noncomputable def sX12_beside_39 : List Nat := 172 :: sX12_beside_40
noncomputable def sX12_beside_37 : List Nat := 16 :: 9 :: sX12_beside_39
noncomputable def sX12_beside_34 : List Nat := 167 :: 0 :: 5 :: sX12_beside_37
noncomputable def sX12_beside_33 : List Nat := 4 :: sX12_beside_34
noncomputable def sX12_beside_30 : List Nat := 153 :: 0 :: 7 :: sX12_beside_33
noncomputable def sX12_beside_27 : List Nat := 182 :: 1 :: 21 :: sX12_beside_30
noncomputable def sX12_beside_26 : List Nat := 112 :: sX12_beside_27
noncomputable def sX12_beside_24 : List Nat := 16 :: 30 :: sX12_beside_26
noncomputable def sX12_beside_23 : List Nat := 28 :: sX12_beside_24
noncomputable def sX12_beside_22 : List Nat := 112 :: sX12_beside_23
noncomputable def sX12_beside_20 : List Nat := 16 :: 30 :: sX12_beside_22
noncomputable def sX12_beside_19 : List Nat := 27 :: sX12_beside_20
noncomputable def sX12_beside_18 : List Nat := 42 :: sX12_beside_19
noncomputable def sX12_beside_15 : List Nat := 160 :: 0 :: 25 :: sX12_beside_18
noncomputable def sX12_beside_14 : List Nat := 108 :: sX12_beside_15
noncomputable def sX12_beside_12 : List Nat := 16 :: 30 :: sX12_beside_14
noncomputable def sX12_beside_11 : List Nat := 28 :: sX12_beside_12
noncomputable def sX12_beside_10 : List Nat := 108 :: sX12_beside_11
noncomputable def sX12_beside_8 : List Nat := 16 :: 30 :: sX12_beside_10
noncomputable def sX12_beside_7 : List Nat := 27 :: sX12_beside_8
noncomputable def sX12_beside_6 : List Nat := 172 :: sX12_beside_7
noncomputable def sX12_beside_5 : List Nat := 3 :: sX12_beside_6
noncomputable def sX12_beside_2 : List Nat := 160 :: 0 :: 5 :: sX12_beside_5
noncomputable def sX12_beside_1 : List Nat := 28 :: sX12_beside_2
noncomputable def sX12_beside_0 : List Nat := 27 :: sX12_beside_1
theorem aX12_beside_0 : dc_at cX12_beside 0 sX12_beside_0 := dc_base (by decide +kernel)
theorem aX12_beside_1 : dc_at cX12_beside 1 sX12_beside_1 := dc_n1 aX12_beside_0
theorem aX12_beside_2 : dc_at cX12_beside 2 sX12_beside_2 := dc_n1 aX12_beside_1
theorem aX12_beside_5 : dc_at cX12_beside 5 sX12_beside_5 := dc_n3 aX12_beside_2
theorem aX12_beside_6 : dc_at cX12_beside 6 sX12_beside_6 := dc_n1 aX12_beside_5
theorem aX12_beside_7 : dc_at cX12_beside 7 sX12_beside_7 := dc_n1 aX12_beside_6
theorem aX12_beside_8 : dc_at cX12_beside 8 sX12_beside_8 := dc_n1 aX12_beside_7
theorem aX12_beside_10 : dc_at cX12_beside 10 sX12_beside_10 := dc_n2 aX12_beside_8
theorem aX12_beside_11 : dc_at cX12_beside 11 sX12_beside_11 := dc_n1 aX12_beside_10
theorem aX12_beside_12 : dc_at cX12_beside 12 sX12_beside_12 := dc_n1 aX12_beside_11
theorem aX12_beside_14 : dc_at cX12_beside 14 sX12_beside_14 := dc_n2 aX12_beside_12
theorem aX12_beside_15 : dc_at cX12_beside 15 sX12_beside_15 := dc_n1 aX12_beside_14
theorem aX12_beside_18 : dc_at cX12_beside 18 sX12_beside_18 := dc_n3 aX12_beside_15
theorem aX12_beside_19 : dc_at cX12_beside 19 sX12_beside_19 := dc_n1 aX12_beside_18
theorem aX12_beside_20 : dc_at cX12_beside 20 sX12_beside_20 := dc_n1 aX12_beside_19
theorem aX12_beside_22 : dc_at cX12_beside 22 sX12_beside_22 := dc_n2 aX12_beside_20
theorem aX12_beside_23 : dc_at cX12_beside 23 sX12_beside_23 := dc_n1 aX12_beside_22
theorem aX12_beside_24 : dc_at cX12_beside 24 sX12_beside_24 := dc_n1 aX12_beside_23
theorem aX12_beside_26 : dc_at cX12_beside 26 sX12_beside_26 := dc_n2 aX12_beside_24
theorem aX12_beside_27 : dc_at cX12_beside 27 sX12_beside_27 := dc_n1 aX12_beside_26
theorem aX12_beside_30 : dc_at cX12_beside 30 sX12_beside_30 := dc_n3 aX12_beside_27
theorem aX12_beside_33 : dc_at cX12_beside 33 sX12_beside_33 := dc_n3 aX12_beside_30
theorem aX12_beside_34 : dc_at cX12_beside 34 sX12_beside_34 := dc_n1 aX12_beside_33
theorem aX12_beside_37 : dc_at cX12_beside 37 sX12_beside_37 := dc_n3 aX12_beside_34
theorem aX12_beside_39 : dc_at cX12_beside 39 sX12_beside_39 := dc_n2 aX12_beside_37
theorem aX12_beside_40 : dc_at cX12_beside 40 sX12_beside_40 := dc_n1 aX12_beside_39
theorem aX12_beside_41 : dc_at cX12_beside 41 sX12_beside_41 := dc_n1 aX12_beside_40
theorem aX12_beside_43 : dc_at cX12_beside 43 sX12_beside_43 := dc_n2 aX12_beside_41
theorem aX12_beside_44 : dc_at cX12_beside 44 sX12_beside_44 := dc_n1 aX12_beside_43
theorem aX12_beside_45 : dc_at cX12_beside 45 sX12_beside_45 := dc_n1 aX12_beside_44
theorem aX12_beside_47 : dc_at cX12_beside 47 sX12_beside_47 := dc_n2 aX12_beside_45
theorem aX12_beside_48 : dc_at cX12_beside 48 sX12_beside_48 := dc_n1 aX12_beside_47
theorem aX12_beside_51 : dc_at cX12_beside 51 sX12_beside_51 := dc_n3 aX12_beside_48
theorem aX12_beside_52 : dc_at cX12_beside 52 sX12_beside_52 := dc_n1 aX12_beside_51
theorem aX12_beside_53 : dc_at cX12_beside 53 sX12_beside_53 := dc_n1 aX12_beside_52
theorem aX12_beside_55 : dc_at cX12_beside 55 sX12_beside_55 := dc_n2 aX12_beside_53
theorem aX12_beside_56 : dc_at cX12_beside 56 sX12_beside_56 := dc_n1 aX12_beside_55
theorem aX12_beside_57 : dc_at cX12_beside 57 sX12_beside_57 := dc_n1 aX12_beside_56
theorem aX12_beside_59 : dc_at cX12_beside 59 sX12_beside_59 := dc_n2 aX12_beside_57
theorem aX12_beside_60 : dc_at cX12_beside 60 sX12_beside_60 := dc_n1 aX12_beside_59
theorem aX12_beside_63 : dc_at cX12_beside 63 sX12_beside_63 := dc_n3 aX12_beside_60
theorem aX12_beside_66 : dc_at cX12_beside 66 sX12_beside_66 := dc_n3 aX12_beside_63
theorem aX12_beside_67 : dc_at cX12_beside 67 sX12_beside_67 := dc_n1 aX12_beside_66
theorem aX12_beside_70 : dc_at cX12_beside 70 sX12_beside_70 := dc_n3 aX12_beside_67
theorem aX12_beside_72 : dc_at cX12_beside 72 sX12_beside_72 := dc_n2 aX12_beside_70
theorem dX12_beside_0 : decode cX12_beside 0 = .ok (.iload_n 1, 1) := dc_27 aX12_beside_0
theorem dX12_beside_1 : decode cX12_beside 1 = .ok (.iload_n 2, 1) := dc_28 aX12_beside_1
theorem dX12_beside_2 : decode cX12_beside 2 = .ok (.if_icmp .ne 5, 3) := dc_160 (a0 := 0) (b0 := 5) aX12_beside_2 (by decide)
theorem dX12_beside_5 : decode cX12_beside 5 = .ok (.iconst 0, 1) := dc_3 aX12_beside_5
theorem dX12_beside_6 : decode cX12_beside 6 = .ok (.ireturn, 1) := dc_172 aX12_beside_6
theorem dX12_beside_7 : decode cX12_beside 7 = .ok (.iload_n 1, 1) := dc_27 aX12_beside_7
theorem dX12_beside_8 : decode cX12_beside 8 = .ok (.bipush 30, 2) := dc_16 (a0 := 30) aX12_beside_8 (by decide)
theorem dX12_beside_10 : decode cX12_beside 10 = .ok (.idiv, 1) := dc_108 aX12_beside_10
theorem dX12_beside_11 : decode cX12_beside 11 = .ok (.iload_n 2, 1) := dc_28 aX12_beside_11
theorem dX12_beside_12 : decode cX12_beside 12 = .ok (.bipush 30, 2) := dc_16 (a0 := 30) aX12_beside_12 (by decide)
theorem dX12_beside_14 : decode cX12_beside 14 = .ok (.idiv, 1) := dc_108 aX12_beside_14
theorem dX12_beside_15 : decode cX12_beside 15 = .ok (.if_icmp .ne 25, 3) := dc_160 (a0 := 0) (b0 := 25) aX12_beside_15 (by decide)
theorem dX12_beside_18 : decode cX12_beside 18 = .ok (.aload_n 0, 1) := dc_42 aX12_beside_18
theorem dX12_beside_19 : decode cX12_beside 19 = .ok (.iload_n 1, 1) := dc_27 aX12_beside_19
theorem dX12_beside_20 : decode cX12_beside 20 = .ok (.bipush 30, 2) := dc_16 (a0 := 30) aX12_beside_20 (by decide)
theorem dX12_beside_22 : decode cX12_beside 22 = .ok (.irem, 1) := dc_112 aX12_beside_22
theorem dX12_beside_23 : decode cX12_beside 23 = .ok (.iload_n 2, 1) := dc_28 aX12_beside_23
theorem dX12_beside_24 : decode cX12_beside 24 = .ok (.bipush 30, 2) := dc_16 (a0 := 30) aX12_beside_24 (by decide)
theorem dX12_beside_26 : decode cX12_beside 26 = .ok (.irem, 1) := dc_112 aX12_beside_26
theorem dX12_beside_27 : decode cX12_beside 27 = .ok (.invokevirtual 277, 3) := dc_182 (a0 := 1) (b0 := 21) aX12_beside_27
theorem dX12_beside_30 : decode cX12_beside 30 = .ok (.ifCond .eq 7, 3) := dc_153 (a0 := 0) (b0 := 7) aX12_beside_30 (by decide)
theorem dX12_beside_33 : decode cX12_beside 33 = .ok (.iconst 1, 1) := dc_4 aX12_beside_33
theorem dX12_beside_34 : decode cX12_beside 34 = .ok (.goto 5, 3) := dc_167 (a0 := 0) (b0 := 5) aX12_beside_34 (by decide)
theorem dX12_beside_37 : decode cX12_beside 37 = .ok (.bipush 9, 2) := dc_16 (a0 := 9) aX12_beside_37 (by decide)
theorem dX12_beside_39 : decode cX12_beside 39 = .ok (.ireturn, 1) := dc_172 aX12_beside_39
theorem dX12_beside_40 : decode cX12_beside 40 = .ok (.iload_n 1, 1) := dc_27 aX12_beside_40
theorem dX12_beside_41 : decode cX12_beside 41 = .ok (.bipush 30, 2) := dc_16 (a0 := 30) aX12_beside_41 (by decide)
theorem dX12_beside_43 : decode cX12_beside 43 = .ok (.irem, 1) := dc_112 aX12_beside_43
theorem dX12_beside_44 : decode cX12_beside 44 = .ok (.iload_n 2, 1) := dc_28 aX12_beside_44
theorem dX12_beside_45 : decode cX12_beside 45 = .ok (.bipush 30, 2) := dc_16 (a0 := 30) aX12_beside_45 (by decide)
theorem dX12_beside_47 : decode cX12_beside 47 = .ok (.irem, 1) := dc_112 aX12_beside_47
theorem dX12_beside_48 : decode cX12_beside 48 = .ok (.if_icmp .ne 22, 3) := dc_160 (a0 := 0) (b0 := 22) aX12_beside_48 (by decide)
theorem dX12_beside_51 : decode cX12_beside 51 = .ok (.aload_n 0, 1) := dc_42 aX12_beside_51
theorem dX12_beside_52 : decode cX12_beside 52 = .ok (.iload_n 1, 1) := dc_27 aX12_beside_52
theorem dX12_beside_53 : decode cX12_beside 53 = .ok (.bipush 30, 2) := dc_16 (a0 := 30) aX12_beside_53 (by decide)
theorem dX12_beside_55 : decode cX12_beside 55 = .ok (.idiv, 1) := dc_108 aX12_beside_55
theorem dX12_beside_56 : decode cX12_beside 56 = .ok (.iload_n 2, 1) := dc_28 aX12_beside_56
theorem dX12_beside_57 : decode cX12_beside 57 = .ok (.bipush 30, 2) := dc_16 (a0 := 30) aX12_beside_57 (by decide)
theorem dX12_beside_59 : decode cX12_beside 59 = .ok (.idiv, 1) := dc_108 aX12_beside_59
theorem dX12_beside_60 : decode cX12_beside 60 = .ok (.invokevirtual 277, 3) := dc_182 (a0 := 1) (b0 := 21) aX12_beside_60
theorem dX12_beside_63 : decode cX12_beside 63 = .ok (.ifCond .eq 7, 3) := dc_153 (a0 := 0) (b0 := 7) aX12_beside_63 (by decide)
theorem dX12_beside_66 : decode cX12_beside 66 = .ok (.iconst 2, 1) := dc_5 aX12_beside_66
theorem dX12_beside_67 : decode cX12_beside 67 = .ok (.goto 5, 3) := dc_167 (a0 := 0) (b0 := 5) aX12_beside_67 (by decide)
theorem dX12_beside_70 : decode cX12_beside 70 = .ok (.bipush 9, 2) := dc_16 (a0 := 9) aX12_beside_70 (by decide)
theorem dX12_beside_72 : decode cX12_beside 72 = .ok (.ireturn, 1) := dc_172 aX12_beside_72
set_option maxRecDepth 20000 in
theorem ggX12_costOf_X12_beside : GoodIn wsX12_costOf wsX12_beside := goodIn_k _ [[5, 0, 0, 0], [4, 4, 0, 0, 0, 0, 0, 0, 0, 0, 0, 0, 0, 0, 0, 0, 0, 0, 0, 0, 0, 0, 0, 0, 0, 0, 0, 0, 0, 0, 0, 0, 0, 0, 0, 0, 0, 0, 0, 0, 0, 0, 0, 0, 0, 0, 0, 0, 0, 0, 0, 0, 0, 0, 0, 0, 0, 0, 0, 0, 0, 0, 0]] (by rfl) (by decide +kernel)
set_option maxRecDepth 20000 in
theorem gX12_costOf_X12_beside : GoodIn wsX12_costOf (wsV RX12 280 RX12 yX12_beside wsX12_beside) := goodIn_app (goodIn_of _ (by decide +kernel)) ggX12_costOf_X12_beside
noncomputable def sX12_costOf_17 : List Nat := 172 :: []
noncomputable def sX12_costOf_16 : List Nat := 29 :: sX12_costOf_17
noncomputable def sX12_costOf_13 : List Nat := 167 :: 0 :: 4 :: sX12_costOf_16
noncomputable def sX12_costOf_12 : List Nat := 4 :: sX12_costOf_13
noncomputable def sX12_costOf_9 : List Nat := 160 :: 0 :: 7 :: sX12_costOf_12
noncomputable def sX12_costOf_8 : List Nat := 5 :: sX12_costOf_9
noncomputable def sX12_costOf_7 : List Nat := 29 :: sX12_costOf_8
noncomputable def sX12_costOf_6 : List Nat := 62 :: sX12_costOf_7
noncomputable def sX12_costOf_3 : List Nat := 182 :: 1 :: 24 :: sX12_costOf_6
noncomputable def sX12_costOf_2 : List Nat := 28 :: sX12_costOf_3
noncomputable def sX12_costOf_1 : List Nat := 27 :: sX12_costOf_2
noncomputable def sX12_costOf_0 : List Nat := 42 :: sX12_costOf_1
theorem aX12_costOf_0 : dc_at cX12_costOf 0 sX12_costOf_0 := dc_base (by decide +kernel)
theorem aX12_costOf_1 : dc_at cX12_costOf 1 sX12_costOf_1 := dc_n1 aX12_costOf_0
theorem aX12_costOf_2 : dc_at cX12_costOf 2 sX12_costOf_2 := dc_n1 aX12_costOf_1
theorem aX12_costOf_3 : dc_at cX12_costOf 3 sX12_costOf_3 := dc_n1 aX12_costOf_2
theorem aX12_costOf_6 : dc_at cX12_costOf 6 sX12_costOf_6 := dc_n3 aX12_costOf_3
theorem aX12_costOf_7 : dc_at cX12_costOf 7 sX12_costOf_7 := dc_n1 aX12_costOf_6
theorem aX12_costOf_8 : dc_at cX12_costOf 8 sX12_costOf_8 := dc_n1 aX12_costOf_7
theorem aX12_costOf_9 : dc_at cX12_costOf 9 sX12_costOf_9 := dc_n1 aX12_costOf_8
theorem aX12_costOf_12 : dc_at cX12_costOf 12 sX12_costOf_12 := dc_n3 aX12_costOf_9
theorem aX12_costOf_13 : dc_at cX12_costOf 13 sX12_costOf_13 := dc_n1 aX12_costOf_12
theorem aX12_costOf_16 : dc_at cX12_costOf 16 sX12_costOf_16 := dc_n3 aX12_costOf_13
theorem aX12_costOf_17 : dc_at cX12_costOf 17 sX12_costOf_17 := dc_n1 aX12_costOf_16
theorem dX12_costOf_0 : decode cX12_costOf 0 = .ok (.aload_n 0, 1) := dc_42 aX12_costOf_0
theorem dX12_costOf_1 : decode cX12_costOf 1 = .ok (.iload_n 1, 1) := dc_27 aX12_costOf_1
theorem dX12_costOf_2 : decode cX12_costOf 2 = .ok (.iload_n 2, 1) := dc_28 aX12_costOf_2
theorem dX12_costOf_3 : decode cX12_costOf 3 = .ok (.invokevirtual 280, 3) := dc_182 (a0 := 1) (b0 := 24) aX12_costOf_3
theorem dX12_costOf_6 : decode cX12_costOf 6 = .ok (.istore_n 3, 1) := dc_62 aX12_costOf_6
theorem dX12_costOf_7 : decode cX12_costOf 7 = .ok (.iload_n 3, 1) := dc_29 aX12_costOf_7
theorem dX12_costOf_8 : decode cX12_costOf 8 = .ok (.iconst 2, 1) := dc_5 aX12_costOf_8
theorem dX12_costOf_9 : decode cX12_costOf 9 = .ok (.if_icmp .ne 7, 3) := dc_160 (a0 := 0) (b0 := 7) aX12_costOf_9 (by decide)
theorem dX12_costOf_12 : decode cX12_costOf 12 = .ok (.iconst 1, 1) := dc_4 aX12_costOf_12
theorem dX12_costOf_13 : decode cX12_costOf 13 = .ok (.goto 4, 3) := dc_167 (a0 := 0) (b0 := 4) aX12_costOf_13 (by decide)
theorem dX12_costOf_16 : decode cX12_costOf 16 = .ok (.iload_n 3, 1) := dc_29 aX12_costOf_16
theorem dX12_costOf_17 : decode cX12_costOf 17 = .ok (.ireturn, 1) := dc_172 aX12_costOf_17
set_option maxRecDepth 20000 in
theorem ggX12_costOn_X12_at : GoodIn wsX12_costOn wsX12_at := goodIn_k _ [[5, 0, 29, 0, 0, 0, 0, 0, 0, 0, 0, 0, 0, 0, 0, 0, 0, 0, 0, 0, 0, 0, 0, 0, 0, 0, 0, 0, 0, 0, 0, 0, 0, 0, 0, 0, 0, 0, 0, 0, 0, 0, 0, 0, 0, 0, 0, 0, 0, 0, 0, 0, 0, 0, 0, 0, 0, 0, 0, 0]] (by rfl) (by decide +kernel)
set_option maxRecDepth 20000 in
theorem gX12_costOn_X12_at : GoodIn wsX12_costOn (wsV RX12 254 RX12 yX12_at wsX12_at) := goodIn_app (goodIn_of _ (by decide +kernel)) ggX12_costOn_X12_at
set_option maxRecDepth 20000 in
theorem ggX12_costOn_X12_placeOn : GoodIn wsX12_costOn wsX12_placeOn := goodIn_k _ [[10, 0, 0, 0, 0, 0, 0, 0, 0, 0], [4, 15, 15, 0, 0, 0, 0, 0, 0, 0, 0, 0, 0, 0, 0, 0, 0, 0, 0, 0, 0, 0, 0, 0, 0, 0, 0, 0, 0, 0, 0, 0, 0, 0, 0, 0, 0, 0, 0, 0, 0, 0, 0, 0, 0, 0, 0, 0, 0, 0, 0, 0, 0, 0, 0, 0, 0, 0, 0, 0]] (by rfl) (by decide +kernel)
set_option maxRecDepth 20000 in
theorem gX12_costOn_X12_placeOn : GoodIn wsX12_costOn (wsV RX12 274 RX12 yX12_placeOn wsX12_placeOn) := goodIn_app (goodIn_of _ (by decide +kernel)) ggX12_costOn_X12_placeOn
set_option maxRecDepth 20000 in
theorem ggX12_costOn_X12_costOf : GoodIn wsX12_costOn wsX12_costOf := goodIn_k _ [[24, 0, 0, 0], [4, 23, 0, 0, 0, 0, 0, 0, 0, 0, 0, 0, 0, 0, 0, 0, 0, 0, 0, 0, 0, 0, 0, 0, 0, 0, 0, 0, 0, 0, 0, 0, 0, 0, 0, 0, 0, 0, 0, 0, 0, 0, 0, 0, 0, 0, 0, 0, 0, 0, 0, 0, 0, 0, 0, 0, 0, 0, 0, 0, 0, 0, 0, 0, 0, 0, 0]] (by rfl) (by decide +kernel)
set_option maxRecDepth 20000 in
theorem gX12_costOn_X12_costOf : GoodIn wsX12_costOn (wsV RX12 283 RX12 yX12_costOf wsX12_costOf) := goodIn_app (goodIn_of _ (by decide +kernel)) ggX12_costOn_X12_costOf
noncomputable def sX12_costOn_97 : List Nat := 172 :: []
noncomputable def sX12_costOn_95 : List Nat := 21 :: 5 :: sX12_costOn_97
noncomputable def sX12_costOn_92 : List Nat := 167 :: 255 :: 201 :: sX12_costOn_95
noncomputable def sX12_costOn_89 : List Nat := 132 :: 6 :: 1 :: sX12_costOn_92
noncomputable def sX12_costOn_87 : List Nat := 54 :: 5 :: sX12_costOn_89
noncomputable def sX12_costOn_86 : List Nat := 96 :: sX12_costOn_87
noncomputable def sX12_costOn_83 : List Nat := 182 :: 1 :: 27 :: sX12_costOn_86
noncomputable def sX12_costOn_82 : List Nat := 108 :: sX12_costOn_83
noncomputable def sX12_costOn_80 : List Nat := 16 :: 60 :: sX12_costOn_82
noncomputable def sX12_costOn_77 : List Nat := 182 :: 1 :: 18 :: sX12_costOn_80
noncomputable def sX12_costOn_76 : List Nat := 29 :: sX12_costOn_77
noncomputable def sX12_costOn_74 : List Nat := 21 :: 6 :: sX12_costOn_76
noncomputable def sX12_costOn_73 : List Nat := 28 :: sX12_costOn_74
noncomputable def sX12_costOn_72 : List Nat := 42 :: sX12_costOn_73
noncomputable def sX12_costOn_69 : List Nat := 182 :: 0 :: 254 :: sX12_costOn_72
noncomputable def sX12_costOn_67 : List Nat := 21 :: 6 :: sX12_costOn_69
noncomputable def sX12_costOn_66 : List Nat := 27 :: sX12_costOn_67
noncomputable def sX12_costOn_65 : List Nat := 42 :: sX12_costOn_66
noncomputable def sX12_costOn_64 : List Nat := 42 :: sX12_costOn_65
noncomputable def sX12_costOn_62 : List Nat := 21 :: 5 :: sX12_costOn_64
noncomputable def sX12_costOn_59 : List Nat := 159 :: 0 :: 30 :: sX12_costOn_62
noncomputable def sX12_costOn_58 : List Nat := 2 :: sX12_costOn_59
noncomputable def sX12_costOn_55 : List Nat := 182 :: 0 :: 254 :: sX12_costOn_58
noncomputable def sX12_costOn_53 : List Nat := 21 :: 6 :: sX12_costOn_55
noncomputable def sX12_costOn_52 : List Nat := 27 :: sX12_costOn_53
noncomputable def sX12_costOn_51 : List Nat := 42 :: sX12_costOn_52
noncomputable def sX12_costOn_48 : List Nat := 163 :: 0 :: 47 :: sX12_costOn_51
noncomputable def sX12_costOn_46 : List Nat := 21 :: 4 :: sX12_costOn_48
noncomputable def sX12_costOn_44 : List Nat := 21 :: 5 :: sX12_costOn_46
noncomputable def sX12_costOn_41 : List Nat := 162 :: 0 :: 54 :: sX12_costOn_44
noncomputable def sX12_costOn_39 : List Nat := 16 :: 7 :: sX12_costOn_41
noncomputable def sX12_costOn_37 : List Nat := 21 :: 6 :: sX12_costOn_39
noncomputable def sX12_costOn_35 : List Nat := 54 :: 6 :: sX12_costOn_37
noncomputable def sX12_costOn_34 : List Nat := 3 :: sX12_costOn_35
noncomputable def sX12_costOn_32 : List Nat := 54 :: 5 :: sX12_costOn_34
noncomputable def sX12_costOn_31 : List Nat := 3 :: sX12_costOn_32
noncomputable def sX12_costOn_28 : List Nat := 167 :: 0 :: 4 :: sX12_costOn_31
noncomputable def sX12_costOn_26 : List Nat := 16 :: 30 :: sX12_costOn_28
noncomputable def sX12_costOn_23 : List Nat := 159 :: 0 :: 8 :: sX12_costOn_26
noncomputable def sX12_costOn_22 : List Nat := 112 :: sX12_costOn_23
noncomputable def sX12_costOn_19 : List Nat := 17 :: 1 :: 109 :: sX12_costOn_22
noncomputable def sX12_costOn_18 : List Nat := 29 :: sX12_costOn_19
noncomputable def sX12_costOn_15 : List Nat := 182 :: 0 :: 254 :: sX12_costOn_18
noncomputable def sX12_costOn_13 : List Nat := 16 :: 21 :: sX12_costOn_15
noncomputable def sX12_costOn_12 : List Nat := 27 :: sX12_costOn_13
noncomputable def sX12_costOn_11 : List Nat := 42 :: sX12_costOn_12
noncomputable def sX12_costOn_8 : List Nat := 159 :: 0 :: 23 :: sX12_costOn_11
noncomputable def sX12_costOn_7 : List Nat := 2 :: sX12_costOn_8
noncomputable def sX12_costOn_4 : List Nat := 182 :: 0 :: 254 :: sX12_costOn_7
noncomputable def sX12_costOn_2 : List Nat := 16 :: 21 :: sX12_costOn_4
noncomputable def sX12_costOn_1 : List Nat := 27 :: sX12_costOn_2
noncomputable def sX12_costOn_0 : List Nat := 42 :: sX12_costOn_1
theorem aX12_costOn_0 : dc_at cX12_costOn 0 sX12_costOn_0 := dc_base (by decide +kernel)
theorem aX12_costOn_1 : dc_at cX12_costOn 1 sX12_costOn_1 := dc_n1 aX12_costOn_0
theorem aX12_costOn_2 : dc_at cX12_costOn 2 sX12_costOn_2 := dc_n1 aX12_costOn_1
theorem aX12_costOn_4 : dc_at cX12_costOn 4 sX12_costOn_4 := dc_n2 aX12_costOn_2
theorem aX12_costOn_7 : dc_at cX12_costOn 7 sX12_costOn_7 := dc_n3 aX12_costOn_4
theorem aX12_costOn_8 : dc_at cX12_costOn 8 sX12_costOn_8 := dc_n1 aX12_costOn_7
theorem aX12_costOn_11 : dc_at cX12_costOn 11 sX12_costOn_11 := dc_n3 aX12_costOn_8
theorem aX12_costOn_12 : dc_at cX12_costOn 12 sX12_costOn_12 := dc_n1 aX12_costOn_11
theorem aX12_costOn_13 : dc_at cX12_costOn 13 sX12_costOn_13 := dc_n1 aX12_costOn_12
theorem aX12_costOn_15 : dc_at cX12_costOn 15 sX12_costOn_15 := dc_n2 aX12_costOn_13
theorem aX12_costOn_18 : dc_at cX12_costOn 18 sX12_costOn_18 := dc_n3 aX12_costOn_15
theorem aX12_costOn_19 : dc_at cX12_costOn 19 sX12_costOn_19 := dc_n1 aX12_costOn_18
theorem aX12_costOn_22 : dc_at cX12_costOn 22 sX12_costOn_22 := dc_n3 aX12_costOn_19
theorem aX12_costOn_23 : dc_at cX12_costOn 23 sX12_costOn_23 := dc_n1 aX12_costOn_22
theorem aX12_costOn_26 : dc_at cX12_costOn 26 sX12_costOn_26 := dc_n3 aX12_costOn_23
theorem aX12_costOn_28 : dc_at cX12_costOn 28 sX12_costOn_28 := dc_n2 aX12_costOn_26
theorem aX12_costOn_31 : dc_at cX12_costOn 31 sX12_costOn_31 := dc_n3 aX12_costOn_28
theorem aX12_costOn_32 : dc_at cX12_costOn 32 sX12_costOn_32 := dc_n1 aX12_costOn_31
theorem aX12_costOn_34 : dc_at cX12_costOn 34 sX12_costOn_34 := dc_n2 aX12_costOn_32
theorem aX12_costOn_35 : dc_at cX12_costOn 35 sX12_costOn_35 := dc_n1 aX12_costOn_34
theorem aX12_costOn_37 : dc_at cX12_costOn 37 sX12_costOn_37 := dc_n2 aX12_costOn_35
theorem aX12_costOn_39 : dc_at cX12_costOn 39 sX12_costOn_39 := dc_n2 aX12_costOn_37
theorem aX12_costOn_41 : dc_at cX12_costOn 41 sX12_costOn_41 := dc_n2 aX12_costOn_39
theorem aX12_costOn_44 : dc_at cX12_costOn 44 sX12_costOn_44 := dc_n3 aX12_costOn_41
theorem aX12_costOn_46 : dc_at cX12_costOn 46 sX12_costOn_46 := dc_n2 aX12_costOn_44
theorem aX12_costOn_48 : dc_at cX12_costOn 48 sX12_costOn_48 := dc_n2 aX12_costOn_46
theorem aX12_costOn_51 : dc_at cX12_costOn 51 sX12_costOn_51 := dc_n3 aX12_costOn_48
theorem aX12_costOn_52 : dc_at cX12_costOn 52 sX12_costOn_52 := dc_n1 aX12_costOn_51
theorem aX12_costOn_53 : dc_at cX12_costOn 53 sX12_costOn_53 := dc_n1 aX12_costOn_52
theorem aX12_costOn_55 : dc_at cX12_costOn 55 sX12_costOn_55 := dc_n2 aX12_costOn_53
theorem aX12_costOn_58 : dc_at cX12_costOn 58 sX12_costOn_58 := dc_n3 aX12_costOn_55
theorem aX12_costOn_59 : dc_at cX12_costOn 59 sX12_costOn_59 := dc_n1 aX12_costOn_58
theorem aX12_costOn_62 : dc_at cX12_costOn 62 sX12_costOn_62 := dc_n3 aX12_costOn_59
theorem aX12_costOn_64 : dc_at cX12_costOn 64 sX12_costOn_64 := dc_n2 aX12_costOn_62
theorem aX12_costOn_65 : dc_at cX12_costOn 65 sX12_costOn_65 := dc_n1 aX12_costOn_64
theorem aX12_costOn_66 : dc_at cX12_costOn 66 sX12_costOn_66 := dc_n1 aX12_costOn_65
theorem aX12_costOn_67 : dc_at cX12_costOn 67 sX12_costOn_67 := dc_n1 aX12_costOn_66
theorem aX12_costOn_69 : dc_at cX12_costOn 69 sX12_costOn_69 := dc_n2 aX12_costOn_67
theorem aX12_costOn_72 : dc_at cX12_costOn 72 sX12_costOn_72 := dc_n3 aX12_costOn_69
theorem aX12_costOn_73 : dc_at cX12_costOn 73 sX12_costOn_73 := dc_n1 aX12_costOn_72
theorem aX12_costOn_74 : dc_at cX12_costOn 74 sX12_costOn_74 := dc_n1 aX12_costOn_73
theorem aX12_costOn_76 : dc_at cX12_costOn 76 sX12_costOn_76 := dc_n2 aX12_costOn_74
theorem aX12_costOn_77 : dc_at cX12_costOn 77 sX12_costOn_77 := dc_n1 aX12_costOn_76
theorem aX12_costOn_80 : dc_at cX12_costOn 80 sX12_costOn_80 := dc_n3 aX12_costOn_77
theorem aX12_costOn_82 : dc_at cX12_costOn 82 sX12_costOn_82 := dc_n2 aX12_costOn_80
theorem aX12_costOn_83 : dc_at cX12_costOn 83 sX12_costOn_83 := dc_n1 aX12_costOn_82
theorem aX12_costOn_86 : dc_at cX12_costOn 86 sX12_costOn_86 := dc_n3 aX12_costOn_83
theorem aX12_costOn_87 : dc_at cX12_costOn 87 sX12_costOn_87 := dc_n1 aX12_costOn_86
theorem aX12_costOn_89 : dc_at cX12_costOn 89 sX12_costOn_89 := dc_n2 aX12_costOn_87
theorem aX12_costOn_92 : dc_at cX12_costOn 92 sX12_costOn_92 := dc_n3 aX12_costOn_89
theorem aX12_costOn_95 : dc_at cX12_costOn 95 sX12_costOn_95 := dc_n3 aX12_costOn_92
theorem aX12_costOn_97 : dc_at cX12_costOn 97 sX12_costOn_97 := dc_n2 aX12_costOn_95
theorem dX12_costOn_0 : decode cX12_costOn 0 = .ok (.aload_n 0, 1) := dc_42 aX12_costOn_0
theorem dX12_costOn_1 : decode cX12_costOn 1 = .ok (.iload_n 1, 1) := dc_27 aX12_costOn_1
theorem dX12_costOn_2 : decode cX12_costOn 2 = .ok (.bipush 21, 2) := dc_16 (a0 := 21) aX12_costOn_2 (by decide)
theorem dX12_costOn_4 : decode cX12_costOn 4 = .ok (.invokevirtual 254, 3) := dc_182 (a0 := 0) (b0 := 254) aX12_costOn_4
theorem dX12_costOn_7 : decode cX12_costOn 7 = .ok (.iconst (-1), 1) := dc_2 aX12_costOn_7
theorem dX12_costOn_8 : decode cX12_costOn 8 = .ok (.if_icmp .eq 23, 3) := dc_159 (a0 := 0) (b0 := 23) aX12_costOn_8 (by decide)
theorem dX12_costOn_11 : decode cX12_costOn 11 = .ok (.aload_n 0, 1) := dc_42 aX12_costOn_11
theorem dX12_costOn_12 : decode cX12_costOn 12 = .ok (.iload_n 1, 1) := dc_27 aX12_costOn_12
theorem dX12_costOn_13 : decode cX12_costOn 13 = .ok (.bipush 21, 2) := dc_16 (a0 := 21) aX12_costOn_13 (by decide)
theorem dX12_costOn_15 : decode cX12_costOn 15 = .ok (.invokevirtual 254, 3) := dc_182 (a0 := 0) (b0 := 254) aX12_costOn_15
theorem dX12_costOn_18 : decode cX12_costOn 18 = .ok (.iload_n 3, 1) := dc_29 aX12_costOn_18
theorem dX12_costOn_19 : decode cX12_costOn 19 = .ok (.sipush 365, 3) := dc_17 (a0 := 1) (b0 := 109) aX12_costOn_19 (by decide)
theorem dX12_costOn_22 : decode cX12_costOn 22 = .ok (.irem, 1) := dc_112 aX12_costOn_22
theorem dX12_costOn_23 : decode cX12_costOn 23 = .ok (.if_icmp .eq 8, 3) := dc_159 (a0 := 0) (b0 := 8) aX12_costOn_23 (by decide)
theorem dX12_costOn_26 : decode cX12_costOn 26 = .ok (.bipush 30, 2) := dc_16 (a0 := 30) aX12_costOn_26 (by decide)
theorem dX12_costOn_28 : decode cX12_costOn 28 = .ok (.goto 4, 3) := dc_167 (a0 := 0) (b0 := 4) aX12_costOn_28 (by decide)
theorem dX12_costOn_31 : decode cX12_costOn 31 = .ok (.iconst 0, 1) := dc_3 aX12_costOn_31
theorem dX12_costOn_32 : decode cX12_costOn 32 = .ok (.istore 5, 2) := dc_54 (a0 := 5) aX12_costOn_32
theorem dX12_costOn_34 : decode cX12_costOn 34 = .ok (.iconst 0, 1) := dc_3 aX12_costOn_34
theorem dX12_costOn_35 : decode cX12_costOn 35 = .ok (.istore 6, 2) := dc_54 (a0 := 6) aX12_costOn_35
theorem dX12_costOn_37 : decode cX12_costOn 37 = .ok (.iload 6, 2) := dc_21 (a0 := 6) aX12_costOn_37
theorem dX12_costOn_39 : decode cX12_costOn 39 = .ok (.bipush 7, 2) := dc_16 (a0 := 7) aX12_costOn_39 (by decide)
theorem dX12_costOn_41 : decode cX12_costOn 41 = .ok (.if_icmp .ge 54, 3) := dc_162 (a0 := 0) (b0 := 54) aX12_costOn_41 (by decide)
theorem dX12_costOn_44 : decode cX12_costOn 44 = .ok (.iload 5, 2) := dc_21 (a0 := 5) aX12_costOn_44
theorem dX12_costOn_46 : decode cX12_costOn 46 = .ok (.iload 4, 2) := dc_21 (a0 := 4) aX12_costOn_46
theorem dX12_costOn_48 : decode cX12_costOn 48 = .ok (.if_icmp .gt 47, 3) := dc_163 (a0 := 0) (b0 := 47) aX12_costOn_48 (by decide)
theorem dX12_costOn_51 : decode cX12_costOn 51 = .ok (.aload_n 0, 1) := dc_42 aX12_costOn_51
theorem dX12_costOn_52 : decode cX12_costOn 52 = .ok (.iload_n 1, 1) := dc_27 aX12_costOn_52
theorem dX12_costOn_53 : decode cX12_costOn 53 = .ok (.iload 6, 2) := dc_21 (a0 := 6) aX12_costOn_53
theorem dX12_costOn_55 : decode cX12_costOn 55 = .ok (.invokevirtual 254, 3) := dc_182 (a0 := 0) (b0 := 254) aX12_costOn_55
theorem dX12_costOn_58 : decode cX12_costOn 58 = .ok (.iconst (-1), 1) := dc_2 aX12_costOn_58
theorem dX12_costOn_59 : decode cX12_costOn 59 = .ok (.if_icmp .eq 30, 3) := dc_159 (a0 := 0) (b0 := 30) aX12_costOn_59 (by decide)
theorem dX12_costOn_62 : decode cX12_costOn 62 = .ok (.iload 5, 2) := dc_21 (a0 := 5) aX12_costOn_62
theorem dX12_costOn_64 : decode cX12_costOn 64 = .ok (.aload_n 0, 1) := dc_42 aX12_costOn_64
theorem dX12_costOn_65 : decode cX12_costOn 65 = .ok (.aload_n 0, 1) := dc_42 aX12_costOn_65
theorem dX12_costOn_66 : decode cX12_costOn 66 = .ok (.iload_n 1, 1) := dc_27 aX12_costOn_66
theorem dX12_costOn_67 : decode cX12_costOn 67 = .ok (.iload 6, 2) := dc_21 (a0 := 6) aX12_costOn_67
theorem dX12_costOn_69 : decode cX12_costOn 69 = .ok (.invokevirtual 254, 3) := dc_182 (a0 := 0) (b0 := 254) aX12_costOn_69
theorem dX12_costOn_72 : decode cX12_costOn 72 = .ok (.aload_n 0, 1) := dc_42 aX12_costOn_72
theorem dX12_costOn_73 : decode cX12_costOn 73 = .ok (.iload_n 2, 1) := dc_28 aX12_costOn_73
theorem dX12_costOn_74 : decode cX12_costOn 74 = .ok (.iload 6, 2) := dc_21 (a0 := 6) aX12_costOn_74
theorem dX12_costOn_76 : decode cX12_costOn 76 = .ok (.iload_n 3, 1) := dc_29 aX12_costOn_76
theorem dX12_costOn_77 : decode cX12_costOn 77 = .ok (.invokevirtual 274, 3) := dc_182 (a0 := 1) (b0 := 18) aX12_costOn_77
theorem dX12_costOn_80 : decode cX12_costOn 80 = .ok (.bipush 60, 2) := dc_16 (a0 := 60) aX12_costOn_80 (by decide)
theorem dX12_costOn_82 : decode cX12_costOn 82 = .ok (.idiv, 1) := dc_108 aX12_costOn_82
theorem dX12_costOn_83 : decode cX12_costOn 83 = .ok (.invokevirtual 283, 3) := dc_182 (a0 := 1) (b0 := 27) aX12_costOn_83
theorem dX12_costOn_86 : decode cX12_costOn 86 = .ok (.iadd, 1) := dc_96 aX12_costOn_86
theorem dX12_costOn_87 : decode cX12_costOn 87 = .ok (.istore 5, 2) := dc_54 (a0 := 5) aX12_costOn_87
theorem dX12_costOn_89 : decode cX12_costOn 89 = .ok (.iinc 6 1, 3) := dc_132 (a0 := 6) (a1 := 1) aX12_costOn_89 (by decide)
theorem dX12_costOn_92 : decode cX12_costOn 92 = .ok (.goto (-55), 3) := dc_167 (a0 := 255) (b0 := 201) aX12_costOn_92 (by decide)
theorem dX12_costOn_95 : decode cX12_costOn 95 = .ok (.iload 5, 2) := dc_21 (a0 := 5) aX12_costOn_95
theorem dX12_costOn_97 : decode cX12_costOn 97 = .ok (.ireturn, 1) := dc_172 aX12_costOn_97
set_option maxRecDepth 20000 in
theorem ggX12_cost_X12_isWheel : GoodIn wsX12_cost wsX12_isWheel := goodIn_k _ [[6, 0, 0, 0, 0], [5, 5, 41, 0, 0, 0, 0, 0, 0, 0, 0, 0, 0, 0, 0, 0, 0, 0, 0, 0, 0, 0, 0, 0, 0, 0, 0, 0, 0, 0, 0, 0, 0, 0, 0, 0, 0, 0, 0, 0, 0, 0, 0, 0, 0, 0, 0, 0, 0, 0, 0, 0, 0, 0, 0, 0, 0, 0, 0, 0]] (by rfl) (by decide +kernel)
set_option maxRecDepth 20000 in
theorem gX12_cost_X12_isWheel : GoodIn wsX12_cost (wsV RX12 247 RX12 yX12_isWheel wsX12_isWheel) := goodIn_app (goodIn_of _ (by decide +kernel)) ggX12_cost_X12_isWheel
set_option maxRecDepth 20000 in
theorem ggX12_cost_X12_within : GoodIn wsX12_cost wsX12_within := goodIn_k _ [[14]] (by rfl) (by decide +kernel)
set_option maxRecDepth 20000 in
theorem gX12_cost_X12_within : GoodIn wsX12_cost (va_wsS RX12 270 yX12_within wsX12_within) := goodIn_app (goodIn_of _ (by decide +kernel)) ggX12_cost_X12_within
set_option maxRecDepth 20000 in
theorem ggX12_cost_X12_right : GoodIn wsX12_cost wsX12_right := goodIn_k _ [[11], [7, 45, 0, 0, 0, 0, 0, 0, 0, 0, 0, 0, 0, 0, 0, 0, 0, 0, 0, 0, 0, 0, 0, 0, 0, 0, 0, 0, 0, 0, 0, 0, 0, 0, 0, 0, 0, 0, 0, 0, 0, 0, 0, 0, 0, 0, 0, 0, 0, 0, 0, 0, 0, 0, 0, 0, 0, 0, 0]] (by rfl) (by decide +kernel)
set_option maxRecDepth 20000 in
theorem gX12_cost_X12_right : GoodIn wsX12_cost (wsV RX12 209 RX12 yX12_right wsX12_right) := goodIn_app (goodIn_of _ (by decide +kernel)) ggX12_cost_X12_right
set_option maxRecDepth 20000 in
theorem ggX12_cost_X12_costOn : GoodIn wsX12_cost wsX12_costOn := goodIn_k _ [[18, 0, 0, 0], [5, 16, 0, 0, 0, 0, 0, 0, 0, 0, 0, 0, 0, 0, 0, 0, 0, 0, 0, 0, 0, 0, 0, 0, 0, 0, 0, 0, 0, 0, 0, 0, 0, 0, 0, 0, 0, 0, 0, 0, 0, 0, 0, 0, 0, 0, 0, 0, 0, 0, 0, 0, 0, 0, 0, 0, 0, 0, 0, 0, 0, 0, 0, 0, 0, 0, 0, 0, 0, 0, 0, 0, 0, 0, 0, 0, 0, 0, 0, 0, 0, 0, 0, 0, 0, 0, 0, 0, 0, 0]] (by rfl) (by decide +kernel)
set_option maxRecDepth 20000 in
theorem gX12_cost_X12_costOn : GoodIn wsX12_cost (wsV RX12 286 RX12 yX12_costOn wsX12_costOn) := goodIn_app (goodIn_of _ (by decide +kernel)) ggX12_cost_X12_costOn
noncomputable def sX12_cost_60 : List Nat := 172 :: []
noncomputable def sX12_cost_57 : List Nat := 182 :: 1 :: 30 :: sX12_cost_60
noncomputable def sX12_cost_54 : List Nat := 17 :: 3 :: 231 :: sX12_cost_57
noncomputable def sX12_cost_52 : List Nat := 21 :: 4 :: sX12_cost_54
noncomputable def sX12_cost_51 : List Nat := 29 :: sX12_cost_52
noncomputable def sX12_cost_50 : List Nat := 96 :: sX12_cost_51
noncomputable def sX12_cost_49 : List Nat := 28 :: sX12_cost_50
noncomputable def sX12_cost_48 : List Nat := 104 :: sX12_cost_49
noncomputable def sX12_cost_47 : List Nat := 27 :: sX12_cost_48
noncomputable def sX12_cost_45 : List Nat := 16 :: 20 :: sX12_cost_47
noncomputable def sX12_cost_44 : List Nat := 42 :: sX12_cost_45
noncomputable def sX12_cost_43 : List Nat := 172 :: sX12_cost_44
noncomputable def sX12_cost_42 : List Nat := 3 :: sX12_cost_43
noncomputable def sX12_cost_39 : List Nat := 154 :: 0 :: 5 :: sX12_cost_42
noncomputable def sX12_cost_36 : List Nat := 182 :: 0 :: 209 :: sX12_cost_39
noncomputable def sX12_cost_35 : List Nat := 4 :: sX12_cost_36
noncomputable def sX12_cost_34 : List Nat := 3 :: sX12_cost_35
noncomputable def sX12_cost_31 : List Nat := 167 :: 0 :: 4 :: sX12_cost_34
noncomputable def sX12_cost_30 : List Nat := 4 :: sX12_cost_31
noncomputable def sX12_cost_27 : List Nat := 153 :: 0 :: 7 :: sX12_cost_30
noncomputable def sX12_cost_24 : List Nat := 184 :: 1 :: 14 :: sX12_cost_27
noncomputable def sX12_cost_22 : List Nat := 18 :: 218 :: sX12_cost_24
noncomputable def sX12_cost_21 : List Nat := 3 :: sX12_cost_22
noncomputable def sX12_cost_19 : List Nat := 21 :: 4 :: sX12_cost_21
noncomputable def sX12_cost_16 : List Nat := 153 :: 0 :: 18 :: sX12_cost_19
noncomputable def sX12_cost_13 : List Nat := 184 :: 1 :: 14 :: sX12_cost_16
noncomputable def sX12_cost_12 : List Nat := 6 :: sX12_cost_13
noncomputable def sX12_cost_11 : List Nat := 3 :: sX12_cost_12
noncomputable def sX12_cost_10 : List Nat := 29 :: sX12_cost_11
noncomputable def sX12_cost_9 : List Nat := 42 :: sX12_cost_10
noncomputable def sX12_cost_6 : List Nat := 153 :: 0 :: 36 :: sX12_cost_9
noncomputable def sX12_cost_3 : List Nat := 182 :: 0 :: 247 :: sX12_cost_6
noncomputable def sX12_cost_2 : List Nat := 28 :: sX12_cost_3
noncomputable def sX12_cost_1 : List Nat := 27 :: sX12_cost_2
noncomputable def sX12_cost_0 : List Nat := 42 :: sX12_cost_1
theorem aX12_cost_0 : dc_at cX12_cost 0 sX12_cost_0 := dc_base (by decide +kernel)
theorem aX12_cost_1 : dc_at cX12_cost 1 sX12_cost_1 := dc_n1 aX12_cost_0
theorem aX12_cost_2 : dc_at cX12_cost 2 sX12_cost_2 := dc_n1 aX12_cost_1
theorem aX12_cost_3 : dc_at cX12_cost 3 sX12_cost_3 := dc_n1 aX12_cost_2
theorem aX12_cost_6 : dc_at cX12_cost 6 sX12_cost_6 := dc_n3 aX12_cost_3
theorem aX12_cost_9 : dc_at cX12_cost 9 sX12_cost_9 := dc_n3 aX12_cost_6
theorem aX12_cost_10 : dc_at cX12_cost 10 sX12_cost_10 := dc_n1 aX12_cost_9
theorem aX12_cost_11 : dc_at cX12_cost 11 sX12_cost_11 := dc_n1 aX12_cost_10
theorem aX12_cost_12 : dc_at cX12_cost 12 sX12_cost_12 := dc_n1 aX12_cost_11
theorem aX12_cost_13 : dc_at cX12_cost 13 sX12_cost_13 := dc_n1 aX12_cost_12
theorem aX12_cost_16 : dc_at cX12_cost 16 sX12_cost_16 := dc_n3 aX12_cost_13
theorem aX12_cost_19 : dc_at cX12_cost 19 sX12_cost_19 := dc_n3 aX12_cost_16
theorem aX12_cost_21 : dc_at cX12_cost 21 sX12_cost_21 := dc_n2 aX12_cost_19
theorem aX12_cost_22 : dc_at cX12_cost 22 sX12_cost_22 := dc_n1 aX12_cost_21
theorem aX12_cost_24 : dc_at cX12_cost 24 sX12_cost_24 := dc_n2 aX12_cost_22
theorem aX12_cost_27 : dc_at cX12_cost 27 sX12_cost_27 := dc_n3 aX12_cost_24
theorem aX12_cost_30 : dc_at cX12_cost 30 sX12_cost_30 := dc_n3 aX12_cost_27
theorem aX12_cost_31 : dc_at cX12_cost 31 sX12_cost_31 := dc_n1 aX12_cost_30
theorem aX12_cost_34 : dc_at cX12_cost 34 sX12_cost_34 := dc_n3 aX12_cost_31
theorem aX12_cost_35 : dc_at cX12_cost 35 sX12_cost_35 := dc_n1 aX12_cost_34
theorem aX12_cost_36 : dc_at cX12_cost 36 sX12_cost_36 := dc_n1 aX12_cost_35
theorem aX12_cost_39 : dc_at cX12_cost 39 sX12_cost_39 := dc_n3 aX12_cost_36
theorem aX12_cost_42 : dc_at cX12_cost 42 sX12_cost_42 := dc_n3 aX12_cost_39
theorem aX12_cost_43 : dc_at cX12_cost 43 sX12_cost_43 := dc_n1 aX12_cost_42
theorem aX12_cost_44 : dc_at cX12_cost 44 sX12_cost_44 := dc_n1 aX12_cost_43
theorem aX12_cost_45 : dc_at cX12_cost 45 sX12_cost_45 := dc_n1 aX12_cost_44
theorem aX12_cost_47 : dc_at cX12_cost 47 sX12_cost_47 := dc_n2 aX12_cost_45
theorem aX12_cost_48 : dc_at cX12_cost 48 sX12_cost_48 := dc_n1 aX12_cost_47
theorem aX12_cost_49 : dc_at cX12_cost 49 sX12_cost_49 := dc_n1 aX12_cost_48
theorem aX12_cost_50 : dc_at cX12_cost 50 sX12_cost_50 := dc_n1 aX12_cost_49
theorem aX12_cost_51 : dc_at cX12_cost 51 sX12_cost_51 := dc_n1 aX12_cost_50
theorem aX12_cost_52 : dc_at cX12_cost 52 sX12_cost_52 := dc_n1 aX12_cost_51
theorem aX12_cost_54 : dc_at cX12_cost 54 sX12_cost_54 := dc_n2 aX12_cost_52
theorem aX12_cost_57 : dc_at cX12_cost 57 sX12_cost_57 := dc_n3 aX12_cost_54
theorem aX12_cost_60 : dc_at cX12_cost 60 sX12_cost_60 := dc_n3 aX12_cost_57
theorem dX12_cost_0 : decode cX12_cost 0 = .ok (.aload_n 0, 1) := dc_42 aX12_cost_0
theorem dX12_cost_1 : decode cX12_cost 1 = .ok (.iload_n 1, 1) := dc_27 aX12_cost_1
theorem dX12_cost_2 : decode cX12_cost 2 = .ok (.iload_n 2, 1) := dc_28 aX12_cost_2
theorem dX12_cost_3 : decode cX12_cost 3 = .ok (.invokevirtual 247, 3) := dc_182 (a0 := 0) (b0 := 247) aX12_cost_3
theorem dX12_cost_6 : decode cX12_cost 6 = .ok (.ifCond .eq 36, 3) := dc_153 (a0 := 0) (b0 := 36) aX12_cost_6 (by decide)
theorem dX12_cost_9 : decode cX12_cost 9 = .ok (.aload_n 0, 1) := dc_42 aX12_cost_9
theorem dX12_cost_10 : decode cX12_cost 10 = .ok (.iload_n 3, 1) := dc_29 aX12_cost_10
theorem dX12_cost_11 : decode cX12_cost 11 = .ok (.iconst 0, 1) := dc_3 aX12_cost_11
theorem dX12_cost_12 : decode cX12_cost 12 = .ok (.iconst 3, 1) := dc_6 aX12_cost_12
theorem dX12_cost_13 : decode cX12_cost 13 = .ok (.invokestatic 270, 3) := dc_184 (a0 := 1) (b0 := 14) aX12_cost_13
theorem dX12_cost_16 : decode cX12_cost 16 = .ok (.ifCond .eq 18, 3) := dc_153 (a0 := 0) (b0 := 18) aX12_cost_16 (by decide)
theorem dX12_cost_19 : decode cX12_cost 19 = .ok (.iload 4, 2) := dc_21 (a0 := 4) aX12_cost_19
theorem dX12_cost_21 : decode cX12_cost 21 = .ok (.iconst 0, 1) := dc_3 aX12_cost_21
theorem dX12_cost_22 : decode cX12_cost 22 = .ok (.ldc 218, 2) := dc_18 (a0 := 218) aX12_cost_22
theorem dX12_cost_24 : decode cX12_cost 24 = .ok (.invokestatic 270, 3) := dc_184 (a0 := 1) (b0 := 14) aX12_cost_24
theorem dX12_cost_27 : decode cX12_cost 27 = .ok (.ifCond .eq 7, 3) := dc_153 (a0 := 0) (b0 := 7) aX12_cost_27 (by decide)
theorem dX12_cost_30 : decode cX12_cost 30 = .ok (.iconst 1, 1) := dc_4 aX12_cost_30
theorem dX12_cost_31 : decode cX12_cost 31 = .ok (.goto 4, 3) := dc_167 (a0 := 0) (b0 := 4) aX12_cost_31 (by decide)
theorem dX12_cost_34 : decode cX12_cost 34 = .ok (.iconst 0, 1) := dc_3 aX12_cost_34
theorem dX12_cost_35 : decode cX12_cost 35 = .ok (.iconst 1, 1) := dc_4 aX12_cost_35
theorem dX12_cost_36 : decode cX12_cost 36 = .ok (.invokevirtual 209, 3) := dc_182 (a0 := 0) (b0 := 209) aX12_cost_36
theorem dX12_cost_39 : decode cX12_cost 39 = .ok (.ifCond .ne 5, 3) := dc_154 (a0 := 0) (b0 := 5) aX12_cost_39 (by decide)
theorem dX12_cost_42 : decode cX12_cost 42 = .ok (.iconst 0, 1) := dc_3 aX12_cost_42
theorem dX12_cost_43 : decode cX12_cost 43 = .ok (.ireturn, 1) := dc_172 aX12_cost_43
theorem dX12_cost_44 : decode cX12_cost 44 = .ok (.aload_n 0, 1) := dc_42 aX12_cost_44
theorem dX12_cost_45 : decode cX12_cost 45 = .ok (.bipush 20, 2) := dc_16 (a0 := 20) aX12_cost_45 (by decide)
theorem dX12_cost_47 : decode cX12_cost 47 = .ok (.iload_n 1, 1) := dc_27 aX12_cost_47
theorem dX12_cost_48 : decode cX12_cost 48 = .ok (.imul, 1) := dc_104 aX12_cost_48
theorem dX12_cost_49 : decode cX12_cost 49 = .ok (.iload_n 2, 1) := dc_28 aX12_cost_49
theorem dX12_cost_50 : decode cX12_cost 50 = .ok (.iadd, 1) := dc_96 aX12_cost_50
theorem dX12_cost_51 : decode cX12_cost 51 = .ok (.iload_n 3, 1) := dc_29 aX12_cost_51
theorem dX12_cost_52 : decode cX12_cost 52 = .ok (.iload 4, 2) := dc_21 (a0 := 4) aX12_cost_52
theorem dX12_cost_54 : decode cX12_cost 54 = .ok (.sipush 999, 3) := dc_17 (a0 := 3) (b0 := 231) aX12_cost_54 (by decide)
theorem dX12_cost_57 : decode cX12_cost 57 = .ok (.invokevirtual 286, 3) := dc_182 (a0 := 1) (b0 := 30) aX12_cost_57
theorem dX12_cost_60 : decode cX12_cost 60 = .ok (.ireturn, 1) := dc_172 aX12_cost_60
set_option maxRecDepth 20000 in
theorem ggX12_isSpan_X12_within : GoodIn wsX12_isSpan wsX12_within := goodIn_k _ [[6]] (by rfl) (by decide +kernel)
set_option maxRecDepth 20000 in
theorem gX12_isSpan_X12_within : GoodIn wsX12_isSpan (va_wsS RX12 270 yX12_within wsX12_within) := goodIn_app (goodIn_of _ (by decide +kernel)) ggX12_isSpan_X12_within
set_option maxRecDepth 20000 in
theorem ggX12_isSpan_X12_right : GoodIn wsX12_isSpan wsX12_right := goodIn_k _ [[10, 0, 0, 0, 0, 0, 0, 0, 0, 0, 0, 0, 0, 0, 0, 0, 0, 0, 0, 0, 0, 0, 0, 0, 0, 0, 0, 0, 0, 0, 0, 0, 0, 0, 0, 0, 0, 0, 0, 0, 0, 0, 0, 0, 0, 0, 0, 0, 0, 0, 0, 0, 0, 0, 0, 0, 0, 0, 0, 0]] (by rfl) (by decide +kernel)
set_option maxRecDepth 20000 in
theorem gX12_isSpan_X12_right : GoodIn wsX12_isSpan (wsV RX12 209 RX12 yX12_right wsX12_right) := goodIn_app (goodIn_of _ (by decide +kernel)) ggX12_isSpan_X12_right
noncomputable def sX12_isSpan_52 : List Nat := 172 :: []
noncomputable def sX12_isSpan_51 : List Nat := 3 :: sX12_isSpan_52
noncomputable def sX12_isSpan_48 : List Nat := 167 :: 0 :: 4 :: sX12_isSpan_51
noncomputable def sX12_isSpan_47 : List Nat := 4 :: sX12_isSpan_48
noncomputable def sX12_isSpan_44 : List Nat := 153 :: 0 :: 7 :: sX12_isSpan_47
noncomputable def sX12_isSpan_41 : List Nat := 182 :: 0 :: 209 :: sX12_isSpan_44
noncomputable def sX12_isSpan_40 : List Nat := 5 :: sX12_isSpan_41
noncomputable def sX12_isSpan_39 : List Nat := 3 :: sX12_isSpan_40
noncomputable def sX12_isSpan_36 : List Nat := 167 :: 0 :: 4 :: sX12_isSpan_39
noncomputable def sX12_isSpan_35 : List Nat := 4 :: sX12_isSpan_36
noncomputable def sX12_isSpan_32 : List Nat := 163 :: 0 :: 7 :: sX12_isSpan_35
noncomputable def sX12_isSpan_30 : List Nat := 18 :: 218 :: sX12_isSpan_32
noncomputable def sX12_isSpan_29 : List Nat := 96 :: sX12_isSpan_30
noncomputable def sX12_isSpan_28 : List Nat := 28 :: sX12_isSpan_29
noncomputable def sX12_isSpan_27 : List Nat := 27 :: sX12_isSpan_28
noncomputable def sX12_isSpan_24 : List Nat := 153 :: 0 :: 15 :: sX12_isSpan_27
noncomputable def sX12_isSpan_21 : List Nat := 184 :: 1 :: 14 :: sX12_isSpan_24
noncomputable def sX12_isSpan_18 : List Nat := 19 :: 1 :: 34 :: sX12_isSpan_21
noncomputable def sX12_isSpan_17 : List Nat := 3 :: sX12_isSpan_18
noncomputable def sX12_isSpan_16 : List Nat := 28 :: sX12_isSpan_17
noncomputable def sX12_isSpan_15 : List Nat := 42 :: sX12_isSpan_16
noncomputable def sX12_isSpan_12 : List Nat := 153 :: 0 :: 39 :: sX12_isSpan_15
noncomputable def sX12_isSpan_9 : List Nat := 182 :: 0 :: 209 :: sX12_isSpan_12
noncomputable def sX12_isSpan_8 : List Nat := 4 :: sX12_isSpan_9
noncomputable def sX12_isSpan_5 : List Nat := 184 :: 1 :: 14 :: sX12_isSpan_8
noncomputable def sX12_isSpan_3 : List Nat := 18 :: 218 :: sX12_isSpan_5
noncomputable def sX12_isSpan_2 : List Nat := 3 :: sX12_isSpan_3
noncomputable def sX12_isSpan_1 : List Nat := 27 :: sX12_isSpan_2
noncomputable def sX12_isSpan_0 : List Nat := 42 :: sX12_isSpan_1
theorem aX12_isSpan_0 : dc_at cX12_isSpan 0 sX12_isSpan_0 := dc_base (by decide +kernel)
theorem aX12_isSpan_1 : dc_at cX12_isSpan 1 sX12_isSpan_1 := dc_n1 aX12_isSpan_0
theorem aX12_isSpan_2 : dc_at cX12_isSpan 2 sX12_isSpan_2 := dc_n1 aX12_isSpan_1
theorem aX12_isSpan_3 : dc_at cX12_isSpan 3 sX12_isSpan_3 := dc_n1 aX12_isSpan_2
theorem aX12_isSpan_5 : dc_at cX12_isSpan 5 sX12_isSpan_5 := dc_n2 aX12_isSpan_3
theorem aX12_isSpan_8 : dc_at cX12_isSpan 8 sX12_isSpan_8 := dc_n3 aX12_isSpan_5
theorem aX12_isSpan_9 : dc_at cX12_isSpan 9 sX12_isSpan_9 := dc_n1 aX12_isSpan_8
theorem aX12_isSpan_12 : dc_at cX12_isSpan 12 sX12_isSpan_12 := dc_n3 aX12_isSpan_9
theorem aX12_isSpan_15 : dc_at cX12_isSpan 15 sX12_isSpan_15 := dc_n3 aX12_isSpan_12
theorem aX12_isSpan_16 : dc_at cX12_isSpan 16 sX12_isSpan_16 := dc_n1 aX12_isSpan_15
theorem aX12_isSpan_17 : dc_at cX12_isSpan 17 sX12_isSpan_17 := dc_n1 aX12_isSpan_16
theorem aX12_isSpan_18 : dc_at cX12_isSpan 18 sX12_isSpan_18 := dc_n1 aX12_isSpan_17
theorem aX12_isSpan_21 : dc_at cX12_isSpan 21 sX12_isSpan_21 := dc_n3 aX12_isSpan_18
theorem aX12_isSpan_24 : dc_at cX12_isSpan 24 sX12_isSpan_24 := dc_n3 aX12_isSpan_21
theorem aX12_isSpan_27 : dc_at cX12_isSpan 27 sX12_isSpan_27 := dc_n3 aX12_isSpan_24
theorem aX12_isSpan_28 : dc_at cX12_isSpan 28 sX12_isSpan_28 := dc_n1 aX12_isSpan_27
theorem aX12_isSpan_29 : dc_at cX12_isSpan 29 sX12_isSpan_29 := dc_n1 aX12_isSpan_28
theorem aX12_isSpan_30 : dc_at cX12_isSpan 30 sX12_isSpan_30 := dc_n1 aX12_isSpan_29
theorem aX12_isSpan_32 : dc_at cX12_isSpan 32 sX12_isSpan_32 := dc_n2 aX12_isSpan_30
theorem aX12_isSpan_35 : dc_at cX12_isSpan 35 sX12_isSpan_35 := dc_n3 aX12_isSpan_32
theorem aX12_isSpan_36 : dc_at cX12_isSpan 36 sX12_isSpan_36 := dc_n1 aX12_isSpan_35
theorem aX12_isSpan_39 : dc_at cX12_isSpan 39 sX12_isSpan_39 := dc_n3 aX12_isSpan_36
theorem aX12_isSpan_40 : dc_at cX12_isSpan 40 sX12_isSpan_40 := dc_n1 aX12_isSpan_39
theorem aX12_isSpan_41 : dc_at cX12_isSpan 41 sX12_isSpan_41 := dc_n1 aX12_isSpan_40
theorem aX12_isSpan_44 : dc_at cX12_isSpan 44 sX12_isSpan_44 := dc_n3 aX12_isSpan_41
theorem aX12_isSpan_47 : dc_at cX12_isSpan 47 sX12_isSpan_47 := dc_n3 aX12_isSpan_44
theorem aX12_isSpan_48 : dc_at cX12_isSpan 48 sX12_isSpan_48 := dc_n1 aX12_isSpan_47
theorem aX12_isSpan_51 : dc_at cX12_isSpan 51 sX12_isSpan_51 := dc_n3 aX12_isSpan_48
theorem aX12_isSpan_52 : dc_at cX12_isSpan 52 sX12_isSpan_52 := dc_n1 aX12_isSpan_51
theorem dX12_isSpan_0 : decode cX12_isSpan 0 = .ok (.aload_n 0, 1) := dc_42 aX12_isSpan_0
theorem dX12_isSpan_1 : decode cX12_isSpan 1 = .ok (.iload_n 1, 1) := dc_27 aX12_isSpan_1
theorem dX12_isSpan_2 : decode cX12_isSpan 2 = .ok (.iconst 0, 1) := dc_3 aX12_isSpan_2
theorem dX12_isSpan_3 : decode cX12_isSpan 3 = .ok (.ldc 218, 2) := dc_18 (a0 := 218) aX12_isSpan_3
theorem dX12_isSpan_5 : decode cX12_isSpan 5 = .ok (.invokestatic 270, 3) := dc_184 (a0 := 1) (b0 := 14) aX12_isSpan_5
theorem dX12_isSpan_8 : decode cX12_isSpan 8 = .ok (.iconst 1, 1) := dc_4 aX12_isSpan_8
theorem dX12_isSpan_9 : decode cX12_isSpan 9 = .ok (.invokevirtual 209, 3) := dc_182 (a0 := 0) (b0 := 209) aX12_isSpan_9
theorem dX12_isSpan_12 : decode cX12_isSpan 12 = .ok (.ifCond .eq 39, 3) := dc_153 (a0 := 0) (b0 := 39) aX12_isSpan_12 (by decide)
theorem dX12_isSpan_15 : decode cX12_isSpan 15 = .ok (.aload_n 0, 1) := dc_42 aX12_isSpan_15
theorem dX12_isSpan_16 : decode cX12_isSpan 16 = .ok (.iload_n 2, 1) := dc_28 aX12_isSpan_16
theorem dX12_isSpan_17 : decode cX12_isSpan 17 = .ok (.iconst 0, 1) := dc_3 aX12_isSpan_17
theorem dX12_isSpan_18 : decode cX12_isSpan 18 = .ok (.ldc_w 290, 3) := dc_19 (a0 := 1) (b0 := 34) aX12_isSpan_18
theorem dX12_isSpan_21 : decode cX12_isSpan 21 = .ok (.invokestatic 270, 3) := dc_184 (a0 := 1) (b0 := 14) aX12_isSpan_21
theorem dX12_isSpan_24 : decode cX12_isSpan 24 = .ok (.ifCond .eq 15, 3) := dc_153 (a0 := 0) (b0 := 15) aX12_isSpan_24 (by decide)
theorem dX12_isSpan_27 : decode cX12_isSpan 27 = .ok (.iload_n 1, 1) := dc_27 aX12_isSpan_27
theorem dX12_isSpan_28 : decode cX12_isSpan 28 = .ok (.iload_n 2, 1) := dc_28 aX12_isSpan_28
theorem dX12_isSpan_29 : decode cX12_isSpan 29 = .ok (.iadd, 1) := dc_96 aX12_isSpan_29
theorem dX12_isSpan_30 : decode cX12_isSpan 30 = .ok (.ldc 218, 2) := dc_18 (a0 := 218) aX12_isSpan_30
theorem dX12_isSpan_32 : decode cX12_isSpan 32 = .ok (.if_icmp .gt 7, 3) := dc_163 (a0 := 0) (b0 := 7) aX12_isSpan_32 (by decide)
theorem dX12_isSpan_35 : decode cX12_isSpan 35 = .ok (.iconst 1, 1) := dc_4 aX12_isSpan_35
theorem dX12_isSpan_36 : decode cX12_isSpan 36 = .ok (.goto 4, 3) := dc_167 (a0 := 0) (b0 := 4) aX12_isSpan_36 (by decide)
theorem dX12_isSpan_39 : decode cX12_isSpan 39 = .ok (.iconst 0, 1) := dc_3 aX12_isSpan_39
theorem dX12_isSpan_40 : decode cX12_isSpan 40 = .ok (.iconst 2, 1) := dc_5 aX12_isSpan_40
theorem dX12_isSpan_41 : decode cX12_isSpan 41 = .ok (.invokevirtual 209, 3) := dc_182 (a0 := 0) (b0 := 209) aX12_isSpan_41
theorem dX12_isSpan_44 : decode cX12_isSpan 44 = .ok (.ifCond .eq 7, 3) := dc_153 (a0 := 0) (b0 := 7) aX12_isSpan_44 (by decide)
theorem dX12_isSpan_47 : decode cX12_isSpan 47 = .ok (.iconst 1, 1) := dc_4 aX12_isSpan_47
theorem dX12_isSpan_48 : decode cX12_isSpan 48 = .ok (.goto 4, 3) := dc_167 (a0 := 0) (b0 := 4) aX12_isSpan_48 (by decide)
theorem dX12_isSpan_51 : decode cX12_isSpan 51 = .ok (.iconst 0, 1) := dc_3 aX12_isSpan_51
theorem dX12_isSpan_52 : decode cX12_isSpan 52 = .ok (.ireturn, 1) := dc_172 aX12_isSpan_52
set_option maxRecDepth 20000 in
theorem ggX12_best_X12_isWheel : GoodIn wsX12_best wsX12_isWheel := goodIn_k _ [[7, 0, 0, 0, 0], [6, 5, 47, 0, 0, 0, 0, 0, 0, 0, 0, 0, 0, 0, 0, 0, 0, 0, 0, 0, 0, 0, 0, 0, 0, 0, 0, 0, 0, 0, 0, 0, 0, 0, 0, 0, 0, 0, 0, 0, 0, 0, 0, 0, 0, 0, 0, 0, 0, 0, 0, 0, 0, 0, 0, 0, 0, 0, 0, 0]] (by rfl) (by decide +kernel)
set_option maxRecDepth 20000 in
theorem gX12_best_X12_isWheel : GoodIn wsX12_best (wsV RX12 247 RX12 yX12_isWheel wsX12_isWheel) := goodIn_app (goodIn_of _ (by decide +kernel)) ggX12_best_X12_isWheel
set_option maxRecDepth 20000 in
theorem ggX12_best_X12_within : GoodIn wsX12_best wsX12_within := goodIn_k _ [[15]] (by rfl) (by decide +kernel)
set_option maxRecDepth 20000 in
theorem gX12_best_X12_within : GoodIn wsX12_best (va_wsS RX12 270 yX12_within wsX12_within) := goodIn_app (goodIn_of _ (by decide +kernel)) ggX12_best_X12_within
set_option maxRecDepth 20000 in
theorem ggX12_best_X12_right : GoodIn wsX12_best wsX12_right := goodIn_k _ [[12], [8, 51, 0, 0, 0, 0, 0, 0, 0, 0, 0, 0, 0, 0, 0, 0, 0, 0, 0, 0, 0, 0, 0, 0, 0, 0, 0, 0, 0, 0, 0, 0, 0, 0, 0, 0, 0, 0, 0, 0, 0, 0, 0, 0, 0, 0, 0, 0, 0, 0, 0, 0, 0, 0, 0, 0, 0, 0, 0]] (by rfl) (by decide +kernel)
set_option maxRecDepth 20000 in
theorem gX12_best_X12_right : GoodIn wsX12_best (wsV RX12 209 RX12 yX12_right wsX12_right) := goodIn_app (goodIn_of _ (by decide +kernel)) ggX12_best_X12_right
set_option maxRecDepth 20000 in
theorem ggX12_best_X12_isSpan : GoodIn wsX12_best wsX12_isSpan := goodIn_k _ [[19, 0, 0], [13, 0], [6, 8], [9, 0, 0, 0], [8, 51, 0, 0, 0, 0, 0, 0, 0, 0, 0, 0, 0, 0, 0, 0, 0, 0, 0, 0, 0, 0, 0, 0, 0, 0, 0, 0, 0, 0, 0, 0, 0, 0, 0, 0, 0, 0, 0, 0, 0, 0, 0, 0, 0, 0, 0, 0, 0, 0, 0, 0, 0, 0, 0, 0, 0, 0, 0]] (by rfl) (by decide +kernel)
set_option maxRecDepth 20000 in
theorem gX12_best_X12_isSpan : GoodIn wsX12_best (wsV RX12 291 RX12 yX12_isSpan wsX12_isSpan) := goodIn_app (goodIn_of _ (by decide +kernel)) ggX12_best_X12_isSpan
set_option maxRecDepth 20000 in
theorem ggX12_best_X12_costOn : GoodIn wsX12_best wsX12_costOn := goodIn_k _ [[25, 0, 0, 0], [6, 22, 0, 0, 0, 0, 0, 0, 0, 0, 0, 0, 0, 0, 0, 0, 0, 0, 0, 0, 0, 0, 0, 0, 0, 0, 0, 0, 0, 0, 0, 0, 0, 0, 0, 0, 0, 0, 0, 0, 0, 0, 0, 0, 0, 0, 0, 0, 0, 0, 0, 0, 0, 0, 0, 0, 0, 0, 0, 0, 0, 0, 0, 0, 0, 0, 0, 0, 0, 0, 0, 0, 0, 0, 0, 0, 0, 0, 0, 0, 0, 0, 0, 0, 0, 0, 0, 0, 0, 0]] (by rfl) (by decide +kernel)
set_option maxRecDepth 20000 in
theorem gX12_best_X12_costOn : GoodIn wsX12_best (wsV RX12 286 RX12 yX12_costOn wsX12_costOn) := goodIn_app (goodIn_of _ (by decide +kernel)) ggX12_best_X12_costOn
noncomputable def sX12_best_136 : List Nat := 172 :: []
noncomputable def sX12_best_134 : List Nat := 21 :: 6 :: sX12_best_136
noncomputable def sX12_best_131 : List Nat := 167 :: 255 :: 170 :: sX12_best_134
noncomputable def sX12_best_128 : List Nat := 132 :: 7 :: 1 :: sX12_best_131
noncomputable def sX12_best_125 : List Nat := 181 :: 0 :: 65 :: sX12_best_128
noncomputable def sX12_best_124 : List Nat := 96 :: sX12_best_125
noncomputable def sX12_best_123 : List Nat := 4 :: sX12_best_124
noncomputable def sX12_best_120 : List Nat := 180 :: 0 :: 65 :: sX12_best_123
noncomputable def sX12_best_119 : List Nat := 89 :: sX12_best_120
noncomputable def sX12_best_118 : List Nat := 42 :: sX12_best_119
noncomputable def sX12_best_117 : List Nat := 79 :: sX12_best_118
noncomputable def sX12_best_115 : List Nat := 21 :: 7 :: sX12_best_117
noncomputable def sX12_best_112 : List Nat := 180 :: 0 :: 65 :: sX12_best_115
noncomputable def sX12_best_111 : List Nat := 42 :: sX12_best_112
noncomputable def sX12_best_108 : List Nat := 180 :: 0 :: 68 :: sX12_best_111
noncomputable def sX12_best_107 : List Nat := 42 :: sX12_best_108
noncomputable def sX12_best_104 : List Nat := 162 :: 0 :: 14 :: sX12_best_107
noncomputable def sX12_best_102 : List Nat := 16 :: 20 :: sX12_best_104
noncomputable def sX12_best_99 : List Nat := 180 :: 0 :: 65 :: sX12_best_102
noncomputable def sX12_best_98 : List Nat := 42 :: sX12_best_99
noncomputable def sX12_best_96 : List Nat := 54 :: 6 :: sX12_best_98
noncomputable def sX12_best_94 : List Nat := 21 :: 8 :: sX12_best_96
noncomputable def sX12_best_91 : List Nat := 181 :: 0 :: 65 :: sX12_best_94
noncomputable def sX12_best_90 : List Nat := 3 :: sX12_best_91
noncomputable def sX12_best_89 : List Nat := 42 :: sX12_best_90
noncomputable def sX12_best_86 : List Nat := 162 :: 0 :: 8 :: sX12_best_89
noncomputable def sX12_best_84 : List Nat := 21 :: 6 :: sX12_best_86
noncomputable def sX12_best_82 : List Nat := 21 :: 8 :: sX12_best_84
noncomputable def sX12_best_79 : List Nat := 167 :: 0 :: 49 :: sX12_best_82
noncomputable def sX12_best_76 : List Nat := 164 :: 0 :: 6 :: sX12_best_79
noncomputable def sX12_best_74 : List Nat := 21 :: 6 :: sX12_best_76
noncomputable def sX12_best_72 : List Nat := 21 :: 8 :: sX12_best_74
noncomputable def sX12_best_70 : List Nat := 54 :: 8 :: sX12_best_72
noncomputable def sX12_best_67 : List Nat := 182 :: 1 :: 30 :: sX12_best_70
noncomputable def sX12_best_65 : List Nat := 21 :: 6 :: sX12_best_67
noncomputable def sX12_best_63 : List Nat := 21 :: 7 :: sX12_best_65
noncomputable def sX12_best_62 : List Nat := 29 :: sX12_best_63
noncomputable def sX12_best_61 : List Nat := 96 :: sX12_best_62
noncomputable def sX12_best_60 : List Nat := 28 :: sX12_best_61
noncomputable def sX12_best_59 : List Nat := 104 :: sX12_best_60
noncomputable def sX12_best_58 : List Nat := 27 :: sX12_best_59
noncomputable def sX12_best_56 : List Nat := 16 :: 20 :: sX12_best_58
noncomputable def sX12_best_55 : List Nat := 42 :: sX12_best_56
noncomputable def sX12_best_52 : List Nat := 163 :: 0 :: 82 :: sX12_best_55
noncomputable def sX12_best_51 : List Nat := 96 :: sX12_best_52
noncomputable def sX12_best_49 : List Nat := 21 :: 5 :: sX12_best_51
noncomputable def sX12_best_47 : List Nat := 21 :: 4 :: sX12_best_49
noncomputable def sX12_best_45 : List Nat := 21 :: 7 :: sX12_best_47
noncomputable def sX12_best_43 : List Nat := 54 :: 7 :: sX12_best_45
noncomputable def sX12_best_41 : List Nat := 21 :: 4 :: sX12_best_43
noncomputable def sX12_best_39 : List Nat := 54 :: 6 :: sX12_best_41
noncomputable def sX12_best_36 : List Nat := 17 :: 3 :: 231 :: sX12_best_39
noncomputable def sX12_best_35 : List Nat := 172 :: sX12_best_36
noncomputable def sX12_best_34 : List Nat := 3 :: sX12_best_35
noncomputable def sX12_best_31 : List Nat := 154 :: 0 :: 5 :: sX12_best_34
noncomputable def sX12_best_28 : List Nat := 182 :: 1 :: 35 :: sX12_best_31
noncomputable def sX12_best_26 : List Nat := 21 :: 5 :: sX12_best_28
noncomputable def sX12_best_24 : List Nat := 21 :: 4 :: sX12_best_26
noncomputable def sX12_best_23 : List Nat := 42 :: sX12_best_24
noncomputable def sX12_best_20 : List Nat := 153 :: 0 :: 14 :: sX12_best_23
noncomputable def sX12_best_17 : List Nat := 182 :: 0 :: 209 :: sX12_best_20
noncomputable def sX12_best_16 : List Nat := 4 :: sX12_best_17
noncomputable def sX12_best_13 : List Nat := 184 :: 1 :: 14 :: sX12_best_16
noncomputable def sX12_best_12 : List Nat := 6 :: sX12_best_13
noncomputable def sX12_best_11 : List Nat := 3 :: sX12_best_12
noncomputable def sX12_best_10 : List Nat := 29 :: sX12_best_11
noncomputable def sX12_best_9 : List Nat := 42 :: sX12_best_10
noncomputable def sX12_best_6 : List Nat := 153 :: 0 :: 28 :: sX12_best_9
noncomputable def sX12_best_3 : List Nat := 182 :: 0 :: 247 :: sX12_best_6
noncomputable def sX12_best_2 : List Nat := 28 :: sX12_best_3
noncomputable def sX12_best_1 : List Nat := 27 :: sX12_best_2
noncomputable def sX12_best_0 : List Nat := 42 :: sX12_best_1
theorem aX12_best_0 : dc_at cX12_best 0 sX12_best_0 := dc_base (by decide +kernel)
theorem aX12_best_1 : dc_at cX12_best 1 sX12_best_1 := dc_n1 aX12_best_0
theorem aX12_best_2 : dc_at cX12_best 2 sX12_best_2 := dc_n1 aX12_best_1
theorem aX12_best_3 : dc_at cX12_best 3 sX12_best_3 := dc_n1 aX12_best_2
theorem aX12_best_6 : dc_at cX12_best 6 sX12_best_6 := dc_n3 aX12_best_3
theorem aX12_best_9 : dc_at cX12_best 9 sX12_best_9 := dc_n3 aX12_best_6
theorem aX12_best_10 : dc_at cX12_best 10 sX12_best_10 := dc_n1 aX12_best_9
theorem aX12_best_11 : dc_at cX12_best 11 sX12_best_11 := dc_n1 aX12_best_10
theorem aX12_best_12 : dc_at cX12_best 12 sX12_best_12 := dc_n1 aX12_best_11
theorem aX12_best_13 : dc_at cX12_best 13 sX12_best_13 := dc_n1 aX12_best_12
theorem aX12_best_16 : dc_at cX12_best 16 sX12_best_16 := dc_n3 aX12_best_13
theorem aX12_best_17 : dc_at cX12_best 17 sX12_best_17 := dc_n1 aX12_best_16
theorem aX12_best_20 : dc_at cX12_best 20 sX12_best_20 := dc_n3 aX12_best_17
theorem aX12_best_23 : dc_at cX12_best 23 sX12_best_23 := dc_n3 aX12_best_20
theorem aX12_best_24 : dc_at cX12_best 24 sX12_best_24 := dc_n1 aX12_best_23
theorem aX12_best_26 : dc_at cX12_best 26 sX12_best_26 := dc_n2 aX12_best_24
theorem aX12_best_28 : dc_at cX12_best 28 sX12_best_28 := dc_n2 aX12_best_26
theorem aX12_best_31 : dc_at cX12_best 31 sX12_best_31 := dc_n3 aX12_best_28
theorem aX12_best_34 : dc_at cX12_best 34 sX12_best_34 := dc_n3 aX12_best_31
theorem aX12_best_35 : dc_at cX12_best 35 sX12_best_35 := dc_n1 aX12_best_34
theorem aX12_best_36 : dc_at cX12_best 36 sX12_best_36 := dc_n1 aX12_best_35
theorem aX12_best_39 : dc_at cX12_best 39 sX12_best_39 := dc_n3 aX12_best_36
theorem aX12_best_41 : dc_at cX12_best 41 sX12_best_41 := dc_n2 aX12_best_39
theorem aX12_best_43 : dc_at cX12_best 43 sX12_best_43 := dc_n2 aX12_best_41
theorem aX12_best_45 : dc_at cX12_best 45 sX12_best_45 := dc_n2 aX12_best_43
theorem aX12_best_47 : dc_at cX12_best 47 sX12_best_47 := dc_n2 aX12_best_45
theorem aX12_best_49 : dc_at cX12_best 49 sX12_best_49 := dc_n2 aX12_best_47
theorem aX12_best_51 : dc_at cX12_best 51 sX12_best_51 := dc_n2 aX12_best_49
theorem aX12_best_52 : dc_at cX12_best 52 sX12_best_52 := dc_n1 aX12_best_51
theorem aX12_best_55 : dc_at cX12_best 55 sX12_best_55 := dc_n3 aX12_best_52
theorem aX12_best_56 : dc_at cX12_best 56 sX12_best_56 := dc_n1 aX12_best_55
theorem aX12_best_58 : dc_at cX12_best 58 sX12_best_58 := dc_n2 aX12_best_56
theorem aX12_best_59 : dc_at cX12_best 59 sX12_best_59 := dc_n1 aX12_best_58
theorem aX12_best_60 : dc_at cX12_best 60 sX12_best_60 := dc_n1 aX12_best_59
theorem aX12_best_61 : dc_at cX12_best 61 sX12_best_61 := dc_n1 aX12_best_60
theorem aX12_best_62 : dc_at cX12_best 62 sX12_best_62 := dc_n1 aX12_best_61
theorem aX12_best_63 : dc_at cX12_best 63 sX12_best_63 := dc_n1 aX12_best_62
theorem aX12_best_65 : dc_at cX12_best 65 sX12_best_65 := dc_n2 aX12_best_63
theorem aX12_best_67 : dc_at cX12_best 67 sX12_best_67 := dc_n2 aX12_best_65
theorem aX12_best_70 : dc_at cX12_best 70 sX12_best_70 := dc_n3 aX12_best_67
theorem aX12_best_72 : dc_at cX12_best 72 sX12_best_72 := dc_n2 aX12_best_70
theorem aX12_best_74 : dc_at cX12_best 74 sX12_best_74 := dc_n2 aX12_best_72
theorem aX12_best_76 : dc_at cX12_best 76 sX12_best_76 := dc_n2 aX12_best_74
theorem aX12_best_79 : dc_at cX12_best 79 sX12_best_79 := dc_n3 aX12_best_76
theorem aX12_best_82 : dc_at cX12_best 82 sX12_best_82 := dc_n3 aX12_best_79
theorem aX12_best_84 : dc_at cX12_best 84 sX12_best_84 := dc_n2 aX12_best_82
theorem aX12_best_86 : dc_at cX12_best 86 sX12_best_86 := dc_n2 aX12_best_84
theorem aX12_best_89 : dc_at cX12_best 89 sX12_best_89 := dc_n3 aX12_best_86
theorem aX12_best_90 : dc_at cX12_best 90 sX12_best_90 := dc_n1 aX12_best_89
theorem aX12_best_91 : dc_at cX12_best 91 sX12_best_91 := dc_n1 aX12_best_90
theorem aX12_best_94 : dc_at cX12_best 94 sX12_best_94 := dc_n3 aX12_best_91
theorem aX12_best_96 : dc_at cX12_best 96 sX12_best_96 := dc_n2 aX12_best_94
theorem aX12_best_98 : dc_at cX12_best 98 sX12_best_98 := dc_n2 aX12_best_96
theorem aX12_best_99 : dc_at cX12_best 99 sX12_best_99 := dc_n1 aX12_best_98
theorem aX12_best_102 : dc_at cX12_best 102 sX12_best_102 := dc_n3 aX12_best_99
theorem aX12_best_104 : dc_at cX12_best 104 sX12_best_104 := dc_n2 aX12_best_102
theorem aX12_best_107 : dc_at cX12_best 107 sX12_best_107 := dc_n3 aX12_best_104
theorem aX12_best_108 : dc_at cX12_best 108 sX12_best_108 := dc_n1 aX12_best_107
theorem aX12_best_111 : dc_at cX12_best 111 sX12_best_111 := dc_n3 aX12_best_108
theorem aX12_best_112 : dc_at cX12_best 112 sX12_best_112 := dc_n1 aX12_best_111
theorem aX12_best_115 : dc_at cX12_best 115 sX12_best_115 := dc_n3 aX12_best_112
theorem aX12_best_117 : dc_at cX12_best 117 sX12_best_117 := dc_n2 aX12_best_115
theorem aX12_best_118 : dc_at cX12_best 118 sX12_best_118 := dc_n1 aX12_best_117
theorem aX12_best_119 : dc_at cX12_best 119 sX12_best_119 := dc_n1 aX12_best_118
theorem aX12_best_120 : dc_at cX12_best 120 sX12_best_120 := dc_n1 aX12_best_119
theorem aX12_best_123 : dc_at cX12_best 123 sX12_best_123 := dc_n3 aX12_best_120
theorem aX12_best_124 : dc_at cX12_best 124 sX12_best_124 := dc_n1 aX12_best_123
theorem aX12_best_125 : dc_at cX12_best 125 sX12_best_125 := dc_n1 aX12_best_124
theorem aX12_best_128 : dc_at cX12_best 128 sX12_best_128 := dc_n3 aX12_best_125
theorem aX12_best_131 : dc_at cX12_best 131 sX12_best_131 := dc_n3 aX12_best_128
theorem aX12_best_134 : dc_at cX12_best 134 sX12_best_134 := dc_n3 aX12_best_131
theorem aX12_best_136 : dc_at cX12_best 136 sX12_best_136 := dc_n2 aX12_best_134
theorem dX12_best_0 : decode cX12_best 0 = .ok (.aload_n 0, 1) := dc_42 aX12_best_0
theorem dX12_best_1 : decode cX12_best 1 = .ok (.iload_n 1, 1) := dc_27 aX12_best_1
theorem dX12_best_2 : decode cX12_best 2 = .ok (.iload_n 2, 1) := dc_28 aX12_best_2
theorem dX12_best_3 : decode cX12_best 3 = .ok (.invokevirtual 247, 3) := dc_182 (a0 := 0) (b0 := 247) aX12_best_3
theorem dX12_best_6 : decode cX12_best 6 = .ok (.ifCond .eq 28, 3) := dc_153 (a0 := 0) (b0 := 28) aX12_best_6 (by decide)
theorem dX12_best_9 : decode cX12_best 9 = .ok (.aload_n 0, 1) := dc_42 aX12_best_9
theorem dX12_best_10 : decode cX12_best 10 = .ok (.iload_n 3, 1) := dc_29 aX12_best_10
theorem dX12_best_11 : decode cX12_best 11 = .ok (.iconst 0, 1) := dc_3 aX12_best_11
theorem dX12_best_12 : decode cX12_best 12 = .ok (.iconst 3, 1) := dc_6 aX12_best_12
theorem dX12_best_13 : decode cX12_best 13 = .ok (.invokestatic 270, 3) := dc_184 (a0 := 1) (b0 := 14) aX12_best_13
theorem dX12_best_16 : decode cX12_best 16 = .ok (.iconst 1, 1) := dc_4 aX12_best_16
theorem dX12_best_17 : decode cX12_best 17 = .ok (.invokevirtual 209, 3) := dc_182 (a0 := 0) (b0 := 209) aX12_best_17
theorem dX12_best_20 : decode cX12_best 20 = .ok (.ifCond .eq 14, 3) := dc_153 (a0 := 0) (b0 := 14) aX12_best_20 (by decide)
theorem dX12_best_23 : decode cX12_best 23 = .ok (.aload_n 0, 1) := dc_42 aX12_best_23
theorem dX12_best_24 : decode cX12_best 24 = .ok (.iload 4, 2) := dc_21 (a0 := 4) aX12_best_24
theorem dX12_best_26 : decode cX12_best 26 = .ok (.iload 5, 2) := dc_21 (a0 := 5) aX12_best_26
theorem dX12_best_28 : decode cX12_best 28 = .ok (.invokevirtual 291, 3) := dc_182 (a0 := 1) (b0 := 35) aX12_best_28
theorem dX12_best_31 : decode cX12_best 31 = .ok (.ifCond .ne 5, 3) := dc_154 (a0 := 0) (b0 := 5) aX12_best_31 (by decide)
theorem dX12_best_34 : decode cX12_best 34 = .ok (.iconst 0, 1) := dc_3 aX12_best_34
theorem dX12_best_35 : decode cX12_best 35 = .ok (.ireturn, 1) := dc_172 aX12_best_35
theorem dX12_best_36 : decode cX12_best 36 = .ok (.sipush 999, 3) := dc_17 (a0 := 3) (b0 := 231) aX12_best_36 (by decide)
theorem dX12_best_39 : decode cX12_best 39 = .ok (.istore 6, 2) := dc_54 (a0 := 6) aX12_best_39
theorem dX12_best_41 : decode cX12_best 41 = .ok (.iload 4, 2) := dc_21 (a0 := 4) aX12_best_41
theorem dX12_best_43 : decode cX12_best 43 = .ok (.istore 7, 2) := dc_54 (a0 := 7) aX12_best_43
theorem dX12_best_45 : decode cX12_best 45 = .ok (.iload 7, 2) := dc_21 (a0 := 7) aX12_best_45
theorem dX12_best_47 : decode cX12_best 47 = .ok (.iload 4, 2) := dc_21 (a0 := 4) aX12_best_47
theorem dX12_best_49 : decode cX12_best 49 = .ok (.iload 5, 2) := dc_21 (a0 := 5) aX12_best_49
theorem dX12_best_51 : decode cX12_best 51 = .ok (.iadd, 1) := dc_96 aX12_best_51
theorem dX12_best_52 : decode cX12_best 52 = .ok (.if_icmp .gt 82, 3) := dc_163 (a0 := 0) (b0 := 82) aX12_best_52 (by decide)
theorem dX12_best_55 : decode cX12_best 55 = .ok (.aload_n 0, 1) := dc_42 aX12_best_55
theorem dX12_best_56 : decode cX12_best 56 = .ok (.bipush 20, 2) := dc_16 (a0 := 20) aX12_best_56 (by decide)
theorem dX12_best_58 : decode cX12_best 58 = .ok (.iload_n 1, 1) := dc_27 aX12_best_58
theorem dX12_best_59 : decode cX12_best 59 = .ok (.imul, 1) := dc_104 aX12_best_59
theorem dX12_best_60 : decode cX12_best 60 = .ok (.iload_n 2, 1) := dc_28 aX12_best_60
theorem dX12_best_61 : decode cX12_best 61 = .ok (.iadd, 1) := dc_96 aX12_best_61
theorem dX12_best_62 : decode cX12_best 62 = .ok (.iload_n 3, 1) := dc_29 aX12_best_62
theorem dX12_best_63 : decode cX12_best 63 = .ok (.iload 7, 2) := dc_21 (a0 := 7) aX12_best_63
theorem dX12_best_65 : decode cX12_best 65 = .ok (.iload 6, 2) := dc_21 (a0 := 6) aX12_best_65
theorem dX12_best_67 : decode cX12_best 67 = .ok (.invokevirtual 286, 3) := dc_182 (a0 := 1) (b0 := 30) aX12_best_67
theorem dX12_best_70 : decode cX12_best 70 = .ok (.istore 8, 2) := dc_54 (a0 := 8) aX12_best_70
theorem dX12_best_72 : decode cX12_best 72 = .ok (.iload 8, 2) := dc_21 (a0 := 8) aX12_best_72
theorem dX12_best_74 : decode cX12_best 74 = .ok (.iload 6, 2) := dc_21 (a0 := 6) aX12_best_74
theorem dX12_best_76 : decode cX12_best 76 = .ok (.if_icmp .le 6, 3) := dc_164 (a0 := 0) (b0 := 6) aX12_best_76 (by decide)
theorem dX12_best_79 : decode cX12_best 79 = .ok (.goto 49, 3) := dc_167 (a0 := 0) (b0 := 49) aX12_best_79 (by decide)
theorem dX12_best_82 : decode cX12_best 82 = .ok (.iload 8, 2) := dc_21 (a0 := 8) aX12_best_82
theorem dX12_best_84 : decode cX12_best 84 = .ok (.iload 6, 2) := dc_21 (a0 := 6) aX12_best_84
theorem dX12_best_86 : decode cX12_best 86 = .ok (.if_icmp .ge 8, 3) := dc_162 (a0 := 0) (b0 := 8) aX12_best_86 (by decide)
theorem dX12_best_89 : decode cX12_best 89 = .ok (.aload_n 0, 1) := dc_42 aX12_best_89
theorem dX12_best_90 : decode cX12_best 90 = .ok (.iconst 0, 1) := dc_3 aX12_best_90
theorem dX12_best_91 : decode cX12_best 91 = .ok (.putfield 65, 3) := dc_181 (a0 := 0) (b0 := 65) aX12_best_91
theorem dX12_best_94 : decode cX12_best 94 = .ok (.iload 8, 2) := dc_21 (a0 := 8) aX12_best_94
theorem dX12_best_96 : decode cX12_best 96 = .ok (.istore 6, 2) := dc_54 (a0 := 6) aX12_best_96
theorem dX12_best_98 : decode cX12_best 98 = .ok (.aload_n 0, 1) := dc_42 aX12_best_98
theorem dX12_best_99 : decode cX12_best 99 = .ok (.getfield 65, 3) := dc_180 (a0 := 0) (b0 := 65) aX12_best_99
theorem dX12_best_102 : decode cX12_best 102 = .ok (.bipush 20, 2) := dc_16 (a0 := 20) aX12_best_102 (by decide)
theorem dX12_best_104 : decode cX12_best 104 = .ok (.if_icmp .ge 14, 3) := dc_162 (a0 := 0) (b0 := 14) aX12_best_104 (by decide)
theorem dX12_best_107 : decode cX12_best 107 = .ok (.aload_n 0, 1) := dc_42 aX12_best_107
theorem dX12_best_108 : decode cX12_best 108 = .ok (.getfield 68, 3) := dc_180 (a0 := 0) (b0 := 68) aX12_best_108
theorem dX12_best_111 : decode cX12_best 111 = .ok (.aload_n 0, 1) := dc_42 aX12_best_111
theorem dX12_best_112 : decode cX12_best 112 = .ok (.getfield 65, 3) := dc_180 (a0 := 0) (b0 := 65) aX12_best_112
theorem dX12_best_115 : decode cX12_best 115 = .ok (.iload 7, 2) := dc_21 (a0 := 7) aX12_best_115
theorem dX12_best_117 : decode cX12_best 117 = .ok (.iastore, 1) := dc_79 aX12_best_117
theorem dX12_best_118 : decode cX12_best 118 = .ok (.aload_n 0, 1) := dc_42 aX12_best_118
theorem dX12_best_119 : decode cX12_best 119 = .ok (.dup, 1) := dc_89 aX12_best_119
theorem dX12_best_120 : decode cX12_best 120 = .ok (.getfield 65, 3) := dc_180 (a0 := 0) (b0 := 65) aX12_best_120
theorem dX12_best_123 : decode cX12_best 123 = .ok (.iconst 1, 1) := dc_4 aX12_best_123
theorem dX12_best_124 : decode cX12_best 124 = .ok (.iadd, 1) := dc_96 aX12_best_124
theorem dX12_best_125 : decode cX12_best 125 = .ok (.putfield 65, 3) := dc_181 (a0 := 0) (b0 := 65) aX12_best_125
theorem dX12_best_128 : decode cX12_best 128 = .ok (.iinc 7 1, 3) := dc_132 (a0 := 7) (a1 := 1) aX12_best_128 (by decide)
theorem dX12_best_131 : decode cX12_best 131 = .ok (.goto (-86), 3) := dc_167 (a0 := 255) (b0 := 170) aX12_best_131 (by decide)
theorem dX12_best_134 : decode cX12_best 134 = .ok (.iload 6, 2) := dc_21 (a0 := 6) aX12_best_134
theorem dX12_best_136 : decode cX12_best 136 = .ok (.ireturn, 1) := dc_172 aX12_best_136
set_option maxRecDepth 20000 in
theorem ggX12_day_X12_right : GoodIn wsX12_day wsX12_right := goodIn_k _ [[8], [1, 7, 0, 0, 0, 0, 0, 0, 0, 0, 0, 0, 0, 0, 0, 0, 0, 0, 0, 0, 0, 0, 0, 0, 0, 0, 0, 0, 0, 0, 0, 0, 0, 0, 0, 0, 0, 0, 0, 0, 0, 0, 0, 0, 0, 0, 0, 0, 0, 0, 0, 0, 0, 0, 0, 0, 0, 0, 0]] (by rfl) (by decide +kernel)
set_option maxRecDepth 20000 in
theorem gX12_day_X12_right : GoodIn wsX12_day (wsV RX12 209 RX12 yX12_right wsX12_right) := goodIn_app (goodIn_of _ (by decide +kernel)) ggX12_day_X12_right
noncomputable def sX12_day_65 : List Nat := 172 :: []
noncomputable def sX12_day_64 : List Nat := 46 :: sX12_day_65
noncomputable def sX12_day_63 : List Nat := 27 :: sX12_day_64
noncomputable def sX12_day_60 : List Nat := 180 :: 0 :: 68 :: sX12_day_63
noncomputable def sX12_day_59 : List Nat := 42 :: sX12_day_60
noncomputable def sX12_day_56 : List Nat := 167 :: 0 :: 9 :: sX12_day_59
noncomputable def sX12_day_53 : List Nat := 180 :: 0 :: 65 :: sX12_day_56
noncomputable def sX12_day_52 : List Nat := 42 :: sX12_day_53
noncomputable def sX12_day_49 : List Nat := 160 :: 0 :: 10 :: sX12_day_52
noncomputable def sX12_day_48 : List Nat := 2 :: sX12_day_49
noncomputable def sX12_day_47 : List Nat := 27 :: sX12_day_48
noncomputable def sX12_day_46 : List Nat := 172 :: sX12_day_47
noncomputable def sX12_day_45 : List Nat := 3 :: sX12_day_46
noncomputable def sX12_day_42 : List Nat := 154 :: 0 :: 5 :: sX12_day_45
noncomputable def sX12_day_39 : List Nat := 182 :: 0 :: 209 :: sX12_day_42
noncomputable def sX12_day_38 : List Nat := 4 :: sX12_day_39
noncomputable def sX12_day_37 : List Nat := 3 :: sX12_day_38
noncomputable def sX12_day_34 : List Nat := 167 :: 0 :: 4 :: sX12_day_37
noncomputable def sX12_day_33 : List Nat := 4 :: sX12_day_34
noncomputable def sX12_day_30 : List Nat := 162 :: 0 :: 7 :: sX12_day_33
noncomputable def sX12_day_28 : List Nat := 16 :: 20 :: sX12_day_30
noncomputable def sX12_day_27 : List Nat := 27 :: sX12_day_28
noncomputable def sX12_day_24 : List Nat := 162 :: 0 :: 13 :: sX12_day_27
noncomputable def sX12_day_21 : List Nat := 180 :: 0 :: 65 :: sX12_day_24
noncomputable def sX12_day_20 : List Nat := 42 :: sX12_day_21
noncomputable def sX12_day_19 : List Nat := 27 :: sX12_day_20
noncomputable def sX12_day_16 : List Nat := 161 :: 0 :: 21 :: sX12_day_19
noncomputable def sX12_day_15 : List Nat := 2 :: sX12_day_16
noncomputable def sX12_day_14 : List Nat := 27 :: sX12_day_15
noncomputable def sX12_day_11 : List Nat := 159 :: 0 :: 26 :: sX12_day_14
noncomputable def sX12_day_10 : List Nat := 2 :: sX12_day_11
noncomputable def sX12_day_7 : List Nat := 180 :: 0 :: 65 :: sX12_day_10
noncomputable def sX12_day_6 : List Nat := 42 :: sX12_day_7
noncomputable def sX12_day_5 : List Nat := 42 :: sX12_day_6
noncomputable def sX12_day_2 : List Nat := 181 :: 0 :: 129 :: sX12_day_5
noncomputable def sX12_day_1 : List Nat := 3 :: sX12_day_2
noncomputable def sX12_day_0 : List Nat := 42 :: sX12_day_1
theorem aX12_day_0 : dc_at cX12_day 0 sX12_day_0 := dc_base (by decide +kernel)
theorem aX12_day_1 : dc_at cX12_day 1 sX12_day_1 := dc_n1 aX12_day_0
theorem aX12_day_2 : dc_at cX12_day 2 sX12_day_2 := dc_n1 aX12_day_1
theorem aX12_day_5 : dc_at cX12_day 5 sX12_day_5 := dc_n3 aX12_day_2
theorem aX12_day_6 : dc_at cX12_day 6 sX12_day_6 := dc_n1 aX12_day_5
theorem aX12_day_7 : dc_at cX12_day 7 sX12_day_7 := dc_n1 aX12_day_6
theorem aX12_day_10 : dc_at cX12_day 10 sX12_day_10 := dc_n3 aX12_day_7
theorem aX12_day_11 : dc_at cX12_day 11 sX12_day_11 := dc_n1 aX12_day_10
theorem aX12_day_14 : dc_at cX12_day 14 sX12_day_14 := dc_n3 aX12_day_11
theorem aX12_day_15 : dc_at cX12_day 15 sX12_day_15 := dc_n1 aX12_day_14
theorem aX12_day_16 : dc_at cX12_day 16 sX12_day_16 := dc_n1 aX12_day_15
theorem aX12_day_19 : dc_at cX12_day 19 sX12_day_19 := dc_n3 aX12_day_16
theorem aX12_day_20 : dc_at cX12_day 20 sX12_day_20 := dc_n1 aX12_day_19
theorem aX12_day_21 : dc_at cX12_day 21 sX12_day_21 := dc_n1 aX12_day_20
theorem aX12_day_24 : dc_at cX12_day 24 sX12_day_24 := dc_n3 aX12_day_21
theorem aX12_day_27 : dc_at cX12_day 27 sX12_day_27 := dc_n3 aX12_day_24
theorem aX12_day_28 : dc_at cX12_day 28 sX12_day_28 := dc_n1 aX12_day_27
theorem aX12_day_30 : dc_at cX12_day 30 sX12_day_30 := dc_n2 aX12_day_28
theorem aX12_day_33 : dc_at cX12_day 33 sX12_day_33 := dc_n3 aX12_day_30
theorem aX12_day_34 : dc_at cX12_day 34 sX12_day_34 := dc_n1 aX12_day_33
theorem aX12_day_37 : dc_at cX12_day 37 sX12_day_37 := dc_n3 aX12_day_34
theorem aX12_day_38 : dc_at cX12_day 38 sX12_day_38 := dc_n1 aX12_day_37
theorem aX12_day_39 : dc_at cX12_day 39 sX12_day_39 := dc_n1 aX12_day_38
theorem aX12_day_42 : dc_at cX12_day 42 sX12_day_42 := dc_n3 aX12_day_39
theorem aX12_day_45 : dc_at cX12_day 45 sX12_day_45 := dc_n3 aX12_day_42
theorem aX12_day_46 : dc_at cX12_day 46 sX12_day_46 := dc_n1 aX12_day_45
theorem aX12_day_47 : dc_at cX12_day 47 sX12_day_47 := dc_n1 aX12_day_46
theorem aX12_day_48 : dc_at cX12_day 48 sX12_day_48 := dc_n1 aX12_day_47
theorem aX12_day_49 : dc_at cX12_day 49 sX12_day_49 := dc_n1 aX12_day_48
theorem aX12_day_52 : dc_at cX12_day 52 sX12_day_52 := dc_n3 aX12_day_49
theorem aX12_day_53 : dc_at cX12_day 53 sX12_day_53 := dc_n1 aX12_day_52
theorem aX12_day_56 : dc_at cX12_day 56 sX12_day_56 := dc_n3 aX12_day_53
theorem aX12_day_59 : dc_at cX12_day 59 sX12_day_59 := dc_n3 aX12_day_56
theorem aX12_day_60 : dc_at cX12_day 60 sX12_day_60 := dc_n1 aX12_day_59
theorem aX12_day_63 : dc_at cX12_day 63 sX12_day_63 := dc_n3 aX12_day_60
theorem aX12_day_64 : dc_at cX12_day 64 sX12_day_64 := dc_n1 aX12_day_63
theorem aX12_day_65 : dc_at cX12_day 65 sX12_day_65 := dc_n1 aX12_day_64
theorem dX12_day_0 : decode cX12_day 0 = .ok (.aload_n 0, 1) := dc_42 aX12_day_0
theorem dX12_day_1 : decode cX12_day 1 = .ok (.iconst 0, 1) := dc_3 aX12_day_1
theorem dX12_day_2 : decode cX12_day 2 = .ok (.putfield 129, 3) := dc_181 (a0 := 0) (b0 := 129) aX12_day_2
theorem dX12_day_5 : decode cX12_day 5 = .ok (.aload_n 0, 1) := dc_42 aX12_day_5
theorem dX12_day_6 : decode cX12_day 6 = .ok (.aload_n 0, 1) := dc_42 aX12_day_6
theorem dX12_day_7 : decode cX12_day 7 = .ok (.getfield 65, 3) := dc_180 (a0 := 0) (b0 := 65) aX12_day_7
theorem dX12_day_10 : decode cX12_day 10 = .ok (.iconst (-1), 1) := dc_2 aX12_day_10
theorem dX12_day_11 : decode cX12_day 11 = .ok (.if_icmp .eq 26, 3) := dc_159 (a0 := 0) (b0 := 26) aX12_day_11 (by decide)
theorem dX12_day_14 : decode cX12_day 14 = .ok (.iload_n 1, 1) := dc_27 aX12_day_14
theorem dX12_day_15 : decode cX12_day 15 = .ok (.iconst (-1), 1) := dc_2 aX12_day_15
theorem dX12_day_16 : decode cX12_day 16 = .ok (.if_icmp .lt 21, 3) := dc_161 (a0 := 0) (b0 := 21) aX12_day_16 (by decide)
theorem dX12_day_19 : decode cX12_day 19 = .ok (.iload_n 1, 1) := dc_27 aX12_day_19
theorem dX12_day_20 : decode cX12_day 20 = .ok (.aload_n 0, 1) := dc_42 aX12_day_20
theorem dX12_day_21 : decode cX12_day 21 = .ok (.getfield 65, 3) := dc_180 (a0 := 0) (b0 := 65) aX12_day_21
theorem dX12_day_24 : decode cX12_day 24 = .ok (.if_icmp .ge 13, 3) := dc_162 (a0 := 0) (b0 := 13) aX12_day_24 (by decide)
theorem dX12_day_27 : decode cX12_day 27 = .ok (.iload_n 1, 1) := dc_27 aX12_day_27
theorem dX12_day_28 : decode cX12_day 28 = .ok (.bipush 20, 2) := dc_16 (a0 := 20) aX12_day_28 (by decide)
theorem dX12_day_30 : decode cX12_day 30 = .ok (.if_icmp .ge 7, 3) := dc_162 (a0 := 0) (b0 := 7) aX12_day_30 (by decide)
theorem dX12_day_33 : decode cX12_day 33 = .ok (.iconst 1, 1) := dc_4 aX12_day_33
theorem dX12_day_34 : decode cX12_day 34 = .ok (.goto 4, 3) := dc_167 (a0 := 0) (b0 := 4) aX12_day_34 (by decide)
theorem dX12_day_37 : decode cX12_day 37 = .ok (.iconst 0, 1) := dc_3 aX12_day_37
theorem dX12_day_38 : decode cX12_day 38 = .ok (.iconst 1, 1) := dc_4 aX12_day_38
theorem dX12_day_39 : decode cX12_day 39 = .ok (.invokevirtual 209, 3) := dc_182 (a0 := 0) (b0 := 209) aX12_day_39
theorem dX12_day_42 : decode cX12_day 42 = .ok (.ifCond .ne 5, 3) := dc_154 (a0 := 0) (b0 := 5) aX12_day_42 (by decide)
theorem dX12_day_45 : decode cX12_day 45 = .ok (.iconst 0, 1) := dc_3 aX12_day_45
theorem dX12_day_46 : decode cX12_day 46 = .ok (.ireturn, 1) := dc_172 aX12_day_46
theorem dX12_day_47 : decode cX12_day 47 = .ok (.iload_n 1, 1) := dc_27 aX12_day_47
theorem dX12_day_48 : decode cX12_day 48 = .ok (.iconst (-1), 1) := dc_2 aX12_day_48
theorem dX12_day_49 : decode cX12_day 49 = .ok (.if_icmp .ne 10, 3) := dc_160 (a0 := 0) (b0 := 10) aX12_day_49 (by decide)
theorem dX12_day_52 : decode cX12_day 52 = .ok (.aload_n 0, 1) := dc_42 aX12_day_52
theorem dX12_day_53 : decode cX12_day 53 = .ok (.getfield 65, 3) := dc_180 (a0 := 0) (b0 := 65) aX12_day_53
theorem dX12_day_56 : decode cX12_day 56 = .ok (.goto 9, 3) := dc_167 (a0 := 0) (b0 := 9) aX12_day_56 (by decide)
theorem dX12_day_59 : decode cX12_day 59 = .ok (.aload_n 0, 1) := dc_42 aX12_day_59
theorem dX12_day_60 : decode cX12_day 60 = .ok (.getfield 68, 3) := dc_180 (a0 := 0) (b0 := 68) aX12_day_60
theorem dX12_day_63 : decode cX12_day 63 = .ok (.iload_n 1, 1) := dc_27 aX12_day_63
theorem dX12_day_64 : decode cX12_day 64 = .ok (.iaload, 1) := dc_46 aX12_day_64
theorem dX12_day_65 : decode cX12_day 65 = .ok (.ireturn, 1) := dc_172 aX12_day_65
set_option maxRecDepth 20000 in
theorem ggX12_whose_X12_isWheel : GoodIn wsX12_whose wsX12_isWheel := goodIn_k _ [[5, 0, 0, 0, 0], [4, 5, 47, 0, 0, 0, 0, 0, 0, 0, 0, 0, 0, 0, 0, 0, 0, 0, 0, 0, 0, 0, 0, 0, 0, 0, 0, 0, 0, 0, 0, 0, 0, 0, 0, 0, 0, 0, 0, 0, 0, 0, 0, 0, 0, 0, 0, 0, 0, 0, 0, 0, 0, 0, 0, 0, 0, 0, 0, 0]] (by rfl) (by decide +kernel)
set_option maxRecDepth 20000 in
theorem gX12_whose_X12_isWheel : GoodIn wsX12_whose (wsV RX12 247 RX12 yX12_isWheel wsX12_isWheel) := goodIn_app (goodIn_of _ (by decide +kernel)) ggX12_whose_X12_isWheel
set_option maxRecDepth 20000 in
theorem ggX12_whose_X12_within : GoodIn wsX12_whose wsX12_within := goodIn_k _ [[13]] (by rfl) (by decide +kernel)
set_option maxRecDepth 20000 in
theorem gX12_whose_X12_within : GoodIn wsX12_whose (va_wsS RX12 270 yX12_within wsX12_within) := goodIn_app (goodIn_of _ (by decide +kernel)) ggX12_whose_X12_within
set_option maxRecDepth 20000 in
theorem ggX12_whose_X12_right : GoodIn wsX12_whose wsX12_right := goodIn_k _ [[10], [6, 51, 0, 0, 0, 0, 0, 0, 0, 0, 0, 0, 0, 0, 0, 0, 0, 0, 0, 0, 0, 0, 0, 0, 0, 0, 0, 0, 0, 0, 0, 0, 0, 0, 0, 0, 0, 0, 0, 0, 0, 0, 0, 0, 0, 0, 0, 0, 0, 0, 0, 0, 0, 0, 0, 0, 0, 0, 0]] (by rfl) (by decide +kernel)
set_option maxRecDepth 20000 in
theorem gX12_whose_X12_right : GoodIn wsX12_whose (wsV RX12 209 RX12 yX12_right wsX12_right) := goodIn_app (goodIn_of _ (by decide +kernel)) ggX12_whose_X12_right
set_option maxRecDepth 20000 in
theorem ggX12_whose_X12_isSpan : GoodIn wsX12_whose wsX12_isSpan := goodIn_k _ [[17, 0, 0], [11, 0], [4, 8], [7, 0, 0, 0], [6, 51, 0, 0, 0, 0, 0, 0, 0, 0, 0, 0, 0, 0, 0, 0, 0, 0, 0, 0, 0, 0, 0, 0, 0, 0, 0, 0, 0, 0, 0, 0, 0, 0, 0, 0, 0, 0, 0, 0, 0, 0, 0, 0, 0, 0, 0, 0, 0, 0, 0, 0, 0, 0, 0, 0, 0, 0, 0]] (by rfl) (by decide +kernel)
set_option maxRecDepth 20000 in
theorem gX12_whose_X12_isSpan : GoodIn wsX12_whose (wsV RX12 291 RX12 yX12_isSpan wsX12_isSpan) := goodIn_app (goodIn_of _ (by decide +kernel)) ggX12_whose_X12_isSpan
set_option maxRecDepth 20000 in
theorem ggX12_whose_X12_costOn : GoodIn wsX12_whose wsX12_costOn := goodIn_k _ [[23, 0, 0, 0], [4, 22, 0, 0, 0, 0, 0, 0, 0, 0, 0, 0, 0, 0, 0, 0, 0, 0, 0, 0, 0, 0, 0, 0, 0, 0, 0, 0, 0, 0, 0, 0, 0, 0, 0, 0, 0, 0, 0, 0, 0, 0, 0, 0, 0, 0, 0, 0, 0, 0, 0, 0, 0, 0, 0, 0, 0, 0, 0, 0, 0, 0, 0, 0, 0, 0, 0, 0, 0, 0, 0, 0, 0, 0, 0, 0, 0, 0, 0, 0, 0, 0, 0, 0, 0, 0, 0, 0, 0, 0]] (by rfl) (by decide +kernel)
set_option maxRecDepth 20000 in
theorem gX12_whose_X12_costOn : GoodIn wsX12_whose (wsV RX12 286 RX12 yX12_costOn wsX12_costOn) := goodIn_app (goodIn_of _ (by decide +kernel)) ggX12_whose_X12_costOn
noncomputable def sX12_whose_189 : List Nat := 172 :: []
noncomputable def sX12_whose_187 : List Nat := 21 :: 8 :: sX12_whose_189
noncomputable def sX12_whose_184 : List Nat := 167 :: 0 :: 5 :: sX12_whose_187
noncomputable def sX12_whose_182 : List Nat := 21 :: 6 :: sX12_whose_184
noncomputable def sX12_whose_179 : List Nat := 160 :: 0 :: 8 :: sX12_whose_182
noncomputable def sX12_whose_178 : List Nat := 4 :: sX12_whose_179
noncomputable def sX12_whose_176 : List Nat := 21 :: 5 :: sX12_whose_178
noncomputable def sX12_whose_173 : List Nat := 167 :: 0 :: 16 :: sX12_whose_176
noncomputable def sX12_whose_171 : List Nat := 21 :: 7 :: sX12_whose_173
noncomputable def sX12_whose_168 : List Nat := 154 :: 0 :: 8 :: sX12_whose_171
noncomputable def sX12_whose_166 : List Nat := 21 :: 5 :: sX12_whose_168
noncomputable def sX12_whose_163 : List Nat := 167 :: 255 :: 143 :: sX12_whose_166
noncomputable def sX12_whose_160 : List Nat := 132 :: 9 :: 1 :: sX12_whose_163
noncomputable def sX12_whose_158 : List Nat := 54 :: 6 :: sX12_whose_160
noncomputable def sX12_whose_156 : List Nat := 21 :: 10 :: sX12_whose_158
noncomputable def sX12_whose_154 : List Nat := 54 :: 7 :: sX12_whose_156
noncomputable def sX12_whose_152 : List Nat := 21 :: 7 :: sX12_whose_154
noncomputable def sX12_whose_149 : List Nat := 167 :: 0 :: 5 :: sX12_whose_152
noncomputable def sX12_whose_147 : List Nat := 21 :: 9 :: sX12_whose_149
noncomputable def sX12_whose_144 : List Nat := 162 :: 0 :: 8 :: sX12_whose_147
noncomputable def sX12_whose_142 : List Nat := 21 :: 6 :: sX12_whose_144
noncomputable def sX12_whose_140 : List Nat := 21 :: 10 :: sX12_whose_142
noncomputable def sX12_whose_138 : List Nat := 54 :: 8 :: sX12_whose_140
noncomputable def sX12_whose_137 : List Nat := 96 :: sX12_whose_138
noncomputable def sX12_whose_136 : List Nat := 4 :: sX12_whose_137
noncomputable def sX12_whose_134 : List Nat := 21 :: 8 :: sX12_whose_136
noncomputable def sX12_whose_131 : List Nat := 167 :: 0 :: 7 :: sX12_whose_134
noncomputable def sX12_whose_130 : List Nat := 4 :: sX12_whose_131
noncomputable def sX12_whose_127 : List Nat := 162 :: 0 :: 7 :: sX12_whose_130
noncomputable def sX12_whose_125 : List Nat := 21 :: 6 :: sX12_whose_127
noncomputable def sX12_whose_123 : List Nat := 21 :: 10 :: sX12_whose_125
noncomputable def sX12_whose_120 : List Nat := 167 :: 0 :: 40 :: sX12_whose_123
noncomputable def sX12_whose_117 : List Nat := 164 :: 0 :: 6 :: sX12_whose_120
noncomputable def sX12_whose_115 : List Nat := 21 :: 6 :: sX12_whose_117
noncomputable def sX12_whose_113 : List Nat := 21 :: 10 :: sX12_whose_115
noncomputable def sX12_whose_110 : List Nat := 167 :: 255 :: 210 :: sX12_whose_113
noncomputable def sX12_whose_107 : List Nat := 132 :: 11 :: 1 :: sX12_whose_110
noncomputable def sX12_whose_105 : List Nat := 54 :: 10 :: sX12_whose_107
noncomputable def sX12_whose_103 : List Nat := 21 :: 10 :: sX12_whose_105
noncomputable def sX12_whose_100 : List Nat := 167 :: 0 :: 5 :: sX12_whose_103
noncomputable def sX12_whose_98 : List Nat := 21 :: 12 :: sX12_whose_100
noncomputable def sX12_whose_95 : List Nat := 162 :: 0 :: 8 :: sX12_whose_98
noncomputable def sX12_whose_93 : List Nat := 21 :: 10 :: sX12_whose_95
noncomputable def sX12_whose_91 : List Nat := 21 :: 12 :: sX12_whose_93
noncomputable def sX12_whose_89 : List Nat := 54 :: 12 :: sX12_whose_91
noncomputable def sX12_whose_86 : List Nat := 182 :: 1 :: 30 :: sX12_whose_89
noncomputable def sX12_whose_84 : List Nat := 21 :: 10 :: sX12_whose_86
noncomputable def sX12_whose_82 : List Nat := 21 :: 11 :: sX12_whose_84
noncomputable def sX12_whose_80 : List Nat := 21 :: 9 :: sX12_whose_82
noncomputable def sX12_whose_79 : List Nat := 96 :: sX12_whose_80
noncomputable def sX12_whose_78 : List Nat := 28 :: sX12_whose_79
noncomputable def sX12_whose_77 : List Nat := 104 :: sX12_whose_78
noncomputable def sX12_whose_76 : List Nat := 27 :: sX12_whose_77
noncomputable def sX12_whose_74 : List Nat := 16 :: 20 :: sX12_whose_76
noncomputable def sX12_whose_73 : List Nat := 42 :: sX12_whose_74
noncomputable def sX12_whose_70 : List Nat := 163 :: 0 :: 43 :: sX12_whose_73
noncomputable def sX12_whose_69 : List Nat := 96 :: sX12_whose_70
noncomputable def sX12_whose_67 : List Nat := 21 :: 4 :: sX12_whose_69
noncomputable def sX12_whose_66 : List Nat := 29 :: sX12_whose_67
noncomputable def sX12_whose_64 : List Nat := 21 :: 11 :: sX12_whose_66
noncomputable def sX12_whose_62 : List Nat := 54 :: 11 :: sX12_whose_64
noncomputable def sX12_whose_61 : List Nat := 29 :: sX12_whose_62
noncomputable def sX12_whose_59 : List Nat := 54 :: 10 :: sX12_whose_61
noncomputable def sX12_whose_56 : List Nat := 17 :: 3 :: 231 :: sX12_whose_59
noncomputable def sX12_whose_53 : List Nat := 162 :: 0 :: 113 :: sX12_whose_56
noncomputable def sX12_whose_52 : List Nat := 7 :: sX12_whose_53
noncomputable def sX12_whose_50 : List Nat := 21 :: 9 :: sX12_whose_52
noncomputable def sX12_whose_48 : List Nat := 54 :: 9 :: sX12_whose_50
noncomputable def sX12_whose_47 : List Nat := 3 :: sX12_whose_48
noncomputable def sX12_whose_45 : List Nat := 54 :: 8 :: sX12_whose_47
noncomputable def sX12_whose_44 : List Nat := 3 :: sX12_whose_45
noncomputable def sX12_whose_42 : List Nat := 54 :: 7 :: sX12_whose_44
noncomputable def sX12_whose_41 : List Nat := 2 :: sX12_whose_42
noncomputable def sX12_whose_39 : List Nat := 54 :: 6 :: sX12_whose_41
noncomputable def sX12_whose_36 : List Nat := 17 :: 3 :: 231 :: sX12_whose_39
noncomputable def sX12_whose_35 : List Nat := 172 :: sX12_whose_36
noncomputable def sX12_whose_34 : List Nat := 3 :: sX12_whose_35
noncomputable def sX12_whose_31 : List Nat := 154 :: 0 :: 5 :: sX12_whose_34
noncomputable def sX12_whose_28 : List Nat := 182 :: 1 :: 35 :: sX12_whose_31
noncomputable def sX12_whose_26 : List Nat := 21 :: 4 :: sX12_whose_28
noncomputable def sX12_whose_25 : List Nat := 29 :: sX12_whose_26
noncomputable def sX12_whose_24 : List Nat := 42 :: sX12_whose_25
noncomputable def sX12_whose_21 : List Nat := 153 :: 0 :: 13 :: sX12_whose_24
noncomputable def sX12_whose_18 : List Nat := 182 :: 0 :: 209 :: sX12_whose_21
noncomputable def sX12_whose_17 : List Nat := 4 :: sX12_whose_18
noncomputable def sX12_whose_14 : List Nat := 184 :: 1 :: 14 :: sX12_whose_17
noncomputable def sX12_whose_13 : List Nat := 5 :: sX12_whose_14
noncomputable def sX12_whose_12 : List Nat := 3 :: sX12_whose_13
noncomputable def sX12_whose_10 : List Nat := 21 :: 5 :: sX12_whose_12
noncomputable def sX12_whose_9 : List Nat := 42 :: sX12_whose_10
noncomputable def sX12_whose_6 : List Nat := 153 :: 0 :: 28 :: sX12_whose_9
noncomputable def sX12_whose_3 : List Nat := 182 :: 0 :: 247 :: sX12_whose_6
noncomputable def sX12_whose_2 : List Nat := 28 :: sX12_whose_3
noncomputable def sX12_whose_1 : List Nat := 27 :: sX12_whose_2
noncomputable def sX12_whose_0 : List Nat := 42 :: sX12_whose_1
theorem aX12_whose_0 : dc_at cX12_whose 0 sX12_whose_0 := dc_base (by decide +kernel)
theorem aX12_whose_1 : dc_at cX12_whose 1 sX12_whose_1 := dc_n1 aX12_whose_0
theorem aX12_whose_2 : dc_at cX12_whose 2 sX12_whose_2 := dc_n1 aX12_whose_1
theorem aX12_whose_3 : dc_at cX12_whose 3 sX12_whose_3 := dc_n1 aX12_whose_2
theorem aX12_whose_6 : dc_at cX12_whose 6 sX12_whose_6 := dc_n3 aX12_whose_3
theorem aX12_whose_9 : dc_at cX12_whose 9 sX12_whose_9 := dc_n3 aX12_whose_6
theorem aX12_whose_10 : dc_at cX12_whose 10 sX12_whose_10 := dc_n1 aX12_whose_9
theorem aX12_whose_12 : dc_at cX12_whose 12 sX12_whose_12 := dc_n2 aX12_whose_10
theorem aX12_whose_13 : dc_at cX12_whose 13 sX12_whose_13 := dc_n1 aX12_whose_12
theorem aX12_whose_14 : dc_at cX12_whose 14 sX12_whose_14 := dc_n1 aX12_whose_13
theorem aX12_whose_17 : dc_at cX12_whose 17 sX12_whose_17 := dc_n3 aX12_whose_14
theorem aX12_whose_18 : dc_at cX12_whose 18 sX12_whose_18 := dc_n1 aX12_whose_17
theorem aX12_whose_21 : dc_at cX12_whose 21 sX12_whose_21 := dc_n3 aX12_whose_18
theorem aX12_whose_24 : dc_at cX12_whose 24 sX12_whose_24 := dc_n3 aX12_whose_21
theorem aX12_whose_25 : dc_at cX12_whose 25 sX12_whose_25 := dc_n1 aX12_whose_24
theorem aX12_whose_26 : dc_at cX12_whose 26 sX12_whose_26 := dc_n1 aX12_whose_25
theorem aX12_whose_28 : dc_at cX12_whose 28 sX12_whose_28 := dc_n2 aX12_whose_26
theorem aX12_whose_31 : dc_at cX12_whose 31 sX12_whose_31 := dc_n3 aX12_whose_28
theorem aX12_whose_34 : dc_at cX12_whose 34 sX12_whose_34 := dc_n3 aX12_whose_31
theorem aX12_whose_35 : dc_at cX12_whose 35 sX12_whose_35 := dc_n1 aX12_whose_34
theorem aX12_whose_36 : dc_at cX12_whose 36 sX12_whose_36 := dc_n1 aX12_whose_35
theorem aX12_whose_39 : dc_at cX12_whose 39 sX12_whose_39 := dc_n3 aX12_whose_36
theorem aX12_whose_41 : dc_at cX12_whose 41 sX12_whose_41 := dc_n2 aX12_whose_39
theorem aX12_whose_42 : dc_at cX12_whose 42 sX12_whose_42 := dc_n1 aX12_whose_41
theorem aX12_whose_44 : dc_at cX12_whose 44 sX12_whose_44 := dc_n2 aX12_whose_42
theorem aX12_whose_45 : dc_at cX12_whose 45 sX12_whose_45 := dc_n1 aX12_whose_44
theorem aX12_whose_47 : dc_at cX12_whose 47 sX12_whose_47 := dc_n2 aX12_whose_45
theorem aX12_whose_48 : dc_at cX12_whose 48 sX12_whose_48 := dc_n1 aX12_whose_47
theorem aX12_whose_50 : dc_at cX12_whose 50 sX12_whose_50 := dc_n2 aX12_whose_48
theorem aX12_whose_52 : dc_at cX12_whose 52 sX12_whose_52 := dc_n2 aX12_whose_50
theorem aX12_whose_53 : dc_at cX12_whose 53 sX12_whose_53 := dc_n1 aX12_whose_52
theorem aX12_whose_56 : dc_at cX12_whose 56 sX12_whose_56 := dc_n3 aX12_whose_53
theorem aX12_whose_59 : dc_at cX12_whose 59 sX12_whose_59 := dc_n3 aX12_whose_56
theorem aX12_whose_61 : dc_at cX12_whose 61 sX12_whose_61 := dc_n2 aX12_whose_59
theorem aX12_whose_62 : dc_at cX12_whose 62 sX12_whose_62 := dc_n1 aX12_whose_61
theorem aX12_whose_64 : dc_at cX12_whose 64 sX12_whose_64 := dc_n2 aX12_whose_62
theorem aX12_whose_66 : dc_at cX12_whose 66 sX12_whose_66 := dc_n2 aX12_whose_64
theorem aX12_whose_67 : dc_at cX12_whose 67 sX12_whose_67 := dc_n1 aX12_whose_66
theorem aX12_whose_69 : dc_at cX12_whose 69 sX12_whose_69 := dc_n2 aX12_whose_67
theorem aX12_whose_70 : dc_at cX12_whose 70 sX12_whose_70 := dc_n1 aX12_whose_69
theorem aX12_whose_73 : dc_at cX12_whose 73 sX12_whose_73 := dc_n3 aX12_whose_70
theorem aX12_whose_74 : dc_at cX12_whose 74 sX12_whose_74 := dc_n1 aX12_whose_73
theorem aX12_whose_76 : dc_at cX12_whose 76 sX12_whose_76 := dc_n2 aX12_whose_74
theorem aX12_whose_77 : dc_at cX12_whose 77 sX12_whose_77 := dc_n1 aX12_whose_76
theorem aX12_whose_78 : dc_at cX12_whose 78 sX12_whose_78 := dc_n1 aX12_whose_77
theorem aX12_whose_79 : dc_at cX12_whose 79 sX12_whose_79 := dc_n1 aX12_whose_78
theorem aX12_whose_80 : dc_at cX12_whose 80 sX12_whose_80 := dc_n1 aX12_whose_79
theorem aX12_whose_82 : dc_at cX12_whose 82 sX12_whose_82 := dc_n2 aX12_whose_80
theorem aX12_whose_84 : dc_at cX12_whose 84 sX12_whose_84 := dc_n2 aX12_whose_82
theorem aX12_whose_86 : dc_at cX12_whose 86 sX12_whose_86 := dc_n2 aX12_whose_84
theorem aX12_whose_89 : dc_at cX12_whose 89 sX12_whose_89 := dc_n3 aX12_whose_86
theorem aX12_whose_91 : dc_at cX12_whose 91 sX12_whose_91 := dc_n2 aX12_whose_89
theorem aX12_whose_93 : dc_at cX12_whose 93 sX12_whose_93 := dc_n2 aX12_whose_91
theorem aX12_whose_95 : dc_at cX12_whose 95 sX12_whose_95 := dc_n2 aX12_whose_93
theorem aX12_whose_98 : dc_at cX12_whose 98 sX12_whose_98 := dc_n3 aX12_whose_95
theorem aX12_whose_100 : dc_at cX12_whose 100 sX12_whose_100 := dc_n2 aX12_whose_98
theorem aX12_whose_103 : dc_at cX12_whose 103 sX12_whose_103 := dc_n3 aX12_whose_100
theorem aX12_whose_105 : dc_at cX12_whose 105 sX12_whose_105 := dc_n2 aX12_whose_103
theorem aX12_whose_107 : dc_at cX12_whose 107 sX12_whose_107 := dc_n2 aX12_whose_105
theorem aX12_whose_110 : dc_at cX12_whose 110 sX12_whose_110 := dc_n3 aX12_whose_107
theorem aX12_whose_113 : dc_at cX12_whose 113 sX12_whose_113 := dc_n3 aX12_whose_110
theorem aX12_whose_115 : dc_at cX12_whose 115 sX12_whose_115 := dc_n2 aX12_whose_113
theorem aX12_whose_117 : dc_at cX12_whose 117 sX12_whose_117 := dc_n2 aX12_whose_115
theorem aX12_whose_120 : dc_at cX12_whose 120 sX12_whose_120 := dc_n3 aX12_whose_117
theorem aX12_whose_123 : dc_at cX12_whose 123 sX12_whose_123 := dc_n3 aX12_whose_120
theorem aX12_whose_125 : dc_at cX12_whose 125 sX12_whose_125 := dc_n2 aX12_whose_123
theorem aX12_whose_127 : dc_at cX12_whose 127 sX12_whose_127 := dc_n2 aX12_whose_125
theorem aX12_whose_130 : dc_at cX12_whose 130 sX12_whose_130 := dc_n3 aX12_whose_127
theorem aX12_whose_131 : dc_at cX12_whose 131 sX12_whose_131 := dc_n1 aX12_whose_130
theorem aX12_whose_134 : dc_at cX12_whose 134 sX12_whose_134 := dc_n3 aX12_whose_131
theorem aX12_whose_136 : dc_at cX12_whose 136 sX12_whose_136 := dc_n2 aX12_whose_134
theorem aX12_whose_137 : dc_at cX12_whose 137 sX12_whose_137 := dc_n1 aX12_whose_136
theorem aX12_whose_138 : dc_at cX12_whose 138 sX12_whose_138 := dc_n1 aX12_whose_137
theorem aX12_whose_140 : dc_at cX12_whose 140 sX12_whose_140 := dc_n2 aX12_whose_138
theorem aX12_whose_142 : dc_at cX12_whose 142 sX12_whose_142 := dc_n2 aX12_whose_140
theorem aX12_whose_144 : dc_at cX12_whose 144 sX12_whose_144 := dc_n2 aX12_whose_142
theorem aX12_whose_147 : dc_at cX12_whose 147 sX12_whose_147 := dc_n3 aX12_whose_144
theorem aX12_whose_149 : dc_at cX12_whose 149 sX12_whose_149 := dc_n2 aX12_whose_147
theorem aX12_whose_152 : dc_at cX12_whose 152 sX12_whose_152 := dc_n3 aX12_whose_149
theorem aX12_whose_154 : dc_at cX12_whose 154 sX12_whose_154 := dc_n2 aX12_whose_152
theorem aX12_whose_156 : dc_at cX12_whose 156 sX12_whose_156 := dc_n2 aX12_whose_154
theorem aX12_whose_158 : dc_at cX12_whose 158 sX12_whose_158 := dc_n2 aX12_whose_156
theorem aX12_whose_160 : dc_at cX12_whose 160 sX12_whose_160 := dc_n2 aX12_whose_158
theorem aX12_whose_163 : dc_at cX12_whose 163 sX12_whose_163 := dc_n3 aX12_whose_160
theorem aX12_whose_166 : dc_at cX12_whose 166 sX12_whose_166 := dc_n3 aX12_whose_163
theorem aX12_whose_168 : dc_at cX12_whose 168 sX12_whose_168 := dc_n2 aX12_whose_166
theorem aX12_whose_171 : dc_at cX12_whose 171 sX12_whose_171 := dc_n3 aX12_whose_168
theorem aX12_whose_173 : dc_at cX12_whose 173 sX12_whose_173 := dc_n2 aX12_whose_171
theorem aX12_whose_176 : dc_at cX12_whose 176 sX12_whose_176 := dc_n3 aX12_whose_173
theorem aX12_whose_178 : dc_at cX12_whose 178 sX12_whose_178 := dc_n2 aX12_whose_176
theorem aX12_whose_179 : dc_at cX12_whose 179 sX12_whose_179 := dc_n1 aX12_whose_178
theorem aX12_whose_182 : dc_at cX12_whose 182 sX12_whose_182 := dc_n3 aX12_whose_179
theorem aX12_whose_184 : dc_at cX12_whose 184 sX12_whose_184 := dc_n2 aX12_whose_182
theorem aX12_whose_187 : dc_at cX12_whose 187 sX12_whose_187 := dc_n3 aX12_whose_184
theorem aX12_whose_189 : dc_at cX12_whose 189 sX12_whose_189 := dc_n2 aX12_whose_187
theorem dX12_whose_0 : decode cX12_whose 0 = .ok (.aload_n 0, 1) := dc_42 aX12_whose_0
theorem dX12_whose_1 : decode cX12_whose 1 = .ok (.iload_n 1, 1) := dc_27 aX12_whose_1
theorem dX12_whose_2 : decode cX12_whose 2 = .ok (.iload_n 2, 1) := dc_28 aX12_whose_2
theorem dX12_whose_3 : decode cX12_whose 3 = .ok (.invokevirtual 247, 3) := dc_182 (a0 := 0) (b0 := 247) aX12_whose_3
theorem dX12_whose_6 : decode cX12_whose 6 = .ok (.ifCond .eq 28, 3) := dc_153 (a0 := 0) (b0 := 28) aX12_whose_6 (by decide)
theorem dX12_whose_9 : decode cX12_whose 9 = .ok (.aload_n 0, 1) := dc_42 aX12_whose_9
theorem dX12_whose_10 : decode cX12_whose 10 = .ok (.iload 5, 2) := dc_21 (a0 := 5) aX12_whose_10
theorem dX12_whose_12 : decode cX12_whose 12 = .ok (.iconst 0, 1) := dc_3 aX12_whose_12
theorem dX12_whose_13 : decode cX12_whose 13 = .ok (.iconst 2, 1) := dc_5 aX12_whose_13
theorem dX12_whose_14 : decode cX12_whose 14 = .ok (.invokestatic 270, 3) := dc_184 (a0 := 1) (b0 := 14) aX12_whose_14
theorem dX12_whose_17 : decode cX12_whose 17 = .ok (.iconst 1, 1) := dc_4 aX12_whose_17
theorem dX12_whose_18 : decode cX12_whose 18 = .ok (.invokevirtual 209, 3) := dc_182 (a0 := 0) (b0 := 209) aX12_whose_18
theorem dX12_whose_21 : decode cX12_whose 21 = .ok (.ifCond .eq 13, 3) := dc_153 (a0 := 0) (b0 := 13) aX12_whose_21 (by decide)
theorem dX12_whose_24 : decode cX12_whose 24 = .ok (.aload_n 0, 1) := dc_42 aX12_whose_24
theorem dX12_whose_25 : decode cX12_whose 25 = .ok (.iload_n 3, 1) := dc_29 aX12_whose_25
theorem dX12_whose_26 : decode cX12_whose 26 = .ok (.iload 4, 2) := dc_21 (a0 := 4) aX12_whose_26
theorem dX12_whose_28 : decode cX12_whose 28 = .ok (.invokevirtual 291, 3) := dc_182 (a0 := 1) (b0 := 35) aX12_whose_28
theorem dX12_whose_31 : decode cX12_whose 31 = .ok (.ifCond .ne 5, 3) := dc_154 (a0 := 0) (b0 := 5) aX12_whose_31 (by decide)
theorem dX12_whose_34 : decode cX12_whose 34 = .ok (.iconst 0, 1) := dc_3 aX12_whose_34
theorem dX12_whose_35 : decode cX12_whose 35 = .ok (.ireturn, 1) := dc_172 aX12_whose_35
theorem dX12_whose_36 : decode cX12_whose 36 = .ok (.sipush 999, 3) := dc_17 (a0 := 3) (b0 := 231) aX12_whose_36 (by decide)
theorem dX12_whose_39 : decode cX12_whose 39 = .ok (.istore 6, 2) := dc_54 (a0 := 6) aX12_whose_39
theorem dX12_whose_41 : decode cX12_whose 41 = .ok (.iconst (-1), 1) := dc_2 aX12_whose_41
theorem dX12_whose_42 : decode cX12_whose 42 = .ok (.istore 7, 2) := dc_54 (a0 := 7) aX12_whose_42
theorem dX12_whose_44 : decode cX12_whose 44 = .ok (.iconst 0, 1) := dc_3 aX12_whose_44
theorem dX12_whose_45 : decode cX12_whose 45 = .ok (.istore 8, 2) := dc_54 (a0 := 8) aX12_whose_45
theorem dX12_whose_47 : decode cX12_whose 47 = .ok (.iconst 0, 1) := dc_3 aX12_whose_47
theorem dX12_whose_48 : decode cX12_whose 48 = .ok (.istore 9, 2) := dc_54 (a0 := 9) aX12_whose_48
theorem dX12_whose_50 : decode cX12_whose 50 = .ok (.iload 9, 2) := dc_21 (a0 := 9) aX12_whose_50
theorem dX12_whose_52 : decode cX12_whose 52 = .ok (.iconst 4, 1) := dc_7 aX12_whose_52
theorem dX12_whose_53 : decode cX12_whose 53 = .ok (.if_icmp .ge 113, 3) := dc_162 (a0 := 0) (b0 := 113) aX12_whose_53 (by decide)
theorem dX12_whose_56 : decode cX12_whose 56 = .ok (.sipush 999, 3) := dc_17 (a0 := 3) (b0 := 231) aX12_whose_56 (by decide)
theorem dX12_whose_59 : decode cX12_whose 59 = .ok (.istore 10, 2) := dc_54 (a0 := 10) aX12_whose_59
theorem dX12_whose_61 : decode cX12_whose 61 = .ok (.iload_n 3, 1) := dc_29 aX12_whose_61
theorem dX12_whose_62 : decode cX12_whose 62 = .ok (.istore 11, 2) := dc_54 (a0 := 11) aX12_whose_62
theorem dX12_whose_64 : decode cX12_whose 64 = .ok (.iload 11, 2) := dc_21 (a0 := 11) aX12_whose_64
theorem dX12_whose_66 : decode cX12_whose 66 = .ok (.iload_n 3, 1) := dc_29 aX12_whose_66
theorem dX12_whose_67 : decode cX12_whose 67 = .ok (.iload 4, 2) := dc_21 (a0 := 4) aX12_whose_67
theorem dX12_whose_69 : decode cX12_whose 69 = .ok (.iadd, 1) := dc_96 aX12_whose_69
theorem dX12_whose_70 : decode cX12_whose 70 = .ok (.if_icmp .gt 43, 3) := dc_163 (a0 := 0) (b0 := 43) aX12_whose_70 (by decide)
theorem dX12_whose_73 : decode cX12_whose 73 = .ok (.aload_n 0, 1) := dc_42 aX12_whose_73
theorem dX12_whose_74 : decode cX12_whose 74 = .ok (.bipush 20, 2) := dc_16 (a0 := 20) aX12_whose_74 (by decide)
theorem dX12_whose_76 : decode cX12_whose 76 = .ok (.iload_n 1, 1) := dc_27 aX12_whose_76
theorem dX12_whose_77 : decode cX12_whose 77 = .ok (.imul, 1) := dc_104 aX12_whose_77
theorem dX12_whose_78 : decode cX12_whose 78 = .ok (.iload_n 2, 1) := dc_28 aX12_whose_78
theorem dX12_whose_79 : decode cX12_whose 79 = .ok (.iadd, 1) := dc_96 aX12_whose_79
theorem dX12_whose_80 : decode cX12_whose 80 = .ok (.iload 9, 2) := dc_21 (a0 := 9) aX12_whose_80
theorem dX12_whose_82 : decode cX12_whose 82 = .ok (.iload 11, 2) := dc_21 (a0 := 11) aX12_whose_82
theorem dX12_whose_84 : decode cX12_whose 84 = .ok (.iload 10, 2) := dc_21 (a0 := 10) aX12_whose_84
theorem dX12_whose_86 : decode cX12_whose 86 = .ok (.invokevirtual 286, 3) := dc_182 (a0 := 1) (b0 := 30) aX12_whose_86
theorem dX12_whose_89 : decode cX12_whose 89 = .ok (.istore 12, 2) := dc_54 (a0 := 12) aX12_whose_89
theorem dX12_whose_91 : decode cX12_whose 91 = .ok (.iload 12, 2) := dc_21 (a0 := 12) aX12_whose_91
theorem dX12_whose_93 : decode cX12_whose 93 = .ok (.iload 10, 2) := dc_21 (a0 := 10) aX12_whose_93
theorem dX12_whose_95 : decode cX12_whose 95 = .ok (.if_icmp .ge 8, 3) := dc_162 (a0 := 0) (b0 := 8) aX12_whose_95 (by decide)
theorem dX12_whose_98 : decode cX12_whose 98 = .ok (.iload 12, 2) := dc_21 (a0 := 12) aX12_whose_98
theorem dX12_whose_100 : decode cX12_whose 100 = .ok (.goto 5, 3) := dc_167 (a0 := 0) (b0 := 5) aX12_whose_100 (by decide)
theorem dX12_whose_103 : decode cX12_whose 103 = .ok (.iload 10, 2) := dc_21 (a0 := 10) aX12_whose_103
theorem dX12_whose_105 : decode cX12_whose 105 = .ok (.istore 10, 2) := dc_54 (a0 := 10) aX12_whose_105
theorem dX12_whose_107 : decode cX12_whose 107 = .ok (.iinc 11 1, 3) := dc_132 (a0 := 11) (a1 := 1) aX12_whose_107 (by decide)
theorem dX12_whose_110 : decode cX12_whose 110 = .ok (.goto (-46), 3) := dc_167 (a0 := 255) (b0 := 210) aX12_whose_110 (by decide)
theorem dX12_whose_113 : decode cX12_whose 113 = .ok (.iload 10, 2) := dc_21 (a0 := 10) aX12_whose_113
theorem dX12_whose_115 : decode cX12_whose 115 = .ok (.iload 6, 2) := dc_21 (a0 := 6) aX12_whose_115
theorem dX12_whose_117 : decode cX12_whose 117 = .ok (.if_icmp .le 6, 3) := dc_164 (a0 := 0) (b0 := 6) aX12_whose_117 (by decide)
theorem dX12_whose_120 : decode cX12_whose 120 = .ok (.goto 40, 3) := dc_167 (a0 := 0) (b0 := 40) aX12_whose_120 (by decide)
theorem dX12_whose_123 : decode cX12_whose 123 = .ok (.iload 10, 2) := dc_21 (a0 := 10) aX12_whose_123
theorem dX12_whose_125 : decode cX12_whose 125 = .ok (.iload 6, 2) := dc_21 (a0 := 6) aX12_whose_125
theorem dX12_whose_127 : decode cX12_whose 127 = .ok (.if_icmp .ge 7, 3) := dc_162 (a0 := 0) (b0 := 7) aX12_whose_127 (by decide)
theorem dX12_whose_130 : decode cX12_whose 130 = .ok (.iconst 1, 1) := dc_4 aX12_whose_130
theorem dX12_whose_131 : decode cX12_whose 131 = .ok (.goto 7, 3) := dc_167 (a0 := 0) (b0 := 7) aX12_whose_131 (by decide)
theorem dX12_whose_134 : decode cX12_whose 134 = .ok (.iload 8, 2) := dc_21 (a0 := 8) aX12_whose_134
theorem dX12_whose_136 : decode cX12_whose 136 = .ok (.iconst 1, 1) := dc_4 aX12_whose_136
theorem dX12_whose_137 : decode cX12_whose 137 = .ok (.iadd, 1) := dc_96 aX12_whose_137
theorem dX12_whose_138 : decode cX12_whose 138 = .ok (.istore 8, 2) := dc_54 (a0 := 8) aX12_whose_138
theorem dX12_whose_140 : decode cX12_whose 140 = .ok (.iload 10, 2) := dc_21 (a0 := 10) aX12_whose_140
theorem dX12_whose_142 : decode cX12_whose 142 = .ok (.iload 6, 2) := dc_21 (a0 := 6) aX12_whose_142
theorem dX12_whose_144 : decode cX12_whose 144 = .ok (.if_icmp .ge 8, 3) := dc_162 (a0 := 0) (b0 := 8) aX12_whose_144 (by decide)
theorem dX12_whose_147 : decode cX12_whose 147 = .ok (.iload 9, 2) := dc_21 (a0 := 9) aX12_whose_147
theorem dX12_whose_149 : decode cX12_whose 149 = .ok (.goto 5, 3) := dc_167 (a0 := 0) (b0 := 5) aX12_whose_149 (by decide)
theorem dX12_whose_152 : decode cX12_whose 152 = .ok (.iload 7, 2) := dc_21 (a0 := 7) aX12_whose_152
theorem dX12_whose_154 : decode cX12_whose 154 = .ok (.istore 7, 2) := dc_54 (a0 := 7) aX12_whose_154
theorem dX12_whose_156 : decode cX12_whose 156 = .ok (.iload 10, 2) := dc_21 (a0 := 10) aX12_whose_156
theorem dX12_whose_158 : decode cX12_whose 158 = .ok (.istore 6, 2) := dc_54 (a0 := 6) aX12_whose_158
theorem dX12_whose_160 : decode cX12_whose 160 = .ok (.iinc 9 1, 3) := dc_132 (a0 := 9) (a1 := 1) aX12_whose_160 (by decide)
theorem dX12_whose_163 : decode cX12_whose 163 = .ok (.goto (-113), 3) := dc_167 (a0 := 255) (b0 := 143) aX12_whose_163 (by decide)
theorem dX12_whose_166 : decode cX12_whose 166 = .ok (.iload 5, 2) := dc_21 (a0 := 5) aX12_whose_166
theorem dX12_whose_168 : decode cX12_whose 168 = .ok (.ifCond .ne 8, 3) := dc_154 (a0 := 0) (b0 := 8) aX12_whose_168 (by decide)
theorem dX12_whose_171 : decode cX12_whose 171 = .ok (.iload 7, 2) := dc_21 (a0 := 7) aX12_whose_171
theorem dX12_whose_173 : decode cX12_whose 173 = .ok (.goto 16, 3) := dc_167 (a0 := 0) (b0 := 16) aX12_whose_173 (by decide)
theorem dX12_whose_176 : decode cX12_whose 176 = .ok (.iload 5, 2) := dc_21 (a0 := 5) aX12_whose_176
theorem dX12_whose_178 : decode cX12_whose 178 = .ok (.iconst 1, 1) := dc_4 aX12_whose_178
theorem dX12_whose_179 : decode cX12_whose 179 = .ok (.if_icmp .ne 8, 3) := dc_160 (a0 := 0) (b0 := 8) aX12_whose_179 (by decide)
theorem dX12_whose_182 : decode cX12_whose 182 = .ok (.iload 6, 2) := dc_21 (a0 := 6) aX12_whose_182
theorem dX12_whose_184 : decode cX12_whose 184 = .ok (.goto 5, 3) := dc_167 (a0 := 0) (b0 := 5) aX12_whose_184 (by decide)
theorem dX12_whose_187 : decode cX12_whose 187 = .ok (.iload 8, 2) := dc_21 (a0 := 8) aX12_whose_187
theorem dX12_whose_189 : decode cX12_whose 189 = .ok (.ireturn, 1) := dc_172 aX12_whose_189
set_option maxRecDepth 20000 in
theorem ggX12_mixed_X12_isWheel : GoodIn wsX12_mixed wsX12_isWheel := goodIn_k _ [[5, 0, 0, 0, 0], [4, 5, 32, 0, 0, 0, 0, 0, 0, 0, 0, 0, 0, 0, 0, 0, 0, 0, 0, 0, 0, 0, 0, 0, 0, 0, 0, 0, 0, 0, 0, 0, 0, 0, 0, 0, 0, 0, 0, 0, 0, 0, 0, 0, 0, 0, 0, 0, 0, 0, 0, 0, 0, 0, 0, 0, 0, 0, 0, 0]] (by rfl) (by decide +kernel)
set_option maxRecDepth 20000 in
theorem gX12_mixed_X12_isWheel : GoodIn wsX12_mixed (wsV RX12 247 RX12 yX12_isWheel wsX12_isWheel) := goodIn_app (goodIn_of _ (by decide +kernel)) ggX12_mixed_X12_isWheel
set_option maxRecDepth 20000 in
theorem ggX12_mixed_X12_isSpan : GoodIn wsX12_mixed wsX12_isSpan := goodIn_k _ [[14, 0, 0, 0, 0], [4, 14], [7, 0, 0, 0], [6, 36, 0, 0, 0, 0, 0, 0, 0, 0, 0, 0, 0, 0, 0, 0, 0, 0, 0, 0, 0, 0, 0, 0, 0, 0, 0, 0, 0, 0, 0, 0, 0, 0, 0, 0, 0, 0, 0, 0, 0, 0, 0, 0, 0, 0, 0, 0, 0, 0, 0, 0, 0, 0, 0, 0, 0, 0, 0]] (by rfl) (by decide +kernel)
set_option maxRecDepth 20000 in
theorem gX12_mixed_X12_isSpan : GoodIn wsX12_mixed (wsV RX12 291 RX12 yX12_isSpan wsX12_isSpan) := goodIn_app (goodIn_of _ (by decide +kernel)) ggX12_mixed_X12_isSpan
set_option maxRecDepth 20000 in
theorem ggX12_mixed_X12_isMixed : GoodIn wsX12_mixed wsX12_isMixed := goodIn_k _ [[23, 0, 0, 0], [4, 22, 0, 0, 0, 0, 0, 0, 0, 0, 0, 0, 0, 0, 0, 0, 0, 0, 0, 0, 0, 0, 0, 0, 0, 0, 0, 0, 0, 0, 0, 0, 0, 0, 0, 0, 0, 0, 0, 0, 0, 0, 0, 0, 0, 0, 0, 0, 0, 0, 0, 0, 0, 0, 0, 0, 0, 0, 0, 0, 0, 0, 0, 0, 0, 0, 0, 0, 0, 0, 0, 0, 0, 0, 0]] (by rfl) (by decide +kernel)
set_option maxRecDepth 20000 in
theorem gX12_mixed_X12_isMixed : GoodIn wsX12_mixed (wsV RX12 294 RX12 yX12_isMixed wsX12_isMixed) := goodIn_app (goodIn_of _ (by decide +kernel)) ggX12_mixed_X12_isMixed
noncomputable def sX12_mixed_62 : List Nat := 172 :: []
noncomputable def sX12_mixed_60 : List Nat := 21 :: 5 :: sX12_mixed_62
noncomputable def sX12_mixed_57 : List Nat := 167 :: 255 :: 226 :: sX12_mixed_60
noncomputable def sX12_mixed_54 : List Nat := 132 :: 6 :: 1 :: sX12_mixed_57
noncomputable def sX12_mixed_51 : List Nat := 132 :: 5 :: 1 :: sX12_mixed_54
noncomputable def sX12_mixed_48 : List Nat := 153 :: 0 :: 6 :: sX12_mixed_51
noncomputable def sX12_mixed_45 : List Nat := 182 :: 1 :: 38 :: sX12_mixed_48
noncomputable def sX12_mixed_43 : List Nat := 21 :: 6 :: sX12_mixed_45
noncomputable def sX12_mixed_42 : List Nat := 96 :: sX12_mixed_43
noncomputable def sX12_mixed_41 : List Nat := 28 :: sX12_mixed_42
noncomputable def sX12_mixed_40 : List Nat := 104 :: sX12_mixed_41
noncomputable def sX12_mixed_39 : List Nat := 27 :: sX12_mixed_40
noncomputable def sX12_mixed_37 : List Nat := 16 :: 20 :: sX12_mixed_39
noncomputable def sX12_mixed_36 : List Nat := 42 :: sX12_mixed_37
noncomputable def sX12_mixed_33 : List Nat := 163 :: 0 :: 27 :: sX12_mixed_36
noncomputable def sX12_mixed_32 : List Nat := 96 :: sX12_mixed_33
noncomputable def sX12_mixed_30 : List Nat := 21 :: 4 :: sX12_mixed_32
noncomputable def sX12_mixed_29 : List Nat := 29 :: sX12_mixed_30
noncomputable def sX12_mixed_27 : List Nat := 21 :: 6 :: sX12_mixed_29
noncomputable def sX12_mixed_25 : List Nat := 54 :: 6 :: sX12_mixed_27
noncomputable def sX12_mixed_24 : List Nat := 29 :: sX12_mixed_25
noncomputable def sX12_mixed_22 : List Nat := 54 :: 5 :: sX12_mixed_24
noncomputable def sX12_mixed_21 : List Nat := 3 :: sX12_mixed_22
noncomputable def sX12_mixed_20 : List Nat := 172 :: sX12_mixed_21
noncomputable def sX12_mixed_19 : List Nat := 3 :: sX12_mixed_20
noncomputable def sX12_mixed_16 : List Nat := 154 :: 0 :: 5 :: sX12_mixed_19
noncomputable def sX12_mixed_13 : List Nat := 182 :: 1 :: 35 :: sX12_mixed_16
noncomputable def sX12_mixed_11 : List Nat := 21 :: 4 :: sX12_mixed_13
noncomputable def sX12_mixed_10 : List Nat := 29 :: sX12_mixed_11
noncomputable def sX12_mixed_9 : List Nat := 42 :: sX12_mixed_10
noncomputable def sX12_mixed_6 : List Nat := 153 :: 0 :: 13 :: sX12_mixed_9
noncomputable def sX12_mixed_3 : List Nat := 182 :: 0 :: 247 :: sX12_mixed_6
noncomputable def sX12_mixed_2 : List Nat := 28 :: sX12_mixed_3
noncomputable def sX12_mixed_1 : List Nat := 27 :: sX12_mixed_2
noncomputable def sX12_mixed_0 : List Nat := 42 :: sX12_mixed_1
theorem aX12_mixed_0 : dc_at cX12_mixed 0 sX12_mixed_0 := dc_base (by decide +kernel)
theorem aX12_mixed_1 : dc_at cX12_mixed 1 sX12_mixed_1 := dc_n1 aX12_mixed_0
theorem aX12_mixed_2 : dc_at cX12_mixed 2 sX12_mixed_2 := dc_n1 aX12_mixed_1
theorem aX12_mixed_3 : dc_at cX12_mixed 3 sX12_mixed_3 := dc_n1 aX12_mixed_2
theorem aX12_mixed_6 : dc_at cX12_mixed 6 sX12_mixed_6 := dc_n3 aX12_mixed_3
theorem aX12_mixed_9 : dc_at cX12_mixed 9 sX12_mixed_9 := dc_n3 aX12_mixed_6
theorem aX12_mixed_10 : dc_at cX12_mixed 10 sX12_mixed_10 := dc_n1 aX12_mixed_9
theorem aX12_mixed_11 : dc_at cX12_mixed 11 sX12_mixed_11 := dc_n1 aX12_mixed_10
theorem aX12_mixed_13 : dc_at cX12_mixed 13 sX12_mixed_13 := dc_n2 aX12_mixed_11
theorem aX12_mixed_16 : dc_at cX12_mixed 16 sX12_mixed_16 := dc_n3 aX12_mixed_13
theorem aX12_mixed_19 : dc_at cX12_mixed 19 sX12_mixed_19 := dc_n3 aX12_mixed_16
theorem aX12_mixed_20 : dc_at cX12_mixed 20 sX12_mixed_20 := dc_n1 aX12_mixed_19
theorem aX12_mixed_21 : dc_at cX12_mixed 21 sX12_mixed_21 := dc_n1 aX12_mixed_20
theorem aX12_mixed_22 : dc_at cX12_mixed 22 sX12_mixed_22 := dc_n1 aX12_mixed_21
theorem aX12_mixed_24 : dc_at cX12_mixed 24 sX12_mixed_24 := dc_n2 aX12_mixed_22
theorem aX12_mixed_25 : dc_at cX12_mixed 25 sX12_mixed_25 := dc_n1 aX12_mixed_24
theorem aX12_mixed_27 : dc_at cX12_mixed 27 sX12_mixed_27 := dc_n2 aX12_mixed_25
theorem aX12_mixed_29 : dc_at cX12_mixed 29 sX12_mixed_29 := dc_n2 aX12_mixed_27
theorem aX12_mixed_30 : dc_at cX12_mixed 30 sX12_mixed_30 := dc_n1 aX12_mixed_29
theorem aX12_mixed_32 : dc_at cX12_mixed 32 sX12_mixed_32 := dc_n2 aX12_mixed_30
theorem aX12_mixed_33 : dc_at cX12_mixed 33 sX12_mixed_33 := dc_n1 aX12_mixed_32
theorem aX12_mixed_36 : dc_at cX12_mixed 36 sX12_mixed_36 := dc_n3 aX12_mixed_33
theorem aX12_mixed_37 : dc_at cX12_mixed 37 sX12_mixed_37 := dc_n1 aX12_mixed_36
theorem aX12_mixed_39 : dc_at cX12_mixed 39 sX12_mixed_39 := dc_n2 aX12_mixed_37
theorem aX12_mixed_40 : dc_at cX12_mixed 40 sX12_mixed_40 := dc_n1 aX12_mixed_39
theorem aX12_mixed_41 : dc_at cX12_mixed 41 sX12_mixed_41 := dc_n1 aX12_mixed_40
theorem aX12_mixed_42 : dc_at cX12_mixed 42 sX12_mixed_42 := dc_n1 aX12_mixed_41
theorem aX12_mixed_43 : dc_at cX12_mixed 43 sX12_mixed_43 := dc_n1 aX12_mixed_42
theorem aX12_mixed_45 : dc_at cX12_mixed 45 sX12_mixed_45 := dc_n2 aX12_mixed_43
theorem aX12_mixed_48 : dc_at cX12_mixed 48 sX12_mixed_48 := dc_n3 aX12_mixed_45
theorem aX12_mixed_51 : dc_at cX12_mixed 51 sX12_mixed_51 := dc_n3 aX12_mixed_48
theorem aX12_mixed_54 : dc_at cX12_mixed 54 sX12_mixed_54 := dc_n3 aX12_mixed_51
theorem aX12_mixed_57 : dc_at cX12_mixed 57 sX12_mixed_57 := dc_n3 aX12_mixed_54
theorem aX12_mixed_60 : dc_at cX12_mixed 60 sX12_mixed_60 := dc_n3 aX12_mixed_57
theorem aX12_mixed_62 : dc_at cX12_mixed 62 sX12_mixed_62 := dc_n2 aX12_mixed_60
theorem dX12_mixed_0 : decode cX12_mixed 0 = .ok (.aload_n 0, 1) := dc_42 aX12_mixed_0
theorem dX12_mixed_1 : decode cX12_mixed 1 = .ok (.iload_n 1, 1) := dc_27 aX12_mixed_1
theorem dX12_mixed_2 : decode cX12_mixed 2 = .ok (.iload_n 2, 1) := dc_28 aX12_mixed_2
theorem dX12_mixed_3 : decode cX12_mixed 3 = .ok (.invokevirtual 247, 3) := dc_182 (a0 := 0) (b0 := 247) aX12_mixed_3
