theorem dX11_fate_28 : decode cX11_fate 28 = .ok (.invokevirtual 354, 3) := dc_182 (a0 := 1) (b0 := 98) (dc_nn (k := 28) aX11_fate_0 rfl)
theorem dX11_fate_31 : decode cX11_fate 31 = .ok (.iconst 1, 1) := dc_4 (dc_nn (k := 31) aX11_fate_0 rfl)
theorem dX11_fate_32 : decode cX11_fate 32 = .ok (.ireturn, 1) := dc_172 (dc_nn (k := 32) aX11_fate_0 rfl)
set_option maxRecDepth 20000 in
theorem ggX11_fates_X11_within : GoodIn wsX11_fates wsX11_within := goodIn_k _ [[6]] (by rfl) (by decide +kernel)
set_option maxRecDepth 20000 in
theorem gX11_fates_X11_within : GoodIn wsX11_fates (va_wsS RX11 96 yX11_within wsX11_within) := goodIn_app (goodIn_k _ [[3, 0, 0]] (by rfl) (gw_S _ _ _ _)) ggX11_fates_X11_within
set_option maxRecDepth 20000 in
theorem ggX11_fates_X11_need : GoodIn wsX11_fates wsX11_need := goodIn_ca (goodIn_k _ [[9, 0, 0]] (by rfl) (by decide +kernel)) (goodIn_sub (fun _ h => List.mem_cons_of_mem _ (List.mem_append_right _ h)) (by decide +kernel))
set_option maxRecDepth 20000 in
theorem gX11_fates_X11_need : GoodIn wsX11_fates (va_wsS RX11 168 yX11_need wsX11_need) := goodIn_app (goodIn_k _ [[7, 0], [5]] (by rfl) (gw_S _ _ _ _)) ggX11_fates_X11_need
set_option maxRecDepth 20000 in
theorem ggX11_fates_X7_howManyToldByLot : GoodIn wsX11_fates wsX7_howManyToldByLot := goodIn_k _ [[16, 0, 0, 0, 0, 0], [15, 6, 0, 0, 0, 0, 0, 0, 0, 0, 0, 39, 0, 0, 0, 0, 0, 0, 0]] (by rfl) (by decide +kernel)
set_option maxRecDepth 20000 in
theorem gX11_fates_X7_howManyToldByLot : GoodIn wsX11_fates (wsV RX11 358 RX7 yX7_howManyToldByLot wsX7_howManyToldByLot) := goodIn_app (goodIn_k _ [[12, 0, 0, 0]] (by rfl) (gw_V _ _ _ _)) ggX11_fates_X7_howManyToldByLot
set_option maxRecDepth 20000 in
theorem ggX11_fates_X7_chanceOfFates : GoodIn wsX11_fates wsX7_chanceOfFates := goodIn_k _ [[35], [17, 18], [18, 0, 0, 0], [15, 6, 0, 0, 0, 0, 0, 0, 0, 0, 0, 5], [13, 0, 1, 21, 0, 0, 0, 0, 0, 0, 0, 0, 0, 0, 0, 0, 0, 0, 0, 0, 0, 0, 0, 13, 0, 0, 0, 0, 0, 0, 0]] (by rfl) (by decide +kernel)
set_option maxRecDepth 20000 in
theorem gX11_fates_X7_chanceOfFates : GoodIn wsX11_fates (wsV RX11 361 RX7 yX7_chanceOfFates wsX7_chanceOfFates) := goodIn_app (goodIn_k _ [[32, 0, 0], [15]] (by rfl) (gw_V _ _ _ _)) ggX11_fates_X7_chanceOfFates
noncomputable def sX11_fates_0 : List Nat := 27 :: 3 :: 4 :: 184 :: 0 :: 96 :: 184 :: 0 :: 168 :: 27 :: 154 :: 0 :: 17 :: 42 :: 180 :: 0 :: 80 :: 42 :: 180 :: 0 :: 29 :: 182 :: 1 :: 102 :: 167 :: 0 :: 14 :: 42 :: 180 :: 0 :: 80 :: 42 :: 180 :: 0 :: 29 :: 182 :: 1 :: 105 :: 172 :: []
theorem aX11_fates_0 : dc_at cX11_fates 0 sX11_fates_0 := dc_base (by decide +kernel)
theorem dX11_fates_0 : decode cX11_fates 0 = .ok (.iload_n 1, 1) := dc_27 aX11_fates_0
theorem dX11_fates_1 : decode cX11_fates 1 = .ok (.iconst 0, 1) := dc_3 (dc_nn (k := 1) aX11_fates_0 rfl)
theorem dX11_fates_2 : decode cX11_fates 2 = .ok (.iconst 1, 1) := dc_4 (dc_nn (k := 2) aX11_fates_0 rfl)
theorem dX11_fates_3 : decode cX11_fates 3 = .ok (.invokestatic 96, 3) := dc_184 (a0 := 0) (b0 := 96) (dc_nn (k := 3) aX11_fates_0 rfl)
theorem dX11_fates_6 : decode cX11_fates 6 = .ok (.invokestatic 168, 3) := dc_184 (a0 := 0) (b0 := 168) (dc_nn (k := 6) aX11_fates_0 rfl)
theorem dX11_fates_9 : decode cX11_fates 9 = .ok (.iload_n 1, 1) := dc_27 (dc_nn (k := 9) aX11_fates_0 rfl)
theorem dX11_fates_10 : decode cX11_fates 10 = .ok (.ifCond .ne 17, 3) := dc_154 (a0 := 0) (b0 := 17) (dc_nn (k := 10) aX11_fates_0 rfl) (by decide)
theorem dX11_fates_13 : decode cX11_fates 13 = .ok (.aload_n 0, 1) := dc_42 (dc_nn (k := 13) aX11_fates_0 rfl)
theorem dX11_fates_14 : decode cX11_fates 14 = .ok (.getfield 80, 3) := dc_180 (a0 := 0) (b0 := 80) (dc_nn (k := 14) aX11_fates_0 rfl)
theorem dX11_fates_17 : decode cX11_fates 17 = .ok (.aload_n 0, 1) := dc_42 (dc_nn (k := 17) aX11_fates_0 rfl)
theorem dX11_fates_18 : decode cX11_fates 18 = .ok (.getfield 29, 3) := dc_180 (a0 := 0) (b0 := 29) (dc_nn (k := 18) aX11_fates_0 rfl)
theorem dX11_fates_21 : decode cX11_fates 21 = .ok (.invokevirtual 358, 3) := dc_182 (a0 := 1) (b0 := 102) (dc_nn (k := 21) aX11_fates_0 rfl)
theorem dX11_fates_24 : decode cX11_fates 24 = .ok (.goto 14, 3) := dc_167 (a0 := 0) (b0 := 14) (dc_nn (k := 24) aX11_fates_0 rfl) (by decide)
theorem dX11_fates_27 : decode cX11_fates 27 = .ok (.aload_n 0, 1) := dc_42 (dc_nn (k := 27) aX11_fates_0 rfl)
theorem dX11_fates_28 : decode cX11_fates 28 = .ok (.getfield 80, 3) := dc_180 (a0 := 0) (b0 := 80) (dc_nn (k := 28) aX11_fates_0 rfl)
theorem dX11_fates_31 : decode cX11_fates 31 = .ok (.aload_n 0, 1) := dc_42 (dc_nn (k := 31) aX11_fates_0 rfl)
theorem dX11_fates_32 : decode cX11_fates 32 = .ok (.getfield 29, 3) := dc_180 (a0 := 0) (b0 := 29) (dc_nn (k := 32) aX11_fates_0 rfl)
theorem dX11_fates_35 : decode cX11_fates 35 = .ok (.invokevirtual 361, 3) := dc_182 (a0 := 1) (b0 := 105) (dc_nn (k := 35) aX11_fates_0 rfl)
theorem dX11_fates_38 : decode cX11_fates 38 = .ok (.ireturn, 1) := dc_172 (dc_nn (k := 38) aX11_fates_0 rfl)
set_option maxRecDepth 20000 in
theorem ggX11_hits_X11_within : GoodIn wsX11_hits wsX11_within := goodIn_k _ [[5]] (by rfl) (by decide +kernel)
set_option maxRecDepth 20000 in
theorem gX11_hits_X11_within : GoodIn wsX11_hits (va_wsS RX11 96 yX11_within wsX11_within) := goodIn_app (goodIn_k _ [[2, 0, 0]] (by rfl) (gw_S _ _ _ _)) ggX11_hits_X11_within
set_option maxRecDepth 20000 in
theorem ggX11_hits_X11_need : GoodIn wsX11_hits wsX11_need := goodIn_ca (goodIn_k _ [[8, 0, 0]] (by rfl) (by decide +kernel)) (goodIn_sub (fun _ h => List.mem_cons_of_mem _ (List.mem_append_right _ h)) (by decide +kernel))
set_option maxRecDepth 20000 in
theorem gX11_hits_X11_need : GoodIn wsX11_hits (va_wsS RX11 168 yX11_need wsX11_need) := goodIn_app (goodIn_k _ [[6, 0], [4]] (by rfl) (gw_S _ _ _ _)) ggX11_hits_X11_need
set_option maxRecDepth 20000 in
theorem ggX11_hits_X7_howManyHits : GoodIn wsX11_hits wsX7_howManyHits := goodIn_k _ [[15, 0, 0, 0, 0, 0, 0], [14, 7, 0, 0, 0, 0, 0, 0, 0, 0, 39, 0, 0, 0, 0, 0]] (by rfl) (by decide +kernel)
set_option maxRecDepth 20000 in
theorem gX11_hits_X7_howManyHits : GoodIn wsX11_hits (wsV RX11 364 RX7 yX7_howManyHits wsX7_howManyHits) := goodIn_app (goodIn_k _ [[11, 0, 0, 0]] (by rfl) (gw_V _ _ _ _)) ggX11_hits_X7_howManyHits
set_option maxRecDepth 20000 in
theorem ggX11_hits_X7_chanceOfLives : GoodIn wsX11_hits wsX7_chanceOfLives := goodIn_k _ [[34], [16, 18], [17, 0, 0, 0, 0], [14, 7, 0, 0, 0, 0, 0, 0, 0, 0, 5], [12, 0, 1, 21, 0, 0, 0, 0, 0, 0, 0, 0, 0, 0, 0, 0, 0, 0, 0, 0, 0, 0, 0, 13, 0, 0, 0, 0, 0]] (by rfl) (by decide +kernel)
set_option maxRecDepth 20000 in
theorem gX11_hits_X7_chanceOfLives : GoodIn wsX11_hits (wsV RX11 367 RX7 yX7_chanceOfLives wsX7_chanceOfLives) := goodIn_app (goodIn_k _ [[31, 0, 0], [14]] (by rfl) (gw_V _ _ _ _)) ggX11_hits_X7_chanceOfLives
noncomputable def sX11_hits_42 : List Nat := 42 :: 180 :: 0 :: 80 :: 28 :: 182 :: 1 :: 111 :: 172 :: []
noncomputable def sX11_hits_0 : List Nat := 27 :: 3 :: 4 :: 184 :: 0 :: 96 :: 153 :: 0 :: 17 :: 28 :: 3 :: 16 :: 120 :: 184 :: 0 :: 96 :: 153 :: 0 :: 7 :: 4 :: 167 :: 0 :: 4 :: 3 :: 184 :: 0 :: 168 :: 27 :: 154 :: 0 :: 14 :: 42 :: 180 :: 0 :: 80 :: 28 :: 182 :: 1 :: 108 :: 167 :: 0 :: 11 :: sX11_hits_42
theorem aX11_hits_0 : dc_at cX11_hits 0 sX11_hits_0 := dc_base (by decide +kernel)
theorem aX11_hits_42 : dc_at cX11_hits 42 sX11_hits_42 := dc_nn (k := 42) aX11_hits_0 rfl
theorem dX11_hits_0 : decode cX11_hits 0 = .ok (.iload_n 1, 1) := dc_27 aX11_hits_0
theorem dX11_hits_1 : decode cX11_hits 1 = .ok (.iconst 0, 1) := dc_3 (dc_nn (k := 1) aX11_hits_0 rfl)
theorem dX11_hits_2 : decode cX11_hits 2 = .ok (.iconst 1, 1) := dc_4 (dc_nn (k := 2) aX11_hits_0 rfl)
theorem dX11_hits_3 : decode cX11_hits 3 = .ok (.invokestatic 96, 3) := dc_184 (a0 := 0) (b0 := 96) (dc_nn (k := 3) aX11_hits_0 rfl)
theorem dX11_hits_6 : decode cX11_hits 6 = .ok (.ifCond .eq 17, 3) := dc_153 (a0 := 0) (b0 := 17) (dc_nn (k := 6) aX11_hits_0 rfl) (by decide)
theorem dX11_hits_9 : decode cX11_hits 9 = .ok (.iload_n 2, 1) := dc_28 (dc_nn (k := 9) aX11_hits_0 rfl)
theorem dX11_hits_10 : decode cX11_hits 10 = .ok (.iconst 0, 1) := dc_3 (dc_nn (k := 10) aX11_hits_0 rfl)
theorem dX11_hits_11 : decode cX11_hits 11 = .ok (.bipush 120, 2) := dc_16 (a0 := 120) (dc_nn (k := 11) aX11_hits_0 rfl) (by decide)
theorem dX11_hits_13 : decode cX11_hits 13 = .ok (.invokestatic 96, 3) := dc_184 (a0 := 0) (b0 := 96) (dc_nn (k := 13) aX11_hits_0 rfl)
theorem dX11_hits_16 : decode cX11_hits 16 = .ok (.ifCond .eq 7, 3) := dc_153 (a0 := 0) (b0 := 7) (dc_nn (k := 16) aX11_hits_0 rfl) (by decide)
theorem dX11_hits_19 : decode cX11_hits 19 = .ok (.iconst 1, 1) := dc_4 (dc_nn (k := 19) aX11_hits_0 rfl)
theorem dX11_hits_20 : decode cX11_hits 20 = .ok (.goto 4, 3) := dc_167 (a0 := 0) (b0 := 4) (dc_nn (k := 20) aX11_hits_0 rfl) (by decide)
theorem dX11_hits_23 : decode cX11_hits 23 = .ok (.iconst 0, 1) := dc_3 (dc_nn (k := 23) aX11_hits_0 rfl)
theorem dX11_hits_24 : decode cX11_hits 24 = .ok (.invokestatic 168, 3) := dc_184 (a0 := 0) (b0 := 168) (dc_nn (k := 24) aX11_hits_0 rfl)
theorem dX11_hits_27 : decode cX11_hits 27 = .ok (.iload_n 1, 1) := dc_27 (dc_nn (k := 27) aX11_hits_0 rfl)
theorem dX11_hits_28 : decode cX11_hits 28 = .ok (.ifCond .ne 14, 3) := dc_154 (a0 := 0) (b0 := 14) (dc_nn (k := 28) aX11_hits_0 rfl) (by decide)
theorem dX11_hits_31 : decode cX11_hits 31 = .ok (.aload_n 0, 1) := dc_42 (dc_nn (k := 31) aX11_hits_0 rfl)
theorem dX11_hits_32 : decode cX11_hits 32 = .ok (.getfield 80, 3) := dc_180 (a0 := 0) (b0 := 80) (dc_nn (k := 32) aX11_hits_0 rfl)
theorem dX11_hits_35 : decode cX11_hits 35 = .ok (.iload_n 2, 1) := dc_28 (dc_nn (k := 35) aX11_hits_0 rfl)
theorem dX11_hits_36 : decode cX11_hits 36 = .ok (.invokevirtual 364, 3) := dc_182 (a0 := 1) (b0 := 108) (dc_nn (k := 36) aX11_hits_0 rfl)
theorem dX11_hits_39 : decode cX11_hits 39 = .ok (.goto 11, 3) := dc_167 (a0 := 0) (b0 := 11) (dc_nn (k := 39) aX11_hits_0 rfl) (by decide)
theorem dX11_hits_42 : decode cX11_hits 42 = .ok (.aload_n 0, 1) := dc_42 aX11_hits_42
theorem dX11_hits_43 : decode cX11_hits 43 = .ok (.getfield 80, 3) := dc_180 (a0 := 0) (b0 := 80) (dc_nn (k := 1) aX11_hits_42 rfl)
theorem dX11_hits_46 : decode cX11_hits 46 = .ok (.iload_n 2, 1) := dc_28 (dc_nn (k := 4) aX11_hits_42 rfl)
theorem dX11_hits_47 : decode cX11_hits 47 = .ok (.invokevirtual 367, 3) := dc_182 (a0 := 1) (b0 := 111) (dc_nn (k := 5) aX11_hits_42 rfl)
theorem dX11_hits_50 : decode cX11_hits 50 = .ok (.ireturn, 1) := dc_172 (dc_nn (k := 8) aX11_hits_42 rfl)
noncomputable def sX11_within_0 : List Nat := 26 :: 27 :: 161 :: 0 :: 12 :: 26 :: 28 :: 163 :: 0 :: 7 :: 4 :: 167 :: 0 :: 4 :: 3 :: 172 :: []
theorem aX11_within_0 : dc_at cX11_within 0 sX11_within_0 := dc_base (by decide +kernel)
theorem dX11_within_0 : decode cX11_within 0 = .ok (.iload_n 0, 1) := dc_26 aX11_within_0
theorem dX11_within_1 : decode cX11_within 1 = .ok (.iload_n 1, 1) := dc_27 (dc_nn (k := 1) aX11_within_0 rfl)
theorem dX11_within_2 : decode cX11_within 2 = .ok (.if_icmp .lt 12, 3) := dc_161 (a0 := 0) (b0 := 12) (dc_nn (k := 2) aX11_within_0 rfl) (by decide)
theorem dX11_within_5 : decode cX11_within 5 = .ok (.iload_n 0, 1) := dc_26 (dc_nn (k := 5) aX11_within_0 rfl)
theorem dX11_within_6 : decode cX11_within 6 = .ok (.iload_n 2, 1) := dc_28 (dc_nn (k := 6) aX11_within_0 rfl)
theorem dX11_within_7 : decode cX11_within 7 = .ok (.if_icmp .gt 7, 3) := dc_163 (a0 := 0) (b0 := 7) (dc_nn (k := 7) aX11_within_0 rfl) (by decide)
theorem dX11_within_10 : decode cX11_within 10 = .ok (.iconst 1, 1) := dc_4 (dc_nn (k := 10) aX11_within_0 rfl)
theorem dX11_within_11 : decode cX11_within 11 = .ok (.goto 4, 3) := dc_167 (a0 := 0) (b0 := 4) (dc_nn (k := 11) aX11_within_0 rfl) (by decide)
theorem dX11_within_14 : decode cX11_within 14 = .ok (.iconst 0, 1) := dc_3 (dc_nn (k := 14) aX11_within_0 rfl)
theorem dX11_within_15 : decode cX11_within 15 = .ok (.ireturn, 1) := dc_172 (dc_nn (k := 15) aX11_within_0 rfl)
set_option maxRecDepth 20000 in
theorem ggX11_isBook_X11_within : GoodIn wsX11_isBook wsX11_within := goodIn_k _ [[4]] (by rfl) (by decide +kernel)
set_option maxRecDepth 20000 in
theorem gX11_isBook_X11_within : GoodIn wsX11_isBook (va_wsS RX11 96 yX11_within wsX11_within) := goodIn_app (goodIn_k _ [[1, 0, 0]] (by rfl) (gw_S _ _ _ _)) ggX11_isBook_X11_within
noncomputable def sX11_isBook_0 : List Nat := 26 :: 3 :: 8 :: 184 :: 0 :: 96 :: 172 :: []
theorem aX11_isBook_0 : dc_at cX11_isBook 0 sX11_isBook_0 := dc_base (by decide +kernel)
theorem dX11_isBook_0 : decode cX11_isBook 0 = .ok (.iload_n 0, 1) := dc_26 aX11_isBook_0
theorem dX11_isBook_1 : decode cX11_isBook 1 = .ok (.iconst 0, 1) := dc_3 (dc_nn (k := 1) aX11_isBook_0 rfl)
theorem dX11_isBook_2 : decode cX11_isBook 2 = .ok (.iconst 5, 1) := dc_8 (dc_nn (k := 2) aX11_isBook_0 rfl)
theorem dX11_isBook_3 : decode cX11_isBook 3 = .ok (.invokestatic 96, 3) := dc_184 (a0 := 0) (b0 := 96) (dc_nn (k := 3) aX11_isBook_0 rfl)
theorem dX11_isBook_6 : decode cX11_isBook 6 = .ok (.ireturn, 1) := dc_172 (dc_nn (k := 6) aX11_isBook_0 rfl)
set_option maxRecDepth 20000 in
theorem ggX11_isNumber_X11_within : GoodIn wsX11_isNumber wsX11_within := goodIn_k _ [[4]] (by rfl) (by decide +kernel)
set_option maxRecDepth 20000 in
theorem gX11_isNumber_X11_within : GoodIn wsX11_isNumber (va_wsS RX11 96 yX11_within wsX11_within) := goodIn_app (goodIn_k _ [[1, 0, 0]] (by rfl) (gw_S _ _ _ _)) ggX11_isNumber_X11_within
noncomputable def sX11_isNumber_0 : List Nat := 26 :: 3 :: 16 :: 119 :: 184 :: 0 :: 96 :: 172 :: []
theorem aX11_isNumber_0 : dc_at cX11_isNumber 0 sX11_isNumber_0 := dc_base (by decide +kernel)
theorem dX11_isNumber_0 : decode cX11_isNumber 0 = .ok (.iload_n 0, 1) := dc_26 aX11_isNumber_0
theorem dX11_isNumber_1 : decode cX11_isNumber 1 = .ok (.iconst 0, 1) := dc_3 (dc_nn (k := 1) aX11_isNumber_0 rfl)
theorem dX11_isNumber_2 : decode cX11_isNumber 2 = .ok (.bipush 119, 2) := dc_16 (a0 := 119) (dc_nn (k := 2) aX11_isNumber_0 rfl) (by decide)
theorem dX11_isNumber_4 : decode cX11_isNumber 4 = .ok (.invokestatic 96, 3) := dc_184 (a0 := 0) (b0 := 96) (dc_nn (k := 4) aX11_isNumber_0 rfl)
theorem dX11_isNumber_7 : decode cX11_isNumber 7 = .ok (.ireturn, 1) := dc_172 (dc_nn (k := 7) aX11_isNumber_0 rfl)
set_option maxRecDepth 20000 in
theorem ggX11_isDay_X11_within : GoodIn wsX11_isDay wsX11_within := goodIn_k _ [[5]] (by rfl) (by decide +kernel)
set_option maxRecDepth 20000 in
theorem gX11_isDay_X11_within : GoodIn wsX11_isDay (va_wsS RX11 96 yX11_within wsX11_within) := goodIn_app (goodIn_k _ [[2, 0, 0]] (by rfl) (gw_S _ _ _ _)) ggX11_isDay_X11_within
noncomputable def sX11_isDay_0 : List Nat := 26 :: 3 :: 19 :: 1 :: 114 :: 184 :: 0 :: 96 :: 172 :: []
theorem aX11_isDay_0 : dc_at cX11_isDay 0 sX11_isDay_0 := dc_base (by decide +kernel)
theorem dX11_isDay_0 : decode cX11_isDay 0 = .ok (.iload_n 0, 1) := dc_26 aX11_isDay_0
theorem dX11_isDay_1 : decode cX11_isDay 1 = .ok (.iconst 0, 1) := dc_3 (dc_nn (k := 1) aX11_isDay_0 rfl)
theorem dX11_isDay_2 : decode cX11_isDay 2 = .ok (.ldc_w 370, 3) := dc_19 (a0 := 1) (b0 := 114) (dc_nn (k := 2) aX11_isDay_0 rfl)
theorem dX11_isDay_5 : decode cX11_isDay 5 = .ok (.invokestatic 96, 3) := dc_184 (a0 := 0) (b0 := 96) (dc_nn (k := 5) aX11_isDay_0 rfl)
theorem dX11_isDay_8 : decode cX11_isDay 8 = .ok (.ireturn, 1) := dc_172 (dc_nn (k := 8) aX11_isDay_0 rfl)
set_option maxRecDepth 20000 in
theorem ggX11_isSpan_X11_within : GoodIn wsX11_isSpan wsX11_within := goodIn_k _ [[6]] (by rfl) (by decide +kernel)
set_option maxRecDepth 20000 in
theorem gX11_isSpan_X11_within : GoodIn wsX11_isSpan (va_wsS RX11 96 yX11_within wsX11_within) := goodIn_app (goodIn_k _ [[3, 0, 0]] (by rfl) (gw_S _ _ _ _)) ggX11_isSpan_X11_within
noncomputable def sX11_isSpan_0 : List Nat := 27 :: 3 :: 19 :: 1 :: 1 :: 184 :: 0 :: 96 :: 153 :: 0 :: 16 :: 27 :: 19 :: 1 :: 114 :: 26 :: 100 :: 163 :: 0 :: 7 :: 4 :: 167 :: 0 :: 4 :: 3 :: 172 :: []
theorem aX11_isSpan_0 : dc_at cX11_isSpan 0 sX11_isSpan_0 := dc_base (by decide +kernel)
theorem dX11_isSpan_0 : decode cX11_isSpan 0 = .ok (.iload_n 1, 1) := dc_27 aX11_isSpan_0
theorem dX11_isSpan_1 : decode cX11_isSpan 1 = .ok (.iconst 0, 1) := dc_3 (dc_nn (k := 1) aX11_isSpan_0 rfl)
theorem dX11_isSpan_2 : decode cX11_isSpan 2 = .ok (.ldc_w 257, 3) := dc_19 (a0 := 1) (b0 := 1) (dc_nn (k := 2) aX11_isSpan_0 rfl)
theorem dX11_isSpan_5 : decode cX11_isSpan 5 = .ok (.invokestatic 96, 3) := dc_184 (a0 := 0) (b0 := 96) (dc_nn (k := 5) aX11_isSpan_0 rfl)
theorem dX11_isSpan_8 : decode cX11_isSpan 8 = .ok (.ifCond .eq 16, 3) := dc_153 (a0 := 0) (b0 := 16) (dc_nn (k := 8) aX11_isSpan_0 rfl) (by decide)
theorem dX11_isSpan_11 : decode cX11_isSpan 11 = .ok (.iload_n 1, 1) := dc_27 (dc_nn (k := 11) aX11_isSpan_0 rfl)
theorem dX11_isSpan_12 : decode cX11_isSpan 12 = .ok (.ldc_w 370, 3) := dc_19 (a0 := 1) (b0 := 114) (dc_nn (k := 12) aX11_isSpan_0 rfl)
theorem dX11_isSpan_15 : decode cX11_isSpan 15 = .ok (.iload_n 0, 1) := dc_26 (dc_nn (k := 15) aX11_isSpan_0 rfl)
theorem dX11_isSpan_16 : decode cX11_isSpan 16 = .ok (.isub, 1) := dc_100 (dc_nn (k := 16) aX11_isSpan_0 rfl)
theorem dX11_isSpan_17 : decode cX11_isSpan 17 = .ok (.if_icmp .gt 7, 3) := dc_163 (a0 := 0) (b0 := 7) (dc_nn (k := 17) aX11_isSpan_0 rfl) (by decide)
theorem dX11_isSpan_20 : decode cX11_isSpan 20 = .ok (.iconst 1, 1) := dc_4 (dc_nn (k := 20) aX11_isSpan_0 rfl)
theorem dX11_isSpan_21 : decode cX11_isSpan 21 = .ok (.goto 4, 3) := dc_167 (a0 := 0) (b0 := 4) (dc_nn (k := 21) aX11_isSpan_0 rfl) (by decide)
theorem dX11_isSpan_24 : decode cX11_isSpan 24 = .ok (.iconst 0, 1) := dc_3 (dc_nn (k := 24) aX11_isSpan_0 rfl)
theorem dX11_isSpan_25 : decode cX11_isSpan 25 = .ok (.ireturn, 1) := dc_172 (dc_nn (k := 25) aX11_isSpan_0 rfl)
set_option maxRecDepth 20000 in
theorem ggX11_isClimate_X11_within : GoodIn wsX11_isClimate wsX11_within := goodIn_k _ [[7]] (by rfl) (by decide +kernel)
set_option maxRecDepth 20000 in
theorem gX11_isClimate_X11_within : GoodIn wsX11_isClimate (va_wsS RX11 96 yX11_within wsX11_within) := goodIn_app (goodIn_k _ [[4, 0, 0]] (by rfl) (gw_S _ _ _ _)) ggX11_isClimate_X11_within
noncomputable def sX11_isClimate_0 : List Nat := 27 :: 3 :: 42 :: 180 :: 0 :: 19 :: 180 :: 0 :: 131 :: 180 :: 0 :: 135 :: 4 :: 100 :: 184 :: 0 :: 96 :: 172 :: []
theorem aX11_isClimate_0 : dc_at cX11_isClimate 0 sX11_isClimate_0 := dc_base (by decide +kernel)
theorem dX11_isClimate_0 : decode cX11_isClimate 0 = .ok (.iload_n 1, 1) := dc_27 aX11_isClimate_0
theorem dX11_isClimate_1 : decode cX11_isClimate 1 = .ok (.iconst 0, 1) := dc_3 (dc_nn (k := 1) aX11_isClimate_0 rfl)
theorem dX11_isClimate_2 : decode cX11_isClimate 2 = .ok (.aload_n 0, 1) := dc_42 (dc_nn (k := 2) aX11_isClimate_0 rfl)
theorem dX11_isClimate_3 : decode cX11_isClimate 3 = .ok (.getfield 19, 3) := dc_180 (a0 := 0) (b0 := 19) (dc_nn (k := 3) aX11_isClimate_0 rfl)
theorem dX11_isClimate_6 : decode cX11_isClimate 6 = .ok (.getfield 131, 3) := dc_180 (a0 := 0) (b0 := 131) (dc_nn (k := 6) aX11_isClimate_0 rfl)
theorem dX11_isClimate_9 : decode cX11_isClimate 9 = .ok (.getfield 135, 3) := dc_180 (a0 := 0) (b0 := 135) (dc_nn (k := 9) aX11_isClimate_0 rfl)
theorem dX11_isClimate_12 : decode cX11_isClimate 12 = .ok (.iconst 1, 1) := dc_4 (dc_nn (k := 12) aX11_isClimate_0 rfl)
theorem dX11_isClimate_13 : decode cX11_isClimate 13 = .ok (.isub, 1) := dc_100 (dc_nn (k := 13) aX11_isClimate_0 rfl)
theorem dX11_isClimate_14 : decode cX11_isClimate 14 = .ok (.invokestatic 96, 3) := dc_184 (a0 := 0) (b0 := 96) (dc_nn (k := 14) aX11_isClimate_0 rfl)
theorem dX11_isClimate_17 : decode cX11_isClimate 17 = .ok (.ireturn, 1) := dc_172 (dc_nn (k := 17) aX11_isClimate_0 rfl)
set_option maxRecDepth 20000 in
theorem ggX11_isWay_X11_within : GoodIn wsX11_isWay wsX11_within := goodIn_k _ [[4]] (by rfl) (by decide +kernel)
set_option maxRecDepth 20000 in
theorem gX11_isWay_X11_within : GoodIn wsX11_isWay (va_wsS RX11 96 yX11_within wsX11_within) := goodIn_app (goodIn_k _ [[1, 0, 0]] (by rfl) (gw_S _ _ _ _)) ggX11_isWay_X11_within
set_option maxRecDepth 20000 in
theorem ggX11_isWay_X11_isClimate : GoodIn wsX11_isWay wsX11_isClimate := goodIn_k _ [[8, 0, 0, 0], [1, 0, 0, 0, 7, 0, 0, 0, 0, 0, 0, 0, 0, 0, 0, 0, 0, 0, 0, 0, 0, 0, 0, 0, 0]] (by rfl) (by decide +kernel)
set_option maxRecDepth 20000 in
theorem gX11_isWay_X11_isClimate : GoodIn wsX11_isWay (wsV RX11 212 RX11 yX11_isClimate wsX11_isClimate) := goodIn_app (goodIn_k _ [[5, 0, 0], [3]] (by rfl) (gw_V _ _ _ _)) ggX11_isWay_X11_isClimate
noncomputable def sX11_isWay_0 : List Nat := 27 :: 3 :: 4 :: 184 :: 0 :: 96 :: 154 :: 0 :: 16 :: 27 :: 5 :: 160 :: 0 :: 15 :: 42 :: 28 :: 182 :: 0 :: 212 :: 153 :: 0 :: 7 :: 4 :: 167 :: 0 :: 4 :: 3 :: 172 :: []
theorem aX11_isWay_0 : dc_at cX11_isWay 0 sX11_isWay_0 := dc_base (by decide +kernel)
theorem dX11_isWay_0 : decode cX11_isWay 0 = .ok (.iload_n 1, 1) := dc_27 aX11_isWay_0
theorem dX11_isWay_1 : decode cX11_isWay 1 = .ok (.iconst 0, 1) := dc_3 (dc_nn (k := 1) aX11_isWay_0 rfl)
theorem dX11_isWay_2 : decode cX11_isWay 2 = .ok (.iconst 1, 1) := dc_4 (dc_nn (k := 2) aX11_isWay_0 rfl)
theorem dX11_isWay_3 : decode cX11_isWay 3 = .ok (.invokestatic 96, 3) := dc_184 (a0 := 0) (b0 := 96) (dc_nn (k := 3) aX11_isWay_0 rfl)
theorem dX11_isWay_6 : decode cX11_isWay 6 = .ok (.ifCond .ne 16, 3) := dc_154 (a0 := 0) (b0 := 16) (dc_nn (k := 6) aX11_isWay_0 rfl) (by decide)
theorem dX11_isWay_9 : decode cX11_isWay 9 = .ok (.iload_n 1, 1) := dc_27 (dc_nn (k := 9) aX11_isWay_0 rfl)
theorem dX11_isWay_10 : decode cX11_isWay 10 = .ok (.iconst 2, 1) := dc_5 (dc_nn (k := 10) aX11_isWay_0 rfl)
theorem dX11_isWay_11 : decode cX11_isWay 11 = .ok (.if_icmp .ne 15, 3) := dc_160 (a0 := 0) (b0 := 15) (dc_nn (k := 11) aX11_isWay_0 rfl) (by decide)
theorem dX11_isWay_14 : decode cX11_isWay 14 = .ok (.aload_n 0, 1) := dc_42 (dc_nn (k := 14) aX11_isWay_0 rfl)
theorem dX11_isWay_15 : decode cX11_isWay 15 = .ok (.iload_n 2, 1) := dc_28 (dc_nn (k := 15) aX11_isWay_0 rfl)
theorem dX11_isWay_16 : decode cX11_isWay 16 = .ok (.invokevirtual 212, 3) := dc_182 (a0 := 0) (b0 := 212) (dc_nn (k := 16) aX11_isWay_0 rfl)
theorem dX11_isWay_19 : decode cX11_isWay 19 = .ok (.ifCond .eq 7, 3) := dc_153 (a0 := 0) (b0 := 7) (dc_nn (k := 19) aX11_isWay_0 rfl) (by decide)
theorem dX11_isWay_22 : decode cX11_isWay 22 = .ok (.iconst 1, 1) := dc_4 (dc_nn (k := 22) aX11_isWay_0 rfl)
theorem dX11_isWay_23 : decode cX11_isWay 23 = .ok (.goto 4, 3) := dc_167 (a0 := 0) (b0 := 4) (dc_nn (k := 23) aX11_isWay_0 rfl) (by decide)
theorem dX11_isWay_26 : decode cX11_isWay 26 = .ok (.iconst 0, 1) := dc_3 (dc_nn (k := 26) aX11_isWay_0 rfl)
theorem dX11_isWay_27 : decode cX11_isWay 27 = .ok (.ireturn, 1) := dc_172 (dc_nn (k := 27) aX11_isWay_0 rfl)
noncomputable def sX11_need_0 : List Nat := 26 :: 154 :: 0 :: 14 :: 187 :: 0 :: 157 :: 89 :: 19 :: 1 :: 115 :: 183 :: 0 :: 161 :: 191 :: 177 :: []
theorem aX11_need_0 : dc_at cX11_need 0 sX11_need_0 := dc_base (by decide +kernel)
theorem dX11_need_0 : decode cX11_need 0 = .ok (.iload_n 0, 1) := dc_26 aX11_need_0
theorem dX11_need_1 : decode cX11_need 1 = .ok (.ifCond .ne 14, 3) := dc_154 (a0 := 0) (b0 := 14) (dc_nn (k := 1) aX11_need_0 rfl) (by decide)
theorem dX11_need_4 : decode cX11_need 4 = .ok (.new 157, 3) := dc_187 (a0 := 0) (b0 := 157) (dc_nn (k := 4) aX11_need_0 rfl)
theorem dX11_need_7 : decode cX11_need 7 = .ok (.dup, 1) := dc_89 (dc_nn (k := 7) aX11_need_0 rfl)
theorem dX11_need_8 : decode cX11_need 8 = .ok (.ldc_w 371, 3) := dc_19 (a0 := 1) (b0 := 115) (dc_nn (k := 8) aX11_need_0 rfl)
theorem dX11_need_11 : decode cX11_need 11 = .ok (.invokespecial 161, 3) := dc_183 (a0 := 0) (b0 := 161) (dc_nn (k := 11) aX11_need_0 rfl)
theorem dX11_need_14 : decode cX11_need 14 = .ok (.athrow, 1) := dc_191 (dc_nn (k := 14) aX11_need_0 rfl)
theorem dX11_need_15 : decode cX11_need 15 = .ok (.return_, 1) := dc_177 (dc_nn (k := 15) aX11_need_0 rfl)
noncomputable def sX11_allow_0 : List Nat := 26 :: 154 :: 0 :: 14 :: 187 :: 1 :: 117 :: 89 :: 19 :: 1 :: 119 :: 183 :: 1 :: 121 :: 191 :: 177 :: []
theorem aX11_allow_0 : dc_at cX11_allow 0 sX11_allow_0 := dc_base (by decide +kernel)
theorem dX11_allow_0 : decode cX11_allow 0 = .ok (.iload_n 0, 1) := dc_26 aX11_allow_0
theorem dX11_allow_1 : decode cX11_allow 1 = .ok (.ifCond .ne 14, 3) := dc_154 (a0 := 0) (b0 := 14) (dc_nn (k := 1) aX11_allow_0 rfl) (by decide)
theorem dX11_allow_4 : decode cX11_allow 4 = .ok (.new 373, 3) := dc_187 (a0 := 1) (b0 := 117) (dc_nn (k := 4) aX11_allow_0 rfl)
theorem dX11_allow_7 : decode cX11_allow 7 = .ok (.dup, 1) := dc_89 (dc_nn (k := 7) aX11_allow_0 rfl)
theorem dX11_allow_8 : decode cX11_allow 8 = .ok (.ldc_w 375, 3) := dc_19 (a0 := 1) (b0 := 119) (dc_nn (k := 8) aX11_allow_0 rfl)
theorem dX11_allow_11 : decode cX11_allow 11 = .ok (.invokespecial 377, 3) := dc_183 (a0 := 1) (b0 := 121) (dc_nn (k := 11) aX11_allow_0 rfl)
theorem dX11_allow_14 : decode cX11_allow 14 = .ok (.athrow, 1) := dc_191 (dc_nn (k := 14) aX11_allow_0 rfl)
theorem dX11_allow_15 : decode cX11_allow 15 = .ok (.return_, 1) := dc_177 (dc_nn (k := 15) aX11_allow_0 rfl)
set_option maxRecDepth 20000 in
theorem ggX11_numberOf_X11_isBook : GoodIn wsX11_numberOf wsX11_isBook := goodIn_k _ [[4, 0, 0], [3, 3]] (by rfl) (by decide +kernel)
set_option maxRecDepth 20000 in
theorem gX11_numberOf_X11_isBook : GoodIn wsX11_numberOf (va_wsS RX11 250 yX11_isBook wsX11_isBook) := goodIn_app (goodIn_k _ [[1, 0, 0]] (by rfl) (gw_S _ _ _ _)) ggX11_numberOf_X11_isBook
set_option maxRecDepth 20000 in
theorem ggX11_numberOf_X11_within : GoodIn wsX11_numberOf wsX11_within := goodIn_k _ [[7]] (by rfl) (by decide +kernel)
set_option maxRecDepth 20000 in
theorem gX11_numberOf_X11_within : GoodIn wsX11_numberOf (va_wsS RX11 96 yX11_within wsX11_within) := goodIn_app (goodIn_k _ [[5, 0], [3]] (by rfl) (gw_S _ _ _ _)) ggX11_numberOf_X11_within
set_option maxRecDepth 20000 in
theorem ggX11_numberOf_X11_need : GoodIn wsX11_numberOf wsX11_need := goodIn_ca (goodIn_k _ [[10, 0, 0]] (by rfl) (by decide +kernel)) (goodIn_sub (fun _ h => List.mem_cons_of_mem _ (List.mem_append_right _ h)) (by decide +kernel))
set_option maxRecDepth 20000 in
theorem gX11_numberOf_X11_need : GoodIn wsX11_numberOf (va_wsS RX11 168 yX11_need wsX11_need) := goodIn_app (goodIn_k _ [[8, 0], [3]] (by rfl) (gw_S _ _ _ _)) ggX11_numberOf_X11_need
noncomputable def sX11_numberOf_0 : List Nat := 26 :: 184 :: 0 :: 250 :: 153 :: 0 :: 17 :: 27 :: 3 :: 16 :: 19 :: 184 :: 0 :: 96 :: 153 :: 0 :: 7 :: 4 :: 167 :: 0 :: 4 :: 3 :: 184 :: 0 :: 168 :: 16 :: 20 :: 26 :: 104 :: 27 :: 96 :: 172 :: []
theorem aX11_numberOf_0 : dc_at cX11_numberOf 0 sX11_numberOf_0 := dc_base (by decide +kernel)
theorem dX11_numberOf_0 : decode cX11_numberOf 0 = .ok (.iload_n 0, 1) := dc_26 aX11_numberOf_0
theorem dX11_numberOf_1 : decode cX11_numberOf 1 = .ok (.invokestatic 250, 3) := dc_184 (a0 := 0) (b0 := 250) (dc_nn (k := 1) aX11_numberOf_0 rfl)
theorem dX11_numberOf_4 : decode cX11_numberOf 4 = .ok (.ifCond .eq 17, 3) := dc_153 (a0 := 0) (b0 := 17) (dc_nn (k := 4) aX11_numberOf_0 rfl) (by decide)
theorem dX11_numberOf_7 : decode cX11_numberOf 7 = .ok (.iload_n 1, 1) := dc_27 (dc_nn (k := 7) aX11_numberOf_0 rfl)
theorem dX11_numberOf_8 : decode cX11_numberOf 8 = .ok (.iconst 0, 1) := dc_3 (dc_nn (k := 8) aX11_numberOf_0 rfl)
theorem dX11_numberOf_9 : decode cX11_numberOf 9 = .ok (.bipush 19, 2) := dc_16 (a0 := 19) (dc_nn (k := 9) aX11_numberOf_0 rfl) (by decide)
theorem dX11_numberOf_11 : decode cX11_numberOf 11 = .ok (.invokestatic 96, 3) := dc_184 (a0 := 0) (b0 := 96) (dc_nn (k := 11) aX11_numberOf_0 rfl)
theorem dX11_numberOf_14 : decode cX11_numberOf 14 = .ok (.ifCond .eq 7, 3) := dc_153 (a0 := 0) (b0 := 7) (dc_nn (k := 14) aX11_numberOf_0 rfl) (by decide)
theorem dX11_numberOf_17 : decode cX11_numberOf 17 = .ok (.iconst 1, 1) := dc_4 (dc_nn (k := 17) aX11_numberOf_0 rfl)
theorem dX11_numberOf_18 : decode cX11_numberOf 18 = .ok (.goto 4, 3) := dc_167 (a0 := 0) (b0 := 4) (dc_nn (k := 18) aX11_numberOf_0 rfl) (by decide)
theorem dX11_numberOf_21 : decode cX11_numberOf 21 = .ok (.iconst 0, 1) := dc_3 (dc_nn (k := 21) aX11_numberOf_0 rfl)
theorem dX11_numberOf_22 : decode cX11_numberOf 22 = .ok (.invokestatic 168, 3) := dc_184 (a0 := 0) (b0 := 168) (dc_nn (k := 22) aX11_numberOf_0 rfl)
theorem dX11_numberOf_25 : decode cX11_numberOf 25 = .ok (.bipush 20, 2) := dc_16 (a0 := 20) (dc_nn (k := 25) aX11_numberOf_0 rfl) (by decide)
theorem dX11_numberOf_27 : decode cX11_numberOf 27 = .ok (.iload_n 0, 1) := dc_26 (dc_nn (k := 27) aX11_numberOf_0 rfl)
theorem dX11_numberOf_28 : decode cX11_numberOf 28 = .ok (.imul, 1) := dc_104 (dc_nn (k := 28) aX11_numberOf_0 rfl)
theorem dX11_numberOf_29 : decode cX11_numberOf 29 = .ok (.iload_n 1, 1) := dc_27 (dc_nn (k := 29) aX11_numberOf_0 rfl)
theorem dX11_numberOf_30 : decode cX11_numberOf 30 = .ok (.iadd, 1) := dc_96 (dc_nn (k := 30) aX11_numberOf_0 rfl)
theorem dX11_numberOf_31 : decode cX11_numberOf 31 = .ok (.ireturn, 1) := dc_172 (dc_nn (k := 31) aX11_numberOf_0 rfl)
set_option maxRecDepth 20000 in
theorem ggX11_waysThatCanBe_X1_howManyDiffer : GoodIn wsX11_waysThatCanBe wsX1_howManyDiffer := goodIn_k _ [[9, 0, 0, 0], [8, 4, 0, 0, 0, 0, 0, 0, 0, 0, 0, 0, 0, 0, 0, 0, 0, 0, 0, 0, 0, 0, 0, 0, 0, 0, 0, 0, 0, 0, 0, 21, 0], [62, 0]] (by rfl) (by decide +kernel)
set_option maxRecDepth 20000 in
theorem gX11_waysThatCanBe_X1_howManyDiffer : GoodIn wsX11_waysThatCanBe (wsV RX11 240 RX1 yX1_howManyDiffer wsX1_howManyDiffer) := goodIn_app (goodIn_k _ [[5, 0, 0, 0]] (by rfl) (gw_V _ _ _ _)) ggX11_waysThatCanBe_X1_howManyDiffer
noncomputable def sX11_waysThatCanBe_80 : List Nat := 182 :: 0 :: 240 :: 154 :: 0 :: 7 :: 28 :: 7 :: 128 :: 61 :: 132 :: 3 :: 1 :: 167 :: 255 :: 215 :: 28 :: 172 :: []
noncomputable def sX11_waysThatCanBe_40 : List Nat := 182 :: 0 :: 240 :: 154 :: 0 :: 7 :: 28 :: 5 :: 128 :: 61 :: 3 :: 62 :: 29 :: 42 :: 180 :: 0 :: 19 :: 180 :: 0 :: 131 :: 180 :: 0 :: 135 :: 162 :: 0 :: 33 :: 42 :: 180 :: 0 :: 29 :: 42 :: 180 :: 0 :: 19 :: 180 :: 0 :: 131 :: 27 :: 5 :: 29 :: sX11_waysThatCanBe_80
noncomputable def sX11_waysThatCanBe_0 : List Nat := 3 :: 61 :: 42 :: 180 :: 0 :: 29 :: 42 :: 180 :: 0 :: 19 :: 180 :: 0 :: 131 :: 27 :: 3 :: 3 :: 182 :: 0 :: 240 :: 154 :: 0 :: 7 :: 28 :: 4 :: 128 :: 61 :: 42 :: 180 :: 0 :: 29 :: 42 :: 180 :: 0 :: 19 :: 180 :: 0 :: 131 :: 27 :: 4 :: 3 :: sX11_waysThatCanBe_40
theorem aX11_waysThatCanBe_0 : dc_at cX11_waysThatCanBe 0 sX11_waysThatCanBe_0 := dc_base (by decide +kernel)
theorem aX11_waysThatCanBe_40 : dc_at cX11_waysThatCanBe 40 sX11_waysThatCanBe_40 := dc_nn (k := 40) aX11_waysThatCanBe_0 rfl
theorem aX11_waysThatCanBe_80 : dc_at cX11_waysThatCanBe 80 sX11_waysThatCanBe_80 := dc_nn (k := 40) aX11_waysThatCanBe_40 rfl
theorem dX11_waysThatCanBe_0 : decode cX11_waysThatCanBe 0 = .ok (.iconst 0, 1) := dc_3 aX11_waysThatCanBe_0
theorem dX11_waysThatCanBe_1 : decode cX11_waysThatCanBe 1 = .ok (.istore_n 2, 1) := dc_61 (dc_nn (k := 1) aX11_waysThatCanBe_0 rfl)
theorem dX11_waysThatCanBe_2 : decode cX11_waysThatCanBe 2 = .ok (.aload_n 0, 1) := dc_42 (dc_nn (k := 2) aX11_waysThatCanBe_0 rfl)
theorem dX11_waysThatCanBe_3 : decode cX11_waysThatCanBe 3 = .ok (.getfield 29, 3) := dc_180 (a0 := 0) (b0 := 29) (dc_nn (k := 3) aX11_waysThatCanBe_0 rfl)
theorem dX11_waysThatCanBe_6 : decode cX11_waysThatCanBe 6 = .ok (.aload_n 0, 1) := dc_42 (dc_nn (k := 6) aX11_waysThatCanBe_0 rfl)
theorem dX11_waysThatCanBe_7 : decode cX11_waysThatCanBe 7 = .ok (.getfield 19, 3) := dc_180 (a0 := 0) (b0 := 19) (dc_nn (k := 7) aX11_waysThatCanBe_0 rfl)
theorem dX11_waysThatCanBe_10 : decode cX11_waysThatCanBe 10 = .ok (.getfield 131, 3) := dc_180 (a0 := 0) (b0 := 131) (dc_nn (k := 10) aX11_waysThatCanBe_0 rfl)
theorem dX11_waysThatCanBe_13 : decode cX11_waysThatCanBe 13 = .ok (.iload_n 1, 1) := dc_27 (dc_nn (k := 13) aX11_waysThatCanBe_0 rfl)
theorem dX11_waysThatCanBe_14 : decode cX11_waysThatCanBe 14 = .ok (.iconst 0, 1) := dc_3 (dc_nn (k := 14) aX11_waysThatCanBe_0 rfl)
theorem dX11_waysThatCanBe_15 : decode cX11_waysThatCanBe 15 = .ok (.iconst 0, 1) := dc_3 (dc_nn (k := 15) aX11_waysThatCanBe_0 rfl)
theorem dX11_waysThatCanBe_16 : decode cX11_waysThatCanBe 16 = .ok (.invokevirtual 240, 3) := dc_182 (a0 := 0) (b0 := 240) (dc_nn (k := 16) aX11_waysThatCanBe_0 rfl)
theorem dX11_waysThatCanBe_19 : decode cX11_waysThatCanBe 19 = .ok (.ifCond .ne 7, 3) := dc_154 (a0 := 0) (b0 := 7) (dc_nn (k := 19) aX11_waysThatCanBe_0 rfl) (by decide)
theorem dX11_waysThatCanBe_22 : decode cX11_waysThatCanBe 22 = .ok (.iload_n 2, 1) := dc_28 (dc_nn (k := 22) aX11_waysThatCanBe_0 rfl)
theorem dX11_waysThatCanBe_23 : decode cX11_waysThatCanBe 23 = .ok (.iconst 1, 1) := dc_4 (dc_nn (k := 23) aX11_waysThatCanBe_0 rfl)
theorem dX11_waysThatCanBe_24 : decode cX11_waysThatCanBe 24 = .ok (.ior, 1) := dc_128 (dc_nn (k := 24) aX11_waysThatCanBe_0 rfl)
theorem dX11_waysThatCanBe_25 : decode cX11_waysThatCanBe 25 = .ok (.istore_n 2, 1) := dc_61 (dc_nn (k := 25) aX11_waysThatCanBe_0 rfl)
theorem dX11_waysThatCanBe_26 : decode cX11_waysThatCanBe 26 = .ok (.aload_n 0, 1) := dc_42 (dc_nn (k := 26) aX11_waysThatCanBe_0 rfl)
theorem dX11_waysThatCanBe_27 : decode cX11_waysThatCanBe 27 = .ok (.getfield 29, 3) := dc_180 (a0 := 0) (b0 := 29) (dc_nn (k := 27) aX11_waysThatCanBe_0 rfl)
theorem dX11_waysThatCanBe_30 : decode cX11_waysThatCanBe 30 = .ok (.aload_n 0, 1) := dc_42 (dc_nn (k := 30) aX11_waysThatCanBe_0 rfl)
theorem dX11_waysThatCanBe_31 : decode cX11_waysThatCanBe 31 = .ok (.getfield 19, 3) := dc_180 (a0 := 0) (b0 := 19) (dc_nn (k := 31) aX11_waysThatCanBe_0 rfl)
theorem dX11_waysThatCanBe_34 : decode cX11_waysThatCanBe 34 = .ok (.getfield 131, 3) := dc_180 (a0 := 0) (b0 := 131) (dc_nn (k := 34) aX11_waysThatCanBe_0 rfl)
theorem dX11_waysThatCanBe_37 : decode cX11_waysThatCanBe 37 = .ok (.iload_n 1, 1) := dc_27 (dc_nn (k := 37) aX11_waysThatCanBe_0 rfl)
theorem dX11_waysThatCanBe_38 : decode cX11_waysThatCanBe 38 = .ok (.iconst 1, 1) := dc_4 (dc_nn (k := 38) aX11_waysThatCanBe_0 rfl)
theorem dX11_waysThatCanBe_39 : decode cX11_waysThatCanBe 39 = .ok (.iconst 0, 1) := dc_3 (dc_nn (k := 39) aX11_waysThatCanBe_0 rfl)
theorem dX11_waysThatCanBe_40 : decode cX11_waysThatCanBe 40 = .ok (.invokevirtual 240, 3) := dc_182 (a0 := 0) (b0 := 240) aX11_waysThatCanBe_40
theorem dX11_waysThatCanBe_43 : decode cX11_waysThatCanBe 43 = .ok (.ifCond .ne 7, 3) := dc_154 (a0 := 0) (b0 := 7) (dc_nn (k := 3) aX11_waysThatCanBe_40 rfl) (by decide)
theorem dX11_waysThatCanBe_46 : decode cX11_waysThatCanBe 46 = .ok (.iload_n 2, 1) := dc_28 (dc_nn (k := 6) aX11_waysThatCanBe_40 rfl)
theorem dX11_waysThatCanBe_47 : decode cX11_waysThatCanBe 47 = .ok (.iconst 2, 1) := dc_5 (dc_nn (k := 7) aX11_waysThatCanBe_40 rfl)
theorem dX11_waysThatCanBe_48 : decode cX11_waysThatCanBe 48 = .ok (.ior, 1) := dc_128 (dc_nn (k := 8) aX11_waysThatCanBe_40 rfl)
theorem dX11_waysThatCanBe_49 : decode cX11_waysThatCanBe 49 = .ok (.istore_n 2, 1) := dc_61 (dc_nn (k := 9) aX11_waysThatCanBe_40 rfl)
theorem dX11_waysThatCanBe_50 : decode cX11_waysThatCanBe 50 = .ok (.iconst 0, 1) := dc_3 (dc_nn (k := 10) aX11_waysThatCanBe_40 rfl)
theorem dX11_waysThatCanBe_51 : decode cX11_waysThatCanBe 51 = .ok (.istore_n 3, 1) := dc_62 (dc_nn (k := 11) aX11_waysThatCanBe_40 rfl)
theorem dX11_waysThatCanBe_52 : decode cX11_waysThatCanBe 52 = .ok (.iload_n 3, 1) := dc_29 (dc_nn (k := 12) aX11_waysThatCanBe_40 rfl)
theorem dX11_waysThatCanBe_53 : decode cX11_waysThatCanBe 53 = .ok (.aload_n 0, 1) := dc_42 (dc_nn (k := 13) aX11_waysThatCanBe_40 rfl)
theorem dX11_waysThatCanBe_54 : decode cX11_waysThatCanBe 54 = .ok (.getfield 19, 3) := dc_180 (a0 := 0) (b0 := 19) (dc_nn (k := 14) aX11_waysThatCanBe_40 rfl)
theorem dX11_waysThatCanBe_57 : decode cX11_waysThatCanBe 57 = .ok (.getfield 131, 3) := dc_180 (a0 := 0) (b0 := 131) (dc_nn (k := 17) aX11_waysThatCanBe_40 rfl)
theorem dX11_waysThatCanBe_60 : decode cX11_waysThatCanBe 60 = .ok (.getfield 135, 3) := dc_180 (a0 := 0) (b0 := 135) (dc_nn (k := 20) aX11_waysThatCanBe_40 rfl)
theorem dX11_waysThatCanBe_63 : decode cX11_waysThatCanBe 63 = .ok (.if_icmp .ge 33, 3) := dc_162 (a0 := 0) (b0 := 33) (dc_nn (k := 23) aX11_waysThatCanBe_40 rfl) (by decide)
theorem dX11_waysThatCanBe_66 : decode cX11_waysThatCanBe 66 = .ok (.aload_n 0, 1) := dc_42 (dc_nn (k := 26) aX11_waysThatCanBe_40 rfl)
theorem dX11_waysThatCanBe_67 : decode cX11_waysThatCanBe 67 = .ok (.getfield 29, 3) := dc_180 (a0 := 0) (b0 := 29) (dc_nn (k := 27) aX11_waysThatCanBe_40 rfl)
theorem dX11_waysThatCanBe_70 : decode cX11_waysThatCanBe 70 = .ok (.aload_n 0, 1) := dc_42 (dc_nn (k := 30) aX11_waysThatCanBe_40 rfl)
theorem dX11_waysThatCanBe_71 : decode cX11_waysThatCanBe 71 = .ok (.getfield 19, 3) := dc_180 (a0 := 0) (b0 := 19) (dc_nn (k := 31) aX11_waysThatCanBe_40 rfl)
theorem dX11_waysThatCanBe_74 : decode cX11_waysThatCanBe 74 = .ok (.getfield 131, 3) := dc_180 (a0 := 0) (b0 := 131) (dc_nn (k := 34) aX11_waysThatCanBe_40 rfl)
theorem dX11_waysThatCanBe_77 : decode cX11_waysThatCanBe 77 = .ok (.iload_n 1, 1) := dc_27 (dc_nn (k := 37) aX11_waysThatCanBe_40 rfl)
theorem dX11_waysThatCanBe_78 : decode cX11_waysThatCanBe 78 = .ok (.iconst 2, 1) := dc_5 (dc_nn (k := 38) aX11_waysThatCanBe_40 rfl)
theorem dX11_waysThatCanBe_79 : decode cX11_waysThatCanBe 79 = .ok (.iload_n 3, 1) := dc_29 (dc_nn (k := 39) aX11_waysThatCanBe_40 rfl)
theorem dX11_waysThatCanBe_80 : decode cX11_waysThatCanBe 80 = .ok (.invokevirtual 240, 3) := dc_182 (a0 := 0) (b0 := 240) aX11_waysThatCanBe_80
theorem dX11_waysThatCanBe_83 : decode cX11_waysThatCanBe 83 = .ok (.ifCond .ne 7, 3) := dc_154 (a0 := 0) (b0 := 7) (dc_nn (k := 3) aX11_waysThatCanBe_80 rfl) (by decide)
theorem dX11_waysThatCanBe_86 : decode cX11_waysThatCanBe 86 = .ok (.iload_n 2, 1) := dc_28 (dc_nn (k := 6) aX11_waysThatCanBe_80 rfl)
theorem dX11_waysThatCanBe_87 : decode cX11_waysThatCanBe 87 = .ok (.iconst 4, 1) := dc_7 (dc_nn (k := 7) aX11_waysThatCanBe_80 rfl)
theorem dX11_waysThatCanBe_88 : decode cX11_waysThatCanBe 88 = .ok (.ior, 1) := dc_128 (dc_nn (k := 8) aX11_waysThatCanBe_80 rfl)
theorem dX11_waysThatCanBe_89 : decode cX11_waysThatCanBe 89 = .ok (.istore_n 2, 1) := dc_61 (dc_nn (k := 9) aX11_waysThatCanBe_80 rfl)
theorem dX11_waysThatCanBe_90 : decode cX11_waysThatCanBe 90 = .ok (.iinc 3 1, 3) := dc_132 (a0 := 3) (a1 := 1) (dc_nn (k := 10) aX11_waysThatCanBe_80 rfl) (by decide)
theorem dX11_waysThatCanBe_93 : decode cX11_waysThatCanBe 93 = .ok (.goto (-41), 3) := dc_167 (a0 := 255) (b0 := 215) (dc_nn (k := 13) aX11_waysThatCanBe_80 rfl) (by decide)
theorem dX11_waysThatCanBe_96 : decode cX11_waysThatCanBe 96 = .ok (.iload_n 2, 1) := dc_28 (dc_nn (k := 16) aX11_waysThatCanBe_80 rfl)
theorem dX11_waysThatCanBe_97 : decode cX11_waysThatCanBe 97 = .ok (.ireturn, 1) := dc_172 (dc_nn (k := 17) aX11_waysThatCanBe_80 rfl)
set_option maxRecDepth 20000 in
theorem ggX11_climatesThatCanBe_X1_degreeOf : GoodIn wsX11_climatesThatCanBe wsX1_degreeOf := goodIn_k _ [[9, 0, 66, 0]] (by rfl) (by decide +kernel)
set_option maxRecDepth 20000 in
theorem gX11_climatesThatCanBe_X1_degreeOf : GoodIn wsX11_climatesThatCanBe (wsV RX11 175 RX1 yX1_degreeOf wsX1_degreeOf) := goodIn_app (goodIn_k _ [[5, 0, 0, 0]] (by rfl) (gw_V _ _ _ _)) ggX11_climatesThatCanBe_X1_degreeOf
set_option maxRecDepth 20000 in
theorem ggX11_climatesThatCanBe_X1_howManyDiffer : GoodIn wsX11_climatesThatCanBe wsX1_howManyDiffer := goodIn_k _ [[14, 0], [6, 0, 0, 0, 0, 5, 0, 0, 0, 0, 0, 0, 0, 0, 0, 0, 0, 0, 0, 0, 0, 0, 0, 0, 0, 0, 0, 0, 0, 0, 0, 0, 0, 33, 0], [75, 0]] (by rfl) (by decide +kernel)
set_option maxRecDepth 20000 in
theorem gX11_climatesThatCanBe_X1_howManyDiffer : GoodIn wsX11_climatesThatCanBe (wsV RX11 240 RX1 yX1_howManyDiffer wsX1_howManyDiffer) := goodIn_app (goodIn_k _ [[11, 0, 0], [8]] (by rfl) (gw_V _ _ _ _)) ggX11_climatesThatCanBe_X1_howManyDiffer
set_option maxRecDepth 20000 in
theorem ggX11_climatesThatCanBe_X2_hasHour : GoodIn wsX11_climatesThatCanBe wsX2_hasHour := goodIn_k _ [[47, 0, 0, 0], [19, 31, 0, 0, 0, 0], [30, 0, 0, 0, 0, 0, 4, 0, 0, 0, 31, 0]] (by rfl) (by decide +kernel)
set_option maxRecDepth 20000 in
theorem gX11_climatesThatCanBe_X2_hasHour : GoodIn wsX11_climatesThatCanBe (wsV RX11 378 RX2 yX2_hasHour wsX2_hasHour) := goodIn_app (goodIn_k _ [[44, 0, 0], [19]] (by rfl) (gw_V _ _ _ _)) ggX11_climatesThatCanBe_X2_hasHour
noncomputable def sX11_climatesThatCanBe_82 : List Nat := 21 :: 5 :: 28 :: 29 :: 182 :: 1 :: 122 :: 153 :: 0 :: 12 :: 21 :: 4 :: 4 :: 21 :: 5 :: 120 :: 128 :: 54 :: 4 :: 132 :: 5 :: 1 :: 167 :: 255 :: 179 :: 21 :: 4 :: 172 :: []
noncomputable def sX11_climatesThatCanBe_42 : List Nat := 42 :: 180 :: 0 :: 29 :: 42 :: 180 :: 0 :: 19 :: 180 :: 0 :: 131 :: 27 :: 5 :: 21 :: 5 :: 182 :: 0 :: 240 :: 154 :: 0 :: 7 :: 4 :: 167 :: 0 :: 4 :: 3 :: 54 :: 6 :: 21 :: 6 :: 153 :: 0 :: 29 :: 42 :: 180 :: 0 :: 19 :: 180 :: 0 :: 131 :: sX11_climatesThatCanBe_82
noncomputable def sX11_climatesThatCanBe_0 : List Nat := 42 :: 180 :: 0 :: 29 :: 27 :: 3 :: 182 :: 0 :: 175 :: 61 :: 42 :: 180 :: 0 :: 29 :: 27 :: 16 :: 7 :: 182 :: 0 :: 175 :: 62 :: 3 :: 54 :: 4 :: 3 :: 54 :: 5 :: 21 :: 5 :: 42 :: 180 :: 0 :: 19 :: 180 :: 0 :: 131 :: 180 :: 0 :: 135 :: 162 :: 0 :: 68 :: sX11_climatesThatCanBe_42
theorem aX11_climatesThatCanBe_0 : dc_at cX11_climatesThatCanBe 0 sX11_climatesThatCanBe_0 := dc_base (by decide +kernel)
theorem aX11_climatesThatCanBe_42 : dc_at cX11_climatesThatCanBe 42 sX11_climatesThatCanBe_42 := dc_nn (k := 42) aX11_climatesThatCanBe_0 rfl
theorem aX11_climatesThatCanBe_82 : dc_at cX11_climatesThatCanBe 82 sX11_climatesThatCanBe_82 := dc_nn (k := 40) aX11_climatesThatCanBe_42 rfl
theorem dX11_climatesThatCanBe_0 : decode cX11_climatesThatCanBe 0 = .ok (.aload_n 0, 1) := dc_42 aX11_climatesThatCanBe_0
theorem dX11_climatesThatCanBe_1 : decode cX11_climatesThatCanBe 1 = .ok (.getfield 29, 3) := dc_180 (a0 := 0) (b0 := 29) (dc_nn (k := 1) aX11_climatesThatCanBe_0 rfl)
theorem dX11_climatesThatCanBe_4 : decode cX11_climatesThatCanBe 4 = .ok (.iload_n 1, 1) := dc_27 (dc_nn (k := 4) aX11_climatesThatCanBe_0 rfl)
theorem dX11_climatesThatCanBe_5 : decode cX11_climatesThatCanBe 5 = .ok (.iconst 0, 1) := dc_3 (dc_nn (k := 5) aX11_climatesThatCanBe_0 rfl)
theorem dX11_climatesThatCanBe_6 : decode cX11_climatesThatCanBe 6 = .ok (.invokevirtual 175, 3) := dc_182 (a0 := 0) (b0 := 175) (dc_nn (k := 6) aX11_climatesThatCanBe_0 rfl)
theorem dX11_climatesThatCanBe_9 : decode cX11_climatesThatCanBe 9 = .ok (.istore_n 2, 1) := dc_61 (dc_nn (k := 9) aX11_climatesThatCanBe_0 rfl)
theorem dX11_climatesThatCanBe_10 : decode cX11_climatesThatCanBe 10 = .ok (.aload_n 0, 1) := dc_42 (dc_nn (k := 10) aX11_climatesThatCanBe_0 rfl)
theorem dX11_climatesThatCanBe_11 : decode cX11_climatesThatCanBe 11 = .ok (.getfield 29, 3) := dc_180 (a0 := 0) (b0 := 29) (dc_nn (k := 11) aX11_climatesThatCanBe_0 rfl)
theorem dX11_climatesThatCanBe_14 : decode cX11_climatesThatCanBe 14 = .ok (.iload_n 1, 1) := dc_27 (dc_nn (k := 14) aX11_climatesThatCanBe_0 rfl)
theorem dX11_climatesThatCanBe_15 : decode cX11_climatesThatCanBe 15 = .ok (.bipush 7, 2) := dc_16 (a0 := 7) (dc_nn (k := 15) aX11_climatesThatCanBe_0 rfl) (by decide)
theorem dX11_climatesThatCanBe_17 : decode cX11_climatesThatCanBe 17 = .ok (.invokevirtual 175, 3) := dc_182 (a0 := 0) (b0 := 175) (dc_nn (k := 17) aX11_climatesThatCanBe_0 rfl)
theorem dX11_climatesThatCanBe_20 : decode cX11_climatesThatCanBe 20 = .ok (.istore_n 3, 1) := dc_62 (dc_nn (k := 20) aX11_climatesThatCanBe_0 rfl)
theorem dX11_climatesThatCanBe_21 : decode cX11_climatesThatCanBe 21 = .ok (.iconst 0, 1) := dc_3 (dc_nn (k := 21) aX11_climatesThatCanBe_0 rfl)
theorem dX11_climatesThatCanBe_22 : decode cX11_climatesThatCanBe 22 = .ok (.istore 4, 2) := dc_54 (a0 := 4) (dc_nn (k := 22) aX11_climatesThatCanBe_0 rfl)
theorem dX11_climatesThatCanBe_24 : decode cX11_climatesThatCanBe 24 = .ok (.iconst 0, 1) := dc_3 (dc_nn (k := 24) aX11_climatesThatCanBe_0 rfl)
theorem dX11_climatesThatCanBe_25 : decode cX11_climatesThatCanBe 25 = .ok (.istore 5, 2) := dc_54 (a0 := 5) (dc_nn (k := 25) aX11_climatesThatCanBe_0 rfl)
theorem dX11_climatesThatCanBe_27 : decode cX11_climatesThatCanBe 27 = .ok (.iload 5, 2) := dc_21 (a0 := 5) (dc_nn (k := 27) aX11_climatesThatCanBe_0 rfl)
theorem dX11_climatesThatCanBe_29 : decode cX11_climatesThatCanBe 29 = .ok (.aload_n 0, 1) := dc_42 (dc_nn (k := 29) aX11_climatesThatCanBe_0 rfl)
theorem dX11_climatesThatCanBe_30 : decode cX11_climatesThatCanBe 30 = .ok (.getfield 19, 3) := dc_180 (a0 := 0) (b0 := 19) (dc_nn (k := 30) aX11_climatesThatCanBe_0 rfl)
theorem dX11_climatesThatCanBe_33 : decode cX11_climatesThatCanBe 33 = .ok (.getfield 131, 3) := dc_180 (a0 := 0) (b0 := 131) (dc_nn (k := 33) aX11_climatesThatCanBe_0 rfl)
theorem dX11_climatesThatCanBe_36 : decode cX11_climatesThatCanBe 36 = .ok (.getfield 135, 3) := dc_180 (a0 := 0) (b0 := 135) (dc_nn (k := 36) aX11_climatesThatCanBe_0 rfl)
theorem dX11_climatesThatCanBe_39 : decode cX11_climatesThatCanBe 39 = .ok (.if_icmp .ge 68, 3) := dc_162 (a0 := 0) (b0 := 68) (dc_nn (k := 39) aX11_climatesThatCanBe_0 rfl) (by decide)
theorem dX11_climatesThatCanBe_42 : decode cX11_climatesThatCanBe 42 = .ok (.aload_n 0, 1) := dc_42 aX11_climatesThatCanBe_42
theorem dX11_climatesThatCanBe_43 : decode cX11_climatesThatCanBe 43 = .ok (.getfield 29, 3) := dc_180 (a0 := 0) (b0 := 29) (dc_nn (k := 1) aX11_climatesThatCanBe_42 rfl)
theorem dX11_climatesThatCanBe_46 : decode cX11_climatesThatCanBe 46 = .ok (.aload_n 0, 1) := dc_42 (dc_nn (k := 4) aX11_climatesThatCanBe_42 rfl)
theorem dX11_climatesThatCanBe_47 : decode cX11_climatesThatCanBe 47 = .ok (.getfield 19, 3) := dc_180 (a0 := 0) (b0 := 19) (dc_nn (k := 5) aX11_climatesThatCanBe_42 rfl)
theorem dX11_climatesThatCanBe_50 : decode cX11_climatesThatCanBe 50 = .ok (.getfield 131, 3) := dc_180 (a0 := 0) (b0 := 131) (dc_nn (k := 8) aX11_climatesThatCanBe_42 rfl)
theorem dX11_climatesThatCanBe_53 : decode cX11_climatesThatCanBe 53 = .ok (.iload_n 1, 1) := dc_27 (dc_nn (k := 11) aX11_climatesThatCanBe_42 rfl)
theorem dX11_climatesThatCanBe_54 : decode cX11_climatesThatCanBe 54 = .ok (.iconst 2, 1) := dc_5 (dc_nn (k := 12) aX11_climatesThatCanBe_42 rfl)
theorem dX11_climatesThatCanBe_55 : decode cX11_climatesThatCanBe 55 = .ok (.iload 5, 2) := dc_21 (a0 := 5) (dc_nn (k := 13) aX11_climatesThatCanBe_42 rfl)
theorem dX11_climatesThatCanBe_57 : decode cX11_climatesThatCanBe 57 = .ok (.invokevirtual 240, 3) := dc_182 (a0 := 0) (b0 := 240) (dc_nn (k := 15) aX11_climatesThatCanBe_42 rfl)
theorem dX11_climatesThatCanBe_60 : decode cX11_climatesThatCanBe 60 = .ok (.ifCond .ne 7, 3) := dc_154 (a0 := 0) (b0 := 7) (dc_nn (k := 18) aX11_climatesThatCanBe_42 rfl) (by decide)
theorem dX11_climatesThatCanBe_63 : decode cX11_climatesThatCanBe 63 = .ok (.iconst 1, 1) := dc_4 (dc_nn (k := 21) aX11_climatesThatCanBe_42 rfl)
theorem dX11_climatesThatCanBe_64 : decode cX11_climatesThatCanBe 64 = .ok (.goto 4, 3) := dc_167 (a0 := 0) (b0 := 4) (dc_nn (k := 22) aX11_climatesThatCanBe_42 rfl) (by decide)
theorem dX11_climatesThatCanBe_67 : decode cX11_climatesThatCanBe 67 = .ok (.iconst 0, 1) := dc_3 (dc_nn (k := 25) aX11_climatesThatCanBe_42 rfl)
theorem dX11_climatesThatCanBe_68 : decode cX11_climatesThatCanBe 68 = .ok (.istore 6, 2) := dc_54 (a0 := 6) (dc_nn (k := 26) aX11_climatesThatCanBe_42 rfl)
theorem dX11_climatesThatCanBe_70 : decode cX11_climatesThatCanBe 70 = .ok (.iload 6, 2) := dc_21 (a0 := 6) (dc_nn (k := 28) aX11_climatesThatCanBe_42 rfl)
theorem dX11_climatesThatCanBe_72 : decode cX11_climatesThatCanBe 72 = .ok (.ifCond .eq 29, 3) := dc_153 (a0 := 0) (b0 := 29) (dc_nn (k := 30) aX11_climatesThatCanBe_42 rfl) (by decide)
theorem dX11_climatesThatCanBe_75 : decode cX11_climatesThatCanBe 75 = .ok (.aload_n 0, 1) := dc_42 (dc_nn (k := 33) aX11_climatesThatCanBe_42 rfl)
theorem dX11_climatesThatCanBe_76 : decode cX11_climatesThatCanBe 76 = .ok (.getfield 19, 3) := dc_180 (a0 := 0) (b0 := 19) (dc_nn (k := 34) aX11_climatesThatCanBe_42 rfl)
theorem dX11_climatesThatCanBe_79 : decode cX11_climatesThatCanBe 79 = .ok (.getfield 131, 3) := dc_180 (a0 := 0) (b0 := 131) (dc_nn (k := 37) aX11_climatesThatCanBe_42 rfl)
theorem dX11_climatesThatCanBe_82 : decode cX11_climatesThatCanBe 82 = .ok (.iload 5, 2) := dc_21 (a0 := 5) aX11_climatesThatCanBe_82
theorem dX11_climatesThatCanBe_84 : decode cX11_climatesThatCanBe 84 = .ok (.iload_n 2, 1) := dc_28 (dc_nn (k := 2) aX11_climatesThatCanBe_82 rfl)
theorem dX11_climatesThatCanBe_85 : decode cX11_climatesThatCanBe 85 = .ok (.iload_n 3, 1) := dc_29 (dc_nn (k := 3) aX11_climatesThatCanBe_82 rfl)
theorem dX11_climatesThatCanBe_86 : decode cX11_climatesThatCanBe 86 = .ok (.invokevirtual 378, 3) := dc_182 (a0 := 1) (b0 := 122) (dc_nn (k := 4) aX11_climatesThatCanBe_82 rfl)
theorem dX11_climatesThatCanBe_89 : decode cX11_climatesThatCanBe 89 = .ok (.ifCond .eq 12, 3) := dc_153 (a0 := 0) (b0 := 12) (dc_nn (k := 7) aX11_climatesThatCanBe_82 rfl) (by decide)
theorem dX11_climatesThatCanBe_92 : decode cX11_climatesThatCanBe 92 = .ok (.iload 4, 2) := dc_21 (a0 := 4) (dc_nn (k := 10) aX11_climatesThatCanBe_82 rfl)
theorem dX11_climatesThatCanBe_94 : decode cX11_climatesThatCanBe 94 = .ok (.iconst 1, 1) := dc_4 (dc_nn (k := 12) aX11_climatesThatCanBe_82 rfl)
theorem dX11_climatesThatCanBe_95 : decode cX11_climatesThatCanBe 95 = .ok (.iload 5, 2) := dc_21 (a0 := 5) (dc_nn (k := 13) aX11_climatesThatCanBe_82 rfl)
theorem dX11_climatesThatCanBe_97 : decode cX11_climatesThatCanBe 97 = .ok (.ishl, 1) := dc_120 (dc_nn (k := 15) aX11_climatesThatCanBe_82 rfl)
theorem dX11_climatesThatCanBe_98 : decode cX11_climatesThatCanBe 98 = .ok (.ior, 1) := dc_128 (dc_nn (k := 16) aX11_climatesThatCanBe_82 rfl)
theorem dX11_climatesThatCanBe_99 : decode cX11_climatesThatCanBe 99 = .ok (.istore 4, 2) := dc_54 (a0 := 4) (dc_nn (k := 17) aX11_climatesThatCanBe_82 rfl)
theorem dX11_climatesThatCanBe_101 : decode cX11_climatesThatCanBe 101 = .ok (.iinc 5 1, 3) := dc_132 (a0 := 5) (a1 := 1) (dc_nn (k := 19) aX11_climatesThatCanBe_82 rfl) (by decide)
theorem dX11_climatesThatCanBe_104 : decode cX11_climatesThatCanBe 104 = .ok (.goto (-77), 3) := dc_167 (a0 := 255) (b0 := 179) (dc_nn (k := 22) aX11_climatesThatCanBe_82 rfl) (by decide)
theorem dX11_climatesThatCanBe_107 : decode cX11_climatesThatCanBe 107 = .ok (.iload 4, 2) := dc_21 (a0 := 4) (dc_nn (k := 25) aX11_climatesThatCanBe_82 rfl)
theorem dX11_climatesThatCanBe_109 : decode cX11_climatesThatCanBe 109 = .ok (.ireturn, 1) := dc_172 (dc_nn (k := 27) aX11_climatesThatCanBe_82 rfl)
noncomputable def sX12_init_367 : List Nat := 42 :: 180 :: 0 :: 120 :: 27 :: 2 :: 79 :: 132 :: 1 :: 1 :: 167 :: 255 :: 233 :: 177 :: []
noncomputable def sX12_init_327 : List Nat := 167 :: 255 :: 240 :: 3 :: 60 :: 27 :: 17 :: 10 :: 80 :: 162 :: 0 :: 16 :: 42 :: 180 :: 0 :: 31 :: 27 :: 2 :: 79 :: 132 :: 1 :: 1 :: 167 :: 255 :: 239 :: 3 :: 60 :: 27 :: 16 :: 20 :: 162 :: 0 :: 23 :: 42 :: 180 :: 0 :: 114 :: 27 :: 2 :: 79 :: sX12_init_367
noncomputable def sX12_init_285 : List Nat := 42 :: 16 :: 20 :: 188 :: 10 :: 181 :: 0 :: 120 :: 42 :: 16 :: 20 :: 188 :: 10 :: 181 :: 0 :: 123 :: 42 :: 16 :: 20 :: 188 :: 10 :: 181 :: 0 :: 126 :: 3 :: 60 :: 27 :: 16 :: 28 :: 162 :: 0 :: 16 :: 42 :: 180 :: 0 :: 19 :: 27 :: 4 :: 79 :: 132 :: 1 :: 1 :: sX12_init_327
noncomputable def sX12_init_245 : List Nat := 42 :: 16 :: 20 :: 188 :: 10 :: 181 :: 0 :: 105 :: 42 :: 16 :: 20 :: 188 :: 10 :: 181 :: 0 :: 108 :: 42 :: 16 :: 120 :: 188 :: 10 :: 181 :: 0 :: 111 :: 42 :: 16 :: 20 :: 188 :: 10 :: 181 :: 0 :: 114 :: 42 :: 16 :: 20 :: 188 :: 10 :: 181 :: 0 :: 117 :: sX12_init_285
noncomputable def sX12_init_205 : List Nat := 42 :: 16 :: 6 :: 188 :: 10 :: 181 :: 0 :: 89 :: 42 :: 16 :: 36 :: 188 :: 10 :: 181 :: 0 :: 92 :: 42 :: 16 :: 6 :: 188 :: 4 :: 181 :: 0 :: 95 :: 42 :: 16 :: 6 :: 188 :: 10 :: 181 :: 0 :: 99 :: 42 :: 16 :: 120 :: 188 :: 10 :: 181 :: 0 :: 102 :: sX12_init_245
noncomputable def sX12_init_163 : List Nat := 188 :: 10 :: 181 :: 0 :: 71 :: 42 :: 16 :: 7 :: 188 :: 10 :: 181 :: 0 :: 74 :: 42 :: 7 :: 188 :: 10 :: 181 :: 0 :: 77 :: 42 :: 7 :: 188 :: 10 :: 181 :: 0 :: 80 :: 42 :: 7 :: 188 :: 10 :: 181 :: 0 :: 83 :: 42 :: 16 :: 6 :: 188 :: 10 :: 181 :: 0 :: 86 :: sX12_init_205
noncomputable def sX12_init_123 : List Nat := 42 :: 16 :: 30 :: 188 :: 10 :: 181 :: 0 :: 56 :: 42 :: 16 :: 30 :: 188 :: 10 :: 181 :: 0 :: 59 :: 42 :: 16 :: 22 :: 188 :: 10 :: 181 :: 0 :: 62 :: 42 :: 2 :: 181 :: 0 :: 65 :: 42 :: 16 :: 20 :: 188 :: 10 :: 181 :: 0 :: 68 :: 42 :: 16 :: 7 :: sX12_init_163
noncomputable def sX12_init_83 : List Nat := 42 :: 16 :: 28 :: 188 :: 10 :: 181 :: 0 :: 41 :: 42 :: 16 :: 28 :: 188 :: 10 :: 181 :: 0 :: 44 :: 42 :: 16 :: 28 :: 188 :: 10 :: 181 :: 0 :: 47 :: 42 :: 16 :: 28 :: 188 :: 10 :: 181 :: 0 :: 50 :: 42 :: 16 :: 84 :: 188 :: 10 :: 181 :: 0 :: 53 :: sX12_init_123
noncomputable def sX12_init_41 : List Nat := 181 :: 0 :: 22 :: 42 :: 16 :: 30 :: 188 :: 10 :: 181 :: 0 :: 25 :: 42 :: 16 :: 30 :: 188 :: 10 :: 181 :: 0 :: 28 :: 42 :: 17 :: 10 :: 80 :: 188 :: 10 :: 181 :: 0 :: 31 :: 42 :: 17 :: 2 :: 88 :: 188 :: 10 :: 181 :: 0 :: 34 :: 42 :: 2 :: 181 :: 0 :: 37 :: sX12_init_83
noncomputable def sX12_init_0 : List Nat := 42 :: 183 :: 0 :: 1 :: 42 :: 16 :: 28 :: 188 :: 10 :: 181 :: 0 :: 7 :: 42 :: 16 :: 28 :: 188 :: 10 :: 181 :: 0 :: 13 :: 42 :: 16 :: 28 :: 188 :: 10 :: 181 :: 0 :: 16 :: 42 :: 16 :: 28 :: 188 :: 10 :: 181 :: 0 :: 19 :: 42 :: 16 :: 84 :: 188 :: 10 :: sX12_init_41
theorem aX12_init_0 : dc_at cX12_init 0 sX12_init_0 := dc_base (by decide +kernel)
theorem aX12_init_41 : dc_at cX12_init 41 sX12_init_41 := dc_nn (k := 41) aX12_init_0 rfl
theorem aX12_init_83 : dc_at cX12_init 83 sX12_init_83 := dc_nn (k := 42) aX12_init_41 rfl
theorem aX12_init_123 : dc_at cX12_init 123 sX12_init_123 := dc_nn (k := 40) aX12_init_83 rfl
theorem aX12_init_163 : dc_at cX12_init 163 sX12_init_163 := dc_nn (k := 40) aX12_init_123 rfl
theorem aX12_init_205 : dc_at cX12_init 205 sX12_init_205 := dc_nn (k := 42) aX12_init_163 rfl
theorem aX12_init_245 : dc_at cX12_init 245 sX12_init_245 := dc_nn (k := 40) aX12_init_205 rfl
theorem aX12_init_285 : dc_at cX12_init 285 sX12_init_285 := dc_nn (k := 40) aX12_init_245 rfl
theorem aX12_init_327 : dc_at cX12_init 327 sX12_init_327 := dc_nn (k := 42) aX12_init_285 rfl
theorem aX12_init_367 : dc_at cX12_init 367 sX12_init_367 := dc_nn (k := 40) aX12_init_327 rfl
theorem dX12_init_0 : decode cX12_init 0 = .ok (.aload_n 0, 1) := dc_42 aX12_init_0
theorem dX12_init_1 : decode cX12_init 1 = .ok (.invokespecial 1, 3) := dc_183 (a0 := 0) (b0 := 1) (dc_nn (k := 1) aX12_init_0 rfl)
theorem dX12_init_4 : decode cX12_init 4 = .ok (.aload_n 0, 1) := dc_42 (dc_nn (k := 4) aX12_init_0 rfl)
theorem dX12_init_5 : decode cX12_init 5 = .ok (.bipush 28, 2) := dc_16 (a0 := 28) (dc_nn (k := 5) aX12_init_0 rfl) (by decide)
theorem dX12_init_7 : decode cX12_init 7 = .ok (.newarray .int, 2) := dc_188_10 (dc_nn (k := 7) aX12_init_0 rfl)
theorem dX12_init_9 : decode cX12_init 9 = .ok (.putfield 7, 3) := dc_181 (a0 := 0) (b0 := 7) (dc_nn (k := 9) aX12_init_0 rfl)
theorem dX12_init_12 : decode cX12_init 12 = .ok (.aload_n 0, 1) := dc_42 (dc_nn (k := 12) aX12_init_0 rfl)
theorem dX12_init_13 : decode cX12_init 13 = .ok (.bipush 28, 2) := dc_16 (a0 := 28) (dc_nn (k := 13) aX12_init_0 rfl) (by decide)
theorem dX12_init_15 : decode cX12_init 15 = .ok (.newarray .int, 2) := dc_188_10 (dc_nn (k := 15) aX12_init_0 rfl)
theorem dX12_init_17 : decode cX12_init 17 = .ok (.putfield 13, 3) := dc_181 (a0 := 0) (b0 := 13) (dc_nn (k := 17) aX12_init_0 rfl)
theorem dX12_init_20 : decode cX12_init 20 = .ok (.aload_n 0, 1) := dc_42 (dc_nn (k := 20) aX12_init_0 rfl)
theorem dX12_init_21 : decode cX12_init 21 = .ok (.bipush 28, 2) := dc_16 (a0 := 28) (dc_nn (k := 21) aX12_init_0 rfl) (by decide)
theorem dX12_init_23 : decode cX12_init 23 = .ok (.newarray .int, 2) := dc_188_10 (dc_nn (k := 23) aX12_init_0 rfl)
theorem dX12_init_25 : decode cX12_init 25 = .ok (.putfield 16, 3) := dc_181 (a0 := 0) (b0 := 16) (dc_nn (k := 25) aX12_init_0 rfl)
theorem dX12_init_28 : decode cX12_init 28 = .ok (.aload_n 0, 1) := dc_42 (dc_nn (k := 28) aX12_init_0 rfl)
theorem dX12_init_29 : decode cX12_init 29 = .ok (.bipush 28, 2) := dc_16 (a0 := 28) (dc_nn (k := 29) aX12_init_0 rfl) (by decide)
theorem dX12_init_31 : decode cX12_init 31 = .ok (.newarray .int, 2) := dc_188_10 (dc_nn (k := 31) aX12_init_0 rfl)
theorem dX12_init_33 : decode cX12_init 33 = .ok (.putfield 19, 3) := dc_181 (a0 := 0) (b0 := 19) (dc_nn (k := 33) aX12_init_0 rfl)
theorem dX12_init_36 : decode cX12_init 36 = .ok (.aload_n 0, 1) := dc_42 (dc_nn (k := 36) aX12_init_0 rfl)
theorem dX12_init_37 : decode cX12_init 37 = .ok (.bipush 84, 2) := dc_16 (a0 := 84) (dc_nn (k := 37) aX12_init_0 rfl) (by decide)
theorem dX12_init_39 : decode cX12_init 39 = .ok (.newarray .int, 2) := dc_188_10 (dc_nn (k := 39) aX12_init_0 rfl)
theorem dX12_init_41 : decode cX12_init 41 = .ok (.putfield 22, 3) := dc_181 (a0 := 0) (b0 := 22) aX12_init_41
theorem dX12_init_44 : decode cX12_init 44 = .ok (.aload_n 0, 1) := dc_42 (dc_nn (k := 3) aX12_init_41 rfl)
theorem dX12_init_45 : decode cX12_init 45 = .ok (.bipush 30, 2) := dc_16 (a0 := 30) (dc_nn (k := 4) aX12_init_41 rfl) (by decide)
theorem dX12_init_47 : decode cX12_init 47 = .ok (.newarray .int, 2) := dc_188_10 (dc_nn (k := 6) aX12_init_41 rfl)
theorem dX12_init_49 : decode cX12_init 49 = .ok (.putfield 25, 3) := dc_181 (a0 := 0) (b0 := 25) (dc_nn (k := 8) aX12_init_41 rfl)
theorem dX12_init_52 : decode cX12_init 52 = .ok (.aload_n 0, 1) := dc_42 (dc_nn (k := 11) aX12_init_41 rfl)
theorem dX12_init_53 : decode cX12_init 53 = .ok (.bipush 30, 2) := dc_16 (a0 := 30) (dc_nn (k := 12) aX12_init_41 rfl) (by decide)
theorem dX12_init_55 : decode cX12_init 55 = .ok (.newarray .int, 2) := dc_188_10 (dc_nn (k := 14) aX12_init_41 rfl)
theorem dX12_init_57 : decode cX12_init 57 = .ok (.putfield 28, 3) := dc_181 (a0 := 0) (b0 := 28) (dc_nn (k := 16) aX12_init_41 rfl)
theorem dX12_init_60 : decode cX12_init 60 = .ok (.aload_n 0, 1) := dc_42 (dc_nn (k := 19) aX12_init_41 rfl)
theorem dX12_init_61 : decode cX12_init 61 = .ok (.sipush 2640, 3) := dc_17 (a0 := 10) (b0 := 80) (dc_nn (k := 20) aX12_init_41 rfl) (by decide)
theorem dX12_init_64 : decode cX12_init 64 = .ok (.newarray .int, 2) := dc_188_10 (dc_nn (k := 23) aX12_init_41 rfl)
theorem dX12_init_66 : decode cX12_init 66 = .ok (.putfield 31, 3) := dc_181 (a0 := 0) (b0 := 31) (dc_nn (k := 25) aX12_init_41 rfl)
theorem dX12_init_69 : decode cX12_init 69 = .ok (.aload_n 0, 1) := dc_42 (dc_nn (k := 28) aX12_init_41 rfl)
theorem dX12_init_70 : decode cX12_init 70 = .ok (.sipush 600, 3) := dc_17 (a0 := 2) (b0 := 88) (dc_nn (k := 29) aX12_init_41 rfl) (by decide)
theorem dX12_init_73 : decode cX12_init 73 = .ok (.newarray .int, 2) := dc_188_10 (dc_nn (k := 32) aX12_init_41 rfl)
theorem dX12_init_75 : decode cX12_init 75 = .ok (.putfield 34, 3) := dc_181 (a0 := 0) (b0 := 34) (dc_nn (k := 34) aX12_init_41 rfl)
theorem dX12_init_78 : decode cX12_init 78 = .ok (.aload_n 0, 1) := dc_42 (dc_nn (k := 37) aX12_init_41 rfl)
theorem dX12_init_79 : decode cX12_init 79 = .ok (.iconst (-1), 1) := dc_2 (dc_nn (k := 38) aX12_init_41 rfl)
theorem dX12_init_80 : decode cX12_init 80 = .ok (.putfield 37, 3) := dc_181 (a0 := 0) (b0 := 37) (dc_nn (k := 39) aX12_init_41 rfl)
theorem dX12_init_83 : decode cX12_init 83 = .ok (.aload_n 0, 1) := dc_42 aX12_init_83
theorem dX12_init_84 : decode cX12_init 84 = .ok (.bipush 28, 2) := dc_16 (a0 := 28) (dc_nn (k := 1) aX12_init_83 rfl) (by decide)
theorem dX12_init_86 : decode cX12_init 86 = .ok (.newarray .int, 2) := dc_188_10 (dc_nn (k := 3) aX12_init_83 rfl)
theorem dX12_init_88 : decode cX12_init 88 = .ok (.putfield 41, 3) := dc_181 (a0 := 0) (b0 := 41) (dc_nn (k := 5) aX12_init_83 rfl)
theorem dX12_init_91 : decode cX12_init 91 = .ok (.aload_n 0, 1) := dc_42 (dc_nn (k := 8) aX12_init_83 rfl)
theorem dX12_init_92 : decode cX12_init 92 = .ok (.bipush 28, 2) := dc_16 (a0 := 28) (dc_nn (k := 9) aX12_init_83 rfl) (by decide)
theorem dX12_init_94 : decode cX12_init 94 = .ok (.newarray .int, 2) := dc_188_10 (dc_nn (k := 11) aX12_init_83 rfl)
theorem dX12_init_96 : decode cX12_init 96 = .ok (.putfield 44, 3) := dc_181 (a0 := 0) (b0 := 44) (dc_nn (k := 13) aX12_init_83 rfl)
theorem dX12_init_99 : decode cX12_init 99 = .ok (.aload_n 0, 1) := dc_42 (dc_nn (k := 16) aX12_init_83 rfl)
theorem dX12_init_100 : decode cX12_init 100 = .ok (.bipush 28, 2) := dc_16 (a0 := 28) (dc_nn (k := 17) aX12_init_83 rfl) (by decide)
theorem dX12_init_102 : decode cX12_init 102 = .ok (.newarray .int, 2) := dc_188_10 (dc_nn (k := 19) aX12_init_83 rfl)
theorem dX12_init_104 : decode cX12_init 104 = .ok (.putfield 47, 3) := dc_181 (a0 := 0) (b0 := 47) (dc_nn (k := 21) aX12_init_83 rfl)
theorem dX12_init_107 : decode cX12_init 107 = .ok (.aload_n 0, 1) := dc_42 (dc_nn (k := 24) aX12_init_83 rfl)
theorem dX12_init_108 : decode cX12_init 108 = .ok (.bipush 28, 2) := dc_16 (a0 := 28) (dc_nn (k := 25) aX12_init_83 rfl) (by decide)
theorem dX12_init_110 : decode cX12_init 110 = .ok (.newarray .int, 2) := dc_188_10 (dc_nn (k := 27) aX12_init_83 rfl)
theorem dX12_init_112 : decode cX12_init 112 = .ok (.putfield 50, 3) := dc_181 (a0 := 0) (b0 := 50) (dc_nn (k := 29) aX12_init_83 rfl)
theorem dX12_init_115 : decode cX12_init 115 = .ok (.aload_n 0, 1) := dc_42 (dc_nn (k := 32) aX12_init_83 rfl)
theorem dX12_init_116 : decode cX12_init 116 = .ok (.bipush 84, 2) := dc_16 (a0 := 84) (dc_nn (k := 33) aX12_init_83 rfl) (by decide)
theorem dX12_init_118 : decode cX12_init 118 = .ok (.newarray .int, 2) := dc_188_10 (dc_nn (k := 35) aX12_init_83 rfl)
theorem dX12_init_120 : decode cX12_init 120 = .ok (.putfield 53, 3) := dc_181 (a0 := 0) (b0 := 53) (dc_nn (k := 37) aX12_init_83 rfl)
theorem dX12_init_123 : decode cX12_init 123 = .ok (.aload_n 0, 1) := dc_42 aX12_init_123
theorem dX12_init_124 : decode cX12_init 124 = .ok (.bipush 30, 2) := dc_16 (a0 := 30) (dc_nn (k := 1) aX12_init_123 rfl) (by decide)
theorem dX12_init_126 : decode cX12_init 126 = .ok (.newarray .int, 2) := dc_188_10 (dc_nn (k := 3) aX12_init_123 rfl)
theorem dX12_init_128 : decode cX12_init 128 = .ok (.putfield 56, 3) := dc_181 (a0 := 0) (b0 := 56) (dc_nn (k := 5) aX12_init_123 rfl)
theorem dX12_init_131 : decode cX12_init 131 = .ok (.aload_n 0, 1) := dc_42 (dc_nn (k := 8) aX12_init_123 rfl)
theorem dX12_init_132 : decode cX12_init 132 = .ok (.bipush 30, 2) := dc_16 (a0 := 30) (dc_nn (k := 9) aX12_init_123 rfl) (by decide)
theorem dX12_init_134 : decode cX12_init 134 = .ok (.newarray .int, 2) := dc_188_10 (dc_nn (k := 11) aX12_init_123 rfl)
theorem dX12_init_136 : decode cX12_init 136 = .ok (.putfield 59, 3) := dc_181 (a0 := 0) (b0 := 59) (dc_nn (k := 13) aX12_init_123 rfl)
theorem dX12_init_139 : decode cX12_init 139 = .ok (.aload_n 0, 1) := dc_42 (dc_nn (k := 16) aX12_init_123 rfl)
theorem dX12_init_140 : decode cX12_init 140 = .ok (.bipush 22, 2) := dc_16 (a0 := 22) (dc_nn (k := 17) aX12_init_123 rfl) (by decide)
theorem dX12_init_142 : decode cX12_init 142 = .ok (.newarray .int, 2) := dc_188_10 (dc_nn (k := 19) aX12_init_123 rfl)
theorem dX12_init_144 : decode cX12_init 144 = .ok (.putfield 62, 3) := dc_181 (a0 := 0) (b0 := 62) (dc_nn (k := 21) aX12_init_123 rfl)
theorem dX12_init_147 : decode cX12_init 147 = .ok (.aload_n 0, 1) := dc_42 (dc_nn (k := 24) aX12_init_123 rfl)
theorem dX12_init_148 : decode cX12_init 148 = .ok (.iconst (-1), 1) := dc_2 (dc_nn (k := 25) aX12_init_123 rfl)
theorem dX12_init_149 : decode cX12_init 149 = .ok (.putfield 65, 3) := dc_181 (a0 := 0) (b0 := 65) (dc_nn (k := 26) aX12_init_123 rfl)
theorem dX12_init_152 : decode cX12_init 152 = .ok (.aload_n 0, 1) := dc_42 (dc_nn (k := 29) aX12_init_123 rfl)
theorem dX12_init_153 : decode cX12_init 153 = .ok (.bipush 20, 2) := dc_16 (a0 := 20) (dc_nn (k := 30) aX12_init_123 rfl) (by decide)
theorem dX12_init_155 : decode cX12_init 155 = .ok (.newarray .int, 2) := dc_188_10 (dc_nn (k := 32) aX12_init_123 rfl)
theorem dX12_init_157 : decode cX12_init 157 = .ok (.putfield 68, 3) := dc_181 (a0 := 0) (b0 := 68) (dc_nn (k := 34) aX12_init_123 rfl)
theorem dX12_init_160 : decode cX12_init 160 = .ok (.aload_n 0, 1) := dc_42 (dc_nn (k := 37) aX12_init_123 rfl)
theorem dX12_init_161 : decode cX12_init 161 = .ok (.bipush 7, 2) := dc_16 (a0 := 7) (dc_nn (k := 38) aX12_init_123 rfl) (by decide)
theorem dX12_init_163 : decode cX12_init 163 = .ok (.newarray .int, 2) := dc_188_10 aX12_init_163
theorem dX12_init_165 : decode cX12_init 165 = .ok (.putfield 71, 3) := dc_181 (a0 := 0) (b0 := 71) (dc_nn (k := 2) aX12_init_163 rfl)
theorem dX12_init_168 : decode cX12_init 168 = .ok (.aload_n 0, 1) := dc_42 (dc_nn (k := 5) aX12_init_163 rfl)
theorem dX12_init_169 : decode cX12_init 169 = .ok (.bipush 7, 2) := dc_16 (a0 := 7) (dc_nn (k := 6) aX12_init_163 rfl) (by decide)
theorem dX12_init_171 : decode cX12_init 171 = .ok (.newarray .int, 2) := dc_188_10 (dc_nn (k := 8) aX12_init_163 rfl)
theorem dX12_init_173 : decode cX12_init 173 = .ok (.putfield 74, 3) := dc_181 (a0 := 0) (b0 := 74) (dc_nn (k := 10) aX12_init_163 rfl)
theorem dX12_init_176 : decode cX12_init 176 = .ok (.aload_n 0, 1) := dc_42 (dc_nn (k := 13) aX12_init_163 rfl)
theorem dX12_init_177 : decode cX12_init 177 = .ok (.iconst 4, 1) := dc_7 (dc_nn (k := 14) aX12_init_163 rfl)
theorem dX12_init_178 : decode cX12_init 178 = .ok (.newarray .int, 2) := dc_188_10 (dc_nn (k := 15) aX12_init_163 rfl)
theorem dX12_init_180 : decode cX12_init 180 = .ok (.putfield 77, 3) := dc_181 (a0 := 0) (b0 := 77) (dc_nn (k := 17) aX12_init_163 rfl)
theorem dX12_init_183 : decode cX12_init 183 = .ok (.aload_n 0, 1) := dc_42 (dc_nn (k := 20) aX12_init_163 rfl)
theorem dX12_init_184 : decode cX12_init 184 = .ok (.iconst 4, 1) := dc_7 (dc_nn (k := 21) aX12_init_163 rfl)
theorem dX12_init_185 : decode cX12_init 185 = .ok (.newarray .int, 2) := dc_188_10 (dc_nn (k := 22) aX12_init_163 rfl)
theorem dX12_init_187 : decode cX12_init 187 = .ok (.putfield 80, 3) := dc_181 (a0 := 0) (b0 := 80) (dc_nn (k := 24) aX12_init_163 rfl)
theorem dX12_init_190 : decode cX12_init 190 = .ok (.aload_n 0, 1) := dc_42 (dc_nn (k := 27) aX12_init_163 rfl)
theorem dX12_init_191 : decode cX12_init 191 = .ok (.iconst 4, 1) := dc_7 (dc_nn (k := 28) aX12_init_163 rfl)
theorem dX12_init_192 : decode cX12_init 192 = .ok (.newarray .int, 2) := dc_188_10 (dc_nn (k := 29) aX12_init_163 rfl)
theorem dX12_init_194 : decode cX12_init 194 = .ok (.putfield 83, 3) := dc_181 (a0 := 0) (b0 := 83) (dc_nn (k := 31) aX12_init_163 rfl)
theorem dX12_init_197 : decode cX12_init 197 = .ok (.aload_n 0, 1) := dc_42 (dc_nn (k := 34) aX12_init_163 rfl)
theorem dX12_init_198 : decode cX12_init 198 = .ok (.bipush 6, 2) := dc_16 (a0 := 6) (dc_nn (k := 35) aX12_init_163 rfl) (by decide)
theorem dX12_init_200 : decode cX12_init 200 = .ok (.newarray .int, 2) := dc_188_10 (dc_nn (k := 37) aX12_init_163 rfl)
theorem dX12_init_202 : decode cX12_init 202 = .ok (.putfield 86, 3) := dc_181 (a0 := 0) (b0 := 86) (dc_nn (k := 39) aX12_init_163 rfl)
theorem dX12_init_205 : decode cX12_init 205 = .ok (.aload_n 0, 1) := dc_42 aX12_init_205
theorem dX12_init_206 : decode cX12_init 206 = .ok (.bipush 6, 2) := dc_16 (a0 := 6) (dc_nn (k := 1) aX12_init_205 rfl) (by decide)
theorem dX12_init_208 : decode cX12_init 208 = .ok (.newarray .int, 2) := dc_188_10 (dc_nn (k := 3) aX12_init_205 rfl)
theorem dX12_init_210 : decode cX12_init 210 = .ok (.putfield 89, 3) := dc_181 (a0 := 0) (b0 := 89) (dc_nn (k := 5) aX12_init_205 rfl)
theorem dX12_init_213 : decode cX12_init 213 = .ok (.aload_n 0, 1) := dc_42 (dc_nn (k := 8) aX12_init_205 rfl)
theorem dX12_init_214 : decode cX12_init 214 = .ok (.bipush 36, 2) := dc_16 (a0 := 36) (dc_nn (k := 9) aX12_init_205 rfl) (by decide)
theorem dX12_init_216 : decode cX12_init 216 = .ok (.newarray .int, 2) := dc_188_10 (dc_nn (k := 11) aX12_init_205 rfl)
theorem dX12_init_218 : decode cX12_init 218 = .ok (.putfield 92, 3) := dc_181 (a0 := 0) (b0 := 92) (dc_nn (k := 13) aX12_init_205 rfl)
theorem dX12_init_221 : decode cX12_init 221 = .ok (.aload_n 0, 1) := dc_42 (dc_nn (k := 16) aX12_init_205 rfl)
theorem dX12_init_222 : decode cX12_init 222 = .ok (.bipush 6, 2) := dc_16 (a0 := 6) (dc_nn (k := 17) aX12_init_205 rfl) (by decide)
theorem dX12_init_224 : decode cX12_init 224 = .ok (.newarray .boolean, 2) := dc_188_4 (dc_nn (k := 19) aX12_init_205 rfl)
theorem dX12_init_226 : decode cX12_init 226 = .ok (.putfield 95, 3) := dc_181 (a0 := 0) (b0 := 95) (dc_nn (k := 21) aX12_init_205 rfl)
theorem dX12_init_229 : decode cX12_init 229 = .ok (.aload_n 0, 1) := dc_42 (dc_nn (k := 24) aX12_init_205 rfl)
theorem dX12_init_230 : decode cX12_init 230 = .ok (.bipush 6, 2) := dc_16 (a0 := 6) (dc_nn (k := 25) aX12_init_205 rfl) (by decide)
theorem dX12_init_232 : decode cX12_init 232 = .ok (.newarray .int, 2) := dc_188_10 (dc_nn (k := 27) aX12_init_205 rfl)
theorem dX12_init_234 : decode cX12_init 234 = .ok (.putfield 99, 3) := dc_181 (a0 := 0) (b0 := 99) (dc_nn (k := 29) aX12_init_205 rfl)
theorem dX12_init_237 : decode cX12_init 237 = .ok (.aload_n 0, 1) := dc_42 (dc_nn (k := 32) aX12_init_205 rfl)
theorem dX12_init_238 : decode cX12_init 238 = .ok (.bipush 120, 2) := dc_16 (a0 := 120) (dc_nn (k := 33) aX12_init_205 rfl) (by decide)
theorem dX12_init_240 : decode cX12_init 240 = .ok (.newarray .int, 2) := dc_188_10 (dc_nn (k := 35) aX12_init_205 rfl)
theorem dX12_init_242 : decode cX12_init 242 = .ok (.putfield 102, 3) := dc_181 (a0 := 0) (b0 := 102) (dc_nn (k := 37) aX12_init_205 rfl)
theorem dX12_init_245 : decode cX12_init 245 = .ok (.aload_n 0, 1) := dc_42 aX12_init_245
theorem dX12_init_246 : decode cX12_init 246 = .ok (.bipush 20, 2) := dc_16 (a0 := 20) (dc_nn (k := 1) aX12_init_245 rfl) (by decide)
theorem dX12_init_248 : decode cX12_init 248 = .ok (.newarray .int, 2) := dc_188_10 (dc_nn (k := 3) aX12_init_245 rfl)
theorem dX12_init_250 : decode cX12_init 250 = .ok (.putfield 105, 3) := dc_181 (a0 := 0) (b0 := 105) (dc_nn (k := 5) aX12_init_245 rfl)
theorem dX12_init_253 : decode cX12_init 253 = .ok (.aload_n 0, 1) := dc_42 (dc_nn (k := 8) aX12_init_245 rfl)
theorem dX12_init_254 : decode cX12_init 254 = .ok (.bipush 20, 2) := dc_16 (a0 := 20) (dc_nn (k := 9) aX12_init_245 rfl) (by decide)
theorem dX12_init_256 : decode cX12_init 256 = .ok (.newarray .int, 2) := dc_188_10 (dc_nn (k := 11) aX12_init_245 rfl)
theorem dX12_init_258 : decode cX12_init 258 = .ok (.putfield 108, 3) := dc_181 (a0 := 0) (b0 := 108) (dc_nn (k := 13) aX12_init_245 rfl)
theorem dX12_init_261 : decode cX12_init 261 = .ok (.aload_n 0, 1) := dc_42 (dc_nn (k := 16) aX12_init_245 rfl)
theorem dX12_init_262 : decode cX12_init 262 = .ok (.bipush 120, 2) := dc_16 (a0 := 120) (dc_nn (k := 17) aX12_init_245 rfl) (by decide)
theorem dX12_init_264 : decode cX12_init 264 = .ok (.newarray .int, 2) := dc_188_10 (dc_nn (k := 19) aX12_init_245 rfl)
theorem dX12_init_266 : decode cX12_init 266 = .ok (.putfield 111, 3) := dc_181 (a0 := 0) (b0 := 111) (dc_nn (k := 21) aX12_init_245 rfl)
theorem dX12_init_269 : decode cX12_init 269 = .ok (.aload_n 0, 1) := dc_42 (dc_nn (k := 24) aX12_init_245 rfl)
theorem dX12_init_270 : decode cX12_init 270 = .ok (.bipush 20, 2) := dc_16 (a0 := 20) (dc_nn (k := 25) aX12_init_245 rfl) (by decide)
theorem dX12_init_272 : decode cX12_init 272 = .ok (.newarray .int, 2) := dc_188_10 (dc_nn (k := 27) aX12_init_245 rfl)
theorem dX12_init_274 : decode cX12_init 274 = .ok (.putfield 114, 3) := dc_181 (a0 := 0) (b0 := 114) (dc_nn (k := 29) aX12_init_245 rfl)
theorem dX12_init_277 : decode cX12_init 277 = .ok (.aload_n 0, 1) := dc_42 (dc_nn (k := 32) aX12_init_245 rfl)
theorem dX12_init_278 : decode cX12_init 278 = .ok (.bipush 20, 2) := dc_16 (a0 := 20) (dc_nn (k := 33) aX12_init_245 rfl) (by decide)
theorem dX12_init_280 : decode cX12_init 280 = .ok (.newarray .int, 2) := dc_188_10 (dc_nn (k := 35) aX12_init_245 rfl)
theorem dX12_init_282 : decode cX12_init 282 = .ok (.putfield 117, 3) := dc_181 (a0 := 0) (b0 := 117) (dc_nn (k := 37) aX12_init_245 rfl)
theorem dX12_init_285 : decode cX12_init 285 = .ok (.aload_n 0, 1) := dc_42 aX12_init_285
theorem dX12_init_286 : decode cX12_init 286 = .ok (.bipush 20, 2) := dc_16 (a0 := 20) (dc_nn (k := 1) aX12_init_285 rfl) (by decide)
theorem dX12_init_288 : decode cX12_init 288 = .ok (.newarray .int, 2) := dc_188_10 (dc_nn (k := 3) aX12_init_285 rfl)
theorem dX12_init_290 : decode cX12_init 290 = .ok (.putfield 120, 3) := dc_181 (a0 := 0) (b0 := 120) (dc_nn (k := 5) aX12_init_285 rfl)
theorem dX12_init_293 : decode cX12_init 293 = .ok (.aload_n 0, 1) := dc_42 (dc_nn (k := 8) aX12_init_285 rfl)
theorem dX12_init_294 : decode cX12_init 294 = .ok (.bipush 20, 2) := dc_16 (a0 := 20) (dc_nn (k := 9) aX12_init_285 rfl) (by decide)
theorem dX12_init_296 : decode cX12_init 296 = .ok (.newarray .int, 2) := dc_188_10 (dc_nn (k := 11) aX12_init_285 rfl)
theorem dX12_init_298 : decode cX12_init 298 = .ok (.putfield 123, 3) := dc_181 (a0 := 0) (b0 := 123) (dc_nn (k := 13) aX12_init_285 rfl)
theorem dX12_init_301 : decode cX12_init 301 = .ok (.aload_n 0, 1) := dc_42 (dc_nn (k := 16) aX12_init_285 rfl)
theorem dX12_init_302 : decode cX12_init 302 = .ok (.bipush 20, 2) := dc_16 (a0 := 20) (dc_nn (k := 17) aX12_init_285 rfl) (by decide)
theorem dX12_init_304 : decode cX12_init 304 = .ok (.newarray .int, 2) := dc_188_10 (dc_nn (k := 19) aX12_init_285 rfl)
theorem dX12_init_306 : decode cX12_init 306 = .ok (.putfield 126, 3) := dc_181 (a0 := 0) (b0 := 126) (dc_nn (k := 21) aX12_init_285 rfl)
theorem dX12_init_309 : decode cX12_init 309 = .ok (.iconst 0, 1) := dc_3 (dc_nn (k := 24) aX12_init_285 rfl)
theorem dX12_init_310 : decode cX12_init 310 = .ok (.istore_n 1, 1) := dc_60 (dc_nn (k := 25) aX12_init_285 rfl)
theorem dX12_init_311 : decode cX12_init 311 = .ok (.iload_n 1, 1) := dc_27 (dc_nn (k := 26) aX12_init_285 rfl)
theorem dX12_init_312 : decode cX12_init 312 = .ok (.bipush 28, 2) := dc_16 (a0 := 28) (dc_nn (k := 27) aX12_init_285 rfl) (by decide)
theorem dX12_init_314 : decode cX12_init 314 = .ok (.if_icmp .ge 16, 3) := dc_162 (a0 := 0) (b0 := 16) (dc_nn (k := 29) aX12_init_285 rfl) (by decide)
theorem dX12_init_317 : decode cX12_init 317 = .ok (.aload_n 0, 1) := dc_42 (dc_nn (k := 32) aX12_init_285 rfl)
theorem dX12_init_318 : decode cX12_init 318 = .ok (.getfield 19, 3) := dc_180 (a0 := 0) (b0 := 19) (dc_nn (k := 33) aX12_init_285 rfl)
theorem dX12_init_321 : decode cX12_init 321 = .ok (.iload_n 1, 1) := dc_27 (dc_nn (k := 36) aX12_init_285 rfl)
theorem dX12_init_322 : decode cX12_init 322 = .ok (.iconst 1, 1) := dc_4 (dc_nn (k := 37) aX12_init_285 rfl)
theorem dX12_init_323 : decode cX12_init 323 = .ok (.iastore, 1) := dc_79 (dc_nn (k := 38) aX12_init_285 rfl)
theorem dX12_init_324 : decode cX12_init 324 = .ok (.iinc 1 1, 3) := dc_132 (a0 := 1) (a1 := 1) (dc_nn (k := 39) aX12_init_285 rfl) (by decide)
theorem dX12_init_327 : decode cX12_init 327 = .ok (.goto (-16), 3) := dc_167 (a0 := 255) (b0 := 240) aX12_init_327 (by decide)
theorem dX12_init_330 : decode cX12_init 330 = .ok (.iconst 0, 1) := dc_3 (dc_nn (k := 3) aX12_init_327 rfl)
theorem dX12_init_331 : decode cX12_init 331 = .ok (.istore_n 1, 1) := dc_60 (dc_nn (k := 4) aX12_init_327 rfl)
theorem dX12_init_332 : decode cX12_init 332 = .ok (.iload_n 1, 1) := dc_27 (dc_nn (k := 5) aX12_init_327 rfl)
theorem dX12_init_333 : decode cX12_init 333 = .ok (.sipush 2640, 3) := dc_17 (a0 := 10) (b0 := 80) (dc_nn (k := 6) aX12_init_327 rfl) (by decide)
theorem dX12_init_336 : decode cX12_init 336 = .ok (.if_icmp .ge 16, 3) := dc_162 (a0 := 0) (b0 := 16) (dc_nn (k := 9) aX12_init_327 rfl) (by decide)
theorem dX12_init_339 : decode cX12_init 339 = .ok (.aload_n 0, 1) := dc_42 (dc_nn (k := 12) aX12_init_327 rfl)
theorem dX12_init_340 : decode cX12_init 340 = .ok (.getfield 31, 3) := dc_180 (a0 := 0) (b0 := 31) (dc_nn (k := 13) aX12_init_327 rfl)
theorem dX12_init_343 : decode cX12_init 343 = .ok (.iload_n 1, 1) := dc_27 (dc_nn (k := 16) aX12_init_327 rfl)
theorem dX12_init_344 : decode cX12_init 344 = .ok (.iconst (-1), 1) := dc_2 (dc_nn (k := 17) aX12_init_327 rfl)
theorem dX12_init_345 : decode cX12_init 345 = .ok (.iastore, 1) := dc_79 (dc_nn (k := 18) aX12_init_327 rfl)
theorem dX12_init_346 : decode cX12_init 346 = .ok (.iinc 1 1, 3) := dc_132 (a0 := 1) (a1 := 1) (dc_nn (k := 19) aX12_init_327 rfl) (by decide)
theorem dX12_init_349 : decode cX12_init 349 = .ok (.goto (-17), 3) := dc_167 (a0 := 255) (b0 := 239) (dc_nn (k := 22) aX12_init_327 rfl) (by decide)
theorem dX12_init_352 : decode cX12_init 352 = .ok (.iconst 0, 1) := dc_3 (dc_nn (k := 25) aX12_init_327 rfl)
theorem dX12_init_353 : decode cX12_init 353 = .ok (.istore_n 1, 1) := dc_60 (dc_nn (k := 26) aX12_init_327 rfl)
theorem dX12_init_354 : decode cX12_init 354 = .ok (.iload_n 1, 1) := dc_27 (dc_nn (k := 27) aX12_init_327 rfl)
theorem dX12_init_355 : decode cX12_init 355 = .ok (.bipush 20, 2) := dc_16 (a0 := 20) (dc_nn (k := 28) aX12_init_327 rfl) (by decide)
theorem dX12_init_357 : decode cX12_init 357 = .ok (.if_icmp .ge 23, 3) := dc_162 (a0 := 0) (b0 := 23) (dc_nn (k := 30) aX12_init_327 rfl) (by decide)
theorem dX12_init_360 : decode cX12_init 360 = .ok (.aload_n 0, 1) := dc_42 (dc_nn (k := 33) aX12_init_327 rfl)
theorem dX12_init_361 : decode cX12_init 361 = .ok (.getfield 114, 3) := dc_180 (a0 := 0) (b0 := 114) (dc_nn (k := 34) aX12_init_327 rfl)
theorem dX12_init_364 : decode cX12_init 364 = .ok (.iload_n 1, 1) := dc_27 (dc_nn (k := 37) aX12_init_327 rfl)
theorem dX12_init_365 : decode cX12_init 365 = .ok (.iconst (-1), 1) := dc_2 (dc_nn (k := 38) aX12_init_327 rfl)
theorem dX12_init_366 : decode cX12_init 366 = .ok (.iastore, 1) := dc_79 (dc_nn (k := 39) aX12_init_327 rfl)
theorem dX12_init_367 : decode cX12_init 367 = .ok (.aload_n 0, 1) := dc_42 aX12_init_367
theorem dX12_init_368 : decode cX12_init 368 = .ok (.getfield 120, 3) := dc_180 (a0 := 0) (b0 := 120) (dc_nn (k := 1) aX12_init_367 rfl)
theorem dX12_init_371 : decode cX12_init 371 = .ok (.iload_n 1, 1) := dc_27 (dc_nn (k := 4) aX12_init_367 rfl)
theorem dX12_init_372 : decode cX12_init 372 = .ok (.iconst (-1), 1) := dc_2 (dc_nn (k := 5) aX12_init_367 rfl)
theorem dX12_init_373 : decode cX12_init 373 = .ok (.iastore, 1) := dc_79 (dc_nn (k := 6) aX12_init_367 rfl)
theorem dX12_init_374 : decode cX12_init 374 = .ok (.iinc 1 1, 3) := dc_132 (a0 := 1) (a1 := 1) (dc_nn (k := 7) aX12_init_367 rfl) (by decide)
theorem dX12_init_377 : decode cX12_init 377 = .ok (.goto (-23), 3) := dc_167 (a0 := 255) (b0 := 233) (dc_nn (k := 10) aX12_init_367 rfl) (by decide)
theorem dX12_init_380 : decode cX12_init 380 = .ok (.return_, 1) := dc_177 (dc_nn (k := 13) aX12_init_367 rfl)
noncomputable def sX12_thrown_0 : List Nat := 42 :: 180 :: 0 :: 129 :: 172 :: []
theorem aX12_thrown_0 : dc_at cX12_thrown 0 sX12_thrown_0 := dc_base (by decide +kernel)
theorem dX12_thrown_0 : decode cX12_thrown 0 = .ok (.aload_n 0, 1) := dc_42 aX12_thrown_0
theorem dX12_thrown_1 : decode cX12_thrown 1 = .ok (.getfield 129, 3) := dc_180 (a0 := 0) (b0 := 129) (dc_nn (k := 1) aX12_thrown_0 rfl)
theorem dX12_thrown_4 : decode cX12_thrown 4 = .ok (.ireturn, 1) := dc_172 (dc_nn (k := 4) aX12_thrown_0 rfl)
noncomputable def sX12_right_0 : List Nat := 42 :: 180 :: 0 :: 129 :: 154 :: 0 :: 12 :: 27 :: 154 :: 0 :: 8 :: 42 :: 28 :: 181 :: 0 :: 129 :: 42 :: 180 :: 0 :: 129 :: 154 :: 0 :: 7 :: 4 :: 167 :: 0 :: 4 :: 3 :: 172 :: []
theorem aX12_right_0 : dc_at cX12_right 0 sX12_right_0 := dc_base (by decide +kernel)
theorem dX12_right_0 : decode cX12_right 0 = .ok (.aload_n 0, 1) := dc_42 aX12_right_0
theorem dX12_right_1 : decode cX12_right 1 = .ok (.getfield 129, 3) := dc_180 (a0 := 0) (b0 := 129) (dc_nn (k := 1) aX12_right_0 rfl)
theorem dX12_right_4 : decode cX12_right 4 = .ok (.ifCond .ne 12, 3) := dc_154 (a0 := 0) (b0 := 12) (dc_nn (k := 4) aX12_right_0 rfl) (by decide)
theorem dX12_right_7 : decode cX12_right 7 = .ok (.iload_n 1, 1) := dc_27 (dc_nn (k := 7) aX12_right_0 rfl)
theorem dX12_right_8 : decode cX12_right 8 = .ok (.ifCond .ne 8, 3) := dc_154 (a0 := 0) (b0 := 8) (dc_nn (k := 8) aX12_right_0 rfl) (by decide)
theorem dX12_right_11 : decode cX12_right 11 = .ok (.aload_n 0, 1) := dc_42 (dc_nn (k := 11) aX12_right_0 rfl)
theorem dX12_right_12 : decode cX12_right 12 = .ok (.iload_n 2, 1) := dc_28 (dc_nn (k := 12) aX12_right_0 rfl)
theorem dX12_right_13 : decode cX12_right 13 = .ok (.putfield 129, 3) := dc_181 (a0 := 0) (b0 := 129) (dc_nn (k := 13) aX12_right_0 rfl)
theorem dX12_right_16 : decode cX12_right 16 = .ok (.aload_n 0, 1) := dc_42 (dc_nn (k := 16) aX12_right_0 rfl)
theorem dX12_right_17 : decode cX12_right 17 = .ok (.getfield 129, 3) := dc_180 (a0 := 0) (b0 := 129) (dc_nn (k := 17) aX12_right_0 rfl)
theorem dX12_right_20 : decode cX12_right 20 = .ok (.ifCond .ne 7, 3) := dc_154 (a0 := 0) (b0 := 7) (dc_nn (k := 20) aX12_right_0 rfl) (by decide)
theorem dX12_right_23 : decode cX12_right 23 = .ok (.iconst 1, 1) := dc_4 (dc_nn (k := 23) aX12_right_0 rfl)
theorem dX12_right_24 : decode cX12_right 24 = .ok (.goto 4, 3) := dc_167 (a0 := 0) (b0 := 4) (dc_nn (k := 24) aX12_right_0 rfl) (by decide)
theorem dX12_right_27 : decode cX12_right 27 = .ok (.iconst 0, 1) := dc_3 (dc_nn (k := 27) aX12_right_0 rfl)
theorem dX12_right_28 : decode cX12_right 28 = .ok (.ireturn, 1) := dc_172 (dc_nn (k := 28) aX12_right_0 rfl)
noncomputable def sX12_within_0 : List Nat := 26 :: 27 :: 161 :: 0 :: 12 :: 26 :: 28 :: 163 :: 0 :: 7 :: 4 :: 167 :: 0 :: 4 :: 3 :: 172 :: []
theorem aX12_within_0 : dc_at cX12_within 0 sX12_within_0 := dc_base (by decide +kernel)
theorem dX12_within_0 : decode cX12_within 0 = .ok (.iload_n 0, 1) := dc_26 aX12_within_0
theorem dX12_within_1 : decode cX12_within 1 = .ok (.iload_n 1, 1) := dc_27 (dc_nn (k := 1) aX12_within_0 rfl)
theorem dX12_within_2 : decode cX12_within 2 = .ok (.if_icmp .lt 12, 3) := dc_161 (a0 := 0) (b0 := 12) (dc_nn (k := 2) aX12_within_0 rfl) (by decide)
theorem dX12_within_5 : decode cX12_within 5 = .ok (.iload_n 0, 1) := dc_26 (dc_nn (k := 5) aX12_within_0 rfl)
theorem dX12_within_6 : decode cX12_within 6 = .ok (.iload_n 2, 1) := dc_28 (dc_nn (k := 6) aX12_within_0 rfl)
theorem dX12_within_7 : decode cX12_within 7 = .ok (.if_icmp .gt 7, 3) := dc_163 (a0 := 0) (b0 := 7) (dc_nn (k := 7) aX12_within_0 rfl) (by decide)
theorem dX12_within_10 : decode cX12_within 10 = .ok (.iconst 1, 1) := dc_4 (dc_nn (k := 10) aX12_within_0 rfl)
theorem dX12_within_11 : decode cX12_within 11 = .ok (.goto 4, 3) := dc_167 (a0 := 0) (b0 := 4) (dc_nn (k := 11) aX12_within_0 rfl) (by decide)
theorem dX12_within_14 : decode cX12_within 14 = .ok (.iconst 0, 1) := dc_3 (dc_nn (k := 14) aX12_within_0 rfl)
theorem dX12_within_15 : decode cX12_within 15 = .ok (.ireturn, 1) := dc_172 (dc_nn (k := 15) aX12_within_0 rfl)
set_option maxRecDepth 20000 in
theorem ggX12_feed_X12_lays : GoodIn wsX12_feed wsX12_lays := goodIn_k _ [[7, 0], [2, 6, 0, 0, 0, 0, 0, 0, 0, 0, 0, 0, 0, 0, 0, 0, 0, 0, 0, 0, 0, 0, 0, 0, 0, 0, 0, 0, 0, 0, 0, 0, 0, 0, 0, 0, 0, 0, 0, 0, 0, 0, 0, 0, 0, 0, 0, 0, 0, 0, 0, 0, 0, 0, 0, 0, 0, 0, 0]] (by rfl) (by decide +kernel)
set_option maxRecDepth 20000 in
theorem gX12_feed_X12_lays : GoodIn wsX12_feed (wsV RX12 135 RX12 yX12_lays wsX12_lays) := goodIn_app (goodIn_k _ [[3, 0, 0, 0]] (by rfl) (gw_V _ _ _ _)) ggX12_feed_X12_lays
noncomputable def sX12_feed_41 : List Nat := 42 :: 21 :: 5 :: 182 :: 0 :: 135 :: 42 :: 180 :: 0 :: 132 :: 172 :: []
noncomputable def sX12_feed_0 : List Nat := 42 :: 3 :: 181 :: 0 :: 129 :: 42 :: 180 :: 0 :: 132 :: 16 :: 20 :: 96 :: 17 :: 2 :: 88 :: 164 :: 0 :: 5 :: 2 :: 172 :: 42 :: 27 :: 182 :: 0 :: 135 :: 42 :: 28 :: 182 :: 0 :: 135 :: 42 :: 29 :: 182 :: 0 :: 135 :: 42 :: 21 :: 4 :: 182 :: 0 :: 135 :: sX12_feed_41
theorem aX12_feed_0 : dc_at cX12_feed 0 sX12_feed_0 := dc_base (by decide +kernel)
theorem aX12_feed_41 : dc_at cX12_feed 41 sX12_feed_41 := dc_nn (k := 41) aX12_feed_0 rfl
theorem dX12_feed_0 : decode cX12_feed 0 = .ok (.aload_n 0, 1) := dc_42 aX12_feed_0
theorem dX12_feed_1 : decode cX12_feed 1 = .ok (.iconst 0, 1) := dc_3 (dc_nn (k := 1) aX12_feed_0 rfl)
theorem dX12_feed_2 : decode cX12_feed 2 = .ok (.putfield 129, 3) := dc_181 (a0 := 0) (b0 := 129) (dc_nn (k := 2) aX12_feed_0 rfl)
theorem dX12_feed_5 : decode cX12_feed 5 = .ok (.aload_n 0, 1) := dc_42 (dc_nn (k := 5) aX12_feed_0 rfl)
theorem dX12_feed_6 : decode cX12_feed 6 = .ok (.getfield 132, 3) := dc_180 (a0 := 0) (b0 := 132) (dc_nn (k := 6) aX12_feed_0 rfl)
theorem dX12_feed_9 : decode cX12_feed 9 = .ok (.bipush 20, 2) := dc_16 (a0 := 20) (dc_nn (k := 9) aX12_feed_0 rfl) (by decide)
theorem dX12_feed_11 : decode cX12_feed 11 = .ok (.iadd, 1) := dc_96 (dc_nn (k := 11) aX12_feed_0 rfl)
theorem dX12_feed_12 : decode cX12_feed 12 = .ok (.sipush 600, 3) := dc_17 (a0 := 2) (b0 := 88) (dc_nn (k := 12) aX12_feed_0 rfl) (by decide)
theorem dX12_feed_15 : decode cX12_feed 15 = .ok (.if_icmp .le 5, 3) := dc_164 (a0 := 0) (b0 := 5) (dc_nn (k := 15) aX12_feed_0 rfl) (by decide)
theorem dX12_feed_18 : decode cX12_feed 18 = .ok (.iconst (-1), 1) := dc_2 (dc_nn (k := 18) aX12_feed_0 rfl)
theorem dX12_feed_19 : decode cX12_feed 19 = .ok (.ireturn, 1) := dc_172 (dc_nn (k := 19) aX12_feed_0 rfl)
theorem dX12_feed_20 : decode cX12_feed 20 = .ok (.aload_n 0, 1) := dc_42 (dc_nn (k := 20) aX12_feed_0 rfl)
theorem dX12_feed_21 : decode cX12_feed 21 = .ok (.iload_n 1, 1) := dc_27 (dc_nn (k := 21) aX12_feed_0 rfl)
theorem dX12_feed_22 : decode cX12_feed 22 = .ok (.invokevirtual 135, 3) := dc_182 (a0 := 0) (b0 := 135) (dc_nn (k := 22) aX12_feed_0 rfl)
theorem dX12_feed_25 : decode cX12_feed 25 = .ok (.aload_n 0, 1) := dc_42 (dc_nn (k := 25) aX12_feed_0 rfl)
theorem dX12_feed_26 : decode cX12_feed 26 = .ok (.iload_n 2, 1) := dc_28 (dc_nn (k := 26) aX12_feed_0 rfl)
theorem dX12_feed_27 : decode cX12_feed 27 = .ok (.invokevirtual 135, 3) := dc_182 (a0 := 0) (b0 := 135) (dc_nn (k := 27) aX12_feed_0 rfl)
theorem dX12_feed_30 : decode cX12_feed 30 = .ok (.aload_n 0, 1) := dc_42 (dc_nn (k := 30) aX12_feed_0 rfl)
theorem dX12_feed_31 : decode cX12_feed 31 = .ok (.iload_n 3, 1) := dc_29 (dc_nn (k := 31) aX12_feed_0 rfl)
theorem dX12_feed_32 : decode cX12_feed 32 = .ok (.invokevirtual 135, 3) := dc_182 (a0 := 0) (b0 := 135) (dc_nn (k := 32) aX12_feed_0 rfl)
theorem dX12_feed_35 : decode cX12_feed 35 = .ok (.aload_n 0, 1) := dc_42 (dc_nn (k := 35) aX12_feed_0 rfl)
theorem dX12_feed_36 : decode cX12_feed 36 = .ok (.iload 4, 2) := dc_21 (a0 := 4) (dc_nn (k := 36) aX12_feed_0 rfl)
theorem dX12_feed_38 : decode cX12_feed 38 = .ok (.invokevirtual 135, 3) := dc_182 (a0 := 0) (b0 := 135) (dc_nn (k := 38) aX12_feed_0 rfl)
theorem dX12_feed_41 : decode cX12_feed 41 = .ok (.aload_n 0, 1) := dc_42 aX12_feed_41
theorem dX12_feed_42 : decode cX12_feed 42 = .ok (.iload 5, 2) := dc_21 (a0 := 5) (dc_nn (k := 1) aX12_feed_41 rfl)
theorem dX12_feed_44 : decode cX12_feed 44 = .ok (.invokevirtual 135, 3) := dc_182 (a0 := 0) (b0 := 135) (dc_nn (k := 3) aX12_feed_41 rfl)
theorem dX12_feed_47 : decode cX12_feed 47 = .ok (.aload_n 0, 1) := dc_42 (dc_nn (k := 6) aX12_feed_41 rfl)
theorem dX12_feed_48 : decode cX12_feed 48 = .ok (.getfield 132, 3) := dc_180 (a0 := 0) (b0 := 132) (dc_nn (k := 7) aX12_feed_41 rfl)
theorem dX12_feed_51 : decode cX12_feed 51 = .ok (.ireturn, 1) := dc_172 (dc_nn (k := 10) aX12_feed_41 rfl)
noncomputable def sX12_lays_0 : List Nat := 16 :: 24 :: 61 :: 28 :: 155 :: 0 :: 35 :: 42 :: 180 :: 0 :: 34 :: 42 :: 180 :: 0 :: 132 :: 27 :: 28 :: 122 :: 17 :: 0 :: 255 :: 126 :: 79 :: 42 :: 89 :: 180 :: 0 :: 132 :: 4 :: 96 :: 181 :: 0 :: 132 :: 132 :: 2 :: 248 :: 167 :: 255 :: 223 :: 177 :: []
theorem aX12_lays_0 : dc_at cX12_lays 0 sX12_lays_0 := dc_base (by decide +kernel)
theorem dX12_lays_0 : decode cX12_lays 0 = .ok (.bipush 24, 2) := dc_16 (a0 := 24) aX12_lays_0 (by decide)
theorem dX12_lays_2 : decode cX12_lays 2 = .ok (.istore_n 2, 1) := dc_61 (dc_nn (k := 2) aX12_lays_0 rfl)
theorem dX12_lays_3 : decode cX12_lays 3 = .ok (.iload_n 2, 1) := dc_28 (dc_nn (k := 3) aX12_lays_0 rfl)
theorem dX12_lays_4 : decode cX12_lays 4 = .ok (.ifCond .lt 35, 3) := dc_155 (a0 := 0) (b0 := 35) (dc_nn (k := 4) aX12_lays_0 rfl) (by decide)
theorem dX12_lays_7 : decode cX12_lays 7 = .ok (.aload_n 0, 1) := dc_42 (dc_nn (k := 7) aX12_lays_0 rfl)
theorem dX12_lays_8 : decode cX12_lays 8 = .ok (.getfield 34, 3) := dc_180 (a0 := 0) (b0 := 34) (dc_nn (k := 8) aX12_lays_0 rfl)
theorem dX12_lays_11 : decode cX12_lays 11 = .ok (.aload_n 0, 1) := dc_42 (dc_nn (k := 11) aX12_lays_0 rfl)
theorem dX12_lays_12 : decode cX12_lays 12 = .ok (.getfield 132, 3) := dc_180 (a0 := 0) (b0 := 132) (dc_nn (k := 12) aX12_lays_0 rfl)
theorem dX12_lays_15 : decode cX12_lays 15 = .ok (.iload_n 1, 1) := dc_27 (dc_nn (k := 15) aX12_lays_0 rfl)
theorem dX12_lays_16 : decode cX12_lays 16 = .ok (.iload_n 2, 1) := dc_28 (dc_nn (k := 16) aX12_lays_0 rfl)
theorem dX12_lays_17 : decode cX12_lays 17 = .ok (.ishr, 1) := dc_122 (dc_nn (k := 17) aX12_lays_0 rfl)
theorem dX12_lays_18 : decode cX12_lays 18 = .ok (.sipush 255, 3) := dc_17 (a0 := 0) (b0 := 255) (dc_nn (k := 18) aX12_lays_0 rfl) (by decide)
theorem dX12_lays_21 : decode cX12_lays 21 = .ok (.iand, 1) := dc_126 (dc_nn (k := 21) aX12_lays_0 rfl)
theorem dX12_lays_22 : decode cX12_lays 22 = .ok (.iastore, 1) := dc_79 (dc_nn (k := 22) aX12_lays_0 rfl)
theorem dX12_lays_23 : decode cX12_lays 23 = .ok (.aload_n 0, 1) := dc_42 (dc_nn (k := 23) aX12_lays_0 rfl)
theorem dX12_lays_24 : decode cX12_lays 24 = .ok (.dup, 1) := dc_89 (dc_nn (k := 24) aX12_lays_0 rfl)
theorem dX12_lays_25 : decode cX12_lays 25 = .ok (.getfield 132, 3) := dc_180 (a0 := 0) (b0 := 132) (dc_nn (k := 25) aX12_lays_0 rfl)
theorem dX12_lays_28 : decode cX12_lays 28 = .ok (.iconst 1, 1) := dc_4 (dc_nn (k := 28) aX12_lays_0 rfl)
theorem dX12_lays_29 : decode cX12_lays 29 = .ok (.iadd, 1) := dc_96 (dc_nn (k := 29) aX12_lays_0 rfl)
theorem dX12_lays_30 : decode cX12_lays 30 = .ok (.putfield 132, 3) := dc_181 (a0 := 0) (b0 := 132) (dc_nn (k := 30) aX12_lays_0 rfl)
theorem dX12_lays_33 : decode cX12_lays 33 = .ok (.iinc 2 (-8), 3) := dc_132 (a0 := 2) (a1 := 248) (dc_nn (k := 33) aX12_lays_0 rfl) (by decide)
theorem dX12_lays_36 : decode cX12_lays 36 = .ok (.goto (-33), 3) := dc_167 (a0 := 255) (b0 := 223) (dc_nn (k := 36) aX12_lays_0 rfl) (by decide)
theorem dX12_lays_39 : decode cX12_lays 39 = .ok (.return_, 1) := dc_177 (dc_nn (k := 39) aX12_lays_0 rfl)
noncomputable def sX12_byteAt_0 : List Nat := 27 :: 42 :: 180 :: 0 :: 139 :: 162 :: 0 :: 12 :: 42 :: 180 :: 0 :: 34 :: 27 :: 46 :: 167 :: 0 :: 4 :: 3 :: 172 :: []
theorem aX12_byteAt_0 : dc_at cX12_byteAt 0 sX12_byteAt_0 := dc_base (by decide +kernel)
theorem dX12_byteAt_0 : decode cX12_byteAt 0 = .ok (.iload_n 1, 1) := dc_27 aX12_byteAt_0
theorem dX12_byteAt_1 : decode cX12_byteAt 1 = .ok (.aload_n 0, 1) := dc_42 (dc_nn (k := 1) aX12_byteAt_0 rfl)
theorem dX12_byteAt_2 : decode cX12_byteAt 2 = .ok (.getfield 139, 3) := dc_180 (a0 := 0) (b0 := 139) (dc_nn (k := 2) aX12_byteAt_0 rfl)
theorem dX12_byteAt_5 : decode cX12_byteAt 5 = .ok (.if_icmp .ge 12, 3) := dc_162 (a0 := 0) (b0 := 12) (dc_nn (k := 5) aX12_byteAt_0 rfl) (by decide)
theorem dX12_byteAt_8 : decode cX12_byteAt 8 = .ok (.aload_n 0, 1) := dc_42 (dc_nn (k := 8) aX12_byteAt_0 rfl)
theorem dX12_byteAt_9 : decode cX12_byteAt 9 = .ok (.getfield 34, 3) := dc_180 (a0 := 0) (b0 := 34) (dc_nn (k := 9) aX12_byteAt_0 rfl)
theorem dX12_byteAt_12 : decode cX12_byteAt 12 = .ok (.iload_n 1, 1) := dc_27 (dc_nn (k := 12) aX12_byteAt_0 rfl)
theorem dX12_byteAt_13 : decode cX12_byteAt 13 = .ok (.iaload, 1) := dc_46 (dc_nn (k := 13) aX12_byteAt_0 rfl)
theorem dX12_byteAt_14 : decode cX12_byteAt 14 = .ok (.goto 4, 3) := dc_167 (a0 := 0) (b0 := 4) (dc_nn (k := 14) aX12_byteAt_0 rfl) (by decide)
theorem dX12_byteAt_17 : decode cX12_byteAt 17 = .ok (.iconst 0, 1) := dc_3 (dc_nn (k := 17) aX12_byteAt_0 rfl)
theorem dX12_byteAt_18 : decode cX12_byteAt 18 = .ok (.ireturn, 1) := dc_172 (dc_nn (k := 18) aX12_byteAt_0 rfl)
noncomputable def sX12_isLetter_0 : List Nat := 26 :: 16 :: 97 :: 161 :: 0 :: 13 :: 26 :: 16 :: 122 :: 163 :: 0 :: 7 :: 4 :: 167 :: 0 :: 4 :: 3 :: 172 :: []
theorem aX12_isLetter_0 : dc_at cX12_isLetter 0 sX12_isLetter_0 := dc_base (by decide +kernel)
theorem dX12_isLetter_0 : decode cX12_isLetter 0 = .ok (.iload_n 0, 1) := dc_26 aX12_isLetter_0
theorem dX12_isLetter_1 : decode cX12_isLetter 1 = .ok (.bipush 97, 2) := dc_16 (a0 := 97) (dc_nn (k := 1) aX12_isLetter_0 rfl) (by decide)
theorem dX12_isLetter_3 : decode cX12_isLetter 3 = .ok (.if_icmp .lt 13, 3) := dc_161 (a0 := 0) (b0 := 13) (dc_nn (k := 3) aX12_isLetter_0 rfl) (by decide)
theorem dX12_isLetter_6 : decode cX12_isLetter 6 = .ok (.iload_n 0, 1) := dc_26 (dc_nn (k := 6) aX12_isLetter_0 rfl)
theorem dX12_isLetter_7 : decode cX12_isLetter 7 = .ok (.bipush 122, 2) := dc_16 (a0 := 122) (dc_nn (k := 7) aX12_isLetter_0 rfl) (by decide)
theorem dX12_isLetter_9 : decode cX12_isLetter 9 = .ok (.if_icmp .gt 7, 3) := dc_163 (a0 := 0) (b0 := 7) (dc_nn (k := 9) aX12_isLetter_0 rfl) (by decide)
theorem dX12_isLetter_12 : decode cX12_isLetter 12 = .ok (.iconst 1, 1) := dc_4 (dc_nn (k := 12) aX12_isLetter_0 rfl)
theorem dX12_isLetter_13 : decode cX12_isLetter 13 = .ok (.goto 4, 3) := dc_167 (a0 := 0) (b0 := 4) (dc_nn (k := 13) aX12_isLetter_0 rfl) (by decide)
theorem dX12_isLetter_16 : decode cX12_isLetter 16 = .ok (.iconst 0, 1) := dc_3 (dc_nn (k := 16) aX12_isLetter_0 rfl)
theorem dX12_isLetter_17 : decode cX12_isLetter 17 = .ok (.ireturn, 1) := dc_172 (dc_nn (k := 17) aX12_isLetter_0 rfl)
noncomputable def sX12_isDigit_0 : List Nat := 26 :: 16 :: 48 :: 161 :: 0 :: 13 :: 26 :: 16 :: 57 :: 163 :: 0 :: 7 :: 4 :: 167 :: 0 :: 4 :: 3 :: 172 :: []
theorem aX12_isDigit_0 : dc_at cX12_isDigit 0 sX12_isDigit_0 := dc_base (by decide +kernel)
theorem dX12_isDigit_0 : decode cX12_isDigit 0 = .ok (.iload_n 0, 1) := dc_26 aX12_isDigit_0
theorem dX12_isDigit_1 : decode cX12_isDigit 1 = .ok (.bipush 48, 2) := dc_16 (a0 := 48) (dc_nn (k := 1) aX12_isDigit_0 rfl) (by decide)
theorem dX12_isDigit_3 : decode cX12_isDigit 3 = .ok (.if_icmp .lt 13, 3) := dc_161 (a0 := 0) (b0 := 13) (dc_nn (k := 3) aX12_isDigit_0 rfl) (by decide)
theorem dX12_isDigit_6 : decode cX12_isDigit 6 = .ok (.iload_n 0, 1) := dc_26 (dc_nn (k := 6) aX12_isDigit_0 rfl)
theorem dX12_isDigit_7 : decode cX12_isDigit 7 = .ok (.bipush 57, 2) := dc_16 (a0 := 57) (dc_nn (k := 7) aX12_isDigit_0 rfl) (by decide)
theorem dX12_isDigit_9 : decode cX12_isDigit 9 = .ok (.if_icmp .gt 7, 3) := dc_163 (a0 := 0) (b0 := 7) (dc_nn (k := 9) aX12_isDigit_0 rfl) (by decide)
theorem dX12_isDigit_12 : decode cX12_isDigit 12 = .ok (.iconst 1, 1) := dc_4 (dc_nn (k := 12) aX12_isDigit_0 rfl)
theorem dX12_isDigit_13 : decode cX12_isDigit 13 = .ok (.goto 4, 3) := dc_167 (a0 := 0) (b0 := 4) (dc_nn (k := 13) aX12_isDigit_0 rfl) (by decide)
theorem dX12_isDigit_16 : decode cX12_isDigit 16 = .ok (.iconst 0, 1) := dc_3 (dc_nn (k := 16) aX12_isDigit_0 rfl)
theorem dX12_isDigit_17 : decode cX12_isDigit 17 = .ok (.ireturn, 1) := dc_172 (dc_nn (k := 17) aX12_isDigit_0 rfl)
set_option maxRecDepth 20000 in
theorem ggX12_steps_X12_byteAt : GoodIn wsX12_steps wsX12_byteAt := goodIn_k _ [[12], [2, 10, 6, 0, 0, 0, 0, 0, 0, 0, 0, 0, 0, 0, 0, 0, 0, 0, 0, 0, 0, 0, 0, 0, 0, 0, 0, 0, 0, 0, 0, 0, 0, 0, 0, 0, 0, 0, 0, 0, 0, 0, 0, 0, 0, 0, 0, 0, 0, 0, 0, 0, 0, 0, 0, 0, 0, 0, 0, 0]] (by rfl) (by decide +kernel)
set_option maxRecDepth 20000 in
theorem gX12_steps_X12_byteAt : GoodIn wsX12_steps (wsV RX12 145 RX12 yX12_byteAt wsX12_byteAt) := goodIn_app (goodIn_k _ [[8, 0, 0, 0]] (by rfl) (gw_V _ _ _ _)) ggX12_steps_X12_byteAt
set_option maxRecDepth 20000 in
theorem ggX12_steps_X12_isLetter : GoodIn wsX12_steps wsX12_isLetter := goodIn_k _ [[16]] (by rfl) (by decide +kernel)
set_option maxRecDepth 20000 in
theorem gX12_steps_X12_isLetter : GoodIn wsX12_steps (va_wsS RX12 162 yX12_isLetter wsX12_isLetter) := goodIn_app (goodIn_k _ [[14, 0], [11]] (by rfl) (gw_S _ _ _ _)) ggX12_steps_X12_isLetter
set_option maxRecDepth 20000 in
theorem ggX12_steps_X12_isDigit : GoodIn wsX12_steps wsX12_isDigit := goodIn_k _ [[19]] (by rfl) (by decide +kernel)
set_option maxRecDepth 20000 in
theorem gX12_steps_X12_isDigit : GoodIn wsX12_steps (va_wsS RX12 166 yX12_isDigit wsX12_isDigit) := goodIn_app (goodIn_k _ [[17, 0], [11]] (by rfl) (gw_S _ _ _ _)) ggX12_steps_X12_isDigit
noncomputable def sX12_steps_288 : List Nat := 100 :: 181 :: 0 :: 169 :: 177 :: []
noncomputable def sX12_steps_246 : List Nat := 42 :: 5 :: 181 :: 0 :: 159 :: 167 :: 0 :: 28 :: 42 :: 89 :: 180 :: 0 :: 142 :: 4 :: 96 :: 181 :: 0 :: 142 :: 42 :: 27 :: 16 :: 59 :: 160 :: 0 :: 7 :: 6 :: 167 :: 0 :: 4 :: 7 :: 181 :: 0 :: 159 :: 42 :: 42 :: 180 :: 0 :: 142 :: 42 :: 180 :: 0 :: 149 :: sX12_steps_288
noncomputable def sX12_steps_204 : List Nat := 100 :: 16 :: 7 :: 162 :: 0 :: 26 :: 42 :: 16 :: 10 :: 42 :: 180 :: 0 :: 156 :: 104 :: 42 :: 42 :: 180 :: 0 :: 142 :: 182 :: 0 :: 145 :: 96 :: 16 :: 48 :: 100 :: 181 :: 0 :: 156 :: 42 :: 89 :: 180 :: 0 :: 142 :: 4 :: 96 :: 181 :: 0 :: 142 :: 167 :: 255 :: 195 :: sX12_steps_246
noncomputable def sX12_steps_164 : List Nat := 167 :: 255 :: 195 :: 42 :: 4 :: 181 :: 0 :: 159 :: 167 :: 0 :: 107 :: 27 :: 184 :: 0 :: 166 :: 153 :: 0 :: 75 :: 42 :: 42 :: 180 :: 0 :: 142 :: 182 :: 0 :: 145 :: 184 :: 0 :: 166 :: 153 :: 0 :: 53 :: 42 :: 180 :: 0 :: 142 :: 42 :: 180 :: 0 :: 149 :: sX12_steps_204
noncomputable def sX12_steps_122 : List Nat := 180 :: 0 :: 149 :: 100 :: 16 :: 8 :: 162 :: 0 :: 26 :: 42 :: 42 :: 180 :: 0 :: 152 :: 8 :: 121 :: 42 :: 42 :: 180 :: 0 :: 142 :: 182 :: 0 :: 145 :: 16 :: 96 :: 100 :: 133 :: 129 :: 181 :: 0 :: 152 :: 42 :: 89 :: 180 :: 0 :: 142 :: 4 :: 96 :: 181 :: 0 :: 142 :: sX12_steps_164
noncomputable def sX12_steps_82 : List Nat := 180 :: 0 :: 139 :: 161 :: 0 :: 11 :: 42 :: 3 :: 181 :: 0 :: 159 :: 167 :: 0 :: 186 :: 27 :: 184 :: 0 :: 162 :: 153 :: 0 :: 75 :: 42 :: 42 :: 180 :: 0 :: 142 :: 182 :: 0 :: 145 :: 184 :: 0 :: 162 :: 153 :: 0 :: 53 :: 42 :: 180 :: 0 :: 142 :: 42 :: sX12_steps_122
noncomputable def sX12_steps_42 : List Nat := 4 :: 96 :: 181 :: 0 :: 142 :: 167 :: 255 :: 209 :: 42 :: 42 :: 180 :: 0 :: 142 :: 181 :: 0 :: 149 :: 42 :: 9 :: 181 :: 0 :: 152 :: 42 :: 3 :: 181 :: 0 :: 156 :: 42 :: 42 :: 180 :: 0 :: 142 :: 182 :: 0 :: 145 :: 60 :: 42 :: 180 :: 0 :: 142 :: 42 :: sX12_steps_82
noncomputable def sX12_steps_0 : List Nat := 42 :: 180 :: 0 :: 142 :: 42 :: 180 :: 0 :: 139 :: 162 :: 0 :: 42 :: 42 :: 42 :: 180 :: 0 :: 142 :: 182 :: 0 :: 145 :: 16 :: 32 :: 159 :: 0 :: 16 :: 42 :: 42 :: 180 :: 0 :: 142 :: 182 :: 0 :: 145 :: 16 :: 10 :: 160 :: 0 :: 16 :: 42 :: 89 :: 180 :: 0 :: 142 :: sX12_steps_42
theorem aX12_steps_0 : dc_at cX12_steps 0 sX12_steps_0 := dc_base (by decide +kernel)
theorem aX12_steps_42 : dc_at cX12_steps 42 sX12_steps_42 := dc_nn (k := 42) aX12_steps_0 rfl
theorem aX12_steps_82 : dc_at cX12_steps 82 sX12_steps_82 := dc_nn (k := 40) aX12_steps_42 rfl
theorem aX12_steps_122 : dc_at cX12_steps 122 sX12_steps_122 := dc_nn (k := 40) aX12_steps_82 rfl
theorem aX12_steps_164 : dc_at cX12_steps 164 sX12_steps_164 := dc_nn (k := 42) aX12_steps_122 rfl
theorem aX12_steps_204 : dc_at cX12_steps 204 sX12_steps_204 := dc_nn (k := 40) aX12_steps_164 rfl
theorem aX12_steps_246 : dc_at cX12_steps 246 sX12_steps_246 := dc_nn (k := 42) aX12_steps_204 rfl
theorem aX12_steps_288 : dc_at cX12_steps 288 sX12_steps_288 := dc_nn (k := 42) aX12_steps_246 rfl
theorem dX12_steps_0 : decode cX12_steps 0 = .ok (.aload_n 0, 1) := dc_42 aX12_steps_0
theorem dX12_steps_1 : decode cX12_steps 1 = .ok (.getfield 142, 3) := dc_180 (a0 := 0) (b0 := 142) (dc_nn (k := 1) aX12_steps_0 rfl)
theorem dX12_steps_4 : decode cX12_steps 4 = .ok (.aload_n 0, 1) := dc_42 (dc_nn (k := 4) aX12_steps_0 rfl)
theorem dX12_steps_5 : decode cX12_steps 5 = .ok (.getfield 139, 3) := dc_180 (a0 := 0) (b0 := 139) (dc_nn (k := 5) aX12_steps_0 rfl)
theorem dX12_steps_8 : decode cX12_steps 8 = .ok (.if_icmp .ge 42, 3) := dc_162 (a0 := 0) (b0 := 42) (dc_nn (k := 8) aX12_steps_0 rfl) (by decide)
theorem dX12_steps_11 : decode cX12_steps 11 = .ok (.aload_n 0, 1) := dc_42 (dc_nn (k := 11) aX12_steps_0 rfl)
theorem dX12_steps_12 : decode cX12_steps 12 = .ok (.aload_n 0, 1) := dc_42 (dc_nn (k := 12) aX12_steps_0 rfl)
theorem dX12_steps_13 : decode cX12_steps 13 = .ok (.getfield 142, 3) := dc_180 (a0 := 0) (b0 := 142) (dc_nn (k := 13) aX12_steps_0 rfl)
theorem dX12_steps_16 : decode cX12_steps 16 = .ok (.invokevirtual 145, 3) := dc_182 (a0 := 0) (b0 := 145) (dc_nn (k := 16) aX12_steps_0 rfl)
theorem dX12_steps_19 : decode cX12_steps 19 = .ok (.bipush 32, 2) := dc_16 (a0 := 32) (dc_nn (k := 19) aX12_steps_0 rfl) (by decide)
theorem dX12_steps_21 : decode cX12_steps 21 = .ok (.if_icmp .eq 16, 3) := dc_159 (a0 := 0) (b0 := 16) (dc_nn (k := 21) aX12_steps_0 rfl) (by decide)
theorem dX12_steps_24 : decode cX12_steps 24 = .ok (.aload_n 0, 1) := dc_42 (dc_nn (k := 24) aX12_steps_0 rfl)
theorem dX12_steps_25 : decode cX12_steps 25 = .ok (.aload_n 0, 1) := dc_42 (dc_nn (k := 25) aX12_steps_0 rfl)
theorem dX12_steps_26 : decode cX12_steps 26 = .ok (.getfield 142, 3) := dc_180 (a0 := 0) (b0 := 142) (dc_nn (k := 26) aX12_steps_0 rfl)
theorem dX12_steps_29 : decode cX12_steps 29 = .ok (.invokevirtual 145, 3) := dc_182 (a0 := 0) (b0 := 145) (dc_nn (k := 29) aX12_steps_0 rfl)
theorem dX12_steps_32 : decode cX12_steps 32 = .ok (.bipush 10, 2) := dc_16 (a0 := 10) (dc_nn (k := 32) aX12_steps_0 rfl) (by decide)
theorem dX12_steps_34 : decode cX12_steps 34 = .ok (.if_icmp .ne 16, 3) := dc_160 (a0 := 0) (b0 := 16) (dc_nn (k := 34) aX12_steps_0 rfl) (by decide)
theorem dX12_steps_37 : decode cX12_steps 37 = .ok (.aload_n 0, 1) := dc_42 (dc_nn (k := 37) aX12_steps_0 rfl)
theorem dX12_steps_38 : decode cX12_steps 38 = .ok (.dup, 1) := dc_89 (dc_nn (k := 38) aX12_steps_0 rfl)
theorem dX12_steps_39 : decode cX12_steps 39 = .ok (.getfield 142, 3) := dc_180 (a0 := 0) (b0 := 142) (dc_nn (k := 39) aX12_steps_0 rfl)
theorem dX12_steps_42 : decode cX12_steps 42 = .ok (.iconst 1, 1) := dc_4 aX12_steps_42
theorem dX12_steps_43 : decode cX12_steps 43 = .ok (.iadd, 1) := dc_96 (dc_nn (k := 1) aX12_steps_42 rfl)
theorem dX12_steps_44 : decode cX12_steps 44 = .ok (.putfield 142, 3) := dc_181 (a0 := 0) (b0 := 142) (dc_nn (k := 2) aX12_steps_42 rfl)
theorem dX12_steps_47 : decode cX12_steps 47 = .ok (.goto (-47), 3) := dc_167 (a0 := 255) (b0 := 209) (dc_nn (k := 5) aX12_steps_42 rfl) (by decide)
theorem dX12_steps_50 : decode cX12_steps 50 = .ok (.aload_n 0, 1) := dc_42 (dc_nn (k := 8) aX12_steps_42 rfl)
theorem dX12_steps_51 : decode cX12_steps 51 = .ok (.aload_n 0, 1) := dc_42 (dc_nn (k := 9) aX12_steps_42 rfl)
theorem dX12_steps_52 : decode cX12_steps 52 = .ok (.getfield 142, 3) := dc_180 (a0 := 0) (b0 := 142) (dc_nn (k := 10) aX12_steps_42 rfl)
theorem dX12_steps_55 : decode cX12_steps 55 = .ok (.putfield 149, 3) := dc_181 (a0 := 0) (b0 := 149) (dc_nn (k := 13) aX12_steps_42 rfl)
theorem dX12_steps_58 : decode cX12_steps 58 = .ok (.aload_n 0, 1) := dc_42 (dc_nn (k := 16) aX12_steps_42 rfl)
theorem dX12_steps_59 : decode cX12_steps 59 = .ok (.lconst 0, 1) := dc_9 (dc_nn (k := 17) aX12_steps_42 rfl)
theorem dX12_steps_60 : decode cX12_steps 60 = .ok (.putfield 152, 3) := dc_181 (a0 := 0) (b0 := 152) (dc_nn (k := 18) aX12_steps_42 rfl)
theorem dX12_steps_63 : decode cX12_steps 63 = .ok (.aload_n 0, 1) := dc_42 (dc_nn (k := 21) aX12_steps_42 rfl)
theorem dX12_steps_64 : decode cX12_steps 64 = .ok (.iconst 0, 1) := dc_3 (dc_nn (k := 22) aX12_steps_42 rfl)
theorem dX12_steps_65 : decode cX12_steps 65 = .ok (.putfield 156, 3) := dc_181 (a0 := 0) (b0 := 156) (dc_nn (k := 23) aX12_steps_42 rfl)
theorem dX12_steps_68 : decode cX12_steps 68 = .ok (.aload_n 0, 1) := dc_42 (dc_nn (k := 26) aX12_steps_42 rfl)
theorem dX12_steps_69 : decode cX12_steps 69 = .ok (.aload_n 0, 1) := dc_42 (dc_nn (k := 27) aX12_steps_42 rfl)
theorem dX12_steps_70 : decode cX12_steps 70 = .ok (.getfield 142, 3) := dc_180 (a0 := 0) (b0 := 142) (dc_nn (k := 28) aX12_steps_42 rfl)
theorem dX12_steps_73 : decode cX12_steps 73 = .ok (.invokevirtual 145, 3) := dc_182 (a0 := 0) (b0 := 145) (dc_nn (k := 31) aX12_steps_42 rfl)
theorem dX12_steps_76 : decode cX12_steps 76 = .ok (.istore_n 1, 1) := dc_60 (dc_nn (k := 34) aX12_steps_42 rfl)
theorem dX12_steps_77 : decode cX12_steps 77 = .ok (.aload_n 0, 1) := dc_42 (dc_nn (k := 35) aX12_steps_42 rfl)
theorem dX12_steps_78 : decode cX12_steps 78 = .ok (.getfield 142, 3) := dc_180 (a0 := 0) (b0 := 142) (dc_nn (k := 36) aX12_steps_42 rfl)
theorem dX12_steps_81 : decode cX12_steps 81 = .ok (.aload_n 0, 1) := dc_42 (dc_nn (k := 39) aX12_steps_42 rfl)
theorem dX12_steps_82 : decode cX12_steps 82 = .ok (.getfield 139, 3) := dc_180 (a0 := 0) (b0 := 139) aX12_steps_82
theorem dX12_steps_85 : decode cX12_steps 85 = .ok (.if_icmp .lt 11, 3) := dc_161 (a0 := 0) (b0 := 11) (dc_nn (k := 3) aX12_steps_82 rfl) (by decide)
theorem dX12_steps_88 : decode cX12_steps 88 = .ok (.aload_n 0, 1) := dc_42 (dc_nn (k := 6) aX12_steps_82 rfl)
theorem dX12_steps_89 : decode cX12_steps 89 = .ok (.iconst 0, 1) := dc_3 (dc_nn (k := 7) aX12_steps_82 rfl)
theorem dX12_steps_90 : decode cX12_steps 90 = .ok (.putfield 159, 3) := dc_181 (a0 := 0) (b0 := 159) (dc_nn (k := 8) aX12_steps_82 rfl)
theorem dX12_steps_93 : decode cX12_steps 93 = .ok (.goto 186, 3) := dc_167 (a0 := 0) (b0 := 186) (dc_nn (k := 11) aX12_steps_82 rfl) (by decide)
theorem dX12_steps_96 : decode cX12_steps 96 = .ok (.iload_n 1, 1) := dc_27 (dc_nn (k := 14) aX12_steps_82 rfl)
theorem dX12_steps_97 : decode cX12_steps 97 = .ok (.invokestatic 162, 3) := dc_184 (a0 := 0) (b0 := 162) (dc_nn (k := 15) aX12_steps_82 rfl)
theorem dX12_steps_100 : decode cX12_steps 100 = .ok (.ifCond .eq 75, 3) := dc_153 (a0 := 0) (b0 := 75) (dc_nn (k := 18) aX12_steps_82 rfl) (by decide)
theorem dX12_steps_103 : decode cX12_steps 103 = .ok (.aload_n 0, 1) := dc_42 (dc_nn (k := 21) aX12_steps_82 rfl)
theorem dX12_steps_104 : decode cX12_steps 104 = .ok (.aload_n 0, 1) := dc_42 (dc_nn (k := 22) aX12_steps_82 rfl)
theorem dX12_steps_105 : decode cX12_steps 105 = .ok (.getfield 142, 3) := dc_180 (a0 := 0) (b0 := 142) (dc_nn (k := 23) aX12_steps_82 rfl)
theorem dX12_steps_108 : decode cX12_steps 108 = .ok (.invokevirtual 145, 3) := dc_182 (a0 := 0) (b0 := 145) (dc_nn (k := 26) aX12_steps_82 rfl)
theorem dX12_steps_111 : decode cX12_steps 111 = .ok (.invokestatic 162, 3) := dc_184 (a0 := 0) (b0 := 162) (dc_nn (k := 29) aX12_steps_82 rfl)
theorem dX12_steps_114 : decode cX12_steps 114 = .ok (.ifCond .eq 53, 3) := dc_153 (a0 := 0) (b0 := 53) (dc_nn (k := 32) aX12_steps_82 rfl) (by decide)
theorem dX12_steps_117 : decode cX12_steps 117 = .ok (.aload_n 0, 1) := dc_42 (dc_nn (k := 35) aX12_steps_82 rfl)
theorem dX12_steps_118 : decode cX12_steps 118 = .ok (.getfield 142, 3) := dc_180 (a0 := 0) (b0 := 142) (dc_nn (k := 36) aX12_steps_82 rfl)
theorem dX12_steps_121 : decode cX12_steps 121 = .ok (.aload_n 0, 1) := dc_42 (dc_nn (k := 39) aX12_steps_82 rfl)
theorem dX12_steps_122 : decode cX12_steps 122 = .ok (.getfield 149, 3) := dc_180 (a0 := 0) (b0 := 149) aX12_steps_122
theorem dX12_steps_125 : decode cX12_steps 125 = .ok (.isub, 1) := dc_100 (dc_nn (k := 3) aX12_steps_122 rfl)
theorem dX12_steps_126 : decode cX12_steps 126 = .ok (.bipush 8, 2) := dc_16 (a0 := 8) (dc_nn (k := 4) aX12_steps_122 rfl) (by decide)
theorem dX12_steps_128 : decode cX12_steps 128 = .ok (.if_icmp .ge 26, 3) := dc_162 (a0 := 0) (b0 := 26) (dc_nn (k := 6) aX12_steps_122 rfl) (by decide)
theorem dX12_steps_131 : decode cX12_steps 131 = .ok (.aload_n 0, 1) := dc_42 (dc_nn (k := 9) aX12_steps_122 rfl)
theorem dX12_steps_132 : decode cX12_steps 132 = .ok (.aload_n 0, 1) := dc_42 (dc_nn (k := 10) aX12_steps_122 rfl)
theorem dX12_steps_133 : decode cX12_steps 133 = .ok (.getfield 152, 3) := dc_180 (a0 := 0) (b0 := 152) (dc_nn (k := 11) aX12_steps_122 rfl)
theorem dX12_steps_136 : decode cX12_steps 136 = .ok (.iconst 5, 1) := dc_8 (dc_nn (k := 14) aX12_steps_122 rfl)
theorem dX12_steps_137 : decode cX12_steps 137 = .ok (.lshl, 1) := dc_121 (dc_nn (k := 15) aX12_steps_122 rfl)
theorem dX12_steps_138 : decode cX12_steps 138 = .ok (.aload_n 0, 1) := dc_42 (dc_nn (k := 16) aX12_steps_122 rfl)
theorem dX12_steps_139 : decode cX12_steps 139 = .ok (.aload_n 0, 1) := dc_42 (dc_nn (k := 17) aX12_steps_122 rfl)
theorem dX12_steps_140 : decode cX12_steps 140 = .ok (.getfield 142, 3) := dc_180 (a0 := 0) (b0 := 142) (dc_nn (k := 18) aX12_steps_122 rfl)
theorem dX12_steps_143 : decode cX12_steps 143 = .ok (.invokevirtual 145, 3) := dc_182 (a0 := 0) (b0 := 145) (dc_nn (k := 21) aX12_steps_122 rfl)
theorem dX12_steps_146 : decode cX12_steps 146 = .ok (.bipush 96, 2) := dc_16 (a0 := 96) (dc_nn (k := 24) aX12_steps_122 rfl) (by decide)
theorem dX12_steps_148 : decode cX12_steps 148 = .ok (.isub, 1) := dc_100 (dc_nn (k := 26) aX12_steps_122 rfl)
theorem dX12_steps_149 : decode cX12_steps 149 = .ok (.i2l, 1) := dc_133 (dc_nn (k := 27) aX12_steps_122 rfl)
theorem dX12_steps_150 : decode cX12_steps 150 = .ok (.lor, 1) := dc_129 (dc_nn (k := 28) aX12_steps_122 rfl)
theorem dX12_steps_151 : decode cX12_steps 151 = .ok (.putfield 152, 3) := dc_181 (a0 := 0) (b0 := 152) (dc_nn (k := 29) aX12_steps_122 rfl)
theorem dX12_steps_154 : decode cX12_steps 154 = .ok (.aload_n 0, 1) := dc_42 (dc_nn (k := 32) aX12_steps_122 rfl)
theorem dX12_steps_155 : decode cX12_steps 155 = .ok (.dup, 1) := dc_89 (dc_nn (k := 33) aX12_steps_122 rfl)
theorem dX12_steps_156 : decode cX12_steps 156 = .ok (.getfield 142, 3) := dc_180 (a0 := 0) (b0 := 142) (dc_nn (k := 34) aX12_steps_122 rfl)
theorem dX12_steps_159 : decode cX12_steps 159 = .ok (.iconst 1, 1) := dc_4 (dc_nn (k := 37) aX12_steps_122 rfl)
theorem dX12_steps_160 : decode cX12_steps 160 = .ok (.iadd, 1) := dc_96 (dc_nn (k := 38) aX12_steps_122 rfl)
theorem dX12_steps_161 : decode cX12_steps 161 = .ok (.putfield 142, 3) := dc_181 (a0 := 0) (b0 := 142) (dc_nn (k := 39) aX12_steps_122 rfl)
theorem dX12_steps_164 : decode cX12_steps 164 = .ok (.goto (-61), 3) := dc_167 (a0 := 255) (b0 := 195) aX12_steps_164 (by decide)
theorem dX12_steps_167 : decode cX12_steps 167 = .ok (.aload_n 0, 1) := dc_42 (dc_nn (k := 3) aX12_steps_164 rfl)
theorem dX12_steps_168 : decode cX12_steps 168 = .ok (.iconst 1, 1) := dc_4 (dc_nn (k := 4) aX12_steps_164 rfl)
theorem dX12_steps_169 : decode cX12_steps 169 = .ok (.putfield 159, 3) := dc_181 (a0 := 0) (b0 := 159) (dc_nn (k := 5) aX12_steps_164 rfl)
theorem dX12_steps_172 : decode cX12_steps 172 = .ok (.goto 107, 3) := dc_167 (a0 := 0) (b0 := 107) (dc_nn (k := 8) aX12_steps_164 rfl) (by decide)
theorem dX12_steps_175 : decode cX12_steps 175 = .ok (.iload_n 1, 1) := dc_27 (dc_nn (k := 11) aX12_steps_164 rfl)
theorem dX12_steps_176 : decode cX12_steps 176 = .ok (.invokestatic 166, 3) := dc_184 (a0 := 0) (b0 := 166) (dc_nn (k := 12) aX12_steps_164 rfl)
theorem dX12_steps_179 : decode cX12_steps 179 = .ok (.ifCond .eq 75, 3) := dc_153 (a0 := 0) (b0 := 75) (dc_nn (k := 15) aX12_steps_164 rfl) (by decide)
theorem dX12_steps_182 : decode cX12_steps 182 = .ok (.aload_n 0, 1) := dc_42 (dc_nn (k := 18) aX12_steps_164 rfl)
theorem dX12_steps_183 : decode cX12_steps 183 = .ok (.aload_n 0, 1) := dc_42 (dc_nn (k := 19) aX12_steps_164 rfl)
theorem dX12_steps_184 : decode cX12_steps 184 = .ok (.getfield 142, 3) := dc_180 (a0 := 0) (b0 := 142) (dc_nn (k := 20) aX12_steps_164 rfl)
theorem dX12_steps_187 : decode cX12_steps 187 = .ok (.invokevirtual 145, 3) := dc_182 (a0 := 0) (b0 := 145) (dc_nn (k := 23) aX12_steps_164 rfl)
theorem dX12_steps_190 : decode cX12_steps 190 = .ok (.invokestatic 166, 3) := dc_184 (a0 := 0) (b0 := 166) (dc_nn (k := 26) aX12_steps_164 rfl)
theorem dX12_steps_193 : decode cX12_steps 193 = .ok (.ifCond .eq 53, 3) := dc_153 (a0 := 0) (b0 := 53) (dc_nn (k := 29) aX12_steps_164 rfl) (by decide)
theorem dX12_steps_196 : decode cX12_steps 196 = .ok (.aload_n 0, 1) := dc_42 (dc_nn (k := 32) aX12_steps_164 rfl)
theorem dX12_steps_197 : decode cX12_steps 197 = .ok (.getfield 142, 3) := dc_180 (a0 := 0) (b0 := 142) (dc_nn (k := 33) aX12_steps_164 rfl)
theorem dX12_steps_200 : decode cX12_steps 200 = .ok (.aload_n 0, 1) := dc_42 (dc_nn (k := 36) aX12_steps_164 rfl)
theorem dX12_steps_201 : decode cX12_steps 201 = .ok (.getfield 149, 3) := dc_180 (a0 := 0) (b0 := 149) (dc_nn (k := 37) aX12_steps_164 rfl)
theorem dX12_steps_204 : decode cX12_steps 204 = .ok (.isub, 1) := dc_100 aX12_steps_204
theorem dX12_steps_205 : decode cX12_steps 205 = .ok (.bipush 7, 2) := dc_16 (a0 := 7) (dc_nn (k := 1) aX12_steps_204 rfl) (by decide)
theorem dX12_steps_207 : decode cX12_steps 207 = .ok (.if_icmp .ge 26, 3) := dc_162 (a0 := 0) (b0 := 26) (dc_nn (k := 3) aX12_steps_204 rfl) (by decide)
theorem dX12_steps_210 : decode cX12_steps 210 = .ok (.aload_n 0, 1) := dc_42 (dc_nn (k := 6) aX12_steps_204 rfl)
theorem dX12_steps_211 : decode cX12_steps 211 = .ok (.bipush 10, 2) := dc_16 (a0 := 10) (dc_nn (k := 7) aX12_steps_204 rfl) (by decide)
theorem dX12_steps_213 : decode cX12_steps 213 = .ok (.aload_n 0, 1) := dc_42 (dc_nn (k := 9) aX12_steps_204 rfl)
theorem dX12_steps_214 : decode cX12_steps 214 = .ok (.getfield 156, 3) := dc_180 (a0 := 0) (b0 := 156) (dc_nn (k := 10) aX12_steps_204 rfl)
theorem dX12_steps_217 : decode cX12_steps 217 = .ok (.imul, 1) := dc_104 (dc_nn (k := 13) aX12_steps_204 rfl)
theorem dX12_steps_218 : decode cX12_steps 218 = .ok (.aload_n 0, 1) := dc_42 (dc_nn (k := 14) aX12_steps_204 rfl)
theorem dX12_steps_219 : decode cX12_steps 219 = .ok (.aload_n 0, 1) := dc_42 (dc_nn (k := 15) aX12_steps_204 rfl)
theorem dX12_steps_220 : decode cX12_steps 220 = .ok (.getfield 142, 3) := dc_180 (a0 := 0) (b0 := 142) (dc_nn (k := 16) aX12_steps_204 rfl)
theorem dX12_steps_223 : decode cX12_steps 223 = .ok (.invokevirtual 145, 3) := dc_182 (a0 := 0) (b0 := 145) (dc_nn (k := 19) aX12_steps_204 rfl)
theorem dX12_steps_226 : decode cX12_steps 226 = .ok (.iadd, 1) := dc_96 (dc_nn (k := 22) aX12_steps_204 rfl)
theorem dX12_steps_227 : decode cX12_steps 227 = .ok (.bipush 48, 2) := dc_16 (a0 := 48) (dc_nn (k := 23) aX12_steps_204 rfl) (by decide)
theorem dX12_steps_229 : decode cX12_steps 229 = .ok (.isub, 1) := dc_100 (dc_nn (k := 25) aX12_steps_204 rfl)
theorem dX12_steps_230 : decode cX12_steps 230 = .ok (.putfield 156, 3) := dc_181 (a0 := 0) (b0 := 156) (dc_nn (k := 26) aX12_steps_204 rfl)
theorem dX12_steps_233 : decode cX12_steps 233 = .ok (.aload_n 0, 1) := dc_42 (dc_nn (k := 29) aX12_steps_204 rfl)
theorem dX12_steps_234 : decode cX12_steps 234 = .ok (.dup, 1) := dc_89 (dc_nn (k := 30) aX12_steps_204 rfl)
theorem dX12_steps_235 : decode cX12_steps 235 = .ok (.getfield 142, 3) := dc_180 (a0 := 0) (b0 := 142) (dc_nn (k := 31) aX12_steps_204 rfl)
theorem dX12_steps_238 : decode cX12_steps 238 = .ok (.iconst 1, 1) := dc_4 (dc_nn (k := 34) aX12_steps_204 rfl)
theorem dX12_steps_239 : decode cX12_steps 239 = .ok (.iadd, 1) := dc_96 (dc_nn (k := 35) aX12_steps_204 rfl)
theorem dX12_steps_240 : decode cX12_steps 240 = .ok (.putfield 142, 3) := dc_181 (a0 := 0) (b0 := 142) (dc_nn (k := 36) aX12_steps_204 rfl)
theorem dX12_steps_243 : decode cX12_steps 243 = .ok (.goto (-61), 3) := dc_167 (a0 := 255) (b0 := 195) (dc_nn (k := 39) aX12_steps_204 rfl) (by decide)
theorem dX12_steps_246 : decode cX12_steps 246 = .ok (.aload_n 0, 1) := dc_42 aX12_steps_246
theorem dX12_steps_247 : decode cX12_steps 247 = .ok (.iconst 2, 1) := dc_5 (dc_nn (k := 1) aX12_steps_246 rfl)
theorem dX12_steps_248 : decode cX12_steps 248 = .ok (.putfield 159, 3) := dc_181 (a0 := 0) (b0 := 159) (dc_nn (k := 2) aX12_steps_246 rfl)
theorem dX12_steps_251 : decode cX12_steps 251 = .ok (.goto 28, 3) := dc_167 (a0 := 0) (b0 := 28) (dc_nn (k := 5) aX12_steps_246 rfl) (by decide)
theorem dX12_steps_254 : decode cX12_steps 254 = .ok (.aload_n 0, 1) := dc_42 (dc_nn (k := 8) aX12_steps_246 rfl)
theorem dX12_steps_255 : decode cX12_steps 255 = .ok (.dup, 1) := dc_89 (dc_nn (k := 9) aX12_steps_246 rfl)
theorem dX12_steps_256 : decode cX12_steps 256 = .ok (.getfield 142, 3) := dc_180 (a0 := 0) (b0 := 142) (dc_nn (k := 10) aX12_steps_246 rfl)
theorem dX12_steps_259 : decode cX12_steps 259 = .ok (.iconst 1, 1) := dc_4 (dc_nn (k := 13) aX12_steps_246 rfl)
theorem dX12_steps_260 : decode cX12_steps 260 = .ok (.iadd, 1) := dc_96 (dc_nn (k := 14) aX12_steps_246 rfl)
theorem dX12_steps_261 : decode cX12_steps 261 = .ok (.putfield 142, 3) := dc_181 (a0 := 0) (b0 := 142) (dc_nn (k := 15) aX12_steps_246 rfl)
theorem dX12_steps_264 : decode cX12_steps 264 = .ok (.aload_n 0, 1) := dc_42 (dc_nn (k := 18) aX12_steps_246 rfl)
theorem dX12_steps_265 : decode cX12_steps 265 = .ok (.iload_n 1, 1) := dc_27 (dc_nn (k := 19) aX12_steps_246 rfl)
theorem dX12_steps_266 : decode cX12_steps 266 = .ok (.bipush 59, 2) := dc_16 (a0 := 59) (dc_nn (k := 20) aX12_steps_246 rfl) (by decide)
theorem dX12_steps_268 : decode cX12_steps 268 = .ok (.if_icmp .ne 7, 3) := dc_160 (a0 := 0) (b0 := 7) (dc_nn (k := 22) aX12_steps_246 rfl) (by decide)
theorem dX12_steps_271 : decode cX12_steps 271 = .ok (.iconst 3, 1) := dc_6 (dc_nn (k := 25) aX12_steps_246 rfl)
theorem dX12_steps_272 : decode cX12_steps 272 = .ok (.goto 4, 3) := dc_167 (a0 := 0) (b0 := 4) (dc_nn (k := 26) aX12_steps_246 rfl) (by decide)
theorem dX12_steps_275 : decode cX12_steps 275 = .ok (.iconst 4, 1) := dc_7 (dc_nn (k := 29) aX12_steps_246 rfl)
theorem dX12_steps_276 : decode cX12_steps 276 = .ok (.putfield 159, 3) := dc_181 (a0 := 0) (b0 := 159) (dc_nn (k := 30) aX12_steps_246 rfl)
theorem dX12_steps_279 : decode cX12_steps 279 = .ok (.aload_n 0, 1) := dc_42 (dc_nn (k := 33) aX12_steps_246 rfl)
theorem dX12_steps_280 : decode cX12_steps 280 = .ok (.aload_n 0, 1) := dc_42 (dc_nn (k := 34) aX12_steps_246 rfl)
theorem dX12_steps_281 : decode cX12_steps 281 = .ok (.getfield 142, 3) := dc_180 (a0 := 0) (b0 := 142) (dc_nn (k := 35) aX12_steps_246 rfl)
theorem dX12_steps_284 : decode cX12_steps 284 = .ok (.aload_n 0, 1) := dc_42 (dc_nn (k := 38) aX12_steps_246 rfl)
theorem dX12_steps_285 : decode cX12_steps 285 = .ok (.getfield 149, 3) := dc_180 (a0 := 0) (b0 := 149) (dc_nn (k := 39) aX12_steps_246 rfl)
theorem dX12_steps_288 : decode cX12_steps 288 = .ok (.isub, 1) := dc_100 aX12_steps_288
theorem dX12_steps_289 : decode cX12_steps 289 = .ok (.putfield 169, 3) := dc_181 (a0 := 0) (b0 := 169) (dc_nn (k := 1) aX12_steps_288 rfl)
theorem dX12_steps_292 : decode cX12_steps 292 = .ok (.return_, 1) := dc_177 (dc_nn (k := 4) aX12_steps_288 rfl)
noncomputable def sX12_spelled_80 : List Nat := 8 :: 121 :: 21 :: 5 :: 16 :: 96 :: 100 :: 133 :: 129 :: 55 :: 7 :: 21 :: 6 :: 153 :: 0 :: 16 :: 22 :: 7 :: 8 :: 121 :: 21 :: 6 :: 16 :: 96 :: 100 :: 133 :: 129 :: 55 :: 7 :: 22 :: 7 :: 173 :: []
noncomputable def sX12_spelled_40 : List Nat := 153 :: 0 :: 15 :: 22 :: 7 :: 8 :: 121 :: 29 :: 16 :: 96 :: 100 :: 133 :: 129 :: 55 :: 7 :: 21 :: 4 :: 153 :: 0 :: 16 :: 22 :: 7 :: 8 :: 121 :: 21 :: 4 :: 16 :: 96 :: 100 :: 133 :: 129 :: 55 :: 7 :: 21 :: 5 :: 153 :: 0 :: 16 :: 22 :: 7 :: sX12_spelled_80
noncomputable def sX12_spelled_0 : List Nat := 26 :: 16 :: 96 :: 100 :: 133 :: 55 :: 7 :: 27 :: 153 :: 0 :: 15 :: 22 :: 7 :: 8 :: 121 :: 27 :: 16 :: 96 :: 100 :: 133 :: 129 :: 55 :: 7 :: 28 :: 153 :: 0 :: 15 :: 22 :: 7 :: 8 :: 121 :: 28 :: 16 :: 96 :: 100 :: 133 :: 129 :: 55 :: 7 :: 29 :: sX12_spelled_40
theorem aX12_spelled_0 : dc_at cX12_spelled 0 sX12_spelled_0 := dc_base (by decide +kernel)
theorem aX12_spelled_40 : dc_at cX12_spelled 40 sX12_spelled_40 := dc_nn (k := 40) aX12_spelled_0 rfl
theorem aX12_spelled_80 : dc_at cX12_spelled 80 sX12_spelled_80 := dc_nn (k := 40) aX12_spelled_40 rfl
theorem dX12_spelled_0 : decode cX12_spelled 0 = .ok (.iload_n 0, 1) := dc_26 aX12_spelled_0
theorem dX12_spelled_1 : decode cX12_spelled 1 = .ok (.bipush 96, 2) := dc_16 (a0 := 96) (dc_nn (k := 1) aX12_spelled_0 rfl) (by decide)
theorem dX12_spelled_3 : decode cX12_spelled 3 = .ok (.isub, 1) := dc_100 (dc_nn (k := 3) aX12_spelled_0 rfl)
theorem dX12_spelled_4 : decode cX12_spelled 4 = .ok (.i2l, 1) := dc_133 (dc_nn (k := 4) aX12_spelled_0 rfl)
theorem dX12_spelled_5 : decode cX12_spelled 5 = .ok (.lstore 7, 2) := dc_55 (a0 := 7) (dc_nn (k := 5) aX12_spelled_0 rfl)
theorem dX12_spelled_7 : decode cX12_spelled 7 = .ok (.iload_n 1, 1) := dc_27 (dc_nn (k := 7) aX12_spelled_0 rfl)
theorem dX12_spelled_8 : decode cX12_spelled 8 = .ok (.ifCond .eq 15, 3) := dc_153 (a0 := 0) (b0 := 15) (dc_nn (k := 8) aX12_spelled_0 rfl) (by decide)
theorem dX12_spelled_11 : decode cX12_spelled 11 = .ok (.lload 7, 2) := dc_22 (a0 := 7) (dc_nn (k := 11) aX12_spelled_0 rfl)
theorem dX12_spelled_13 : decode cX12_spelled 13 = .ok (.iconst 5, 1) := dc_8 (dc_nn (k := 13) aX12_spelled_0 rfl)
theorem dX12_spelled_14 : decode cX12_spelled 14 = .ok (.lshl, 1) := dc_121 (dc_nn (k := 14) aX12_spelled_0 rfl)
theorem dX12_spelled_15 : decode cX12_spelled 15 = .ok (.iload_n 1, 1) := dc_27 (dc_nn (k := 15) aX12_spelled_0 rfl)
theorem dX12_spelled_16 : decode cX12_spelled 16 = .ok (.bipush 96, 2) := dc_16 (a0 := 96) (dc_nn (k := 16) aX12_spelled_0 rfl) (by decide)
theorem dX12_spelled_18 : decode cX12_spelled 18 = .ok (.isub, 1) := dc_100 (dc_nn (k := 18) aX12_spelled_0 rfl)
theorem dX12_spelled_19 : decode cX12_spelled 19 = .ok (.i2l, 1) := dc_133 (dc_nn (k := 19) aX12_spelled_0 rfl)
theorem dX12_spelled_20 : decode cX12_spelled 20 = .ok (.lor, 1) := dc_129 (dc_nn (k := 20) aX12_spelled_0 rfl)
theorem dX12_spelled_21 : decode cX12_spelled 21 = .ok (.lstore 7, 2) := dc_55 (a0 := 7) (dc_nn (k := 21) aX12_spelled_0 rfl)
theorem dX12_spelled_23 : decode cX12_spelled 23 = .ok (.iload_n 2, 1) := dc_28 (dc_nn (k := 23) aX12_spelled_0 rfl)
theorem dX12_spelled_24 : decode cX12_spelled 24 = .ok (.ifCond .eq 15, 3) := dc_153 (a0 := 0) (b0 := 15) (dc_nn (k := 24) aX12_spelled_0 rfl) (by decide)
theorem dX12_spelled_27 : decode cX12_spelled 27 = .ok (.lload 7, 2) := dc_22 (a0 := 7) (dc_nn (k := 27) aX12_spelled_0 rfl)
theorem dX12_spelled_29 : decode cX12_spelled 29 = .ok (.iconst 5, 1) := dc_8 (dc_nn (k := 29) aX12_spelled_0 rfl)
theorem dX12_spelled_30 : decode cX12_spelled 30 = .ok (.lshl, 1) := dc_121 (dc_nn (k := 30) aX12_spelled_0 rfl)
theorem dX12_spelled_31 : decode cX12_spelled 31 = .ok (.iload_n 2, 1) := dc_28 (dc_nn (k := 31) aX12_spelled_0 rfl)
theorem dX12_spelled_32 : decode cX12_spelled 32 = .ok (.bipush 96, 2) := dc_16 (a0 := 96) (dc_nn (k := 32) aX12_spelled_0 rfl) (by decide)
theorem dX12_spelled_34 : decode cX12_spelled 34 = .ok (.isub, 1) := dc_100 (dc_nn (k := 34) aX12_spelled_0 rfl)
theorem dX12_spelled_35 : decode cX12_spelled 35 = .ok (.i2l, 1) := dc_133 (dc_nn (k := 35) aX12_spelled_0 rfl)
theorem dX12_spelled_36 : decode cX12_spelled 36 = .ok (.lor, 1) := dc_129 (dc_nn (k := 36) aX12_spelled_0 rfl)
theorem dX12_spelled_37 : decode cX12_spelled 37 = .ok (.lstore 7, 2) := dc_55 (a0 := 7) (dc_nn (k := 37) aX12_spelled_0 rfl)
theorem dX12_spelled_39 : decode cX12_spelled 39 = .ok (.iload_n 3, 1) := dc_29 (dc_nn (k := 39) aX12_spelled_0 rfl)
theorem dX12_spelled_40 : decode cX12_spelled 40 = .ok (.ifCond .eq 15, 3) := dc_153 (a0 := 0) (b0 := 15) aX12_spelled_40 (by decide)
theorem dX12_spelled_43 : decode cX12_spelled 43 = .ok (.lload 7, 2) := dc_22 (a0 := 7) (dc_nn (k := 3) aX12_spelled_40 rfl)
theorem dX12_spelled_45 : decode cX12_spelled 45 = .ok (.iconst 5, 1) := dc_8 (dc_nn (k := 5) aX12_spelled_40 rfl)
theorem dX12_spelled_46 : decode cX12_spelled 46 = .ok (.lshl, 1) := dc_121 (dc_nn (k := 6) aX12_spelled_40 rfl)
theorem dX12_spelled_47 : decode cX12_spelled 47 = .ok (.iload_n 3, 1) := dc_29 (dc_nn (k := 7) aX12_spelled_40 rfl)
theorem dX12_spelled_48 : decode cX12_spelled 48 = .ok (.bipush 96, 2) := dc_16 (a0 := 96) (dc_nn (k := 8) aX12_spelled_40 rfl) (by decide)
theorem dX12_spelled_50 : decode cX12_spelled 50 = .ok (.isub, 1) := dc_100 (dc_nn (k := 10) aX12_spelled_40 rfl)
theorem dX12_spelled_51 : decode cX12_spelled 51 = .ok (.i2l, 1) := dc_133 (dc_nn (k := 11) aX12_spelled_40 rfl)
theorem dX12_spelled_52 : decode cX12_spelled 52 = .ok (.lor, 1) := dc_129 (dc_nn (k := 12) aX12_spelled_40 rfl)
theorem dX12_spelled_53 : decode cX12_spelled 53 = .ok (.lstore 7, 2) := dc_55 (a0 := 7) (dc_nn (k := 13) aX12_spelled_40 rfl)
theorem dX12_spelled_55 : decode cX12_spelled 55 = .ok (.iload 4, 2) := dc_21 (a0 := 4) (dc_nn (k := 15) aX12_spelled_40 rfl)
theorem dX12_spelled_57 : decode cX12_spelled 57 = .ok (.ifCond .eq 16, 3) := dc_153 (a0 := 0) (b0 := 16) (dc_nn (k := 17) aX12_spelled_40 rfl) (by decide)
theorem dX12_spelled_60 : decode cX12_spelled 60 = .ok (.lload 7, 2) := dc_22 (a0 := 7) (dc_nn (k := 20) aX12_spelled_40 rfl)
theorem dX12_spelled_62 : decode cX12_spelled 62 = .ok (.iconst 5, 1) := dc_8 (dc_nn (k := 22) aX12_spelled_40 rfl)
theorem dX12_spelled_63 : decode cX12_spelled 63 = .ok (.lshl, 1) := dc_121 (dc_nn (k := 23) aX12_spelled_40 rfl)
theorem dX12_spelled_64 : decode cX12_spelled 64 = .ok (.iload 4, 2) := dc_21 (a0 := 4) (dc_nn (k := 24) aX12_spelled_40 rfl)
theorem dX12_spelled_66 : decode cX12_spelled 66 = .ok (.bipush 96, 2) := dc_16 (a0 := 96) (dc_nn (k := 26) aX12_spelled_40 rfl) (by decide)
theorem dX12_spelled_68 : decode cX12_spelled 68 = .ok (.isub, 1) := dc_100 (dc_nn (k := 28) aX12_spelled_40 rfl)
theorem dX12_spelled_69 : decode cX12_spelled 69 = .ok (.i2l, 1) := dc_133 (dc_nn (k := 29) aX12_spelled_40 rfl)
theorem dX12_spelled_70 : decode cX12_spelled 70 = .ok (.lor, 1) := dc_129 (dc_nn (k := 30) aX12_spelled_40 rfl)
theorem dX12_spelled_71 : decode cX12_spelled 71 = .ok (.lstore 7, 2) := dc_55 (a0 := 7) (dc_nn (k := 31) aX12_spelled_40 rfl)
theorem dX12_spelled_73 : decode cX12_spelled 73 = .ok (.iload 5, 2) := dc_21 (a0 := 5) (dc_nn (k := 33) aX12_spelled_40 rfl)
theorem dX12_spelled_75 : decode cX12_spelled 75 = .ok (.ifCond .eq 16, 3) := dc_153 (a0 := 0) (b0 := 16) (dc_nn (k := 35) aX12_spelled_40 rfl) (by decide)
theorem dX12_spelled_78 : decode cX12_spelled 78 = .ok (.lload 7, 2) := dc_22 (a0 := 7) (dc_nn (k := 38) aX12_spelled_40 rfl)
theorem dX12_spelled_80 : decode cX12_spelled 80 = .ok (.iconst 5, 1) := dc_8 aX12_spelled_80
theorem dX12_spelled_81 : decode cX12_spelled 81 = .ok (.lshl, 1) := dc_121 (dc_nn (k := 1) aX12_spelled_80 rfl)
theorem dX12_spelled_82 : decode cX12_spelled 82 = .ok (.iload 5, 2) := dc_21 (a0 := 5) (dc_nn (k := 2) aX12_spelled_80 rfl)
theorem dX12_spelled_84 : decode cX12_spelled 84 = .ok (.bipush 96, 2) := dc_16 (a0 := 96) (dc_nn (k := 4) aX12_spelled_80 rfl) (by decide)
theorem dX12_spelled_86 : decode cX12_spelled 86 = .ok (.isub, 1) := dc_100 (dc_nn (k := 6) aX12_spelled_80 rfl)
theorem dX12_spelled_87 : decode cX12_spelled 87 = .ok (.i2l, 1) := dc_133 (dc_nn (k := 7) aX12_spelled_80 rfl)
theorem dX12_spelled_88 : decode cX12_spelled 88 = .ok (.lor, 1) := dc_129 (dc_nn (k := 8) aX12_spelled_80 rfl)
theorem dX12_spelled_89 : decode cX12_spelled 89 = .ok (.lstore 7, 2) := dc_55 (a0 := 7) (dc_nn (k := 9) aX12_spelled_80 rfl)
theorem dX12_spelled_91 : decode cX12_spelled 91 = .ok (.iload 6, 2) := dc_21 (a0 := 6) (dc_nn (k := 11) aX12_spelled_80 rfl)
theorem dX12_spelled_93 : decode cX12_spelled 93 = .ok (.ifCond .eq 16, 3) := dc_153 (a0 := 0) (b0 := 16) (dc_nn (k := 13) aX12_spelled_80 rfl) (by decide)
theorem dX12_spelled_96 : decode cX12_spelled 96 = .ok (.lload 7, 2) := dc_22 (a0 := 7) (dc_nn (k := 16) aX12_spelled_80 rfl)
theorem dX12_spelled_98 : decode cX12_spelled 98 = .ok (.iconst 5, 1) := dc_8 (dc_nn (k := 18) aX12_spelled_80 rfl)
theorem dX12_spelled_99 : decode cX12_spelled 99 = .ok (.lshl, 1) := dc_121 (dc_nn (k := 19) aX12_spelled_80 rfl)
theorem dX12_spelled_100 : decode cX12_spelled 100 = .ok (.iload 6, 2) := dc_21 (a0 := 6) (dc_nn (k := 20) aX12_spelled_80 rfl)
theorem dX12_spelled_102 : decode cX12_spelled 102 = .ok (.bipush 96, 2) := dc_16 (a0 := 96) (dc_nn (k := 22) aX12_spelled_80 rfl) (by decide)
theorem dX12_spelled_104 : decode cX12_spelled 104 = .ok (.isub, 1) := dc_100 (dc_nn (k := 24) aX12_spelled_80 rfl)
theorem dX12_spelled_105 : decode cX12_spelled 105 = .ok (.i2l, 1) := dc_133 (dc_nn (k := 25) aX12_spelled_80 rfl)
theorem dX12_spelled_106 : decode cX12_spelled 106 = .ok (.lor, 1) := dc_129 (dc_nn (k := 26) aX12_spelled_80 rfl)
theorem dX12_spelled_107 : decode cX12_spelled 107 = .ok (.lstore 7, 2) := dc_55 (a0 := 7) (dc_nn (k := 27) aX12_spelled_80 rfl)
theorem dX12_spelled_109 : decode cX12_spelled 109 = .ok (.lload 7, 2) := dc_22 (a0 := 7) (dc_nn (k := 29) aX12_spelled_80 rfl)
theorem dX12_spelled_111 : decode cX12_spelled 111 = .ok (.lreturn, 1) := dc_173 (dc_nn (k := 31) aX12_spelled_80 rfl)
set_option maxRecDepth 20000 in
theorem ggX12_letters_X12_spelled : GoodIn wsX12_letters wsX12_spelled := goodIn_k _ [[4]] (by rfl) (by decide +kernel)
set_option maxRecDepth 20000 in
theorem gX12_letters_X12_spelled : GoodIn wsX12_letters (va_wsS RX12 172 yX12_spelled wsX12_spelled) := goodIn_app (goodIn_k _ [[1, 0, 0]] (by rfl) (gw_S _ _ _ _)) ggX12_letters_X12_spelled
noncomputable def sX12_letters_371 : List Nat := 3 :: 3 :: 3 :: 3 :: 184 :: 0 :: 172 :: 173 :: []
noncomputable def sX12_letters_331 : List Nat := 173 :: 16 :: 99 :: 16 :: 108 :: 16 :: 105 :: 16 :: 109 :: 16 :: 97 :: 16 :: 116 :: 16 :: 101 :: 184 :: 0 :: 172 :: 173 :: 16 :: 104 :: 16 :: 97 :: 16 :: 110 :: 16 :: 100 :: 3 :: 3 :: 3 :: 184 :: 0 :: 172 :: 173 :: 16 :: 102 :: 16 :: 111 :: 16 :: 114 :: sX12_letters_371
noncomputable def sX12_letters_290 : List Nat := 16 :: 111 :: 16 :: 101 :: 16 :: 115 :: 3 :: 3 :: 3 :: 184 :: 0 :: 172 :: 173 :: 16 :: 115 :: 16 :: 119 :: 16 :: 105 :: 16 :: 110 :: 16 :: 103 :: 3 :: 3 :: 184 :: 0 :: 172 :: 173 :: 16 :: 105 :: 16 :: 110 :: 3 :: 3 :: 3 :: 3 :: 3 :: 184 :: 0 :: 172 :: sX12_letters_331
noncomputable def sX12_letters_250 : List Nat := 16 :: 116 :: 16 :: 101 :: 3 :: 3 :: 3 :: 184 :: 0 :: 172 :: 173 :: 16 :: 115 :: 16 :: 101 :: 16 :: 116 :: 3 :: 3 :: 3 :: 3 :: 184 :: 0 :: 172 :: 173 :: 16 :: 97 :: 16 :: 116 :: 3 :: 3 :: 3 :: 3 :: 3 :: 184 :: 0 :: 172 :: 173 :: 16 :: 103 :: sX12_letters_290
noncomputable def sX12_letters_210 : List Nat := 3 :: 3 :: 184 :: 0 :: 172 :: 173 :: 16 :: 108 :: 16 :: 111 :: 16 :: 116 :: 3 :: 3 :: 3 :: 3 :: 184 :: 0 :: 172 :: 173 :: 16 :: 104 :: 16 :: 111 :: 16 :: 117 :: 16 :: 115 :: 16 :: 101 :: 3 :: 3 :: 184 :: 0 :: 172 :: 173 :: 16 :: 100 :: 16 :: 97 :: sX12_letters_250
noncomputable def sX12_letters_170 : List Nat := 16 :: 112 :: 16 :: 105 :: 16 :: 116 :: 16 :: 101 :: 16 :: 114 :: 184 :: 0 :: 172 :: 173 :: 16 :: 115 :: 16 :: 97 :: 16 :: 116 :: 16 :: 117 :: 16 :: 114 :: 16 :: 110 :: 3 :: 184 :: 0 :: 172 :: 173 :: 16 :: 114 :: 16 :: 105 :: 16 :: 115 :: 16 :: 101 :: 3 :: sX12_letters_210
noncomputable def sX12_letters_129 : List Nat := 16 :: 121 :: 184 :: 0 :: 172 :: 173 :: 16 :: 118 :: 16 :: 101 :: 16 :: 110 :: 16 :: 117 :: 16 :: 115 :: 3 :: 3 :: 184 :: 0 :: 172 :: 173 :: 16 :: 109 :: 16 :: 97 :: 16 :: 114 :: 16 :: 115 :: 3 :: 3 :: 3 :: 184 :: 0 :: 172 :: 173 :: 16 :: 106 :: 16 :: 117 :: sX12_letters_170
noncomputable def sX12_letters_88 : List Nat := 16 :: 115 :: 16 :: 117 :: 16 :: 110 :: 3 :: 3 :: 3 :: 3 :: 184 :: 0 :: 172 :: 173 :: 16 :: 109 :: 16 :: 111 :: 16 :: 111 :: 16 :: 110 :: 3 :: 3 :: 3 :: 184 :: 0 :: 172 :: 173 :: 16 :: 109 :: 16 :: 101 :: 16 :: 114 :: 16 :: 99 :: 16 :: 117 :: 16 :: 114 :: sX12_letters_129
noncomputable def sX12_letters_0 : List Nat := 26 :: 170 :: 0 :: 0 :: 0 :: 0 :: 1 :: 108 :: 0 :: 0 :: 0 :: 0 :: 0 :: 0 :: 0 :: 17 :: 0 :: 0 :: 0 :: 87 :: 0 :: 0 :: 0 :: 101 :: 0 :: 0 :: 0 :: 116 :: 0 :: 0 :: 0 :: 134 :: 0 :: 0 :: 0 :: 150 :: 0 :: 0 :: 0 :: 165 :: 0 :: 0 :: 0 :: 183 :: 0 :: 0 :: 0 :: 200 :: 0 :: 0 :: 0 :: 215 :: 0 :: 0 :: 0 :: 229 :: 0 :: 0 :: 0 :: 245 :: 0 :: 0 :: 1 :: 4 :: 0 :: 0 :: 1 :: 18 :: 0 :: 0 :: 1 :: 31 :: 0 :: 0 :: 1 :: 46 :: 0 :: 0 :: 1 :: 62 :: 0 :: 0 :: 1 :: 75 :: 0 :: 0 :: 1 :: 93 :: sX12_letters_88
theorem aX12_letters_0 : dc_at cX12_letters 0 sX12_letters_0 := dc_base (by decide +kernel)
theorem aX12_letters_88 : dc_at cX12_letters 88 sX12_letters_88 := dc_nn (k := 88) aX12_letters_0 rfl
theorem aX12_letters_129 : dc_at cX12_letters 129 sX12_letters_129 := dc_nn (k := 41) aX12_letters_88 rfl
theorem aX12_letters_170 : dc_at cX12_letters 170 sX12_letters_170 := dc_nn (k := 41) aX12_letters_129 rfl
theorem aX12_letters_210 : dc_at cX12_letters 210 sX12_letters_210 := dc_nn (k := 40) aX12_letters_170 rfl
theorem aX12_letters_250 : dc_at cX12_letters 250 sX12_letters_250 := dc_nn (k := 40) aX12_letters_210 rfl
theorem aX12_letters_290 : dc_at cX12_letters 290 sX12_letters_290 := dc_nn (k := 40) aX12_letters_250 rfl
theorem aX12_letters_331 : dc_at cX12_letters 331 sX12_letters_331 := dc_nn (k := 41) aX12_letters_290 rfl
theorem aX12_letters_371 : dc_at cX12_letters 371 sX12_letters_371 := dc_nn (k := 40) aX12_letters_331 rfl
theorem dX12_letters_0 : decode cX12_letters 0 = .ok (.iload_n 0, 1) := dc_26 aX12_letters_0
theorem dX12_letters_1 : decode cX12_letters 1 = .ok (.tableswitch 364 0 17 #[87, 101, 116, 134, 150, 165, 183, 200, 215, 229, 245, 260, 274, 287, 302, 318, 331, 349], 87) := by decide +kernel
theorem dX12_letters_88 : decode cX12_letters 88 = .ok (.bipush 115, 2) := dc_16 (a0 := 115) aX12_letters_88 (by decide)
theorem dX12_letters_90 : decode cX12_letters 90 = .ok (.bipush 117, 2) := dc_16 (a0 := 117) (dc_nn (k := 2) aX12_letters_88 rfl) (by decide)
theorem dX12_letters_92 : decode cX12_letters 92 = .ok (.bipush 110, 2) := dc_16 (a0 := 110) (dc_nn (k := 4) aX12_letters_88 rfl) (by decide)
theorem dX12_letters_94 : decode cX12_letters 94 = .ok (.iconst 0, 1) := dc_3 (dc_nn (k := 6) aX12_letters_88 rfl)
theorem dX12_letters_95 : decode cX12_letters 95 = .ok (.iconst 0, 1) := dc_3 (dc_nn (k := 7) aX12_letters_88 rfl)
theorem dX12_letters_96 : decode cX12_letters 96 = .ok (.iconst 0, 1) := dc_3 (dc_nn (k := 8) aX12_letters_88 rfl)
theorem dX12_letters_97 : decode cX12_letters 97 = .ok (.iconst 0, 1) := dc_3 (dc_nn (k := 9) aX12_letters_88 rfl)
theorem dX12_letters_98 : decode cX12_letters 98 = .ok (.invokestatic 172, 3) := dc_184 (a0 := 0) (b0 := 172) (dc_nn (k := 10) aX12_letters_88 rfl)
theorem dX12_letters_101 : decode cX12_letters 101 = .ok (.lreturn, 1) := dc_173 (dc_nn (k := 13) aX12_letters_88 rfl)
theorem dX12_letters_102 : decode cX12_letters 102 = .ok (.bipush 109, 2) := dc_16 (a0 := 109) (dc_nn (k := 14) aX12_letters_88 rfl) (by decide)
theorem dX12_letters_104 : decode cX12_letters 104 = .ok (.bipush 111, 2) := dc_16 (a0 := 111) (dc_nn (k := 16) aX12_letters_88 rfl) (by decide)
theorem dX12_letters_106 : decode cX12_letters 106 = .ok (.bipush 111, 2) := dc_16 (a0 := 111) (dc_nn (k := 18) aX12_letters_88 rfl) (by decide)
theorem dX12_letters_108 : decode cX12_letters 108 = .ok (.bipush 110, 2) := dc_16 (a0 := 110) (dc_nn (k := 20) aX12_letters_88 rfl) (by decide)
theorem dX12_letters_110 : decode cX12_letters 110 = .ok (.iconst 0, 1) := dc_3 (dc_nn (k := 22) aX12_letters_88 rfl)
theorem dX12_letters_111 : decode cX12_letters 111 = .ok (.iconst 0, 1) := dc_3 (dc_nn (k := 23) aX12_letters_88 rfl)
theorem dX12_letters_112 : decode cX12_letters 112 = .ok (.iconst 0, 1) := dc_3 (dc_nn (k := 24) aX12_letters_88 rfl)
theorem dX12_letters_113 : decode cX12_letters 113 = .ok (.invokestatic 172, 3) := dc_184 (a0 := 0) (b0 := 172) (dc_nn (k := 25) aX12_letters_88 rfl)
theorem dX12_letters_116 : decode cX12_letters 116 = .ok (.lreturn, 1) := dc_173 (dc_nn (k := 28) aX12_letters_88 rfl)
theorem dX12_letters_117 : decode cX12_letters 117 = .ok (.bipush 109, 2) := dc_16 (a0 := 109) (dc_nn (k := 29) aX12_letters_88 rfl) (by decide)
theorem dX12_letters_119 : decode cX12_letters 119 = .ok (.bipush 101, 2) := dc_16 (a0 := 101) (dc_nn (k := 31) aX12_letters_88 rfl) (by decide)
theorem dX12_letters_121 : decode cX12_letters 121 = .ok (.bipush 114, 2) := dc_16 (a0 := 114) (dc_nn (k := 33) aX12_letters_88 rfl) (by decide)
theorem dX12_letters_123 : decode cX12_letters 123 = .ok (.bipush 99, 2) := dc_16 (a0 := 99) (dc_nn (k := 35) aX12_letters_88 rfl) (by decide)
theorem dX12_letters_125 : decode cX12_letters 125 = .ok (.bipush 117, 2) := dc_16 (a0 := 117) (dc_nn (k := 37) aX12_letters_88 rfl) (by decide)
theorem dX12_letters_127 : decode cX12_letters 127 = .ok (.bipush 114, 2) := dc_16 (a0 := 114) (dc_nn (k := 39) aX12_letters_88 rfl) (by decide)
theorem dX12_letters_129 : decode cX12_letters 129 = .ok (.bipush 121, 2) := dc_16 (a0 := 121) aX12_letters_129 (by decide)
theorem dX12_letters_131 : decode cX12_letters 131 = .ok (.invokestatic 172, 3) := dc_184 (a0 := 0) (b0 := 172) (dc_nn (k := 2) aX12_letters_129 rfl)
theorem dX12_letters_134 : decode cX12_letters 134 = .ok (.lreturn, 1) := dc_173 (dc_nn (k := 5) aX12_letters_129 rfl)
theorem dX12_letters_135 : decode cX12_letters 135 = .ok (.bipush 118, 2) := dc_16 (a0 := 118) (dc_nn (k := 6) aX12_letters_129 rfl) (by decide)
theorem dX12_letters_137 : decode cX12_letters 137 = .ok (.bipush 101, 2) := dc_16 (a0 := 101) (dc_nn (k := 8) aX12_letters_129 rfl) (by decide)
theorem dX12_letters_139 : decode cX12_letters 139 = .ok (.bipush 110, 2) := dc_16 (a0 := 110) (dc_nn (k := 10) aX12_letters_129 rfl) (by decide)
theorem dX12_letters_141 : decode cX12_letters 141 = .ok (.bipush 117, 2) := dc_16 (a0 := 117) (dc_nn (k := 12) aX12_letters_129 rfl) (by decide)
theorem dX12_letters_143 : decode cX12_letters 143 = .ok (.bipush 115, 2) := dc_16 (a0 := 115) (dc_nn (k := 14) aX12_letters_129 rfl) (by decide)
theorem dX12_letters_145 : decode cX12_letters 145 = .ok (.iconst 0, 1) := dc_3 (dc_nn (k := 16) aX12_letters_129 rfl)
theorem dX12_letters_146 : decode cX12_letters 146 = .ok (.iconst 0, 1) := dc_3 (dc_nn (k := 17) aX12_letters_129 rfl)
theorem dX12_letters_147 : decode cX12_letters 147 = .ok (.invokestatic 172, 3) := dc_184 (a0 := 0) (b0 := 172) (dc_nn (k := 18) aX12_letters_129 rfl)
theorem dX12_letters_150 : decode cX12_letters 150 = .ok (.lreturn, 1) := dc_173 (dc_nn (k := 21) aX12_letters_129 rfl)
theorem dX12_letters_151 : decode cX12_letters 151 = .ok (.bipush 109, 2) := dc_16 (a0 := 109) (dc_nn (k := 22) aX12_letters_129 rfl) (by decide)
theorem dX12_letters_153 : decode cX12_letters 153 = .ok (.bipush 97, 2) := dc_16 (a0 := 97) (dc_nn (k := 24) aX12_letters_129 rfl) (by decide)
theorem dX12_letters_155 : decode cX12_letters 155 = .ok (.bipush 114, 2) := dc_16 (a0 := 114) (dc_nn (k := 26) aX12_letters_129 rfl) (by decide)
theorem dX12_letters_157 : decode cX12_letters 157 = .ok (.bipush 115, 2) := dc_16 (a0 := 115) (dc_nn (k := 28) aX12_letters_129 rfl) (by decide)
theorem dX12_letters_159 : decode cX12_letters 159 = .ok (.iconst 0, 1) := dc_3 (dc_nn (k := 30) aX12_letters_129 rfl)
theorem dX12_letters_160 : decode cX12_letters 160 = .ok (.iconst 0, 1) := dc_3 (dc_nn (k := 31) aX12_letters_129 rfl)
theorem dX12_letters_161 : decode cX12_letters 161 = .ok (.iconst 0, 1) := dc_3 (dc_nn (k := 32) aX12_letters_129 rfl)
theorem dX12_letters_162 : decode cX12_letters 162 = .ok (.invokestatic 172, 3) := dc_184 (a0 := 0) (b0 := 172) (dc_nn (k := 33) aX12_letters_129 rfl)
theorem dX12_letters_165 : decode cX12_letters 165 = .ok (.lreturn, 1) := dc_173 (dc_nn (k := 36) aX12_letters_129 rfl)
theorem dX12_letters_166 : decode cX12_letters 166 = .ok (.bipush 106, 2) := dc_16 (a0 := 106) (dc_nn (k := 37) aX12_letters_129 rfl) (by decide)
theorem dX12_letters_168 : decode cX12_letters 168 = .ok (.bipush 117, 2) := dc_16 (a0 := 117) (dc_nn (k := 39) aX12_letters_129 rfl) (by decide)
theorem dX12_letters_170 : decode cX12_letters 170 = .ok (.bipush 112, 2) := dc_16 (a0 := 112) aX12_letters_170 (by decide)
theorem dX12_letters_172 : decode cX12_letters 172 = .ok (.bipush 105, 2) := dc_16 (a0 := 105) (dc_nn (k := 2) aX12_letters_170 rfl) (by decide)
theorem dX12_letters_174 : decode cX12_letters 174 = .ok (.bipush 116, 2) := dc_16 (a0 := 116) (dc_nn (k := 4) aX12_letters_170 rfl) (by decide)
theorem dX12_letters_176 : decode cX12_letters 176 = .ok (.bipush 101, 2) := dc_16 (a0 := 101) (dc_nn (k := 6) aX12_letters_170 rfl) (by decide)
theorem dX12_letters_178 : decode cX12_letters 178 = .ok (.bipush 114, 2) := dc_16 (a0 := 114) (dc_nn (k := 8) aX12_letters_170 rfl) (by decide)
theorem dX12_letters_180 : decode cX12_letters 180 = .ok (.invokestatic 172, 3) := dc_184 (a0 := 0) (b0 := 172) (dc_nn (k := 10) aX12_letters_170 rfl)
theorem dX12_letters_183 : decode cX12_letters 183 = .ok (.lreturn, 1) := dc_173 (dc_nn (k := 13) aX12_letters_170 rfl)
theorem dX12_letters_184 : decode cX12_letters 184 = .ok (.bipush 115, 2) := dc_16 (a0 := 115) (dc_nn (k := 14) aX12_letters_170 rfl) (by decide)
theorem dX12_letters_186 : decode cX12_letters 186 = .ok (.bipush 97, 2) := dc_16 (a0 := 97) (dc_nn (k := 16) aX12_letters_170 rfl) (by decide)
theorem dX12_letters_188 : decode cX12_letters 188 = .ok (.bipush 116, 2) := dc_16 (a0 := 116) (dc_nn (k := 18) aX12_letters_170 rfl) (by decide)
theorem dX12_letters_190 : decode cX12_letters 190 = .ok (.bipush 117, 2) := dc_16 (a0 := 117) (dc_nn (k := 20) aX12_letters_170 rfl) (by decide)
theorem dX12_letters_192 : decode cX12_letters 192 = .ok (.bipush 114, 2) := dc_16 (a0 := 114) (dc_nn (k := 22) aX12_letters_170 rfl) (by decide)
theorem dX12_letters_194 : decode cX12_letters 194 = .ok (.bipush 110, 2) := dc_16 (a0 := 110) (dc_nn (k := 24) aX12_letters_170 rfl) (by decide)
theorem dX12_letters_196 : decode cX12_letters 196 = .ok (.iconst 0, 1) := dc_3 (dc_nn (k := 26) aX12_letters_170 rfl)
theorem dX12_letters_197 : decode cX12_letters 197 = .ok (.invokestatic 172, 3) := dc_184 (a0 := 0) (b0 := 172) (dc_nn (k := 27) aX12_letters_170 rfl)
theorem dX12_letters_200 : decode cX12_letters 200 = .ok (.lreturn, 1) := dc_173 (dc_nn (k := 30) aX12_letters_170 rfl)
theorem dX12_letters_201 : decode cX12_letters 201 = .ok (.bipush 114, 2) := dc_16 (a0 := 114) (dc_nn (k := 31) aX12_letters_170 rfl) (by decide)
theorem dX12_letters_203 : decode cX12_letters 203 = .ok (.bipush 105, 2) := dc_16 (a0 := 105) (dc_nn (k := 33) aX12_letters_170 rfl) (by decide)
theorem dX12_letters_205 : decode cX12_letters 205 = .ok (.bipush 115, 2) := dc_16 (a0 := 115) (dc_nn (k := 35) aX12_letters_170 rfl) (by decide)
theorem dX12_letters_207 : decode cX12_letters 207 = .ok (.bipush 101, 2) := dc_16 (a0 := 101) (dc_nn (k := 37) aX12_letters_170 rfl) (by decide)
theorem dX12_letters_209 : decode cX12_letters 209 = .ok (.iconst 0, 1) := dc_3 (dc_nn (k := 39) aX12_letters_170 rfl)
theorem dX12_letters_210 : decode cX12_letters 210 = .ok (.iconst 0, 1) := dc_3 aX12_letters_210
theorem dX12_letters_211 : decode cX12_letters 211 = .ok (.iconst 0, 1) := dc_3 (dc_nn (k := 1) aX12_letters_210 rfl)
theorem dX12_letters_212 : decode cX12_letters 212 = .ok (.invokestatic 172, 3) := dc_184 (a0 := 0) (b0 := 172) (dc_nn (k := 2) aX12_letters_210 rfl)
theorem dX12_letters_215 : decode cX12_letters 215 = .ok (.lreturn, 1) := dc_173 (dc_nn (k := 5) aX12_letters_210 rfl)
theorem dX12_letters_216 : decode cX12_letters 216 = .ok (.bipush 108, 2) := dc_16 (a0 := 108) (dc_nn (k := 6) aX12_letters_210 rfl) (by decide)
theorem dX12_letters_218 : decode cX12_letters 218 = .ok (.bipush 111, 2) := dc_16 (a0 := 111) (dc_nn (k := 8) aX12_letters_210 rfl) (by decide)
theorem dX12_letters_220 : decode cX12_letters 220 = .ok (.bipush 116, 2) := dc_16 (a0 := 116) (dc_nn (k := 10) aX12_letters_210 rfl) (by decide)
theorem dX12_letters_222 : decode cX12_letters 222 = .ok (.iconst 0, 1) := dc_3 (dc_nn (k := 12) aX12_letters_210 rfl)
theorem dX12_letters_223 : decode cX12_letters 223 = .ok (.iconst 0, 1) := dc_3 (dc_nn (k := 13) aX12_letters_210 rfl)
theorem dX12_letters_224 : decode cX12_letters 224 = .ok (.iconst 0, 1) := dc_3 (dc_nn (k := 14) aX12_letters_210 rfl)
theorem dX12_letters_225 : decode cX12_letters 225 = .ok (.iconst 0, 1) := dc_3 (dc_nn (k := 15) aX12_letters_210 rfl)
theorem dX12_letters_226 : decode cX12_letters 226 = .ok (.invokestatic 172, 3) := dc_184 (a0 := 0) (b0 := 172) (dc_nn (k := 16) aX12_letters_210 rfl)
theorem dX12_letters_229 : decode cX12_letters 229 = .ok (.lreturn, 1) := dc_173 (dc_nn (k := 19) aX12_letters_210 rfl)
theorem dX12_letters_230 : decode cX12_letters 230 = .ok (.bipush 104, 2) := dc_16 (a0 := 104) (dc_nn (k := 20) aX12_letters_210 rfl) (by decide)
theorem dX12_letters_232 : decode cX12_letters 232 = .ok (.bipush 111, 2) := dc_16 (a0 := 111) (dc_nn (k := 22) aX12_letters_210 rfl) (by decide)
theorem dX12_letters_234 : decode cX12_letters 234 = .ok (.bipush 117, 2) := dc_16 (a0 := 117) (dc_nn (k := 24) aX12_letters_210 rfl) (by decide)
theorem dX12_letters_236 : decode cX12_letters 236 = .ok (.bipush 115, 2) := dc_16 (a0 := 115) (dc_nn (k := 26) aX12_letters_210 rfl) (by decide)
theorem dX12_letters_238 : decode cX12_letters 238 = .ok (.bipush 101, 2) := dc_16 (a0 := 101) (dc_nn (k := 28) aX12_letters_210 rfl) (by decide)
theorem dX12_letters_240 : decode cX12_letters 240 = .ok (.iconst 0, 1) := dc_3 (dc_nn (k := 30) aX12_letters_210 rfl)
theorem dX12_letters_241 : decode cX12_letters 241 = .ok (.iconst 0, 1) := dc_3 (dc_nn (k := 31) aX12_letters_210 rfl)
theorem dX12_letters_242 : decode cX12_letters 242 = .ok (.invokestatic 172, 3) := dc_184 (a0 := 0) (b0 := 172) (dc_nn (k := 32) aX12_letters_210 rfl)
theorem dX12_letters_245 : decode cX12_letters 245 = .ok (.lreturn, 1) := dc_173 (dc_nn (k := 35) aX12_letters_210 rfl)
theorem dX12_letters_246 : decode cX12_letters 246 = .ok (.bipush 100, 2) := dc_16 (a0 := 100) (dc_nn (k := 36) aX12_letters_210 rfl) (by decide)
theorem dX12_letters_248 : decode cX12_letters 248 = .ok (.bipush 97, 2) := dc_16 (a0 := 97) (dc_nn (k := 38) aX12_letters_210 rfl) (by decide)
theorem dX12_letters_250 : decode cX12_letters 250 = .ok (.bipush 116, 2) := dc_16 (a0 := 116) aX12_letters_250 (by decide)
theorem dX12_letters_252 : decode cX12_letters 252 = .ok (.bipush 101, 2) := dc_16 (a0 := 101) (dc_nn (k := 2) aX12_letters_250 rfl) (by decide)
theorem dX12_letters_254 : decode cX12_letters 254 = .ok (.iconst 0, 1) := dc_3 (dc_nn (k := 4) aX12_letters_250 rfl)
theorem dX12_letters_255 : decode cX12_letters 255 = .ok (.iconst 0, 1) := dc_3 (dc_nn (k := 5) aX12_letters_250 rfl)
theorem dX12_letters_256 : decode cX12_letters 256 = .ok (.iconst 0, 1) := dc_3 (dc_nn (k := 6) aX12_letters_250 rfl)
theorem dX12_letters_257 : decode cX12_letters 257 = .ok (.invokestatic 172, 3) := dc_184 (a0 := 0) (b0 := 172) (dc_nn (k := 7) aX12_letters_250 rfl)
theorem dX12_letters_260 : decode cX12_letters 260 = .ok (.lreturn, 1) := dc_173 (dc_nn (k := 10) aX12_letters_250 rfl)
theorem dX12_letters_261 : decode cX12_letters 261 = .ok (.bipush 115, 2) := dc_16 (a0 := 115) (dc_nn (k := 11) aX12_letters_250 rfl) (by decide)
theorem dX12_letters_263 : decode cX12_letters 263 = .ok (.bipush 101, 2) := dc_16 (a0 := 101) (dc_nn (k := 13) aX12_letters_250 rfl) (by decide)
theorem dX12_letters_265 : decode cX12_letters 265 = .ok (.bipush 116, 2) := dc_16 (a0 := 116) (dc_nn (k := 15) aX12_letters_250 rfl) (by decide)
theorem dX12_letters_267 : decode cX12_letters 267 = .ok (.iconst 0, 1) := dc_3 (dc_nn (k := 17) aX12_letters_250 rfl)
theorem dX12_letters_268 : decode cX12_letters 268 = .ok (.iconst 0, 1) := dc_3 (dc_nn (k := 18) aX12_letters_250 rfl)
theorem dX12_letters_269 : decode cX12_letters 269 = .ok (.iconst 0, 1) := dc_3 (dc_nn (k := 19) aX12_letters_250 rfl)
theorem dX12_letters_270 : decode cX12_letters 270 = .ok (.iconst 0, 1) := dc_3 (dc_nn (k := 20) aX12_letters_250 rfl)
theorem dX12_letters_271 : decode cX12_letters 271 = .ok (.invokestatic 172, 3) := dc_184 (a0 := 0) (b0 := 172) (dc_nn (k := 21) aX12_letters_250 rfl)
theorem dX12_letters_274 : decode cX12_letters 274 = .ok (.lreturn, 1) := dc_173 (dc_nn (k := 24) aX12_letters_250 rfl)
theorem dX12_letters_275 : decode cX12_letters 275 = .ok (.bipush 97, 2) := dc_16 (a0 := 97) (dc_nn (k := 25) aX12_letters_250 rfl) (by decide)
theorem dX12_letters_277 : decode cX12_letters 277 = .ok (.bipush 116, 2) := dc_16 (a0 := 116) (dc_nn (k := 27) aX12_letters_250 rfl) (by decide)
theorem dX12_letters_279 : decode cX12_letters 279 = .ok (.iconst 0, 1) := dc_3 (dc_nn (k := 29) aX12_letters_250 rfl)
theorem dX12_letters_280 : decode cX12_letters 280 = .ok (.iconst 0, 1) := dc_3 (dc_nn (k := 30) aX12_letters_250 rfl)
theorem dX12_letters_281 : decode cX12_letters 281 = .ok (.iconst 0, 1) := dc_3 (dc_nn (k := 31) aX12_letters_250 rfl)
theorem dX12_letters_282 : decode cX12_letters 282 = .ok (.iconst 0, 1) := dc_3 (dc_nn (k := 32) aX12_letters_250 rfl)
theorem dX12_letters_283 : decode cX12_letters 283 = .ok (.iconst 0, 1) := dc_3 (dc_nn (k := 33) aX12_letters_250 rfl)
theorem dX12_letters_284 : decode cX12_letters 284 = .ok (.invokestatic 172, 3) := dc_184 (a0 := 0) (b0 := 172) (dc_nn (k := 34) aX12_letters_250 rfl)
theorem dX12_letters_287 : decode cX12_letters 287 = .ok (.lreturn, 1) := dc_173 (dc_nn (k := 37) aX12_letters_250 rfl)
theorem dX12_letters_288 : decode cX12_letters 288 = .ok (.bipush 103, 2) := dc_16 (a0 := 103) (dc_nn (k := 38) aX12_letters_250 rfl) (by decide)
theorem dX12_letters_290 : decode cX12_letters 290 = .ok (.bipush 111, 2) := dc_16 (a0 := 111) aX12_letters_290 (by decide)
theorem dX12_letters_292 : decode cX12_letters 292 = .ok (.bipush 101, 2) := dc_16 (a0 := 101) (dc_nn (k := 2) aX12_letters_290 rfl) (by decide)
theorem dX12_letters_294 : decode cX12_letters 294 = .ok (.bipush 115, 2) := dc_16 (a0 := 115) (dc_nn (k := 4) aX12_letters_290 rfl) (by decide)
theorem dX12_letters_296 : decode cX12_letters 296 = .ok (.iconst 0, 1) := dc_3 (dc_nn (k := 6) aX12_letters_290 rfl)
theorem dX12_letters_297 : decode cX12_letters 297 = .ok (.iconst 0, 1) := dc_3 (dc_nn (k := 7) aX12_letters_290 rfl)
theorem dX12_letters_298 : decode cX12_letters 298 = .ok (.iconst 0, 1) := dc_3 (dc_nn (k := 8) aX12_letters_290 rfl)
theorem dX12_letters_299 : decode cX12_letters 299 = .ok (.invokestatic 172, 3) := dc_184 (a0 := 0) (b0 := 172) (dc_nn (k := 9) aX12_letters_290 rfl)
theorem dX12_letters_302 : decode cX12_letters 302 = .ok (.lreturn, 1) := dc_173 (dc_nn (k := 12) aX12_letters_290 rfl)
theorem dX12_letters_303 : decode cX12_letters 303 = .ok (.bipush 115, 2) := dc_16 (a0 := 115) (dc_nn (k := 13) aX12_letters_290 rfl) (by decide)
theorem dX12_letters_305 : decode cX12_letters 305 = .ok (.bipush 119, 2) := dc_16 (a0 := 119) (dc_nn (k := 15) aX12_letters_290 rfl) (by decide)
theorem dX12_letters_307 : decode cX12_letters 307 = .ok (.bipush 105, 2) := dc_16 (a0 := 105) (dc_nn (k := 17) aX12_letters_290 rfl) (by decide)
theorem dX12_letters_309 : decode cX12_letters 309 = .ok (.bipush 110, 2) := dc_16 (a0 := 110) (dc_nn (k := 19) aX12_letters_290 rfl) (by decide)
theorem dX12_letters_311 : decode cX12_letters 311 = .ok (.bipush 103, 2) := dc_16 (a0 := 103) (dc_nn (k := 21) aX12_letters_290 rfl) (by decide)
theorem dX12_letters_313 : decode cX12_letters 313 = .ok (.iconst 0, 1) := dc_3 (dc_nn (k := 23) aX12_letters_290 rfl)
theorem dX12_letters_314 : decode cX12_letters 314 = .ok (.iconst 0, 1) := dc_3 (dc_nn (k := 24) aX12_letters_290 rfl)
theorem dX12_letters_315 : decode cX12_letters 315 = .ok (.invokestatic 172, 3) := dc_184 (a0 := 0) (b0 := 172) (dc_nn (k := 25) aX12_letters_290 rfl)
theorem dX12_letters_318 : decode cX12_letters 318 = .ok (.lreturn, 1) := dc_173 (dc_nn (k := 28) aX12_letters_290 rfl)
theorem dX12_letters_319 : decode cX12_letters 319 = .ok (.bipush 105, 2) := dc_16 (a0 := 105) (dc_nn (k := 29) aX12_letters_290 rfl) (by decide)
theorem dX12_letters_321 : decode cX12_letters 321 = .ok (.bipush 110, 2) := dc_16 (a0 := 110) (dc_nn (k := 31) aX12_letters_290 rfl) (by decide)
theorem dX12_letters_323 : decode cX12_letters 323 = .ok (.iconst 0, 1) := dc_3 (dc_nn (k := 33) aX12_letters_290 rfl)
theorem dX12_letters_324 : decode cX12_letters 324 = .ok (.iconst 0, 1) := dc_3 (dc_nn (k := 34) aX12_letters_290 rfl)
theorem dX12_letters_325 : decode cX12_letters 325 = .ok (.iconst 0, 1) := dc_3 (dc_nn (k := 35) aX12_letters_290 rfl)
theorem dX12_letters_326 : decode cX12_letters 326 = .ok (.iconst 0, 1) := dc_3 (dc_nn (k := 36) aX12_letters_290 rfl)
theorem dX12_letters_327 : decode cX12_letters 327 = .ok (.iconst 0, 1) := dc_3 (dc_nn (k := 37) aX12_letters_290 rfl)
theorem dX12_letters_328 : decode cX12_letters 328 = .ok (.invokestatic 172, 3) := dc_184 (a0 := 0) (b0 := 172) (dc_nn (k := 38) aX12_letters_290 rfl)
theorem dX12_letters_331 : decode cX12_letters 331 = .ok (.lreturn, 1) := dc_173 aX12_letters_331
theorem dX12_letters_332 : decode cX12_letters 332 = .ok (.bipush 99, 2) := dc_16 (a0 := 99) (dc_nn (k := 1) aX12_letters_331 rfl) (by decide)
theorem dX12_letters_334 : decode cX12_letters 334 = .ok (.bipush 108, 2) := dc_16 (a0 := 108) (dc_nn (k := 3) aX12_letters_331 rfl) (by decide)
theorem dX12_letters_336 : decode cX12_letters 336 = .ok (.bipush 105, 2) := dc_16 (a0 := 105) (dc_nn (k := 5) aX12_letters_331 rfl) (by decide)
theorem dX12_letters_338 : decode cX12_letters 338 = .ok (.bipush 109, 2) := dc_16 (a0 := 109) (dc_nn (k := 7) aX12_letters_331 rfl) (by decide)
theorem dX12_letters_340 : decode cX12_letters 340 = .ok (.bipush 97, 2) := dc_16 (a0 := 97) (dc_nn (k := 9) aX12_letters_331 rfl) (by decide)
theorem dX12_letters_342 : decode cX12_letters 342 = .ok (.bipush 116, 2) := dc_16 (a0 := 116) (dc_nn (k := 11) aX12_letters_331 rfl) (by decide)
theorem dX12_letters_344 : decode cX12_letters 344 = .ok (.bipush 101, 2) := dc_16 (a0 := 101) (dc_nn (k := 13) aX12_letters_331 rfl) (by decide)
theorem dX12_letters_346 : decode cX12_letters 346 = .ok (.invokestatic 172, 3) := dc_184 (a0 := 0) (b0 := 172) (dc_nn (k := 15) aX12_letters_331 rfl)
theorem dX12_letters_349 : decode cX12_letters 349 = .ok (.lreturn, 1) := dc_173 (dc_nn (k := 18) aX12_letters_331 rfl)
theorem dX12_letters_350 : decode cX12_letters 350 = .ok (.bipush 104, 2) := dc_16 (a0 := 104) (dc_nn (k := 19) aX12_letters_331 rfl) (by decide)
theorem dX12_letters_352 : decode cX12_letters 352 = .ok (.bipush 97, 2) := dc_16 (a0 := 97) (dc_nn (k := 21) aX12_letters_331 rfl) (by decide)
theorem dX12_letters_354 : decode cX12_letters 354 = .ok (.bipush 110, 2) := dc_16 (a0 := 110) (dc_nn (k := 23) aX12_letters_331 rfl) (by decide)
theorem dX12_letters_356 : decode cX12_letters 356 = .ok (.bipush 100, 2) := dc_16 (a0 := 100) (dc_nn (k := 25) aX12_letters_331 rfl) (by decide)
theorem dX12_letters_358 : decode cX12_letters 358 = .ok (.iconst 0, 1) := dc_3 (dc_nn (k := 27) aX12_letters_331 rfl)
theorem dX12_letters_359 : decode cX12_letters 359 = .ok (.iconst 0, 1) := dc_3 (dc_nn (k := 28) aX12_letters_331 rfl)
theorem dX12_letters_360 : decode cX12_letters 360 = .ok (.iconst 0, 1) := dc_3 (dc_nn (k := 29) aX12_letters_331 rfl)
theorem dX12_letters_361 : decode cX12_letters 361 = .ok (.invokestatic 172, 3) := dc_184 (a0 := 0) (b0 := 172) (dc_nn (k := 30) aX12_letters_331 rfl)
theorem dX12_letters_364 : decode cX12_letters 364 = .ok (.lreturn, 1) := dc_173 (dc_nn (k := 33) aX12_letters_331 rfl)
theorem dX12_letters_365 : decode cX12_letters 365 = .ok (.bipush 102, 2) := dc_16 (a0 := 102) (dc_nn (k := 34) aX12_letters_331 rfl) (by decide)
theorem dX12_letters_367 : decode cX12_letters 367 = .ok (.bipush 111, 2) := dc_16 (a0 := 111) (dc_nn (k := 36) aX12_letters_331 rfl) (by decide)
theorem dX12_letters_369 : decode cX12_letters 369 = .ok (.bipush 114, 2) := dc_16 (a0 := 114) (dc_nn (k := 38) aX12_letters_331 rfl) (by decide)
theorem dX12_letters_371 : decode cX12_letters 371 = .ok (.iconst 0, 1) := dc_3 aX12_letters_371
theorem dX12_letters_372 : decode cX12_letters 372 = .ok (.iconst 0, 1) := dc_3 (dc_nn (k := 1) aX12_letters_371 rfl)
theorem dX12_letters_373 : decode cX12_letters 373 = .ok (.iconst 0, 1) := dc_3 (dc_nn (k := 2) aX12_letters_371 rfl)
theorem dX12_letters_374 : decode cX12_letters 374 = .ok (.iconst 0, 1) := dc_3 (dc_nn (k := 3) aX12_letters_371 rfl)
theorem dX12_letters_375 : decode cX12_letters 375 = .ok (.invokestatic 172, 3) := dc_184 (a0 := 0) (b0 := 172) (dc_nn (k := 4) aX12_letters_371 rfl)
theorem dX12_letters_378 : decode cX12_letters 378 = .ok (.lreturn, 1) := dc_173 (dc_nn (k := 7) aX12_letters_371 rfl)
set_option maxRecDepth 20000 in
theorem ggX12_knownWord_X12_letters : GoodIn wsX12_knownWord wsX12_letters := goodIn_k _ [[7, 0, 0], [6, 3]] (by rfl) (by decide +kernel)
set_option maxRecDepth 20000 in
theorem gX12_knownWord_X12_letters : GoodIn wsX12_knownWord (va_wsS RX12 176 yX12_letters wsX12_letters) := goodIn_app (goodIn_k _ [[4, 0, 0]] (by rfl) (gw_S _ _ _ _)) ggX12_knownWord_X12_letters
noncomputable def sX12_knownWord_40 : List Nat := 172 :: 132 :: 1 :: 1 :: 167 :: 255 :: 233 :: 2 :: 172 :: []
noncomputable def sX12_knownWord_0 : List Nat := 42 :: 180 :: 0 :: 159 :: 4 :: 160 :: 0 :: 12 :: 42 :: 180 :: 0 :: 169 :: 16 :: 7 :: 164 :: 0 :: 5 :: 2 :: 172 :: 3 :: 60 :: 27 :: 16 :: 19 :: 162 :: 0 :: 23 :: 27 :: 184 :: 0 :: 176 :: 42 :: 180 :: 0 :: 152 :: 148 :: 154 :: 0 :: 5 :: 27 :: sX12_knownWord_40
theorem aX12_knownWord_0 : dc_at cX12_knownWord 0 sX12_knownWord_0 := dc_base (by decide +kernel)
theorem aX12_knownWord_40 : dc_at cX12_knownWord 40 sX12_knownWord_40 := dc_nn (k := 40) aX12_knownWord_0 rfl
theorem dX12_knownWord_0 : decode cX12_knownWord 0 = .ok (.aload_n 0, 1) := dc_42 aX12_knownWord_0
theorem dX12_knownWord_1 : decode cX12_knownWord 1 = .ok (.getfield 159, 3) := dc_180 (a0 := 0) (b0 := 159) (dc_nn (k := 1) aX12_knownWord_0 rfl)
theorem dX12_knownWord_4 : decode cX12_knownWord 4 = .ok (.iconst 1, 1) := dc_4 (dc_nn (k := 4) aX12_knownWord_0 rfl)
theorem dX12_knownWord_5 : decode cX12_knownWord 5 = .ok (.if_icmp .ne 12, 3) := dc_160 (a0 := 0) (b0 := 12) (dc_nn (k := 5) aX12_knownWord_0 rfl) (by decide)
theorem dX12_knownWord_8 : decode cX12_knownWord 8 = .ok (.aload_n 0, 1) := dc_42 (dc_nn (k := 8) aX12_knownWord_0 rfl)
theorem dX12_knownWord_9 : decode cX12_knownWord 9 = .ok (.getfield 169, 3) := dc_180 (a0 := 0) (b0 := 169) (dc_nn (k := 9) aX12_knownWord_0 rfl)
theorem dX12_knownWord_12 : decode cX12_knownWord 12 = .ok (.bipush 7, 2) := dc_16 (a0 := 7) (dc_nn (k := 12) aX12_knownWord_0 rfl) (by decide)
theorem dX12_knownWord_14 : decode cX12_knownWord 14 = .ok (.if_icmp .le 5, 3) := dc_164 (a0 := 0) (b0 := 5) (dc_nn (k := 14) aX12_knownWord_0 rfl) (by decide)
theorem dX12_knownWord_17 : decode cX12_knownWord 17 = .ok (.iconst (-1), 1) := dc_2 (dc_nn (k := 17) aX12_knownWord_0 rfl)
theorem dX12_knownWord_18 : decode cX12_knownWord 18 = .ok (.ireturn, 1) := dc_172 (dc_nn (k := 18) aX12_knownWord_0 rfl)
theorem dX12_knownWord_19 : decode cX12_knownWord 19 = .ok (.iconst 0, 1) := dc_3 (dc_nn (k := 19) aX12_knownWord_0 rfl)
theorem dX12_knownWord_20 : decode cX12_knownWord 20 = .ok (.istore_n 1, 1) := dc_60 (dc_nn (k := 20) aX12_knownWord_0 rfl)
theorem dX12_knownWord_21 : decode cX12_knownWord 21 = .ok (.iload_n 1, 1) := dc_27 (dc_nn (k := 21) aX12_knownWord_0 rfl)
theorem dX12_knownWord_22 : decode cX12_knownWord 22 = .ok (.bipush 19, 2) := dc_16 (a0 := 19) (dc_nn (k := 22) aX12_knownWord_0 rfl) (by decide)
theorem dX12_knownWord_24 : decode cX12_knownWord 24 = .ok (.if_icmp .ge 23, 3) := dc_162 (a0 := 0) (b0 := 23) (dc_nn (k := 24) aX12_knownWord_0 rfl) (by decide)
theorem dX12_knownWord_27 : decode cX12_knownWord 27 = .ok (.iload_n 1, 1) := dc_27 (dc_nn (k := 27) aX12_knownWord_0 rfl)
theorem dX12_knownWord_28 : decode cX12_knownWord 28 = .ok (.invokestatic 176, 3) := dc_184 (a0 := 0) (b0 := 176) (dc_nn (k := 28) aX12_knownWord_0 rfl)
theorem dX12_knownWord_31 : decode cX12_knownWord 31 = .ok (.aload_n 0, 1) := dc_42 (dc_nn (k := 31) aX12_knownWord_0 rfl)
theorem dX12_knownWord_32 : decode cX12_knownWord 32 = .ok (.getfield 152, 3) := dc_180 (a0 := 0) (b0 := 152) (dc_nn (k := 32) aX12_knownWord_0 rfl)
theorem dX12_knownWord_35 : decode cX12_knownWord 35 = .ok (.lcmp, 1) := dc_148 (dc_nn (k := 35) aX12_knownWord_0 rfl)
theorem dX12_knownWord_36 : decode cX12_knownWord 36 = .ok (.ifCond .ne 5, 3) := dc_154 (a0 := 0) (b0 := 5) (dc_nn (k := 36) aX12_knownWord_0 rfl) (by decide)
theorem dX12_knownWord_39 : decode cX12_knownWord 39 = .ok (.iload_n 1, 1) := dc_27 (dc_nn (k := 39) aX12_knownWord_0 rfl)
theorem dX12_knownWord_40 : decode cX12_knownWord 40 = .ok (.ireturn, 1) := dc_172 aX12_knownWord_40
theorem dX12_knownWord_41 : decode cX12_knownWord 41 = .ok (.iinc 1 1, 3) := dc_132 (a0 := 1) (a1 := 1) (dc_nn (k := 1) aX12_knownWord_40 rfl) (by decide)
theorem dX12_knownWord_44 : decode cX12_knownWord 44 = .ok (.goto (-23), 3) := dc_167 (a0 := 255) (b0 := 233) (dc_nn (k := 4) aX12_knownWord_40 rfl) (by decide)
theorem dX12_knownWord_47 : decode cX12_knownWord 47 = .ok (.iconst (-1), 1) := dc_2 (dc_nn (k := 7) aX12_knownWord_40 rfl)
theorem dX12_knownWord_48 : decode cX12_knownWord 48 = .ok (.ireturn, 1) := dc_172 (dc_nn (k := 8) aX12_knownWord_40 rfl)
noncomputable def sX12_wrong_0 : List Nat := 42 :: 180 :: 0 :: 180 :: 153 :: 0 :: 4 :: 177 :: 42 :: 27 :: 181 :: 0 :: 180 :: 42 :: 42 :: 180 :: 0 :: 149 :: 181 :: 0 :: 37 :: 177 :: []
theorem aX12_wrong_0 : dc_at cX12_wrong 0 sX12_wrong_0 := dc_base (by decide +kernel)
theorem dX12_wrong_0 : decode cX12_wrong 0 = .ok (.aload_n 0, 1) := dc_42 aX12_wrong_0
theorem dX12_wrong_1 : decode cX12_wrong 1 = .ok (.getfield 180, 3) := dc_180 (a0 := 0) (b0 := 180) (dc_nn (k := 1) aX12_wrong_0 rfl)
theorem dX12_wrong_4 : decode cX12_wrong 4 = .ok (.ifCond .eq 4, 3) := dc_153 (a0 := 0) (b0 := 4) (dc_nn (k := 4) aX12_wrong_0 rfl) (by decide)
theorem dX12_wrong_7 : decode cX12_wrong 7 = .ok (.return_, 1) := dc_177 (dc_nn (k := 7) aX12_wrong_0 rfl)
theorem dX12_wrong_8 : decode cX12_wrong 8 = .ok (.aload_n 0, 1) := dc_42 (dc_nn (k := 8) aX12_wrong_0 rfl)
theorem dX12_wrong_9 : decode cX12_wrong 9 = .ok (.iload_n 1, 1) := dc_27 (dc_nn (k := 9) aX12_wrong_0 rfl)
theorem dX12_wrong_10 : decode cX12_wrong 10 = .ok (.putfield 180, 3) := dc_181 (a0 := 0) (b0 := 180) (dc_nn (k := 10) aX12_wrong_0 rfl)
theorem dX12_wrong_13 : decode cX12_wrong 13 = .ok (.aload_n 0, 1) := dc_42 (dc_nn (k := 13) aX12_wrong_0 rfl)
theorem dX12_wrong_14 : decode cX12_wrong 14 = .ok (.aload_n 0, 1) := dc_42 (dc_nn (k := 14) aX12_wrong_0 rfl)
theorem dX12_wrong_15 : decode cX12_wrong 15 = .ok (.getfield 149, 3) := dc_180 (a0 := 0) (b0 := 149) (dc_nn (k := 15) aX12_wrong_0 rfl)
theorem dX12_wrong_18 : decode cX12_wrong 18 = .ok (.putfield 37, 3) := dc_181 (a0 := 0) (b0 := 37) (dc_nn (k := 18) aX12_wrong_0 rfl)
theorem dX12_wrong_21 : decode cX12_wrong 21 = .ok (.return_, 1) := dc_177 (dc_nn (k := 21) aX12_wrong_0 rfl)
noncomputable def sX12_isGood_0 : List Nat := 42 :: 180 :: 0 :: 180 :: 154 :: 0 :: 7 :: 4 :: 167 :: 0 :: 4 :: 3 :: 172 :: []
theorem aX12_isGood_0 : dc_at cX12_isGood 0 sX12_isGood_0 := dc_base (by decide +kernel)
theorem dX12_isGood_0 : decode cX12_isGood 0 = .ok (.aload_n 0, 1) := dc_42 aX12_isGood_0
theorem dX12_isGood_1 : decode cX12_isGood 1 = .ok (.getfield 180, 3) := dc_180 (a0 := 0) (b0 := 180) (dc_nn (k := 1) aX12_isGood_0 rfl)
theorem dX12_isGood_4 : decode cX12_isGood 4 = .ok (.ifCond .ne 7, 3) := dc_154 (a0 := 0) (b0 := 7) (dc_nn (k := 4) aX12_isGood_0 rfl) (by decide)
theorem dX12_isGood_7 : decode cX12_isGood 7 = .ok (.iconst 1, 1) := dc_4 (dc_nn (k := 7) aX12_isGood_0 rfl)
theorem dX12_isGood_8 : decode cX12_isGood 8 = .ok (.goto 4, 3) := dc_167 (a0 := 0) (b0 := 4) (dc_nn (k := 8) aX12_isGood_0 rfl) (by decide)
theorem dX12_isGood_11 : decode cX12_isGood 11 = .ok (.iconst 0, 1) := dc_3 (dc_nn (k := 11) aX12_isGood_0 rfl)
theorem dX12_isGood_12 : decode cX12_isGood 12 = .ok (.ireturn, 1) := dc_172 (dc_nn (k := 12) aX12_isGood_0 rfl)
set_option maxRecDepth 20000 in
theorem ggX12_need_X12_isGood : GoodIn wsX12_need wsX12_isGood := goodIn_k _ [[5, 0, 27, 0, 0, 0, 0, 0, 0, 0, 0, 0, 0, 0, 0, 0, 0, 0, 0, 0, 0, 0, 0, 0, 0, 0, 0, 0, 0, 0, 0, 0, 0, 0, 0, 0, 0, 0, 0, 0, 0, 0, 0, 0, 0, 0, 0, 0, 0, 0, 0, 0, 0, 0, 0, 0, 0, 0, 0, 0]] (by rfl) (by decide +kernel)
set_option maxRecDepth 20000 in
theorem gX12_need_X12_isGood : GoodIn wsX12_need (wsV RX12 183 RX12 yX12_isGood wsX12_isGood) := goodIn_app (goodIn_k _ [[1, 0, 0, 0]] (by rfl) (gw_V _ _ _ _)) ggX12_need_X12_isGood
set_option maxRecDepth 20000 in
theorem ggX12_need_X12_steps : GoodIn wsX12_need wsX12_steps := goodIn_k _ [[10, 0, 0, 0, 0, 0, 0, 0, 0, 0, 0], [4, 16, 0, 0, 0, 0, 0, 0, 0, 5, 0, 0, 0, 0, 0, 0, 0, 0, 0, 0, 0, 0, 0, 0, 0, 0, 0, 0, 0, 0, 0, 0, 0, 0, 0, 0, 0, 0, 0, 0, 0, 0, 0, 0, 0, 0, 0, 0, 0, 0, 0, 0, 0, 0, 0, 0, 0, 0, 0, 0, 0, 0, 0, 0, 0, 0, 0]] (by rfl) (by decide +kernel)
set_option maxRecDepth 20000 in
theorem gX12_need_X12_steps : GoodIn wsX12_need (wsV RX12 187 RX12 yX12_steps wsX12_steps) := goodIn_app (goodIn_k _ [[7, 0, 0], [4]] (by rfl) (gw_V _ _ _ _)) ggX12_need_X12_steps
set_option maxRecDepth 20000 in
theorem ggX12_need_X12_wrong : GoodIn wsX12_need wsX12_wrong := goodIn_k _ [[32], [6, 6, 19, 0, 0, 0, 0, 0, 0, 0, 0, 0, 0, 0, 0, 0, 0, 0, 0, 0, 0, 0, 0, 0, 0, 0, 0, 0, 0, 0, 0, 0, 0, 0, 0, 0, 0, 0, 0, 0, 0, 0, 0, 0, 0, 0, 0, 0, 0, 0, 0, 0, 0, 0, 0, 0, 0, 0, 0, 0, 0]] (by rfl) (by decide +kernel)
set_option maxRecDepth 20000 in
theorem gX12_need_X12_wrong : GoodIn wsX12_need (wsV RX12 190 RX12 yX12_wrong wsX12_wrong) := goodIn_app (goodIn_k _ [[29, 0, 0], [4]] (by rfl) (gw_V _ _ _ _)) ggX12_need_X12_wrong
noncomputable def sX12_need_0 : List Nat := 42 :: 182 :: 0 :: 183 :: 154 :: 0 :: 4 :: 177 :: 27 :: 153 :: 0 :: 10 :: 42 :: 182 :: 0 :: 187 :: 167 :: 0 :: 8 :: 42 :: 4 :: 182 :: 0 :: 190 :: 177 :: []
theorem aX12_need_0 : dc_at cX12_need 0 sX12_need_0 := dc_base (by decide +kernel)
theorem dX12_need_0 : decode cX12_need 0 = .ok (.aload_n 0, 1) := dc_42 aX12_need_0
theorem dX12_need_1 : decode cX12_need 1 = .ok (.invokevirtual 183, 3) := dc_182 (a0 := 0) (b0 := 183) (dc_nn (k := 1) aX12_need_0 rfl)
theorem dX12_need_4 : decode cX12_need 4 = .ok (.ifCond .ne 4, 3) := dc_154 (a0 := 0) (b0 := 4) (dc_nn (k := 4) aX12_need_0 rfl) (by decide)
theorem dX12_need_7 : decode cX12_need 7 = .ok (.return_, 1) := dc_177 (dc_nn (k := 7) aX12_need_0 rfl)
theorem dX12_need_8 : decode cX12_need 8 = .ok (.iload_n 1, 1) := dc_27 (dc_nn (k := 8) aX12_need_0 rfl)
theorem dX12_need_9 : decode cX12_need 9 = .ok (.ifCond .eq 10, 3) := dc_153 (a0 := 0) (b0 := 10) (dc_nn (k := 9) aX12_need_0 rfl) (by decide)
theorem dX12_need_12 : decode cX12_need 12 = .ok (.aload_n 0, 1) := dc_42 (dc_nn (k := 12) aX12_need_0 rfl)
theorem dX12_need_13 : decode cX12_need 13 = .ok (.invokevirtual 187, 3) := dc_182 (a0 := 0) (b0 := 187) (dc_nn (k := 13) aX12_need_0 rfl)
theorem dX12_need_16 : decode cX12_need 16 = .ok (.goto 8, 3) := dc_167 (a0 := 0) (b0 := 8) (dc_nn (k := 16) aX12_need_0 rfl) (by decide)
theorem dX12_need_19 : decode cX12_need 19 = .ok (.aload_n 0, 1) := dc_42 (dc_nn (k := 19) aX12_need_0 rfl)
theorem dX12_need_20 : decode cX12_need 20 = .ok (.iconst 1, 1) := dc_4 (dc_nn (k := 20) aX12_need_0 rfl)
theorem dX12_need_21 : decode cX12_need 21 = .ok (.invokevirtual 190, 3) := dc_182 (a0 := 0) (b0 := 190) (dc_nn (k := 21) aX12_need_0 rfl)
theorem dX12_need_24 : decode cX12_need 24 = .ok (.return_, 1) := dc_177 (dc_nn (k := 24) aX12_need_0 rfl)
set_option maxRecDepth 20000 in
theorem ggX12_number_X12_isGood : GoodIn wsX12_number wsX12_isGood := goodIn_k _ [[8, 0, 24, 0, 0, 0, 0, 0, 0, 0, 0, 0, 0, 0, 0, 0, 0, 0, 0, 0, 0, 0, 0, 0, 0, 0, 0, 0, 0, 0, 0, 0, 0, 0, 0, 0, 0, 0, 0, 0, 0, 0, 0, 0, 0, 0, 0, 0, 0, 0, 0, 0, 0, 0, 0, 0, 0, 0, 0, 0]] (by rfl) (by decide +kernel)
set_option maxRecDepth 20000 in
theorem gX12_number_X12_isGood : GoodIn wsX12_number (wsV RX12 183 RX12 yX12_isGood wsX12_isGood) := goodIn_app (goodIn_k _ [[4, 0, 0, 0]] (by rfl) (gw_V _ _ _ _)) ggX12_number_X12_isGood
set_option maxRecDepth 20000 in
theorem ggX12_number_X12_wrong : GoodIn wsX12_number wsX12_wrong := goodIn_k _ [[13], [9, 4, 0, 18, 0, 0, 0, 0, 0, 0, 0, 0, 0, 0, 0, 0, 0, 0, 0, 0, 0, 0, 0, 0, 0, 0, 0, 0, 0, 0, 0, 0, 0, 0, 0, 0, 0, 0, 0, 0, 0, 0, 0, 0, 0, 0, 0, 0, 0, 0, 0, 0, 0, 0, 0, 0, 0, 0, 0, 0, 0]] (by rfl) (by decide +kernel)
set_option maxRecDepth 20000 in
theorem gX12_number_X12_wrong : GoodIn wsX12_number (wsV RX12 190 RX12 yX12_wrong wsX12_wrong) := goodIn_app (goodIn_k _ [[10, 0, 0], [7]] (by rfl) (gw_V _ _ _ _)) ggX12_number_X12_wrong
set_option maxRecDepth 20000 in
theorem ggX12_number_X12_steps : GoodIn wsX12_number wsX12_steps := goodIn_k _ [[19, 0, 0], [14, 7], [3], [1, 0, 20, 0, 0], [7, 18, 0, 0, 0, 0, 0, 0, 0, 0, 0, 0, 0, 0, 0, 0, 0, 0, 0, 0, 0, 0, 0, 0, 0, 0, 0, 0, 0, 0, 0, 0, 0, 0, 0, 0, 0, 0, 0, 0, 0, 0, 0, 0, 0, 0, 0, 0, 0, 0, 0, 0, 0, 0, 0, 0, 0, 0, 0, 0, 0, 0, 0, 0, 0, 0, 0]] (by rfl) (by decide +kernel)
set_option maxRecDepth 20000 in
theorem gX12_number_X12_steps : GoodIn wsX12_number (wsV RX12 187 RX12 yX12_steps wsX12_steps) := goodIn_app (goodIn_k _ [[16, 0, 0], [7]] (by rfl) (gw_V _ _ _ _)) ggX12_number_X12_steps
noncomputable def sX12_number_42 : List Nat := 42 :: 180 :: 0 :: 156 :: 28 :: 164 :: 0 :: 8 :: 42 :: 5 :: 182 :: 0 :: 190 :: 42 :: 180 :: 0 :: 156 :: 62 :: 42 :: 182 :: 0 :: 183 :: 153 :: 0 :: 7 :: 42 :: 182 :: 0 :: 187 :: 29 :: 172 :: []
noncomputable def sX12_number_0 : List Nat := 42 :: 182 :: 0 :: 183 :: 154 :: 0 :: 5 :: 3 :: 172 :: 42 :: 180 :: 0 :: 159 :: 5 :: 159 :: 0 :: 11 :: 42 :: 4 :: 182 :: 0 :: 190 :: 167 :: 0 :: 33 :: 42 :: 180 :: 0 :: 169 :: 16 :: 7 :: 163 :: 0 :: 19 :: 42 :: 180 :: 0 :: 156 :: 27 :: 161 :: 0 :: 11 :: sX12_number_42
theorem aX12_number_0 : dc_at cX12_number 0 sX12_number_0 := dc_base (by decide +kernel)
theorem aX12_number_42 : dc_at cX12_number 42 sX12_number_42 := dc_nn (k := 42) aX12_number_0 rfl
theorem dX12_number_0 : decode cX12_number 0 = .ok (.aload_n 0, 1) := dc_42 aX12_number_0
theorem dX12_number_1 : decode cX12_number 1 = .ok (.invokevirtual 183, 3) := dc_182 (a0 := 0) (b0 := 183) (dc_nn (k := 1) aX12_number_0 rfl)
theorem dX12_number_4 : decode cX12_number 4 = .ok (.ifCond .ne 5, 3) := dc_154 (a0 := 0) (b0 := 5) (dc_nn (k := 4) aX12_number_0 rfl) (by decide)
theorem dX12_number_7 : decode cX12_number 7 = .ok (.iconst 0, 1) := dc_3 (dc_nn (k := 7) aX12_number_0 rfl)
theorem dX12_number_8 : decode cX12_number 8 = .ok (.ireturn, 1) := dc_172 (dc_nn (k := 8) aX12_number_0 rfl)
theorem dX12_number_9 : decode cX12_number 9 = .ok (.aload_n 0, 1) := dc_42 (dc_nn (k := 9) aX12_number_0 rfl)
theorem dX12_number_10 : decode cX12_number 10 = .ok (.getfield 159, 3) := dc_180 (a0 := 0) (b0 := 159) (dc_nn (k := 10) aX12_number_0 rfl)
theorem dX12_number_13 : decode cX12_number 13 = .ok (.iconst 2, 1) := dc_5 (dc_nn (k := 13) aX12_number_0 rfl)
theorem dX12_number_14 : decode cX12_number 14 = .ok (.if_icmp .eq 11, 3) := dc_159 (a0 := 0) (b0 := 11) (dc_nn (k := 14) aX12_number_0 rfl) (by decide)
theorem dX12_number_17 : decode cX12_number 17 = .ok (.aload_n 0, 1) := dc_42 (dc_nn (k := 17) aX12_number_0 rfl)
theorem dX12_number_18 : decode cX12_number 18 = .ok (.iconst 1, 1) := dc_4 (dc_nn (k := 18) aX12_number_0 rfl)
theorem dX12_number_19 : decode cX12_number 19 = .ok (.invokevirtual 190, 3) := dc_182 (a0 := 0) (b0 := 190) (dc_nn (k := 19) aX12_number_0 rfl)
theorem dX12_number_22 : decode cX12_number 22 = .ok (.goto 33, 3) := dc_167 (a0 := 0) (b0 := 33) (dc_nn (k := 22) aX12_number_0 rfl) (by decide)
theorem dX12_number_25 : decode cX12_number 25 = .ok (.aload_n 0, 1) := dc_42 (dc_nn (k := 25) aX12_number_0 rfl)
theorem dX12_number_26 : decode cX12_number 26 = .ok (.getfield 169, 3) := dc_180 (a0 := 0) (b0 := 169) (dc_nn (k := 26) aX12_number_0 rfl)
theorem dX12_number_29 : decode cX12_number 29 = .ok (.bipush 7, 2) := dc_16 (a0 := 7) (dc_nn (k := 29) aX12_number_0 rfl) (by decide)
theorem dX12_number_31 : decode cX12_number 31 = .ok (.if_icmp .gt 19, 3) := dc_163 (a0 := 0) (b0 := 19) (dc_nn (k := 31) aX12_number_0 rfl) (by decide)
theorem dX12_number_34 : decode cX12_number 34 = .ok (.aload_n 0, 1) := dc_42 (dc_nn (k := 34) aX12_number_0 rfl)
theorem dX12_number_35 : decode cX12_number 35 = .ok (.getfield 156, 3) := dc_180 (a0 := 0) (b0 := 156) (dc_nn (k := 35) aX12_number_0 rfl)
theorem dX12_number_38 : decode cX12_number 38 = .ok (.iload_n 1, 1) := dc_27 (dc_nn (k := 38) aX12_number_0 rfl)
theorem dX12_number_39 : decode cX12_number 39 = .ok (.if_icmp .lt 11, 3) := dc_161 (a0 := 0) (b0 := 11) (dc_nn (k := 39) aX12_number_0 rfl) (by decide)
theorem dX12_number_42 : decode cX12_number 42 = .ok (.aload_n 0, 1) := dc_42 aX12_number_42
theorem dX12_number_43 : decode cX12_number 43 = .ok (.getfield 156, 3) := dc_180 (a0 := 0) (b0 := 156) (dc_nn (k := 1) aX12_number_42 rfl)
theorem dX12_number_46 : decode cX12_number 46 = .ok (.iload_n 2, 1) := dc_28 (dc_nn (k := 4) aX12_number_42 rfl)
theorem dX12_number_47 : decode cX12_number 47 = .ok (.if_icmp .le 8, 3) := dc_164 (a0 := 0) (b0 := 8) (dc_nn (k := 5) aX12_number_42 rfl) (by decide)
theorem dX12_number_50 : decode cX12_number 50 = .ok (.aload_n 0, 1) := dc_42 (dc_nn (k := 8) aX12_number_42 rfl)
theorem dX12_number_51 : decode cX12_number 51 = .ok (.iconst 2, 1) := dc_5 (dc_nn (k := 9) aX12_number_42 rfl)
theorem dX12_number_52 : decode cX12_number 52 = .ok (.invokevirtual 190, 3) := dc_182 (a0 := 0) (b0 := 190) (dc_nn (k := 10) aX12_number_42 rfl)
theorem dX12_number_55 : decode cX12_number 55 = .ok (.aload_n 0, 1) := dc_42 (dc_nn (k := 13) aX12_number_42 rfl)
theorem dX12_number_56 : decode cX12_number 56 = .ok (.getfield 156, 3) := dc_180 (a0 := 0) (b0 := 156) (dc_nn (k := 14) aX12_number_42 rfl)
theorem dX12_number_59 : decode cX12_number 59 = .ok (.istore_n 3, 1) := dc_62 (dc_nn (k := 17) aX12_number_42 rfl)
theorem dX12_number_60 : decode cX12_number 60 = .ok (.aload_n 0, 1) := dc_42 (dc_nn (k := 18) aX12_number_42 rfl)
theorem dX12_number_61 : decode cX12_number 61 = .ok (.invokevirtual 183, 3) := dc_182 (a0 := 0) (b0 := 183) (dc_nn (k := 19) aX12_number_42 rfl)
theorem dX12_number_64 : decode cX12_number 64 = .ok (.ifCond .eq 7, 3) := dc_153 (a0 := 0) (b0 := 7) (dc_nn (k := 22) aX12_number_42 rfl) (by decide)
theorem dX12_number_67 : decode cX12_number 67 = .ok (.aload_n 0, 1) := dc_42 (dc_nn (k := 25) aX12_number_42 rfl)
theorem dX12_number_68 : decode cX12_number 68 = .ok (.invokevirtual 187, 3) := dc_182 (a0 := 0) (b0 := 187) (dc_nn (k := 26) aX12_number_42 rfl)
theorem dX12_number_71 : decode cX12_number 71 = .ok (.iload_n 3, 1) := dc_29 (dc_nn (k := 29) aX12_number_42 rfl)
theorem dX12_number_72 : decode cX12_number 72 = .ok (.ireturn, 1) := dc_172 (dc_nn (k := 30) aX12_number_42 rfl)
set_option maxRecDepth 20000 in
theorem ggX12_named_X12_knownWord : GoodIn wsX12_named wsX12_knownWord := goodIn_k _ [[5, 0, 0, 0, 0, 0], [4, 6, 0, 0, 0, 37, 0, 0, 0, 0, 0, 0, 0, 0, 0, 0, 0, 0, 0, 0, 0, 0, 0, 0, 0, 0, 0, 0, 0, 0, 0, 0, 0, 0, 0, 0, 0, 0, 0, 0, 0, 0, 0, 0, 0, 0, 0, 0, 0, 0, 0, 0, 0, 0, 0, 0, 0, 0, 0, 0, 0, 0, 0]] (by rfl) (by decide +kernel)
set_option maxRecDepth 20000 in
theorem gX12_named_X12_knownWord : GoodIn wsX12_named (wsV RX12 193 RX12 yX12_knownWord wsX12_knownWord) := goodIn_app (goodIn_k _ [[1, 0, 0, 0]] (by rfl) (gw_V _ _ _ _)) ggX12_named_X12_knownWord
set_option maxRecDepth 20000 in
theorem ggX12_named_X12_need : GoodIn wsX12_named wsX12_need := goodIn_k _ [[18, 0, 0, 0], [4, 17, 0, 0, 0, 0, 0, 0, 0, 0], [8, 22], [6, 0, 24, 0, 0, 0, 0, 0, 0, 0, 0, 0, 0, 0, 0, 0, 0, 0, 4, 0, 0, 0, 0, 0, 0, 0, 0, 0, 0, 0, 0, 0, 0, 0, 0, 0, 0, 0, 0, 0, 0, 0, 0, 0, 0, 0, 0, 0, 0, 0, 0, 0, 0, 0, 0, 0, 0, 0, 0, 0, 0, 0, 0, 0, 0, 0, 0, 0, 0, 0, 0, 0, 0, 0, 0, 0]] (by rfl) (by decide +kernel)
set_option maxRecDepth 20000 in
theorem gX12_named_X12_need : GoodIn wsX12_named (wsV RX12 197 RX12 yX12_need wsX12_need) := goodIn_app (goodIn_k _ [[15, 0, 0], [4]] (by rfl) (gw_V _ _ _ _)) ggX12_named_X12_need
set_option maxRecDepth 20000 in
theorem ggX12_named_X12_number : GoodIn wsX12_named wsX12_number := goodIn_k _ [[51], [6, 0, 23], [19, 0, 0], [4, 17, 0, 19, 0, 0, 0], [30, 16], [24, 0, 0, 0, 0, 0], [8, 23, 0, 0, 0, 0, 0, 0, 0, 0, 0, 0, 9, 0, 0, 0, 0, 0, 0, 0, 0, 0, 0, 0, 0, 0, 0, 0, 0, 0, 0, 0, 0, 0, 0, 0, 0, 0, 0, 0, 0, 0, 0, 0, 0, 0, 0, 0, 0, 0, 0, 0, 0, 0, 0, 0, 0, 0, 0, 0, 0, 0, 0, 0, 0, 0, 0, 0, 0, 0]] (by rfl) (by decide +kernel)
set_option maxRecDepth 20000 in
theorem gX12_named_X12_number : GoodIn wsX12_named (wsV RX12 201 RX12 yX12_number wsX12_number) := goodIn_app (goodIn_k _ [[48, 0, 0], [4]] (by rfl) (gw_V _ _ _ _)) ggX12_named_X12_number
noncomputable def sX12_named_0 : List Nat := 42 :: 42 :: 182 :: 0 :: 193 :: 27 :: 160 :: 0 :: 7 :: 4 :: 167 :: 0 :: 4 :: 3 :: 182 :: 0 :: 197 :: 42 :: 28 :: 29 :: 182 :: 0 :: 201 :: 172 :: []
theorem aX12_named_0 : dc_at cX12_named 0 sX12_named_0 := dc_base (by decide +kernel)
theorem dX12_named_0 : decode cX12_named 0 = .ok (.aload_n 0, 1) := dc_42 aX12_named_0
theorem dX12_named_1 : decode cX12_named 1 = .ok (.aload_n 0, 1) := dc_42 (dc_nn (k := 1) aX12_named_0 rfl)
theorem dX12_named_2 : decode cX12_named 2 = .ok (.invokevirtual 193, 3) := dc_182 (a0 := 0) (b0 := 193) (dc_nn (k := 2) aX12_named_0 rfl)
theorem dX12_named_5 : decode cX12_named 5 = .ok (.iload_n 1, 1) := dc_27 (dc_nn (k := 5) aX12_named_0 rfl)
theorem dX12_named_6 : decode cX12_named 6 = .ok (.if_icmp .ne 7, 3) := dc_160 (a0 := 0) (b0 := 7) (dc_nn (k := 6) aX12_named_0 rfl) (by decide)
theorem dX12_named_9 : decode cX12_named 9 = .ok (.iconst 1, 1) := dc_4 (dc_nn (k := 9) aX12_named_0 rfl)
theorem dX12_named_10 : decode cX12_named 10 = .ok (.goto 4, 3) := dc_167 (a0 := 0) (b0 := 4) (dc_nn (k := 10) aX12_named_0 rfl) (by decide)
theorem dX12_named_13 : decode cX12_named 13 = .ok (.iconst 0, 1) := dc_3 (dc_nn (k := 13) aX12_named_0 rfl)
theorem dX12_named_14 : decode cX12_named 14 = .ok (.invokevirtual 197, 3) := dc_182 (a0 := 0) (b0 := 197) (dc_nn (k := 14) aX12_named_0 rfl)
theorem dX12_named_17 : decode cX12_named 17 = .ok (.aload_n 0, 1) := dc_42 (dc_nn (k := 17) aX12_named_0 rfl)
theorem dX12_named_18 : decode cX12_named 18 = .ok (.iload_n 2, 1) := dc_28 (dc_nn (k := 18) aX12_named_0 rfl)
theorem dX12_named_19 : decode cX12_named 19 = .ok (.iload_n 3, 1) := dc_29 (dc_nn (k := 19) aX12_named_0 rfl)
theorem dX12_named_20 : decode cX12_named 20 = .ok (.invokevirtual 201, 3) := dc_182 (a0 := 0) (b0 := 201) (dc_nn (k := 20) aX12_named_0 rfl)
theorem dX12_named_23 : decode cX12_named 23 = .ok (.ireturn, 1) := dc_172 (dc_nn (k := 23) aX12_named_0 rfl)
set_option maxRecDepth 20000 in
theorem ggX12_begins_X12_right : GoodIn wsX12_begins wsX12_right := goodIn_k _ [[12], [2, 30, 0, 0, 0, 0, 0, 0, 0, 0, 0, 0, 0, 0, 0, 0, 0, 0, 0, 0, 0, 0, 0, 0, 0, 0, 0, 0, 0, 0, 0, 0, 0, 0, 0, 0, 0, 0, 0, 0, 0, 0, 0, 0, 0, 0, 0, 0, 0, 0, 0, 0, 0, 0, 0, 0, 0, 0, 0]] (by rfl) (by decide +kernel)
set_option maxRecDepth 20000 in
theorem gX12_begins_X12_right : GoodIn wsX12_begins (wsV RX12 209 RX12 yX12_right wsX12_right) := goodIn_app (goodIn_k _ [[8, 0, 0, 0]] (by rfl) (gw_V _ _ _ _)) ggX12_begins_X12_right
set_option maxRecDepth 20000 in
theorem ggX12_begins_X12_steps : GoodIn wsX12_begins wsX12_steps := goodIn_k _ [[16], [7], [6, 10, 0, 0, 0, 0, 0, 0, 0], [11, 13, 0, 0, 0, 0, 0, 0, 0, 0, 0, 0, 0, 0, 0, 0, 0, 0, 0, 0, 0, 0, 0, 0, 0, 0, 0, 0, 0, 0, 0, 0, 0, 0, 0, 0, 0, 0, 0, 0, 0, 0, 0, 0, 0, 0, 0, 0, 0, 0, 0, 0, 0, 0, 0, 0, 0, 0, 0, 0, 0, 0, 0, 0, 0, 0, 0]] (by rfl) (by decide +kernel)
set_option maxRecDepth 20000 in
theorem gX12_begins_X12_steps : GoodIn wsX12_begins (wsV RX12 187 RX12 yX12_steps wsX12_steps) := goodIn_app (goodIn_k _ [[13, 0, 0], [11]] (by rfl) (gw_V _ _ _ _)) ggX12_begins_X12_steps
noncomputable def sX12_begins_40 : List Nat := 154 :: 0 :: 5 :: 3 :: 172 :: 42 :: 3 :: 181 :: 0 :: 132 :: 42 :: 2 :: 181 :: 0 :: 37 :: 42 :: 3 :: 181 :: 0 :: 180 :: 42 :: 27 :: 181 :: 0 :: 139 :: 42 :: 3 :: 181 :: 0 :: 142 :: 42 :: 182 :: 0 :: 187 :: 4 :: 172 :: []
noncomputable def sX12_begins_0 : List Nat := 42 :: 27 :: 155 :: 0 :: 15 :: 27 :: 42 :: 180 :: 0 :: 132 :: 163 :: 0 :: 7 :: 4 :: 167 :: 0 :: 4 :: 3 :: 42 :: 180 :: 0 :: 129 :: 154 :: 0 :: 14 :: 42 :: 180 :: 0 :: 205 :: 153 :: 0 :: 7 :: 5 :: 167 :: 0 :: 4 :: 4 :: 182 :: 0 :: 209 :: sX12_begins_40
theorem aX12_begins_0 : dc_at cX12_begins 0 sX12_begins_0 := dc_base (by decide +kernel)
theorem aX12_begins_40 : dc_at cX12_begins 40 sX12_begins_40 := dc_nn (k := 40) aX12_begins_0 rfl
theorem dX12_begins_0 : decode cX12_begins 0 = .ok (.aload_n 0, 1) := dc_42 aX12_begins_0
theorem dX12_begins_1 : decode cX12_begins 1 = .ok (.iload_n 1, 1) := dc_27 (dc_nn (k := 1) aX12_begins_0 rfl)
theorem dX12_begins_2 : decode cX12_begins 2 = .ok (.ifCond .lt 15, 3) := dc_155 (a0 := 0) (b0 := 15) (dc_nn (k := 2) aX12_begins_0 rfl) (by decide)
theorem dX12_begins_5 : decode cX12_begins 5 = .ok (.iload_n 1, 1) := dc_27 (dc_nn (k := 5) aX12_begins_0 rfl)
theorem dX12_begins_6 : decode cX12_begins 6 = .ok (.aload_n 0, 1) := dc_42 (dc_nn (k := 6) aX12_begins_0 rfl)
theorem dX12_begins_7 : decode cX12_begins 7 = .ok (.getfield 132, 3) := dc_180 (a0 := 0) (b0 := 132) (dc_nn (k := 7) aX12_begins_0 rfl)
theorem dX12_begins_10 : decode cX12_begins 10 = .ok (.if_icmp .gt 7, 3) := dc_163 (a0 := 0) (b0 := 7) (dc_nn (k := 10) aX12_begins_0 rfl) (by decide)
theorem dX12_begins_13 : decode cX12_begins 13 = .ok (.iconst 1, 1) := dc_4 (dc_nn (k := 13) aX12_begins_0 rfl)
theorem dX12_begins_14 : decode cX12_begins 14 = .ok (.goto 4, 3) := dc_167 (a0 := 0) (b0 := 4) (dc_nn (k := 14) aX12_begins_0 rfl) (by decide)
theorem dX12_begins_17 : decode cX12_begins 17 = .ok (.iconst 0, 1) := dc_3 (dc_nn (k := 17) aX12_begins_0 rfl)
theorem dX12_begins_18 : decode cX12_begins 18 = .ok (.aload_n 0, 1) := dc_42 (dc_nn (k := 18) aX12_begins_0 rfl)
theorem dX12_begins_19 : decode cX12_begins 19 = .ok (.getfield 129, 3) := dc_180 (a0 := 0) (b0 := 129) (dc_nn (k := 19) aX12_begins_0 rfl)
theorem dX12_begins_22 : decode cX12_begins 22 = .ok (.ifCond .ne 14, 3) := dc_154 (a0 := 0) (b0 := 14) (dc_nn (k := 22) aX12_begins_0 rfl) (by decide)
theorem dX12_begins_25 : decode cX12_begins 25 = .ok (.aload_n 0, 1) := dc_42 (dc_nn (k := 25) aX12_begins_0 rfl)
theorem dX12_begins_26 : decode cX12_begins 26 = .ok (.getfield 205, 3) := dc_180 (a0 := 0) (b0 := 205) (dc_nn (k := 26) aX12_begins_0 rfl)
theorem dX12_begins_29 : decode cX12_begins 29 = .ok (.ifCond .eq 7, 3) := dc_153 (a0 := 0) (b0 := 7) (dc_nn (k := 29) aX12_begins_0 rfl) (by decide)
theorem dX12_begins_32 : decode cX12_begins 32 = .ok (.iconst 2, 1) := dc_5 (dc_nn (k := 32) aX12_begins_0 rfl)
theorem dX12_begins_33 : decode cX12_begins 33 = .ok (.goto 4, 3) := dc_167 (a0 := 0) (b0 := 4) (dc_nn (k := 33) aX12_begins_0 rfl) (by decide)
theorem dX12_begins_36 : decode cX12_begins 36 = .ok (.iconst 1, 1) := dc_4 (dc_nn (k := 36) aX12_begins_0 rfl)
theorem dX12_begins_37 : decode cX12_begins 37 = .ok (.invokevirtual 209, 3) := dc_182 (a0 := 0) (b0 := 209) (dc_nn (k := 37) aX12_begins_0 rfl)
theorem dX12_begins_40 : decode cX12_begins 40 = .ok (.ifCond .ne 5, 3) := dc_154 (a0 := 0) (b0 := 5) aX12_begins_40 (by decide)
theorem dX12_begins_43 : decode cX12_begins 43 = .ok (.iconst 0, 1) := dc_3 (dc_nn (k := 3) aX12_begins_40 rfl)
theorem dX12_begins_44 : decode cX12_begins 44 = .ok (.ireturn, 1) := dc_172 (dc_nn (k := 4) aX12_begins_40 rfl)
theorem dX12_begins_45 : decode cX12_begins 45 = .ok (.aload_n 0, 1) := dc_42 (dc_nn (k := 5) aX12_begins_40 rfl)
theorem dX12_begins_46 : decode cX12_begins 46 = .ok (.iconst 0, 1) := dc_3 (dc_nn (k := 6) aX12_begins_40 rfl)
theorem dX12_begins_47 : decode cX12_begins 47 = .ok (.putfield 132, 3) := dc_181 (a0 := 0) (b0 := 132) (dc_nn (k := 7) aX12_begins_40 rfl)
theorem dX12_begins_50 : decode cX12_begins 50 = .ok (.aload_n 0, 1) := dc_42 (dc_nn (k := 10) aX12_begins_40 rfl)
theorem dX12_begins_51 : decode cX12_begins 51 = .ok (.iconst (-1), 1) := dc_2 (dc_nn (k := 11) aX12_begins_40 rfl)
theorem dX12_begins_52 : decode cX12_begins 52 = .ok (.putfield 37, 3) := dc_181 (a0 := 0) (b0 := 37) (dc_nn (k := 12) aX12_begins_40 rfl)
theorem dX12_begins_55 : decode cX12_begins 55 = .ok (.aload_n 0, 1) := dc_42 (dc_nn (k := 15) aX12_begins_40 rfl)
theorem dX12_begins_56 : decode cX12_begins 56 = .ok (.iconst 0, 1) := dc_3 (dc_nn (k := 16) aX12_begins_40 rfl)
theorem dX12_begins_57 : decode cX12_begins 57 = .ok (.putfield 180, 3) := dc_181 (a0 := 0) (b0 := 180) (dc_nn (k := 17) aX12_begins_40 rfl)
theorem dX12_begins_60 : decode cX12_begins 60 = .ok (.aload_n 0, 1) := dc_42 (dc_nn (k := 20) aX12_begins_40 rfl)
theorem dX12_begins_61 : decode cX12_begins 61 = .ok (.iload_n 1, 1) := dc_27 (dc_nn (k := 21) aX12_begins_40 rfl)
theorem dX12_begins_62 : decode cX12_begins 62 = .ok (.putfield 139, 3) := dc_181 (a0 := 0) (b0 := 139) (dc_nn (k := 22) aX12_begins_40 rfl)
theorem dX12_begins_65 : decode cX12_begins 65 = .ok (.aload_n 0, 1) := dc_42 (dc_nn (k := 25) aX12_begins_40 rfl)
theorem dX12_begins_66 : decode cX12_begins 66 = .ok (.iconst 0, 1) := dc_3 (dc_nn (k := 26) aX12_begins_40 rfl)
theorem dX12_begins_67 : decode cX12_begins 67 = .ok (.putfield 142, 3) := dc_181 (a0 := 0) (b0 := 142) (dc_nn (k := 27) aX12_begins_40 rfl)
theorem dX12_begins_70 : decode cX12_begins 70 = .ok (.aload_n 0, 1) := dc_42 (dc_nn (k := 30) aX12_begins_40 rfl)
theorem dX12_begins_71 : decode cX12_begins 71 = .ok (.invokevirtual 187, 3) := dc_182 (a0 := 0) (b0 := 187) (dc_nn (k := 31) aX12_begins_40 rfl)
theorem dX12_begins_74 : decode cX12_begins 74 = .ok (.iconst 1, 1) := dc_4 (dc_nn (k := 34) aX12_begins_40 rfl)
theorem dX12_begins_75 : decode cX12_begins 75 = .ok (.ireturn, 1) := dc_172 (dc_nn (k := 35) aX12_begins_40 rfl)
set_option maxRecDepth 20000 in
theorem ggX12_readsSet_X12_steps : GoodIn wsX12_readsSet wsX12_steps := goodIn_k _ [[11, 0, 0, 0, 0, 0, 0, 0, 0, 0, 0], [10, 11, 0, 0, 0, 0, 0, 0, 0, 32, 0, 0, 0, 0, 0, 0, 0, 0, 0, 0, 0, 0, 0, 0, 0, 0, 0, 0, 0, 0, 0, 0, 0, 0, 0, 0, 0, 0, 0, 0, 0, 0, 0, 0, 0, 0, 0, 0, 0, 0, 0, 0, 0, 0, 0, 0, 0, 0, 0, 0, 0, 0, 0, 0, 0, 0, 0]] (by rfl) (by decide +kernel)
set_option maxRecDepth 20000 in
theorem gX12_readsSet_X12_steps : GoodIn wsX12_readsSet (wsV RX12 187 RX12 yX12_steps wsX12_steps) := goodIn_app (goodIn_k _ [[7, 0, 0, 0]] (by rfl) (gw_V _ _ _ _)) ggX12_readsSet_X12_steps
set_option maxRecDepth 20000 in
theorem ggX12_readsSet_X12_number : GoodIn wsX12_readsSet wsX12_number := goodIn_k _ [[33], [17, 0], [16, 17, 0, 0], [10, 26, 0, 0, 0, 0, 0], [14, 28], [7, 0, 0, 1, 0, 0, 1, 3, 0, 0, 0, 0, 0, 0, 0, 0, 0, 0, 32, 0, 0, 0, 0, 0, 0, 0, 0, 0, 0, 0, 0, 0, 0, 0, 0, 0, 0, 0, 0, 0, 0, 0, 0, 0, 0, 0, 0, 0, 0, 0, 0, 0, 0, 0, 0, 0, 0, 0, 0, 0, 0, 0, 0, 0, 0, 0, 0, 0, 0, 0, 0, 0, 0, 0, 0, 0]] (by rfl) (by decide +kernel)
set_option maxRecDepth 20000 in
theorem gX12_readsSet_X12_number : GoodIn wsX12_readsSet (wsV RX12 201 RX12 yX12_number wsX12_number) := goodIn_app (goodIn_k _ [[30, 0, 0], [10]] (by rfl) (gw_V _ _ _ _)) ggX12_readsSet_X12_number
set_option maxRecDepth 20000 in
theorem ggX12_readsSet_X12_knownWord : GoodIn wsX12_readsSet wsX12_knownWord := goodIn_k _ [[47], [17, 0], [15, 32, 0], [10, 39, 0, 0, 0, 8, 0, 0, 0, 0, 0, 0, 0, 0, 0, 0, 0, 0, 0, 0, 0, 0, 0, 0, 0, 0, 0, 0, 0, 0, 0, 0, 0, 0, 0, 0, 0, 0, 0, 0, 0, 0, 0, 0, 0, 0, 0, 0, 0, 0, 0, 0, 0, 0, 0, 0, 0, 0, 0, 0, 0, 0, 0]] (by rfl) (by decide +kernel)
set_option maxRecDepth 20000 in
theorem gX12_readsSet_X12_knownWord : GoodIn wsX12_readsSet (wsV RX12 193 RX12 yX12_knownWord wsX12_knownWord) := goodIn_app (goodIn_k _ [[44, 0, 0], [10]] (by rfl) (gw_V _ _ _ _)) ggX12_readsSet_X12_knownWord
set_option maxRecDepth 20000 in
theorem ggX12_readsSet_X12_need : GoodIn wsX12_readsSet wsX12_need := goodIn_k _ [[57], [34, 0, 0], [10, 26, 0], [7, 0, 0, 1, 0, 0, 0, 0, 0, 0, 0, 0, 0, 0, 0, 0, 0, 0, 0, 0, 0, 0, 9, 0, 0, 0, 0, 18, 0, 0, 0, 0, 0, 0, 0, 0, 0, 0, 0, 0, 0, 0, 0, 0, 0, 0, 0, 0, 0, 0, 0, 0, 0, 0, 0, 0, 0, 0, 0, 0, 0, 0, 0, 0, 0, 0, 0, 0, 0, 0, 0, 0, 0, 0, 0, 0, 0, 0, 0, 0, 0, 0, 0, 0, 0]] (by rfl) (by decide +kernel)
set_option maxRecDepth 20000 in
theorem gX12_readsSet_X12_need : GoodIn wsX12_readsSet (wsV RX12 197 RX12 yX12_need wsX12_need) := goodIn_app (goodIn_k _ [[54, 0, 0], [10]] (by rfl) (gw_V _ _ _ _)) ggX12_readsSet_X12_need
set_option maxRecDepth 20000 in
theorem ggX12_readsSet_X12_named : GoodIn wsX12_readsSet wsX12_named := goodIn_k _ [[61], [44, 0, 0], [10, 36], [17, 0], [15, 32, 0, 0, 0, 0, 0, 0, 0, 0, 0], [34, 0, 0, 0, 0], [7, 0, 0, 1, 0, 0, 0, 1, 2, 0, 0, 0, 0, 0, 0, 0, 0, 0, 0, 9, 0, 0, 0, 0], [30, 0, 0, 0, 28, 0, 0, 0, 0, 0, 0, 0, 0, 0, 0, 0, 0, 0, 0, 0, 0, 0, 0, 0, 0, 0, 0, 0, 0, 0, 0, 0, 0, 0, 0, 0, 0, 0, 0, 0, 0, 0, 0, 0, 0, 0, 0, 0, 0, 0, 0, 0, 0, 0, 0, 0, 0, 0, 0, 0, 0, 0]] (by rfl) (by decide +kernel)
set_option maxRecDepth 20000 in
theorem gX12_readsSet_X12_named : GoodIn wsX12_readsSet (wsV RX12 213 RX12 yX12_named wsX12_named) := goodIn_app (goodIn_k _ [[58, 0, 0], [10]] (by rfl) (gw_V _ _ _ _)) ggX12_readsSet_X12_named
set_option maxRecDepth 20000 in
theorem ggX12_readsSet_X12_isGood : GoodIn wsX12_readsSet wsX12_isGood := goodIn_k _ [[37, 0, 23, 0, 0, 0, 0, 0, 0, 0, 0, 0, 0, 0, 0, 0, 0, 0, 0, 0, 0, 0, 0, 0, 0, 0, 0, 0, 0, 0, 0, 0, 0, 0, 0, 0, 0, 0, 0, 0, 0, 0, 0, 0, 0, 0, 0, 0, 0, 0, 0, 0, 0, 0, 0, 0, 0, 0, 0, 0]] (by rfl) (by decide +kernel)
set_option maxRecDepth 20000 in
theorem gX12_readsSet_X12_isGood : GoodIn wsX12_readsSet (wsV RX12 183 RX12 yX12_isGood wsX12_isGood) := goodIn_app (goodIn_k _ [[34, 0, 0], [10]] (by rfl) (gw_V _ _ _ _)) ggX12_readsSet_X12_isGood
noncomputable def sX12_readsSet_122 : List Nat := 42 :: 180 :: 0 :: 44 :: 16 :: 7 :: 27 :: 104 :: 28 :: 96 :: 21 :: 4 :: 79 :: 42 :: 180 :: 0 :: 47 :: 16 :: 7 :: 27 :: 104 :: 28 :: 96 :: 21 :: 5 :: 79 :: 42 :: 180 :: 0 :: 50 :: 16 :: 7 :: 27 :: 104 :: 28 :: 96 :: 21 :: 6 :: 79 :: 177 :: []
noncomputable def sX12_readsSet_82 : List Nat := 3 :: 17 :: 42 :: 48 :: 182 :: 0 :: 213 :: 54 :: 5 :: 42 :: 16 :: 15 :: 5 :: 18 :: 218 :: 182 :: 0 :: 213 :: 54 :: 6 :: 42 :: 182 :: 0 :: 183 :: 154 :: 0 :: 4 :: 177 :: 42 :: 180 :: 0 :: 41 :: 16 :: 7 :: 27 :: 104 :: 28 :: 96 :: 29 :: 79 :: sX12_readsSet_122
noncomputable def sX12_readsSet_42 : List Nat := 182 :: 0 :: 213 :: 62 :: 42 :: 16 :: 13 :: 3 :: 18 :: 217 :: 182 :: 0 :: 213 :: 54 :: 4 :: 3 :: 54 :: 5 :: 4 :: 54 :: 6 :: 42 :: 182 :: 0 :: 183 :: 153 :: 0 :: 35 :: 42 :: 182 :: 0 :: 193 :: 16 :: 14 :: 160 :: 0 :: 26 :: 42 :: 16 :: 14 :: sX12_readsSet_82
noncomputable def sX12_readsSet_0 : List Nat := 42 :: 182 :: 0 :: 187 :: 42 :: 3 :: 6 :: 182 :: 0 :: 201 :: 60 :: 42 :: 182 :: 0 :: 193 :: 61 :: 42 :: 28 :: 155 :: 0 :: 13 :: 28 :: 16 :: 7 :: 162 :: 0 :: 7 :: 4 :: 167 :: 0 :: 4 :: 3 :: 182 :: 0 :: 197 :: 42 :: 16 :: 12 :: 3 :: 17 :: 84 :: 95 :: sX12_readsSet_42
theorem aX12_readsSet_0 : dc_at cX12_readsSet 0 sX12_readsSet_0 := dc_base (by decide +kernel)
theorem aX12_readsSet_42 : dc_at cX12_readsSet 42 sX12_readsSet_42 := dc_nn (k := 42) aX12_readsSet_0 rfl
theorem aX12_readsSet_82 : dc_at cX12_readsSet 82 sX12_readsSet_82 := dc_nn (k := 40) aX12_readsSet_42 rfl
theorem aX12_readsSet_122 : dc_at cX12_readsSet 122 sX12_readsSet_122 := dc_nn (k := 40) aX12_readsSet_82 rfl
theorem dX12_readsSet_0 : decode cX12_readsSet 0 = .ok (.aload_n 0, 1) := dc_42 aX12_readsSet_0
theorem dX12_readsSet_1 : decode cX12_readsSet 1 = .ok (.invokevirtual 187, 3) := dc_182 (a0 := 0) (b0 := 187) (dc_nn (k := 1) aX12_readsSet_0 rfl)
theorem dX12_readsSet_4 : decode cX12_readsSet 4 = .ok (.aload_n 0, 1) := dc_42 (dc_nn (k := 4) aX12_readsSet_0 rfl)
theorem dX12_readsSet_5 : decode cX12_readsSet 5 = .ok (.iconst 0, 1) := dc_3 (dc_nn (k := 5) aX12_readsSet_0 rfl)
theorem dX12_readsSet_6 : decode cX12_readsSet 6 = .ok (.iconst 3, 1) := dc_6 (dc_nn (k := 6) aX12_readsSet_0 rfl)
theorem dX12_readsSet_7 : decode cX12_readsSet 7 = .ok (.invokevirtual 201, 3) := dc_182 (a0 := 0) (b0 := 201) (dc_nn (k := 7) aX12_readsSet_0 rfl)
theorem dX12_readsSet_10 : decode cX12_readsSet 10 = .ok (.istore_n 1, 1) := dc_60 (dc_nn (k := 10) aX12_readsSet_0 rfl)
theorem dX12_readsSet_11 : decode cX12_readsSet 11 = .ok (.aload_n 0, 1) := dc_42 (dc_nn (k := 11) aX12_readsSet_0 rfl)
theorem dX12_readsSet_12 : decode cX12_readsSet 12 = .ok (.invokevirtual 193, 3) := dc_182 (a0 := 0) (b0 := 193) (dc_nn (k := 12) aX12_readsSet_0 rfl)
theorem dX12_readsSet_15 : decode cX12_readsSet 15 = .ok (.istore_n 2, 1) := dc_61 (dc_nn (k := 15) aX12_readsSet_0 rfl)
theorem dX12_readsSet_16 : decode cX12_readsSet 16 = .ok (.aload_n 0, 1) := dc_42 (dc_nn (k := 16) aX12_readsSet_0 rfl)
theorem dX12_readsSet_17 : decode cX12_readsSet 17 = .ok (.iload_n 2, 1) := dc_28 (dc_nn (k := 17) aX12_readsSet_0 rfl)
theorem dX12_readsSet_18 : decode cX12_readsSet 18 = .ok (.ifCond .lt 13, 3) := dc_155 (a0 := 0) (b0 := 13) (dc_nn (k := 18) aX12_readsSet_0 rfl) (by decide)
theorem dX12_readsSet_21 : decode cX12_readsSet 21 = .ok (.iload_n 2, 1) := dc_28 (dc_nn (k := 21) aX12_readsSet_0 rfl)
theorem dX12_readsSet_22 : decode cX12_readsSet 22 = .ok (.bipush 7, 2) := dc_16 (a0 := 7) (dc_nn (k := 22) aX12_readsSet_0 rfl) (by decide)
theorem dX12_readsSet_24 : decode cX12_readsSet 24 = .ok (.if_icmp .ge 7, 3) := dc_162 (a0 := 0) (b0 := 7) (dc_nn (k := 24) aX12_readsSet_0 rfl) (by decide)
theorem dX12_readsSet_27 : decode cX12_readsSet 27 = .ok (.iconst 1, 1) := dc_4 (dc_nn (k := 27) aX12_readsSet_0 rfl)
theorem dX12_readsSet_28 : decode cX12_readsSet 28 = .ok (.goto 4, 3) := dc_167 (a0 := 0) (b0 := 4) (dc_nn (k := 28) aX12_readsSet_0 rfl) (by decide)
theorem dX12_readsSet_31 : decode cX12_readsSet 31 = .ok (.iconst 0, 1) := dc_3 (dc_nn (k := 31) aX12_readsSet_0 rfl)
theorem dX12_readsSet_32 : decode cX12_readsSet 32 = .ok (.invokevirtual 197, 3) := dc_182 (a0 := 0) (b0 := 197) (dc_nn (k := 32) aX12_readsSet_0 rfl)
theorem dX12_readsSet_35 : decode cX12_readsSet 35 = .ok (.aload_n 0, 1) := dc_42 (dc_nn (k := 35) aX12_readsSet_0 rfl)
theorem dX12_readsSet_36 : decode cX12_readsSet 36 = .ok (.bipush 12, 2) := dc_16 (a0 := 12) (dc_nn (k := 36) aX12_readsSet_0 rfl) (by decide)
theorem dX12_readsSet_38 : decode cX12_readsSet 38 = .ok (.iconst 0, 1) := dc_3 (dc_nn (k := 38) aX12_readsSet_0 rfl)
theorem dX12_readsSet_39 : decode cX12_readsSet 39 = .ok (.sipush 21599, 3) := dc_17 (a0 := 84) (b0 := 95) (dc_nn (k := 39) aX12_readsSet_0 rfl) (by decide)
theorem dX12_readsSet_42 : decode cX12_readsSet 42 = .ok (.invokevirtual 213, 3) := dc_182 (a0 := 0) (b0 := 213) aX12_readsSet_42
theorem dX12_readsSet_45 : decode cX12_readsSet 45 = .ok (.istore_n 3, 1) := dc_62 (dc_nn (k := 3) aX12_readsSet_42 rfl)
theorem dX12_readsSet_46 : decode cX12_readsSet 46 = .ok (.aload_n 0, 1) := dc_42 (dc_nn (k := 4) aX12_readsSet_42 rfl)
theorem dX12_readsSet_47 : decode cX12_readsSet 47 = .ok (.bipush 13, 2) := dc_16 (a0 := 13) (dc_nn (k := 5) aX12_readsSet_42 rfl) (by decide)
theorem dX12_readsSet_49 : decode cX12_readsSet 49 = .ok (.iconst 0, 1) := dc_3 (dc_nn (k := 7) aX12_readsSet_42 rfl)
theorem dX12_readsSet_50 : decode cX12_readsSet 50 = .ok (.ldc 217, 2) := dc_18 (a0 := 217) (dc_nn (k := 8) aX12_readsSet_42 rfl)
theorem dX12_readsSet_52 : decode cX12_readsSet 52 = .ok (.invokevirtual 213, 3) := dc_182 (a0 := 0) (b0 := 213) (dc_nn (k := 10) aX12_readsSet_42 rfl)
theorem dX12_readsSet_55 : decode cX12_readsSet 55 = .ok (.istore 4, 2) := dc_54 (a0 := 4) (dc_nn (k := 13) aX12_readsSet_42 rfl)
theorem dX12_readsSet_57 : decode cX12_readsSet 57 = .ok (.iconst 0, 1) := dc_3 (dc_nn (k := 15) aX12_readsSet_42 rfl)
theorem dX12_readsSet_58 : decode cX12_readsSet 58 = .ok (.istore 5, 2) := dc_54 (a0 := 5) (dc_nn (k := 16) aX12_readsSet_42 rfl)
theorem dX12_readsSet_60 : decode cX12_readsSet 60 = .ok (.iconst 1, 1) := dc_4 (dc_nn (k := 18) aX12_readsSet_42 rfl)
theorem dX12_readsSet_61 : decode cX12_readsSet 61 = .ok (.istore 6, 2) := dc_54 (a0 := 6) (dc_nn (k := 19) aX12_readsSet_42 rfl)
theorem dX12_readsSet_63 : decode cX12_readsSet 63 = .ok (.aload_n 0, 1) := dc_42 (dc_nn (k := 21) aX12_readsSet_42 rfl)
theorem dX12_readsSet_64 : decode cX12_readsSet 64 = .ok (.invokevirtual 183, 3) := dc_182 (a0 := 0) (b0 := 183) (dc_nn (k := 22) aX12_readsSet_42 rfl)
theorem dX12_readsSet_67 : decode cX12_readsSet 67 = .ok (.ifCond .eq 35, 3) := dc_153 (a0 := 0) (b0 := 35) (dc_nn (k := 25) aX12_readsSet_42 rfl) (by decide)
theorem dX12_readsSet_70 : decode cX12_readsSet 70 = .ok (.aload_n 0, 1) := dc_42 (dc_nn (k := 28) aX12_readsSet_42 rfl)
theorem dX12_readsSet_71 : decode cX12_readsSet 71 = .ok (.invokevirtual 193, 3) := dc_182 (a0 := 0) (b0 := 193) (dc_nn (k := 29) aX12_readsSet_42 rfl)
theorem dX12_readsSet_74 : decode cX12_readsSet 74 = .ok (.bipush 14, 2) := dc_16 (a0 := 14) (dc_nn (k := 32) aX12_readsSet_42 rfl) (by decide)
theorem dX12_readsSet_76 : decode cX12_readsSet 76 = .ok (.if_icmp .ne 26, 3) := dc_160 (a0 := 0) (b0 := 26) (dc_nn (k := 34) aX12_readsSet_42 rfl) (by decide)
theorem dX12_readsSet_79 : decode cX12_readsSet 79 = .ok (.aload_n 0, 1) := dc_42 (dc_nn (k := 37) aX12_readsSet_42 rfl)
theorem dX12_readsSet_80 : decode cX12_readsSet 80 = .ok (.bipush 14, 2) := dc_16 (a0 := 14) (dc_nn (k := 38) aX12_readsSet_42 rfl) (by decide)
theorem dX12_readsSet_82 : decode cX12_readsSet 82 = .ok (.iconst 0, 1) := dc_3 aX12_readsSet_82
theorem dX12_readsSet_83 : decode cX12_readsSet 83 = .ok (.sipush 10800, 3) := dc_17 (a0 := 42) (b0 := 48) (dc_nn (k := 1) aX12_readsSet_82 rfl) (by decide)
theorem dX12_readsSet_86 : decode cX12_readsSet 86 = .ok (.invokevirtual 213, 3) := dc_182 (a0 := 0) (b0 := 213) (dc_nn (k := 4) aX12_readsSet_82 rfl)
theorem dX12_readsSet_89 : decode cX12_readsSet 89 = .ok (.istore 5, 2) := dc_54 (a0 := 5) (dc_nn (k := 7) aX12_readsSet_82 rfl)
theorem dX12_readsSet_91 : decode cX12_readsSet 91 = .ok (.aload_n 0, 1) := dc_42 (dc_nn (k := 9) aX12_readsSet_82 rfl)
theorem dX12_readsSet_92 : decode cX12_readsSet 92 = .ok (.bipush 15, 2) := dc_16 (a0 := 15) (dc_nn (k := 10) aX12_readsSet_82 rfl) (by decide)
theorem dX12_readsSet_94 : decode cX12_readsSet 94 = .ok (.iconst 2, 1) := dc_5 (dc_nn (k := 12) aX12_readsSet_82 rfl)
theorem dX12_readsSet_95 : decode cX12_readsSet 95 = .ok (.ldc 218, 2) := dc_18 (a0 := 218) (dc_nn (k := 13) aX12_readsSet_82 rfl)
theorem dX12_readsSet_97 : decode cX12_readsSet 97 = .ok (.invokevirtual 213, 3) := dc_182 (a0 := 0) (b0 := 213) (dc_nn (k := 15) aX12_readsSet_82 rfl)
theorem dX12_readsSet_100 : decode cX12_readsSet 100 = .ok (.istore 6, 2) := dc_54 (a0 := 6) (dc_nn (k := 18) aX12_readsSet_82 rfl)
theorem dX12_readsSet_102 : decode cX12_readsSet 102 = .ok (.aload_n 0, 1) := dc_42 (dc_nn (k := 20) aX12_readsSet_82 rfl)
theorem dX12_readsSet_103 : decode cX12_readsSet 103 = .ok (.invokevirtual 183, 3) := dc_182 (a0 := 0) (b0 := 183) (dc_nn (k := 21) aX12_readsSet_82 rfl)
theorem dX12_readsSet_106 : decode cX12_readsSet 106 = .ok (.ifCond .ne 4, 3) := dc_154 (a0 := 0) (b0 := 4) (dc_nn (k := 24) aX12_readsSet_82 rfl) (by decide)
theorem dX12_readsSet_109 : decode cX12_readsSet 109 = .ok (.return_, 1) := dc_177 (dc_nn (k := 27) aX12_readsSet_82 rfl)
theorem dX12_readsSet_110 : decode cX12_readsSet 110 = .ok (.aload_n 0, 1) := dc_42 (dc_nn (k := 28) aX12_readsSet_82 rfl)
theorem dX12_readsSet_111 : decode cX12_readsSet 111 = .ok (.getfield 41, 3) := dc_180 (a0 := 0) (b0 := 41) (dc_nn (k := 29) aX12_readsSet_82 rfl)
theorem dX12_readsSet_114 : decode cX12_readsSet 114 = .ok (.bipush 7, 2) := dc_16 (a0 := 7) (dc_nn (k := 32) aX12_readsSet_82 rfl) (by decide)
theorem dX12_readsSet_116 : decode cX12_readsSet 116 = .ok (.iload_n 1, 1) := dc_27 (dc_nn (k := 34) aX12_readsSet_82 rfl)
theorem dX12_readsSet_117 : decode cX12_readsSet 117 = .ok (.imul, 1) := dc_104 (dc_nn (k := 35) aX12_readsSet_82 rfl)
theorem dX12_readsSet_118 : decode cX12_readsSet 118 = .ok (.iload_n 2, 1) := dc_28 (dc_nn (k := 36) aX12_readsSet_82 rfl)
theorem dX12_readsSet_119 : decode cX12_readsSet 119 = .ok (.iadd, 1) := dc_96 (dc_nn (k := 37) aX12_readsSet_82 rfl)
theorem dX12_readsSet_120 : decode cX12_readsSet 120 = .ok (.iload_n 3, 1) := dc_29 (dc_nn (k := 38) aX12_readsSet_82 rfl)
theorem dX12_readsSet_121 : decode cX12_readsSet 121 = .ok (.iastore, 1) := dc_79 (dc_nn (k := 39) aX12_readsSet_82 rfl)
theorem dX12_readsSet_122 : decode cX12_readsSet 122 = .ok (.aload_n 0, 1) := dc_42 aX12_readsSet_122
theorem dX12_readsSet_123 : decode cX12_readsSet 123 = .ok (.getfield 44, 3) := dc_180 (a0 := 0) (b0 := 44) (dc_nn (k := 1) aX12_readsSet_122 rfl)
theorem dX12_readsSet_126 : decode cX12_readsSet 126 = .ok (.bipush 7, 2) := dc_16 (a0 := 7) (dc_nn (k := 4) aX12_readsSet_122 rfl) (by decide)
theorem dX12_readsSet_128 : decode cX12_readsSet 128 = .ok (.iload_n 1, 1) := dc_27 (dc_nn (k := 6) aX12_readsSet_122 rfl)
theorem dX12_readsSet_129 : decode cX12_readsSet 129 = .ok (.imul, 1) := dc_104 (dc_nn (k := 7) aX12_readsSet_122 rfl)
theorem dX12_readsSet_130 : decode cX12_readsSet 130 = .ok (.iload_n 2, 1) := dc_28 (dc_nn (k := 8) aX12_readsSet_122 rfl)
theorem dX12_readsSet_131 : decode cX12_readsSet 131 = .ok (.iadd, 1) := dc_96 (dc_nn (k := 9) aX12_readsSet_122 rfl)
theorem dX12_readsSet_132 : decode cX12_readsSet 132 = .ok (.iload 4, 2) := dc_21 (a0 := 4) (dc_nn (k := 10) aX12_readsSet_122 rfl)
theorem dX12_readsSet_134 : decode cX12_readsSet 134 = .ok (.iastore, 1) := dc_79 (dc_nn (k := 12) aX12_readsSet_122 rfl)
theorem dX12_readsSet_135 : decode cX12_readsSet 135 = .ok (.aload_n 0, 1) := dc_42 (dc_nn (k := 13) aX12_readsSet_122 rfl)
theorem dX12_readsSet_136 : decode cX12_readsSet 136 = .ok (.getfield 47, 3) := dc_180 (a0 := 0) (b0 := 47) (dc_nn (k := 14) aX12_readsSet_122 rfl)
theorem dX12_readsSet_139 : decode cX12_readsSet 139 = .ok (.bipush 7, 2) := dc_16 (a0 := 7) (dc_nn (k := 17) aX12_readsSet_122 rfl) (by decide)
theorem dX12_readsSet_141 : decode cX12_readsSet 141 = .ok (.iload_n 1, 1) := dc_27 (dc_nn (k := 19) aX12_readsSet_122 rfl)
theorem dX12_readsSet_142 : decode cX12_readsSet 142 = .ok (.imul, 1) := dc_104 (dc_nn (k := 20) aX12_readsSet_122 rfl)
theorem dX12_readsSet_143 : decode cX12_readsSet 143 = .ok (.iload_n 2, 1) := dc_28 (dc_nn (k := 21) aX12_readsSet_122 rfl)
theorem dX12_readsSet_144 : decode cX12_readsSet 144 = .ok (.iadd, 1) := dc_96 (dc_nn (k := 22) aX12_readsSet_122 rfl)
theorem dX12_readsSet_145 : decode cX12_readsSet 145 = .ok (.iload 5, 2) := dc_21 (a0 := 5) (dc_nn (k := 23) aX12_readsSet_122 rfl)
theorem dX12_readsSet_147 : decode cX12_readsSet 147 = .ok (.iastore, 1) := dc_79 (dc_nn (k := 25) aX12_readsSet_122 rfl)
theorem dX12_readsSet_148 : decode cX12_readsSet 148 = .ok (.aload_n 0, 1) := dc_42 (dc_nn (k := 26) aX12_readsSet_122 rfl)
theorem dX12_readsSet_149 : decode cX12_readsSet 149 = .ok (.getfield 50, 3) := dc_180 (a0 := 0) (b0 := 50) (dc_nn (k := 27) aX12_readsSet_122 rfl)
theorem dX12_readsSet_152 : decode cX12_readsSet 152 = .ok (.bipush 7, 2) := dc_16 (a0 := 7) (dc_nn (k := 30) aX12_readsSet_122 rfl) (by decide)
theorem dX12_readsSet_154 : decode cX12_readsSet 154 = .ok (.iload_n 1, 1) := dc_27 (dc_nn (k := 32) aX12_readsSet_122 rfl)
theorem dX12_readsSet_155 : decode cX12_readsSet 155 = .ok (.imul, 1) := dc_104 (dc_nn (k := 33) aX12_readsSet_122 rfl)
theorem dX12_readsSet_156 : decode cX12_readsSet 156 = .ok (.iload_n 2, 1) := dc_28 (dc_nn (k := 34) aX12_readsSet_122 rfl)
theorem dX12_readsSet_157 : decode cX12_readsSet 157 = .ok (.iadd, 1) := dc_96 (dc_nn (k := 35) aX12_readsSet_122 rfl)
theorem dX12_readsSet_158 : decode cX12_readsSet 158 = .ok (.iload 6, 2) := dc_21 (a0 := 6) (dc_nn (k := 36) aX12_readsSet_122 rfl)
theorem dX12_readsSet_160 : decode cX12_readsSet 160 = .ok (.iastore, 1) := dc_79 (dc_nn (k := 38) aX12_readsSet_122 rfl)
theorem dX12_readsSet_161 : decode cX12_readsSet 161 = .ok (.return_, 1) := dc_177 (dc_nn (k := 39) aX12_readsSet_122 rfl)
set_option maxRecDepth 20000 in
theorem ggX12_readsClimate_X12_wrong : GoodIn wsX12_readsClimate wsX12_wrong := goodIn_k _ [[10, 0, 0, 0, 26, 0, 0, 0, 0, 0, 0, 0, 0, 0, 0, 0, 0, 0, 0, 0, 0, 0, 0, 0, 0, 0, 0, 0, 0, 0, 0, 0, 0, 0, 0, 0, 0, 0, 0, 0, 0, 0, 0, 0, 0, 0, 0, 0, 0, 0, 0, 0, 0, 0, 0, 0, 0, 0, 0, 0, 0, 0]] (by rfl) (by decide +kernel)
set_option maxRecDepth 20000 in
theorem gX12_readsClimate_X12_wrong : GoodIn wsX12_readsClimate (wsV RX12 190 RX12 yX12_wrong wsX12_wrong) := goodIn_app (goodIn_k _ [[6, 0, 0, 0]] (by rfl) (gw_V _ _ _ _)) ggX12_readsClimate_X12_wrong
set_option maxRecDepth 20000 in
theorem ggX12_readsClimate_X12_isGood : GoodIn wsX12_readsClimate wsX12_isGood := goodIn_k _ [[17], [11, 28, 0, 0, 0, 0, 0, 0, 0, 0, 0, 0, 0, 0, 0, 0, 0, 0, 0, 0, 0, 0, 0, 0, 0, 0, 0, 0, 0, 0, 0, 0, 0, 0, 0, 0, 0, 0, 0, 0, 0, 0, 0, 0, 0, 0, 0, 0, 0, 0, 0, 0, 0, 0, 0, 0, 0, 0, 0]] (by rfl) (by decide +kernel)
set_option maxRecDepth 20000 in
theorem gX12_readsClimate_X12_isGood : GoodIn wsX12_readsClimate (wsV RX12 183 RX12 yX12_isGood wsX12_isGood) := goodIn_app (goodIn_k _ [[14, 0, 0], [9]] (by rfl) (gw_V _ _ _ _)) ggX12_readsClimate_X12_isGood
set_option maxRecDepth 20000 in
theorem ggX12_readsClimate_X12_steps : GoodIn wsX12_readsClimate wsX12_steps := goodIn_k _ [[21, 0, 0], [12, 11], [4], [2, 0, 21, 0, 0], [9, 18, 0, 0, 0, 0, 0, 0, 0, 4, 0, 0, 0, 0, 0, 0, 0, 0, 0, 0, 0, 0, 0, 0, 0, 0, 0, 0, 0, 0, 0, 0, 0, 0, 0, 0, 0, 0, 0, 0, 0, 0, 0, 0, 0, 0, 0, 0, 0, 0, 0, 0, 0, 0, 0, 0, 0, 0, 0, 0, 0, 0, 0, 0, 0, 0, 0]] (by rfl) (by decide +kernel)
set_option maxRecDepth 20000 in
theorem gX12_readsClimate_X12_steps : GoodIn wsX12_readsClimate (wsV RX12 187 RX12 yX12_steps wsX12_steps) := goodIn_app (goodIn_k _ [[18, 0, 0], [9]] (by rfl) (gw_V _ _ _ _)) ggX12_readsClimate_X12_steps
set_option maxRecDepth 20000 in
theorem ggX12_readsClimate_X12_number : GoodIn wsX12_readsClimate wsX12_number := goodIn_k _ [[39], [2, 0, 0, 9, 0, 0], [9, 7], [11], [6, 0, 0, 1, 1, 0, 4, 0, 0, 0, 0, 0, 0, 0, 0, 0, 0, 0, 0, 0, 0, 0, 0, 0, 4, 0, 0, 0, 0, 0, 0, 0, 0, 0, 0, 0, 0, 0, 0, 0, 0, 0, 0, 0, 0, 0, 0, 0, 0, 0, 0, 0, 0, 0, 0, 0, 0, 0, 0, 0, 0, 0, 0, 0, 0, 0, 0, 0, 0, 0, 0, 0, 0, 0, 0, 0, 0, 0, 0, 0, 0, 0]] (by rfl) (by decide +kernel)
set_option maxRecDepth 20000 in
theorem gX12_readsClimate_X12_number : GoodIn wsX12_readsClimate (wsV RX12 201 RX12 yX12_number wsX12_number) := goodIn_app (goodIn_k _ [[36, 0, 0], [9]] (by rfl) (gw_V _ _ _ _)) ggX12_readsClimate_X12_number
noncomputable def sX12_readsClimate_162 : List Nat := 42 :: 89 :: 180 :: 0 :: 219 :: 4 :: 96 :: 181 :: 0 :: 219 :: 177 :: []
noncomputable def sX12_readsClimate_121 : List Nat := 42 :: 182 :: 0 :: 183 :: 153 :: 0 :: 19 :: 42 :: 180 :: 0 :: 53 :: 16 :: 12 :: 42 :: 180 :: 0 :: 219 :: 104 :: 28 :: 96 :: 21 :: 4 :: 79 :: 27 :: 21 :: 4 :: 96 :: 60 :: 132 :: 2 :: 1 :: 167 :: 255 :: 147 :: 42 :: 182 :: 0 :: 183 :: 153 :: 0 :: 13 :: sX12_readsClimate_162
noncomputable def sX12_readsClimate_80 : List Nat := 16 :: 7 :: 163 :: 0 :: 15 :: 42 :: 180 :: 0 :: 156 :: 29 :: 159 :: 0 :: 7 :: 2 :: 167 :: 0 :: 4 :: 3 :: 54 :: 4 :: 21 :: 4 :: 2 :: 160 :: 0 :: 8 :: 42 :: 5 :: 182 :: 0 :: 190 :: 42 :: 4 :: 17 :: 14 :: 16 :: 182 :: 0 :: 201 :: 54 :: 4 :: sX12_readsClimate_121
noncomputable def sX12_readsClimate_40 : List Nat := 60 :: 3 :: 61 :: 28 :: 16 :: 12 :: 162 :: 0 :: 109 :: 42 :: 182 :: 0 :: 183 :: 153 :: 0 :: 102 :: 17 :: 14 :: 16 :: 27 :: 100 :: 62 :: 28 :: 16 :: 11 :: 160 :: 0 :: 32 :: 42 :: 180 :: 0 :: 159 :: 5 :: 160 :: 0 :: 24 :: 42 :: 180 :: 0 :: 169 :: sX12_readsClimate_80
noncomputable def sX12_readsClimate_0 : List Nat := 42 :: 180 :: 0 :: 219 :: 16 :: 7 :: 160 :: 0 :: 8 :: 42 :: 5 :: 182 :: 0 :: 190 :: 42 :: 182 :: 0 :: 183 :: 154 :: 0 :: 4 :: 177 :: 42 :: 182 :: 0 :: 187 :: 42 :: 42 :: 180 :: 0 :: 219 :: 42 :: 180 :: 0 :: 219 :: 182 :: 0 :: 201 :: 87 :: 3 :: sX12_readsClimate_40
theorem aX12_readsClimate_0 : dc_at cX12_readsClimate 0 sX12_readsClimate_0 := dc_base (by decide +kernel)
theorem aX12_readsClimate_40 : dc_at cX12_readsClimate 40 sX12_readsClimate_40 := dc_nn (k := 40) aX12_readsClimate_0 rfl
theorem aX12_readsClimate_80 : dc_at cX12_readsClimate 80 sX12_readsClimate_80 := dc_nn (k := 40) aX12_readsClimate_40 rfl
theorem aX12_readsClimate_121 : dc_at cX12_readsClimate 121 sX12_readsClimate_121 := dc_nn (k := 41) aX12_readsClimate_80 rfl
theorem aX12_readsClimate_162 : dc_at cX12_readsClimate 162 sX12_readsClimate_162 := dc_nn (k := 41) aX12_readsClimate_121 rfl
theorem dX12_readsClimate_0 : decode cX12_readsClimate 0 = .ok (.aload_n 0, 1) := dc_42 aX12_readsClimate_0
theorem dX12_readsClimate_1 : decode cX12_readsClimate 1 = .ok (.getfield 219, 3) := dc_180 (a0 := 0) (b0 := 219) (dc_nn (k := 1) aX12_readsClimate_0 rfl)
theorem dX12_readsClimate_4 : decode cX12_readsClimate 4 = .ok (.bipush 7, 2) := dc_16 (a0 := 7) (dc_nn (k := 4) aX12_readsClimate_0 rfl) (by decide)
theorem dX12_readsClimate_6 : decode cX12_readsClimate 6 = .ok (.if_icmp .ne 8, 3) := dc_160 (a0 := 0) (b0 := 8) (dc_nn (k := 6) aX12_readsClimate_0 rfl) (by decide)
theorem dX12_readsClimate_9 : decode cX12_readsClimate 9 = .ok (.aload_n 0, 1) := dc_42 (dc_nn (k := 9) aX12_readsClimate_0 rfl)
theorem dX12_readsClimate_10 : decode cX12_readsClimate 10 = .ok (.iconst 2, 1) := dc_5 (dc_nn (k := 10) aX12_readsClimate_0 rfl)
theorem dX12_readsClimate_11 : decode cX12_readsClimate 11 = .ok (.invokevirtual 190, 3) := dc_182 (a0 := 0) (b0 := 190) (dc_nn (k := 11) aX12_readsClimate_0 rfl)
theorem dX12_readsClimate_14 : decode cX12_readsClimate 14 = .ok (.aload_n 0, 1) := dc_42 (dc_nn (k := 14) aX12_readsClimate_0 rfl)
theorem dX12_readsClimate_15 : decode cX12_readsClimate 15 = .ok (.invokevirtual 183, 3) := dc_182 (a0 := 0) (b0 := 183) (dc_nn (k := 15) aX12_readsClimate_0 rfl)
theorem dX12_readsClimate_18 : decode cX12_readsClimate 18 = .ok (.ifCond .ne 4, 3) := dc_154 (a0 := 0) (b0 := 4) (dc_nn (k := 18) aX12_readsClimate_0 rfl) (by decide)
theorem dX12_readsClimate_21 : decode cX12_readsClimate 21 = .ok (.return_, 1) := dc_177 (dc_nn (k := 21) aX12_readsClimate_0 rfl)
theorem dX12_readsClimate_22 : decode cX12_readsClimate 22 = .ok (.aload_n 0, 1) := dc_42 (dc_nn (k := 22) aX12_readsClimate_0 rfl)
theorem dX12_readsClimate_23 : decode cX12_readsClimate 23 = .ok (.invokevirtual 187, 3) := dc_182 (a0 := 0) (b0 := 187) (dc_nn (k := 23) aX12_readsClimate_0 rfl)
theorem dX12_readsClimate_26 : decode cX12_readsClimate 26 = .ok (.aload_n 0, 1) := dc_42 (dc_nn (k := 26) aX12_readsClimate_0 rfl)
theorem dX12_readsClimate_27 : decode cX12_readsClimate 27 = .ok (.aload_n 0, 1) := dc_42 (dc_nn (k := 27) aX12_readsClimate_0 rfl)
theorem dX12_readsClimate_28 : decode cX12_readsClimate 28 = .ok (.getfield 219, 3) := dc_180 (a0 := 0) (b0 := 219) (dc_nn (k := 28) aX12_readsClimate_0 rfl)
theorem dX12_readsClimate_31 : decode cX12_readsClimate 31 = .ok (.aload_n 0, 1) := dc_42 (dc_nn (k := 31) aX12_readsClimate_0 rfl)
theorem dX12_readsClimate_32 : decode cX12_readsClimate 32 = .ok (.getfield 219, 3) := dc_180 (a0 := 0) (b0 := 219) (dc_nn (k := 32) aX12_readsClimate_0 rfl)
theorem dX12_readsClimate_35 : decode cX12_readsClimate 35 = .ok (.invokevirtual 201, 3) := dc_182 (a0 := 0) (b0 := 201) (dc_nn (k := 35) aX12_readsClimate_0 rfl)
theorem dX12_readsClimate_38 : decode cX12_readsClimate 38 = .ok (.pop, 1) := dc_87 (dc_nn (k := 38) aX12_readsClimate_0 rfl)
theorem dX12_readsClimate_39 : decode cX12_readsClimate 39 = .ok (.iconst 0, 1) := dc_3 (dc_nn (k := 39) aX12_readsClimate_0 rfl)
theorem dX12_readsClimate_40 : decode cX12_readsClimate 40 = .ok (.istore_n 1, 1) := dc_60 aX12_readsClimate_40
theorem dX12_readsClimate_41 : decode cX12_readsClimate 41 = .ok (.iconst 0, 1) := dc_3 (dc_nn (k := 1) aX12_readsClimate_40 rfl)
theorem dX12_readsClimate_42 : decode cX12_readsClimate 42 = .ok (.istore_n 2, 1) := dc_61 (dc_nn (k := 2) aX12_readsClimate_40 rfl)
theorem dX12_readsClimate_43 : decode cX12_readsClimate 43 = .ok (.iload_n 2, 1) := dc_28 (dc_nn (k := 3) aX12_readsClimate_40 rfl)
theorem dX12_readsClimate_44 : decode cX12_readsClimate 44 = .ok (.bipush 12, 2) := dc_16 (a0 := 12) (dc_nn (k := 4) aX12_readsClimate_40 rfl) (by decide)
theorem dX12_readsClimate_46 : decode cX12_readsClimate 46 = .ok (.if_icmp .ge 109, 3) := dc_162 (a0 := 0) (b0 := 109) (dc_nn (k := 6) aX12_readsClimate_40 rfl) (by decide)
theorem dX12_readsClimate_49 : decode cX12_readsClimate 49 = .ok (.aload_n 0, 1) := dc_42 (dc_nn (k := 9) aX12_readsClimate_40 rfl)
theorem dX12_readsClimate_50 : decode cX12_readsClimate 50 = .ok (.invokevirtual 183, 3) := dc_182 (a0 := 0) (b0 := 183) (dc_nn (k := 10) aX12_readsClimate_40 rfl)
theorem dX12_readsClimate_53 : decode cX12_readsClimate 53 = .ok (.ifCond .eq 102, 3) := dc_153 (a0 := 0) (b0 := 102) (dc_nn (k := 13) aX12_readsClimate_40 rfl) (by decide)
theorem dX12_readsClimate_56 : decode cX12_readsClimate 56 = .ok (.sipush 3600, 3) := dc_17 (a0 := 14) (b0 := 16) (dc_nn (k := 16) aX12_readsClimate_40 rfl) (by decide)
theorem dX12_readsClimate_59 : decode cX12_readsClimate 59 = .ok (.iload_n 1, 1) := dc_27 (dc_nn (k := 19) aX12_readsClimate_40 rfl)
theorem dX12_readsClimate_60 : decode cX12_readsClimate 60 = .ok (.isub, 1) := dc_100 (dc_nn (k := 20) aX12_readsClimate_40 rfl)
theorem dX12_readsClimate_61 : decode cX12_readsClimate 61 = .ok (.istore_n 3, 1) := dc_62 (dc_nn (k := 21) aX12_readsClimate_40 rfl)
theorem dX12_readsClimate_62 : decode cX12_readsClimate 62 = .ok (.iload_n 2, 1) := dc_28 (dc_nn (k := 22) aX12_readsClimate_40 rfl)
theorem dX12_readsClimate_63 : decode cX12_readsClimate 63 = .ok (.bipush 11, 2) := dc_16 (a0 := 11) (dc_nn (k := 23) aX12_readsClimate_40 rfl) (by decide)
theorem dX12_readsClimate_65 : decode cX12_readsClimate 65 = .ok (.if_icmp .ne 32, 3) := dc_160 (a0 := 0) (b0 := 32) (dc_nn (k := 25) aX12_readsClimate_40 rfl) (by decide)
theorem dX12_readsClimate_68 : decode cX12_readsClimate 68 = .ok (.aload_n 0, 1) := dc_42 (dc_nn (k := 28) aX12_readsClimate_40 rfl)
theorem dX12_readsClimate_69 : decode cX12_readsClimate 69 = .ok (.getfield 159, 3) := dc_180 (a0 := 0) (b0 := 159) (dc_nn (k := 29) aX12_readsClimate_40 rfl)
theorem dX12_readsClimate_72 : decode cX12_readsClimate 72 = .ok (.iconst 2, 1) := dc_5 (dc_nn (k := 32) aX12_readsClimate_40 rfl)
theorem dX12_readsClimate_73 : decode cX12_readsClimate 73 = .ok (.if_icmp .ne 24, 3) := dc_160 (a0 := 0) (b0 := 24) (dc_nn (k := 33) aX12_readsClimate_40 rfl) (by decide)
theorem dX12_readsClimate_76 : decode cX12_readsClimate 76 = .ok (.aload_n 0, 1) := dc_42 (dc_nn (k := 36) aX12_readsClimate_40 rfl)
theorem dX12_readsClimate_77 : decode cX12_readsClimate 77 = .ok (.getfield 169, 3) := dc_180 (a0 := 0) (b0 := 169) (dc_nn (k := 37) aX12_readsClimate_40 rfl)
theorem dX12_readsClimate_80 : decode cX12_readsClimate 80 = .ok (.bipush 7, 2) := dc_16 (a0 := 7) aX12_readsClimate_80 (by decide)
theorem dX12_readsClimate_82 : decode cX12_readsClimate 82 = .ok (.if_icmp .gt 15, 3) := dc_163 (a0 := 0) (b0 := 15) (dc_nn (k := 2) aX12_readsClimate_80 rfl) (by decide)
theorem dX12_readsClimate_85 : decode cX12_readsClimate 85 = .ok (.aload_n 0, 1) := dc_42 (dc_nn (k := 5) aX12_readsClimate_80 rfl)
theorem dX12_readsClimate_86 : decode cX12_readsClimate 86 = .ok (.getfield 156, 3) := dc_180 (a0 := 0) (b0 := 156) (dc_nn (k := 6) aX12_readsClimate_80 rfl)
theorem dX12_readsClimate_89 : decode cX12_readsClimate 89 = .ok (.iload_n 3, 1) := dc_29 (dc_nn (k := 9) aX12_readsClimate_80 rfl)
theorem dX12_readsClimate_90 : decode cX12_readsClimate 90 = .ok (.if_icmp .eq 7, 3) := dc_159 (a0 := 0) (b0 := 7) (dc_nn (k := 10) aX12_readsClimate_80 rfl) (by decide)
theorem dX12_readsClimate_93 : decode cX12_readsClimate 93 = .ok (.iconst (-1), 1) := dc_2 (dc_nn (k := 13) aX12_readsClimate_80 rfl)
theorem dX12_readsClimate_94 : decode cX12_readsClimate 94 = .ok (.goto 4, 3) := dc_167 (a0 := 0) (b0 := 4) (dc_nn (k := 14) aX12_readsClimate_80 rfl) (by decide)
theorem dX12_readsClimate_97 : decode cX12_readsClimate 97 = .ok (.iconst 0, 1) := dc_3 (dc_nn (k := 17) aX12_readsClimate_80 rfl)
theorem dX12_readsClimate_98 : decode cX12_readsClimate 98 = .ok (.istore 4, 2) := dc_54 (a0 := 4) (dc_nn (k := 18) aX12_readsClimate_80 rfl)
theorem dX12_readsClimate_100 : decode cX12_readsClimate 100 = .ok (.iload 4, 2) := dc_21 (a0 := 4) (dc_nn (k := 20) aX12_readsClimate_80 rfl)
theorem dX12_readsClimate_102 : decode cX12_readsClimate 102 = .ok (.iconst (-1), 1) := dc_2 (dc_nn (k := 22) aX12_readsClimate_80 rfl)
theorem dX12_readsClimate_103 : decode cX12_readsClimate 103 = .ok (.if_icmp .ne 8, 3) := dc_160 (a0 := 0) (b0 := 8) (dc_nn (k := 23) aX12_readsClimate_80 rfl) (by decide)
theorem dX12_readsClimate_106 : decode cX12_readsClimate 106 = .ok (.aload_n 0, 1) := dc_42 (dc_nn (k := 26) aX12_readsClimate_80 rfl)
theorem dX12_readsClimate_107 : decode cX12_readsClimate 107 = .ok (.iconst 2, 1) := dc_5 (dc_nn (k := 27) aX12_readsClimate_80 rfl)
theorem dX12_readsClimate_108 : decode cX12_readsClimate 108 = .ok (.invokevirtual 190, 3) := dc_182 (a0 := 0) (b0 := 190) (dc_nn (k := 28) aX12_readsClimate_80 rfl)
theorem dX12_readsClimate_111 : decode cX12_readsClimate 111 = .ok (.aload_n 0, 1) := dc_42 (dc_nn (k := 31) aX12_readsClimate_80 rfl)
theorem dX12_readsClimate_112 : decode cX12_readsClimate 112 = .ok (.iconst 1, 1) := dc_4 (dc_nn (k := 32) aX12_readsClimate_80 rfl)
theorem dX12_readsClimate_113 : decode cX12_readsClimate 113 = .ok (.sipush 3600, 3) := dc_17 (a0 := 14) (b0 := 16) (dc_nn (k := 33) aX12_readsClimate_80 rfl) (by decide)
theorem dX12_readsClimate_116 : decode cX12_readsClimate 116 = .ok (.invokevirtual 201, 3) := dc_182 (a0 := 0) (b0 := 201) (dc_nn (k := 36) aX12_readsClimate_80 rfl)
theorem dX12_readsClimate_119 : decode cX12_readsClimate 119 = .ok (.istore 4, 2) := dc_54 (a0 := 4) (dc_nn (k := 39) aX12_readsClimate_80 rfl)
theorem dX12_readsClimate_121 : decode cX12_readsClimate 121 = .ok (.aload_n 0, 1) := dc_42 aX12_readsClimate_121
theorem dX12_readsClimate_122 : decode cX12_readsClimate 122 = .ok (.invokevirtual 183, 3) := dc_182 (a0 := 0) (b0 := 183) (dc_nn (k := 1) aX12_readsClimate_121 rfl)
theorem dX12_readsClimate_125 : decode cX12_readsClimate 125 = .ok (.ifCond .eq 19, 3) := dc_153 (a0 := 0) (b0 := 19) (dc_nn (k := 4) aX12_readsClimate_121 rfl) (by decide)
theorem dX12_readsClimate_128 : decode cX12_readsClimate 128 = .ok (.aload_n 0, 1) := dc_42 (dc_nn (k := 7) aX12_readsClimate_121 rfl)
theorem dX12_readsClimate_129 : decode cX12_readsClimate 129 = .ok (.getfield 53, 3) := dc_180 (a0 := 0) (b0 := 53) (dc_nn (k := 8) aX12_readsClimate_121 rfl)
theorem dX12_readsClimate_132 : decode cX12_readsClimate 132 = .ok (.bipush 12, 2) := dc_16 (a0 := 12) (dc_nn (k := 11) aX12_readsClimate_121 rfl) (by decide)
theorem dX12_readsClimate_134 : decode cX12_readsClimate 134 = .ok (.aload_n 0, 1) := dc_42 (dc_nn (k := 13) aX12_readsClimate_121 rfl)
theorem dX12_readsClimate_135 : decode cX12_readsClimate 135 = .ok (.getfield 219, 3) := dc_180 (a0 := 0) (b0 := 219) (dc_nn (k := 14) aX12_readsClimate_121 rfl)
theorem dX12_readsClimate_138 : decode cX12_readsClimate 138 = .ok (.imul, 1) := dc_104 (dc_nn (k := 17) aX12_readsClimate_121 rfl)
theorem dX12_readsClimate_139 : decode cX12_readsClimate 139 = .ok (.iload_n 2, 1) := dc_28 (dc_nn (k := 18) aX12_readsClimate_121 rfl)
theorem dX12_readsClimate_140 : decode cX12_readsClimate 140 = .ok (.iadd, 1) := dc_96 (dc_nn (k := 19) aX12_readsClimate_121 rfl)
theorem dX12_readsClimate_141 : decode cX12_readsClimate 141 = .ok (.iload 4, 2) := dc_21 (a0 := 4) (dc_nn (k := 20) aX12_readsClimate_121 rfl)
theorem dX12_readsClimate_143 : decode cX12_readsClimate 143 = .ok (.iastore, 1) := dc_79 (dc_nn (k := 22) aX12_readsClimate_121 rfl)
theorem dX12_readsClimate_144 : decode cX12_readsClimate 144 = .ok (.iload_n 1, 1) := dc_27 (dc_nn (k := 23) aX12_readsClimate_121 rfl)
theorem dX12_readsClimate_145 : decode cX12_readsClimate 145 = .ok (.iload 4, 2) := dc_21 (a0 := 4) (dc_nn (k := 24) aX12_readsClimate_121 rfl)
theorem dX12_readsClimate_147 : decode cX12_readsClimate 147 = .ok (.iadd, 1) := dc_96 (dc_nn (k := 26) aX12_readsClimate_121 rfl)
theorem dX12_readsClimate_148 : decode cX12_readsClimate 148 = .ok (.istore_n 1, 1) := dc_60 (dc_nn (k := 27) aX12_readsClimate_121 rfl)
theorem dX12_readsClimate_149 : decode cX12_readsClimate 149 = .ok (.iinc 2 1, 3) := dc_132 (a0 := 2) (a1 := 1) (dc_nn (k := 28) aX12_readsClimate_121 rfl) (by decide)
theorem dX12_readsClimate_152 : decode cX12_readsClimate 152 = .ok (.goto (-109), 3) := dc_167 (a0 := 255) (b0 := 147) (dc_nn (k := 31) aX12_readsClimate_121 rfl) (by decide)
theorem dX12_readsClimate_155 : decode cX12_readsClimate 155 = .ok (.aload_n 0, 1) := dc_42 (dc_nn (k := 34) aX12_readsClimate_121 rfl)
theorem dX12_readsClimate_156 : decode cX12_readsClimate 156 = .ok (.invokevirtual 183, 3) := dc_182 (a0 := 0) (b0 := 183) (dc_nn (k := 35) aX12_readsClimate_121 rfl)
theorem dX12_readsClimate_159 : decode cX12_readsClimate 159 = .ok (.ifCond .eq 13, 3) := dc_153 (a0 := 0) (b0 := 13) (dc_nn (k := 38) aX12_readsClimate_121 rfl) (by decide)
theorem dX12_readsClimate_162 : decode cX12_readsClimate 162 = .ok (.aload_n 0, 1) := dc_42 aX12_readsClimate_162
theorem dX12_readsClimate_163 : decode cX12_readsClimate 163 = .ok (.dup, 1) := dc_89 (dc_nn (k := 1) aX12_readsClimate_162 rfl)
theorem dX12_readsClimate_164 : decode cX12_readsClimate 164 = .ok (.getfield 219, 3) := dc_180 (a0 := 0) (b0 := 219) (dc_nn (k := 2) aX12_readsClimate_162 rfl)
theorem dX12_readsClimate_167 : decode cX12_readsClimate 167 = .ok (.iconst 1, 1) := dc_4 (dc_nn (k := 5) aX12_readsClimate_162 rfl)
theorem dX12_readsClimate_168 : decode cX12_readsClimate 168 = .ok (.iadd, 1) := dc_96 (dc_nn (k := 6) aX12_readsClimate_162 rfl)
theorem dX12_readsClimate_169 : decode cX12_readsClimate 169 = .ok (.putfield 219, 3) := dc_181 (a0 := 0) (b0 := 219) (dc_nn (k := 7) aX12_readsClimate_162 rfl)
theorem dX12_readsClimate_172 : decode cX12_readsClimate 172 = .ok (.return_, 1) := dc_177 (dc_nn (k := 10) aX12_readsClimate_162 rfl)
set_option maxRecDepth 20000 in
theorem ggX12_readsHand_X12_wrong : GoodIn wsX12_readsHand wsX12_wrong := goodIn_k _ [[8, 0, 0, 0, 47, 0, 0, 0, 0, 0, 0, 0, 0, 0, 0, 0, 0, 0, 0, 0, 0, 0, 0, 0, 0, 0, 0, 0, 0, 0, 0, 0, 0, 0, 0, 0, 0, 0, 0, 0, 0, 0, 0, 0, 0, 0, 0, 0, 0, 0, 0, 0, 0, 0, 0, 0, 0, 0, 0, 0, 0, 0]] (by rfl) (by decide +kernel)
set_option maxRecDepth 20000 in
theorem gX12_readsHand_X12_wrong : GoodIn wsX12_readsHand (wsV RX12 190 RX12 yX12_wrong wsX12_wrong) := goodIn_app (goodIn_k _ [[4, 0, 0, 0]] (by rfl) (gw_V _ _ _ _)) ggX12_readsHand_X12_wrong
set_option maxRecDepth 20000 in
theorem ggX12_readsHand_X12_isGood : GoodIn wsX12_readsHand wsX12_isGood := goodIn_k _ [[15], [9, 49, 0, 0, 0, 0, 0, 0, 0, 0, 0, 0, 0, 0, 0, 0, 0, 0, 0, 0, 0, 0, 0, 0, 0, 0, 0, 0, 0, 0, 0, 0, 0, 0, 0, 0, 0, 0, 0, 0, 0, 0, 0, 0, 0, 0, 0, 0, 0, 0, 0, 0, 0, 0, 0, 0, 0, 0, 0]] (by rfl) (by decide +kernel)
set_option maxRecDepth 20000 in
theorem gX12_readsHand_X12_isGood : GoodIn wsX12_readsHand (wsV RX12 183 RX12 yX12_isGood wsX12_isGood) := goodIn_app (goodIn_k _ [[12, 0, 0], [7]] (by rfl) (gw_V _ _ _ _)) ggX12_readsHand_X12_isGood
set_option maxRecDepth 20000 in
theorem ggX12_readsHand_X12_steps : GoodIn wsX12_readsHand wsX12_steps := goodIn_k _ [[19, 0, 0], [10, 11, 0, 0, 0, 0, 0, 0], [7, 21, 0, 0, 0, 0, 0, 0, 0, 22, 0, 0, 0, 0, 0, 0, 0, 0, 0, 0, 0, 0, 0, 0, 0, 0, 0, 0, 0, 0, 0, 0, 0, 0, 0, 0, 0, 0, 0, 0, 0, 0, 0, 0, 0, 0, 0, 0, 0, 0, 0, 0, 0, 0, 0, 0, 0, 0, 0, 0, 0, 0, 0, 0, 0, 0, 0]] (by rfl) (by decide +kernel)
set_option maxRecDepth 20000 in
theorem gX12_readsHand_X12_steps : GoodIn wsX12_readsHand (wsV RX12 187 RX12 yX12_steps wsX12_steps) := goodIn_app (goodIn_k _ [[16, 0, 0], [7]] (by rfl) (gw_V _ _ _ _)) ggX12_readsHand_X12_steps
set_option maxRecDepth 20000 in
theorem ggX12_readsHand_X12_number : GoodIn wsX12_readsHand wsX12_number := goodIn_k _ [[40], [24, 0], [23], [12, 0, 0], [7, 7], [9], [4, 0, 0, 1, 1, 0, 4, 0, 0, 0, 0, 0, 0, 3, 0, 0, 0, 0, 0, 0, 0, 0, 0, 0, 22, 0, 0, 0, 0, 0, 0, 0, 0, 0, 0, 0, 0, 0, 0, 0, 0, 0, 0, 0, 0, 0, 0, 0, 0, 0, 0, 0, 0, 0, 0, 0, 0, 0, 0, 0, 0, 0, 0, 0, 0, 0, 0, 0, 0, 0, 0, 0, 0, 0, 0, 0, 0, 0, 0, 0, 0, 0]] (by rfl) (by decide +kernel)
set_option maxRecDepth 20000 in
theorem gX12_readsHand_X12_number : GoodIn wsX12_readsHand (wsV RX12 201 RX12 yX12_number wsX12_number) := goodIn_app (goodIn_k _ [[37, 0, 0], [7]] (by rfl) (gw_V _ _ _ _)) ggX12_readsHand_X12_number
set_option maxRecDepth 20000 in
theorem ggX12_readsHand_X12_named : GoodIn wsX12_readsHand wsX12_named := goodIn_k _ [[44, 0, 0, 0], [7, 40], [24, 0], [22, 26, 0, 0, 0, 0, 0, 0, 0, 0, 0], [12, 0, 0, 0], [9, 6, 0, 0, 0, 0, 0], [10, 12, 2, 0, 0, 0, 0, 0, 0, 0, 0, 0, 0], [4, 0, 0, 1, 2, 25, 0, 0, 0, 18, 0, 0, 0, 0, 0, 0, 0, 0, 0, 0, 0, 0, 0, 0, 0, 0, 0, 0, 0, 0, 0, 0, 0, 0, 0, 0, 0, 0, 0, 0, 0, 0, 0, 0, 0, 0, 0, 0, 0, 0, 0, 0, 0, 0, 0, 0, 0, 0, 0, 0, 0, 0, 0, 0, 0, 0, 0]] (by rfl) (by decide +kernel)
set_option maxRecDepth 20000 in
theorem gX12_readsHand_X12_named : GoodIn wsX12_readsHand (wsV RX12 213 RX12 yX12_named wsX12_named) := goodIn_app (goodIn_k _ [[41, 0, 0], [7]] (by rfl) (gw_V _ _ _ _)) ggX12_readsHand_X12_named
noncomputable def sX12_readsHand_82 : List Nat := 177 :: []
noncomputable def sX12_readsHand_40 : List Nat := 182 :: 0 :: 213 :: 61 :: 42 :: 182 :: 0 :: 183 :: 154 :: 0 :: 4 :: 177 :: 42 :: 180 :: 0 :: 59 :: 42 :: 180 :: 0 :: 222 :: 27 :: 79 :: 42 :: 180 :: 0 :: 56 :: 42 :: 180 :: 0 :: 222 :: 28 :: 79 :: 42 :: 89 :: 180 :: 0 :: 222 :: 4 :: 96 :: 181 :: 0 :: 222 :: sX12_readsHand_82
noncomputable def sX12_readsHand_0 : List Nat := 42 :: 180 :: 0 :: 222 :: 16 :: 30 :: 160 :: 0 :: 8 :: 42 :: 5 :: 182 :: 0 :: 190 :: 42 :: 182 :: 0 :: 183 :: 154 :: 0 :: 4 :: 177 :: 42 :: 182 :: 0 :: 187 :: 42 :: 3 :: 16 :: 29 :: 182 :: 0 :: 201 :: 60 :: 42 :: 16 :: 18 :: 3 :: 16 :: 29 :: sX12_readsHand_40
theorem aX12_readsHand_0 : dc_at cX12_readsHand 0 sX12_readsHand_0 := dc_base (by decide +kernel)
theorem aX12_readsHand_40 : dc_at cX12_readsHand 40 sX12_readsHand_40 := dc_nn (k := 40) aX12_readsHand_0 rfl
theorem aX12_readsHand_82 : dc_at cX12_readsHand 82 sX12_readsHand_82 := dc_nn (k := 42) aX12_readsHand_40 rfl
theorem dX12_readsHand_0 : decode cX12_readsHand 0 = .ok (.aload_n 0, 1) := dc_42 aX12_readsHand_0
theorem dX12_readsHand_1 : decode cX12_readsHand 1 = .ok (.getfield 222, 3) := dc_180 (a0 := 0) (b0 := 222) (dc_nn (k := 1) aX12_readsHand_0 rfl)
theorem dX12_readsHand_4 : decode cX12_readsHand 4 = .ok (.bipush 30, 2) := dc_16 (a0 := 30) (dc_nn (k := 4) aX12_readsHand_0 rfl) (by decide)
theorem dX12_readsHand_6 : decode cX12_readsHand 6 = .ok (.if_icmp .ne 8, 3) := dc_160 (a0 := 0) (b0 := 8) (dc_nn (k := 6) aX12_readsHand_0 rfl) (by decide)
theorem dX12_readsHand_9 : decode cX12_readsHand 9 = .ok (.aload_n 0, 1) := dc_42 (dc_nn (k := 9) aX12_readsHand_0 rfl)
theorem dX12_readsHand_10 : decode cX12_readsHand 10 = .ok (.iconst 2, 1) := dc_5 (dc_nn (k := 10) aX12_readsHand_0 rfl)
theorem dX12_readsHand_11 : decode cX12_readsHand 11 = .ok (.invokevirtual 190, 3) := dc_182 (a0 := 0) (b0 := 190) (dc_nn (k := 11) aX12_readsHand_0 rfl)
theorem dX12_readsHand_14 : decode cX12_readsHand 14 = .ok (.aload_n 0, 1) := dc_42 (dc_nn (k := 14) aX12_readsHand_0 rfl)
theorem dX12_readsHand_15 : decode cX12_readsHand 15 = .ok (.invokevirtual 183, 3) := dc_182 (a0 := 0) (b0 := 183) (dc_nn (k := 15) aX12_readsHand_0 rfl)
theorem dX12_readsHand_18 : decode cX12_readsHand 18 = .ok (.ifCond .ne 4, 3) := dc_154 (a0 := 0) (b0 := 4) (dc_nn (k := 18) aX12_readsHand_0 rfl) (by decide)
theorem dX12_readsHand_21 : decode cX12_readsHand 21 = .ok (.return_, 1) := dc_177 (dc_nn (k := 21) aX12_readsHand_0 rfl)
theorem dX12_readsHand_22 : decode cX12_readsHand 22 = .ok (.aload_n 0, 1) := dc_42 (dc_nn (k := 22) aX12_readsHand_0 rfl)
theorem dX12_readsHand_23 : decode cX12_readsHand 23 = .ok (.invokevirtual 187, 3) := dc_182 (a0 := 0) (b0 := 187) (dc_nn (k := 23) aX12_readsHand_0 rfl)
theorem dX12_readsHand_26 : decode cX12_readsHand 26 = .ok (.aload_n 0, 1) := dc_42 (dc_nn (k := 26) aX12_readsHand_0 rfl)
theorem dX12_readsHand_27 : decode cX12_readsHand 27 = .ok (.iconst 0, 1) := dc_3 (dc_nn (k := 27) aX12_readsHand_0 rfl)
theorem dX12_readsHand_28 : decode cX12_readsHand 28 = .ok (.bipush 29, 2) := dc_16 (a0 := 29) (dc_nn (k := 28) aX12_readsHand_0 rfl) (by decide)
theorem dX12_readsHand_30 : decode cX12_readsHand 30 = .ok (.invokevirtual 201, 3) := dc_182 (a0 := 0) (b0 := 201) (dc_nn (k := 30) aX12_readsHand_0 rfl)
theorem dX12_readsHand_33 : decode cX12_readsHand 33 = .ok (.istore_n 1, 1) := dc_60 (dc_nn (k := 33) aX12_readsHand_0 rfl)
theorem dX12_readsHand_34 : decode cX12_readsHand 34 = .ok (.aload_n 0, 1) := dc_42 (dc_nn (k := 34) aX12_readsHand_0 rfl)
theorem dX12_readsHand_35 : decode cX12_readsHand 35 = .ok (.bipush 18, 2) := dc_16 (a0 := 18) (dc_nn (k := 35) aX12_readsHand_0 rfl) (by decide)
theorem dX12_readsHand_37 : decode cX12_readsHand 37 = .ok (.iconst 0, 1) := dc_3 (dc_nn (k := 37) aX12_readsHand_0 rfl)
theorem dX12_readsHand_38 : decode cX12_readsHand 38 = .ok (.bipush 29, 2) := dc_16 (a0 := 29) (dc_nn (k := 38) aX12_readsHand_0 rfl) (by decide)
theorem dX12_readsHand_40 : decode cX12_readsHand 40 = .ok (.invokevirtual 213, 3) := dc_182 (a0 := 0) (b0 := 213) aX12_readsHand_40
theorem dX12_readsHand_43 : decode cX12_readsHand 43 = .ok (.istore_n 2, 1) := dc_61 (dc_nn (k := 3) aX12_readsHand_40 rfl)
theorem dX12_readsHand_44 : decode cX12_readsHand 44 = .ok (.aload_n 0, 1) := dc_42 (dc_nn (k := 4) aX12_readsHand_40 rfl)
theorem dX12_readsHand_45 : decode cX12_readsHand 45 = .ok (.invokevirtual 183, 3) := dc_182 (a0 := 0) (b0 := 183) (dc_nn (k := 5) aX12_readsHand_40 rfl)
theorem dX12_readsHand_48 : decode cX12_readsHand 48 = .ok (.ifCond .ne 4, 3) := dc_154 (a0 := 0) (b0 := 4) (dc_nn (k := 8) aX12_readsHand_40 rfl) (by decide)
theorem dX12_readsHand_51 : decode cX12_readsHand 51 = .ok (.return_, 1) := dc_177 (dc_nn (k := 11) aX12_readsHand_40 rfl)
theorem dX12_readsHand_52 : decode cX12_readsHand 52 = .ok (.aload_n 0, 1) := dc_42 (dc_nn (k := 12) aX12_readsHand_40 rfl)
theorem dX12_readsHand_53 : decode cX12_readsHand 53 = .ok (.getfield 59, 3) := dc_180 (a0 := 0) (b0 := 59) (dc_nn (k := 13) aX12_readsHand_40 rfl)
theorem dX12_readsHand_56 : decode cX12_readsHand 56 = .ok (.aload_n 0, 1) := dc_42 (dc_nn (k := 16) aX12_readsHand_40 rfl)
theorem dX12_readsHand_57 : decode cX12_readsHand 57 = .ok (.getfield 222, 3) := dc_180 (a0 := 0) (b0 := 222) (dc_nn (k := 17) aX12_readsHand_40 rfl)
theorem dX12_readsHand_60 : decode cX12_readsHand 60 = .ok (.iload_n 1, 1) := dc_27 (dc_nn (k := 20) aX12_readsHand_40 rfl)
theorem dX12_readsHand_61 : decode cX12_readsHand 61 = .ok (.iastore, 1) := dc_79 (dc_nn (k := 21) aX12_readsHand_40 rfl)
theorem dX12_readsHand_62 : decode cX12_readsHand 62 = .ok (.aload_n 0, 1) := dc_42 (dc_nn (k := 22) aX12_readsHand_40 rfl)
theorem dX12_readsHand_63 : decode cX12_readsHand 63 = .ok (.getfield 56, 3) := dc_180 (a0 := 0) (b0 := 56) (dc_nn (k := 23) aX12_readsHand_40 rfl)
theorem dX12_readsHand_66 : decode cX12_readsHand 66 = .ok (.aload_n 0, 1) := dc_42 (dc_nn (k := 26) aX12_readsHand_40 rfl)
theorem dX12_readsHand_67 : decode cX12_readsHand 67 = .ok (.getfield 222, 3) := dc_180 (a0 := 0) (b0 := 222) (dc_nn (k := 27) aX12_readsHand_40 rfl)
theorem dX12_readsHand_70 : decode cX12_readsHand 70 = .ok (.iload_n 2, 1) := dc_28 (dc_nn (k := 30) aX12_readsHand_40 rfl)
theorem dX12_readsHand_71 : decode cX12_readsHand 71 = .ok (.iastore, 1) := dc_79 (dc_nn (k := 31) aX12_readsHand_40 rfl)
theorem dX12_readsHand_72 : decode cX12_readsHand 72 = .ok (.aload_n 0, 1) := dc_42 (dc_nn (k := 32) aX12_readsHand_40 rfl)
theorem dX12_readsHand_73 : decode cX12_readsHand 73 = .ok (.dup, 1) := dc_89 (dc_nn (k := 33) aX12_readsHand_40 rfl)
theorem dX12_readsHand_74 : decode cX12_readsHand 74 = .ok (.getfield 222, 3) := dc_180 (a0 := 0) (b0 := 222) (dc_nn (k := 34) aX12_readsHand_40 rfl)
theorem dX12_readsHand_77 : decode cX12_readsHand 77 = .ok (.iconst 1, 1) := dc_4 (dc_nn (k := 37) aX12_readsHand_40 rfl)
theorem dX12_readsHand_78 : decode cX12_readsHand 78 = .ok (.iadd, 1) := dc_96 (dc_nn (k := 38) aX12_readsHand_40 rfl)
theorem dX12_readsHand_79 : decode cX12_readsHand 79 = .ok (.putfield 222, 3) := dc_181 (a0 := 0) (b0 := 222) (dc_nn (k := 39) aX12_readsHand_40 rfl)
theorem dX12_readsHand_82 : decode cX12_readsHand 82 = .ok (.return_, 1) := dc_177 aX12_readsHand_82
noncomputable def sX12_copies_0 : List Nat := 3 :: 62 :: 29 :: 43 :: 190 :: 162 :: 0 :: 15 :: 44 :: 29 :: 43 :: 29 :: 46 :: 79 :: 132 :: 3 :: 1 :: 167 :: 255 :: 241 :: 177 :: []
theorem aX12_copies_0 : dc_at cX12_copies 0 sX12_copies_0 := dc_base (by decide +kernel)
theorem dX12_copies_0 : decode cX12_copies 0 = .ok (.iconst 0, 1) := dc_3 aX12_copies_0
theorem dX12_copies_1 : decode cX12_copies 1 = .ok (.istore_n 3, 1) := dc_62 (dc_nn (k := 1) aX12_copies_0 rfl)
theorem dX12_copies_2 : decode cX12_copies 2 = .ok (.iload_n 3, 1) := dc_29 (dc_nn (k := 2) aX12_copies_0 rfl)
theorem dX12_copies_3 : decode cX12_copies 3 = .ok (.aload_n 1, 1) := dc_43 (dc_nn (k := 3) aX12_copies_0 rfl)
theorem dX12_copies_4 : decode cX12_copies 4 = .ok (.arraylength, 1) := dc_190 (dc_nn (k := 4) aX12_copies_0 rfl)
theorem dX12_copies_5 : decode cX12_copies 5 = .ok (.if_icmp .ge 15, 3) := dc_162 (a0 := 0) (b0 := 15) (dc_nn (k := 5) aX12_copies_0 rfl) (by decide)
theorem dX12_copies_8 : decode cX12_copies 8 = .ok (.aload_n 2, 1) := dc_44 (dc_nn (k := 8) aX12_copies_0 rfl)
theorem dX12_copies_9 : decode cX12_copies 9 = .ok (.iload_n 3, 1) := dc_29 (dc_nn (k := 9) aX12_copies_0 rfl)
theorem dX12_copies_10 : decode cX12_copies 10 = .ok (.aload_n 1, 1) := dc_43 (dc_nn (k := 10) aX12_copies_0 rfl)
theorem dX12_copies_11 : decode cX12_copies 11 = .ok (.iload_n 3, 1) := dc_29 (dc_nn (k := 11) aX12_copies_0 rfl)
theorem dX12_copies_12 : decode cX12_copies 12 = .ok (.iaload, 1) := dc_46 (dc_nn (k := 12) aX12_copies_0 rfl)
theorem dX12_copies_13 : decode cX12_copies 13 = .ok (.iastore, 1) := dc_79 (dc_nn (k := 13) aX12_copies_0 rfl)
theorem dX12_copies_14 : decode cX12_copies 14 = .ok (.iinc 3 1, 3) := dc_132 (a0 := 3) (a1 := 1) (dc_nn (k := 14) aX12_copies_0 rfl) (by decide)
theorem dX12_copies_17 : decode cX12_copies 17 = .ok (.goto (-15), 3) := dc_167 (a0 := 255) (b0 := 241) (dc_nn (k := 17) aX12_copies_0 rfl) (by decide)
theorem dX12_copies_20 : decode cX12_copies 20 = .ok (.return_, 1) := dc_177 (dc_nn (k := 20) aX12_copies_0 rfl)
set_option maxRecDepth 20000 in
theorem ggX12_house_X12_begins : GoodIn wsX12_house wsX12_begins := goodIn_k _ [[27, 0], [1, 0, 26], [22, 7, 0, 0, 0, 0], [26, 8, 0, 0, 0, 0, 0, 0, 0], [21, 21, 0, 0, 0, 0, 0, 0, 0, 0, 0, 0, 0, 48, 0, 0, 0, 0, 0, 0, 0, 0, 0, 0, 0, 0, 0, 0, 0, 0, 0, 0, 0, 0, 0, 0, 0, 0, 0, 0, 0, 0, 0, 0, 0, 0, 0, 0, 0, 0, 0, 0, 0, 0, 0, 0, 0, 0, 0, 0, 0, 0, 0, 0, 0, 0, 0, 0, 0, 0, 0]] (by rfl) (by decide +kernel)
set_option maxRecDepth 20000 in
theorem gX12_house_X12_begins : GoodIn wsX12_house (wsV RX12 225 RX12 yX12_begins wsX12_begins) := goodIn_app (goodIn_k _ [[23, 0, 0, 0]] (by rfl) (gw_V _ _ _ _)) ggX12_house_X12_begins
set_option maxRecDepth 20000 in
theorem ggX12_house_X12_copies : GoodIn wsX12_house wsX12_copies := goodIn_k _ [[58]] (by rfl) (by decide +kernel)
set_option maxRecDepth 20000 in
theorem gX12_house_X12_copies : GoodIn wsX12_house (wsV RX12 234 RX12 yX12_copies wsX12_copies) := goodIn_app (goodIn_k _ [[55, 0, 0], [26]] (by rfl) (gw_V _ _ _ _)) ggX12_house_X12_copies
set_option maxRecDepth 20000 in
theorem ggX12_house_X12_isGood : GoodIn wsX12_house wsX12_isGood := goodIn_k _ [[62], [22, 80, 0, 0, 0, 0, 0, 0, 0, 0, 0, 0, 0, 0, 0, 0, 0, 0, 0, 0, 0, 0, 0, 0, 0, 0, 0, 0, 0, 0, 0, 0, 0, 0, 0, 0, 0, 0, 0, 0, 0, 0, 0, 0, 0, 0, 0, 0, 0, 0, 0, 0, 0, 0, 0, 0, 0, 0, 0]] (by rfl) (by decide +kernel)
set_option maxRecDepth 20000 in
theorem gX12_house_X12_isGood : GoodIn wsX12_house (wsV RX12 183 RX12 yX12_isGood wsX12_isGood) := goodIn_app (goodIn_k _ [[59, 0, 0], [26]] (by rfl) (gw_V _ _ _ _)) ggX12_house_X12_isGood
set_option maxRecDepth 20000 in
theorem ggX12_house_X12_knownWord : GoodIn wsX12_house wsX12_knownWord := goodIn_k _ [[66], [21, 21], [41, 25, 0], [26, 42, 0, 0, 0, 30, 0, 0, 0, 0, 0, 0, 0, 0, 0, 0, 0, 0, 0, 0, 0, 0, 0, 0, 0, 0, 0, 0, 0, 0, 0, 0, 0, 0, 0, 0, 0, 0, 0, 0, 0, 0, 0, 0, 0, 0, 0, 0, 0, 0, 0, 0, 0, 0, 0, 0, 0, 0, 0, 0, 0, 0, 0]] (by rfl) (by decide +kernel)
set_option maxRecDepth 20000 in
theorem gX12_house_X12_knownWord : GoodIn wsX12_house (wsV RX12 193 RX12 yX12_knownWord wsX12_knownWord) := goodIn_app (goodIn_k _ [[63, 0, 0], [26]] (by rfl) (gw_V _ _ _ _)) ggX12_house_X12_knownWord
set_option maxRecDepth 20000 in
theorem ggX12_house_X12_readsSet : GoodIn wsX12_house wsX12_readsSet := goodIn_k _ [[76, 0, 0], [8, 1, 1, 1, 21, 0, 0], [26, 12], [31], [30, 9, 0, 0], [21, 21, 0, 0, 0, 0, 0, 0, 0, 0, 0, 0, 0, 24, 0, 0, 0], [59, 0, 0, 0], [22, 60, 0, 0, 0], [29, 33, 0, 0, 0, 0, 0, 0, 0, 0, 0, 14, 0, 0, 0, 0, 0, 0, 0, 8, 0, 0, 0, 0, 0, 0, 0, 0, 0, 0, 0, 0, 0, 0, 0, 0, 0, 0, 0, 0, 0, 0, 0, 0, 0, 0, 0, 0, 0, 0, 0, 0, 0, 0, 0, 0, 0, 0, 0, 0, 0, 0, 0, 0, 0, 0, 0, 0, 0, 0, 0, 0, 0, 0, 0, 0, 0]] (by rfl) (by decide +kernel)
set_option maxRecDepth 20000 in
theorem gX12_house_X12_readsSet : GoodIn wsX12_house (wsV RX12 238 RX12 yX12_readsSet wsX12_readsSet) := goodIn_app (goodIn_k _ [[73, 0, 0], [26]] (by rfl) (gw_V _ _ _ _)) ggX12_house_X12_readsSet
set_option maxRecDepth 20000 in
theorem ggX12_house_X12_readsClimate : GoodIn wsX12_house wsX12_readsClimate := goodIn_k _ [[98], [4, 16, 21], [42], [16, 66, 0, 0], [26, 59], [22, 17], [29, 29, 0, 0, 0], [36, 0, 0, 0], [31], [30, 10, 2, 0, 0, 0, 0, 0, 0, 0, 0, 0, 0, 24, 0, 0, 0, 20, 0, 0, 0, 0, 0, 0, 0, 0, 0, 0, 0, 0, 0, 0, 0, 0, 0, 0, 0, 0, 0, 0, 0, 0, 0, 0, 0, 0, 0, 0, 0, 0, 0, 0, 0, 0, 0, 0, 0, 0, 0, 0, 0, 0, 0, 0, 0, 0, 0, 0, 0, 0, 0, 0, 0, 0, 0]] (by rfl) (by decide +kernel)
set_option maxRecDepth 20000 in
theorem gX12_house_X12_readsClimate : GoodIn wsX12_house (wsV RX12 241 RX12 yX12_readsClimate wsX12_readsClimate) := goodIn_app (goodIn_k _ [[95, 0, 0], [26]] (by rfl) (gw_V _ _ _ _)) ggX12_house_X12_readsClimate
set_option maxRecDepth 20000 in
theorem ggX12_house_X12_readsHand : GoodIn wsX12_house wsX12_readsHand := goodIn_k _ [[102], [6, 13], [18, 64, 0, 0], [26, 59], [22, 17], [29, 29, 0, 0, 0], [36, 0, 0, 0], [31], [30, 10, 0], [21, 21, 0, 0, 0, 0, 0, 0, 0, 0, 0, 0, 0, 24, 0, 0, 0, 8, 0, 0, 0], [63, 0, 0, 0, 0, 0, 0, 0, 0, 0, 14, 0, 0, 0, 12, 0, 0, 0, 0, 0, 0, 0, 0, 0, 0, 0, 0, 0, 0, 0, 0, 0, 0, 0, 0, 0, 0, 0, 0, 0, 0, 0, 0, 0, 0, 0, 0, 0, 0, 0, 0, 0, 0, 0, 0, 0, 0, 0, 0, 0, 0, 0, 0, 0, 0, 0, 0, 0, 0, 0, 0, 0]] (by rfl) (by decide +kernel)
set_option maxRecDepth 20000 in
theorem gX12_house_X12_readsHand : GoodIn wsX12_house (wsV RX12 244 RX12 yX12_readsHand wsX12_readsHand) := goodIn_app (goodIn_k _ [[99, 0, 0], [26]] (by rfl) (gw_V _ _ _ _)) ggX12_house_X12_readsHand
set_option maxRecDepth 20000 in
theorem ggX12_house_X12_wrong : GoodIn wsX12_house wsX12_wrong := goodIn_k _ [[86], [22, 17], [29, 73, 0, 0, 0, 0, 0, 0, 0, 0, 0, 0, 0, 0, 0, 0, 0, 0, 0, 0, 0, 0, 0, 0, 0, 0, 0, 0, 0, 0, 0, 0, 0, 0, 0, 0, 0, 0, 0, 0, 0, 0, 0, 0, 0, 0, 0, 0, 0, 0, 0, 0, 0, 0, 0, 0, 0, 0, 0]] (by rfl) (by decide +kernel)
set_option maxRecDepth 20000 in
theorem gX12_house_X12_wrong : GoodIn wsX12_house (wsV RX12 190 RX12 yX12_wrong wsX12_wrong) := goodIn_app (goodIn_k _ [[83, 0, 0], [26]] (by rfl) (gw_V _ _ _ _)) ggX12_house_X12_wrong
set_option maxRecDepth 20000 in
theorem ggX12_house_X12_need : GoodIn wsX12_house wsX12_need := goodIn_k _ [[90], [59, 0, 0], [26, 35], [22, 13, 0, 0, 0], [31], [30, 9, 0, 0], [21, 21, 0, 0, 0, 0, 0, 0, 0, 0, 0, 0, 0, 28, 0, 0, 0], [29, 73, 0, 0, 0, 0, 0, 0, 0, 0, 0, 0, 0, 0, 0, 0, 0, 0, 0, 0, 0, 0, 0, 0, 0, 0, 0, 0, 0, 0, 0, 0, 0, 0, 0, 0, 0, 0, 0, 0, 0, 0, 0, 0, 0, 0, 0, 0, 0, 0, 0, 0, 0, 0, 0, 0, 0, 0, 0]] (by rfl) (by decide +kernel)
set_option maxRecDepth 20000 in
theorem gX12_house_X12_need : GoodIn wsX12_house (wsV RX12 197 RX12 yX12_need wsX12_need) := goodIn_app (goodIn_k _ [[87, 0, 0], [26]] (by rfl) (gw_V _ _ _ _)) ggX12_house_X12_need
noncomputable def sX12_house_284 : List Nat := 42 :: 180 :: 0 :: 22 :: 182 :: 0 :: 234 :: 42 :: 42 :: 180 :: 0 :: 56 :: 42 :: 180 :: 0 :: 25 :: 182 :: 0 :: 234 :: 42 :: 42 :: 180 :: 0 :: 59 :: 42 :: 180 :: 0 :: 28 :: 182 :: 0 :: 234 :: 3 :: 172 :: []
noncomputable def sX12_house_243 : List Nat := 42 :: 42 :: 180 :: 0 :: 44 :: 42 :: 180 :: 0 :: 13 :: 182 :: 0 :: 234 :: 42 :: 42 :: 180 :: 0 :: 47 :: 42 :: 180 :: 0 :: 16 :: 182 :: 0 :: 234 :: 42 :: 42 :: 180 :: 0 :: 50 :: 42 :: 180 :: 0 :: 19 :: 182 :: 0 :: 234 :: 42 :: 42 :: 180 :: 0 :: 53 :: sX12_house_284
noncomputable def sX12_house_203 : List Nat := 42 :: 182 :: 0 :: 183 :: 154 :: 0 :: 8 :: 42 :: 180 :: 0 :: 180 :: 172 :: 42 :: 42 :: 180 :: 0 :: 219 :: 181 :: 0 :: 228 :: 42 :: 42 :: 180 :: 0 :: 222 :: 181 :: 0 :: 231 :: 42 :: 42 :: 180 :: 0 :: 41 :: 42 :: 180 :: 0 :: 7 :: 182 :: 0 :: 234 :: sX12_house_243
noncomputable def sX12_house_162 : List Nat := 167 :: 0 :: 21 :: 28 :: 16 :: 17 :: 160 :: 0 :: 10 :: 42 :: 182 :: 0 :: 244 :: 167 :: 0 :: 8 :: 42 :: 4 :: 182 :: 0 :: 190 :: 42 :: 42 :: 180 :: 0 :: 159 :: 6 :: 160 :: 0 :: 7 :: 4 :: 167 :: 0 :: 4 :: 3 :: 182 :: 0 :: 197 :: 167 :: 255 :: 176 :: sX12_house_203
noncomputable def sX12_house_121 : List Nat := 182 :: 0 :: 183 :: 153 :: 0 :: 79 :: 42 :: 180 :: 0 :: 159 :: 153 :: 0 :: 72 :: 42 :: 182 :: 0 :: 193 :: 61 :: 28 :: 16 :: 11 :: 160 :: 0 :: 10 :: 42 :: 182 :: 0 :: 238 :: 167 :: 0 :: 34 :: 28 :: 16 :: 16 :: 160 :: 0 :: 10 :: 42 :: 182 :: 0 :: 241 :: sX12_house_162
noncomputable def sX12_house_81 : List Nat := 182 :: 0 :: 234 :: 42 :: 42 :: 180 :: 0 :: 22 :: 42 :: 180 :: 0 :: 53 :: 182 :: 0 :: 234 :: 42 :: 42 :: 180 :: 0 :: 25 :: 42 :: 180 :: 0 :: 56 :: 182 :: 0 :: 234 :: 42 :: 42 :: 180 :: 0 :: 28 :: 42 :: 180 :: 0 :: 59 :: 182 :: 0 :: 234 :: 42 :: sX12_house_121
noncomputable def sX12_house_41 : List Nat := 42 :: 180 :: 0 :: 41 :: 182 :: 0 :: 234 :: 42 :: 42 :: 180 :: 0 :: 13 :: 42 :: 180 :: 0 :: 44 :: 182 :: 0 :: 234 :: 42 :: 42 :: 180 :: 0 :: 16 :: 42 :: 180 :: 0 :: 47 :: 182 :: 0 :: 234 :: 42 :: 42 :: 180 :: 0 :: 19 :: 42 :: 180 :: 0 :: 50 :: sX12_house_81
noncomputable def sX12_house_0 : List Nat := 42 :: 3 :: 181 :: 0 :: 129 :: 42 :: 3 :: 181 :: 0 :: 205 :: 42 :: 27 :: 182 :: 0 :: 225 :: 154 :: 0 :: 5 :: 3 :: 172 :: 42 :: 42 :: 180 :: 0 :: 228 :: 181 :: 0 :: 219 :: 42 :: 42 :: 180 :: 0 :: 231 :: 181 :: 0 :: 222 :: 42 :: 42 :: 180 :: 0 :: 7 :: sX12_house_41
theorem aX12_house_0 : dc_at cX12_house 0 sX12_house_0 := dc_base (by decide +kernel)
theorem aX12_house_41 : dc_at cX12_house 41 sX12_house_41 := dc_nn (k := 41) aX12_house_0 rfl
theorem aX12_house_81 : dc_at cX12_house 81 sX12_house_81 := dc_nn (k := 40) aX12_house_41 rfl
theorem aX12_house_121 : dc_at cX12_house 121 sX12_house_121 := dc_nn (k := 40) aX12_house_81 rfl
theorem aX12_house_162 : dc_at cX12_house 162 sX12_house_162 := dc_nn (k := 41) aX12_house_121 rfl
theorem aX12_house_203 : dc_at cX12_house 203 sX12_house_203 := dc_nn (k := 41) aX12_house_162 rfl
theorem aX12_house_243 : dc_at cX12_house 243 sX12_house_243 := dc_nn (k := 40) aX12_house_203 rfl
theorem aX12_house_284 : dc_at cX12_house 284 sX12_house_284 := dc_nn (k := 41) aX12_house_243 rfl
theorem dX12_house_0 : decode cX12_house 0 = .ok (.aload_n 0, 1) := dc_42 aX12_house_0
theorem dX12_house_1 : decode cX12_house 1 = .ok (.iconst 0, 1) := dc_3 (dc_nn (k := 1) aX12_house_0 rfl)
theorem dX12_house_2 : decode cX12_house 2 = .ok (.putfield 129, 3) := dc_181 (a0 := 0) (b0 := 129) (dc_nn (k := 2) aX12_house_0 rfl)
theorem dX12_house_5 : decode cX12_house 5 = .ok (.aload_n 0, 1) := dc_42 (dc_nn (k := 5) aX12_house_0 rfl)
theorem dX12_house_6 : decode cX12_house 6 = .ok (.iconst 0, 1) := dc_3 (dc_nn (k := 6) aX12_house_0 rfl)
theorem dX12_house_7 : decode cX12_house 7 = .ok (.putfield 205, 3) := dc_181 (a0 := 0) (b0 := 205) (dc_nn (k := 7) aX12_house_0 rfl)
theorem dX12_house_10 : decode cX12_house 10 = .ok (.aload_n 0, 1) := dc_42 (dc_nn (k := 10) aX12_house_0 rfl)
theorem dX12_house_11 : decode cX12_house 11 = .ok (.iload_n 1, 1) := dc_27 (dc_nn (k := 11) aX12_house_0 rfl)
theorem dX12_house_12 : decode cX12_house 12 = .ok (.invokevirtual 225, 3) := dc_182 (a0 := 0) (b0 := 225) (dc_nn (k := 12) aX12_house_0 rfl)
theorem dX12_house_15 : decode cX12_house 15 = .ok (.ifCond .ne 5, 3) := dc_154 (a0 := 0) (b0 := 5) (dc_nn (k := 15) aX12_house_0 rfl) (by decide)
theorem dX12_house_18 : decode cX12_house 18 = .ok (.iconst 0, 1) := dc_3 (dc_nn (k := 18) aX12_house_0 rfl)
theorem dX12_house_19 : decode cX12_house 19 = .ok (.ireturn, 1) := dc_172 (dc_nn (k := 19) aX12_house_0 rfl)
theorem dX12_house_20 : decode cX12_house 20 = .ok (.aload_n 0, 1) := dc_42 (dc_nn (k := 20) aX12_house_0 rfl)
theorem dX12_house_21 : decode cX12_house 21 = .ok (.aload_n 0, 1) := dc_42 (dc_nn (k := 21) aX12_house_0 rfl)
theorem dX12_house_22 : decode cX12_house 22 = .ok (.getfield 228, 3) := dc_180 (a0 := 0) (b0 := 228) (dc_nn (k := 22) aX12_house_0 rfl)
theorem dX12_house_25 : decode cX12_house 25 = .ok (.putfield 219, 3) := dc_181 (a0 := 0) (b0 := 219) (dc_nn (k := 25) aX12_house_0 rfl)
theorem dX12_house_28 : decode cX12_house 28 = .ok (.aload_n 0, 1) := dc_42 (dc_nn (k := 28) aX12_house_0 rfl)
theorem dX12_house_29 : decode cX12_house 29 = .ok (.aload_n 0, 1) := dc_42 (dc_nn (k := 29) aX12_house_0 rfl)
theorem dX12_house_30 : decode cX12_house 30 = .ok (.getfield 231, 3) := dc_180 (a0 := 0) (b0 := 231) (dc_nn (k := 30) aX12_house_0 rfl)
theorem dX12_house_33 : decode cX12_house 33 = .ok (.putfield 222, 3) := dc_181 (a0 := 0) (b0 := 222) (dc_nn (k := 33) aX12_house_0 rfl)
theorem dX12_house_36 : decode cX12_house 36 = .ok (.aload_n 0, 1) := dc_42 (dc_nn (k := 36) aX12_house_0 rfl)
theorem dX12_house_37 : decode cX12_house 37 = .ok (.aload_n 0, 1) := dc_42 (dc_nn (k := 37) aX12_house_0 rfl)
theorem dX12_house_38 : decode cX12_house 38 = .ok (.getfield 7, 3) := dc_180 (a0 := 0) (b0 := 7) (dc_nn (k := 38) aX12_house_0 rfl)
theorem dX12_house_41 : decode cX12_house 41 = .ok (.aload_n 0, 1) := dc_42 aX12_house_41
theorem dX12_house_42 : decode cX12_house 42 = .ok (.getfield 41, 3) := dc_180 (a0 := 0) (b0 := 41) (dc_nn (k := 1) aX12_house_41 rfl)
theorem dX12_house_45 : decode cX12_house 45 = .ok (.invokevirtual 234, 3) := dc_182 (a0 := 0) (b0 := 234) (dc_nn (k := 4) aX12_house_41 rfl)
theorem dX12_house_48 : decode cX12_house 48 = .ok (.aload_n 0, 1) := dc_42 (dc_nn (k := 7) aX12_house_41 rfl)
theorem dX12_house_49 : decode cX12_house 49 = .ok (.aload_n 0, 1) := dc_42 (dc_nn (k := 8) aX12_house_41 rfl)
theorem dX12_house_50 : decode cX12_house 50 = .ok (.getfield 13, 3) := dc_180 (a0 := 0) (b0 := 13) (dc_nn (k := 9) aX12_house_41 rfl)
theorem dX12_house_53 : decode cX12_house 53 = .ok (.aload_n 0, 1) := dc_42 (dc_nn (k := 12) aX12_house_41 rfl)
theorem dX12_house_54 : decode cX12_house 54 = .ok (.getfield 44, 3) := dc_180 (a0 := 0) (b0 := 44) (dc_nn (k := 13) aX12_house_41 rfl)
theorem dX12_house_57 : decode cX12_house 57 = .ok (.invokevirtual 234, 3) := dc_182 (a0 := 0) (b0 := 234) (dc_nn (k := 16) aX12_house_41 rfl)
theorem dX12_house_60 : decode cX12_house 60 = .ok (.aload_n 0, 1) := dc_42 (dc_nn (k := 19) aX12_house_41 rfl)
theorem dX12_house_61 : decode cX12_house 61 = .ok (.aload_n 0, 1) := dc_42 (dc_nn (k := 20) aX12_house_41 rfl)
theorem dX12_house_62 : decode cX12_house 62 = .ok (.getfield 16, 3) := dc_180 (a0 := 0) (b0 := 16) (dc_nn (k := 21) aX12_house_41 rfl)
theorem dX12_house_65 : decode cX12_house 65 = .ok (.aload_n 0, 1) := dc_42 (dc_nn (k := 24) aX12_house_41 rfl)
theorem dX12_house_66 : decode cX12_house 66 = .ok (.getfield 47, 3) := dc_180 (a0 := 0) (b0 := 47) (dc_nn (k := 25) aX12_house_41 rfl)
theorem dX12_house_69 : decode cX12_house 69 = .ok (.invokevirtual 234, 3) := dc_182 (a0 := 0) (b0 := 234) (dc_nn (k := 28) aX12_house_41 rfl)
theorem dX12_house_72 : decode cX12_house 72 = .ok (.aload_n 0, 1) := dc_42 (dc_nn (k := 31) aX12_house_41 rfl)
theorem dX12_house_73 : decode cX12_house 73 = .ok (.aload_n 0, 1) := dc_42 (dc_nn (k := 32) aX12_house_41 rfl)
theorem dX12_house_74 : decode cX12_house 74 = .ok (.getfield 19, 3) := dc_180 (a0 := 0) (b0 := 19) (dc_nn (k := 33) aX12_house_41 rfl)
theorem dX12_house_77 : decode cX12_house 77 = .ok (.aload_n 0, 1) := dc_42 (dc_nn (k := 36) aX12_house_41 rfl)
theorem dX12_house_78 : decode cX12_house 78 = .ok (.getfield 50, 3) := dc_180 (a0 := 0) (b0 := 50) (dc_nn (k := 37) aX12_house_41 rfl)
theorem dX12_house_81 : decode cX12_house 81 = .ok (.invokevirtual 234, 3) := dc_182 (a0 := 0) (b0 := 234) aX12_house_81
theorem dX12_house_84 : decode cX12_house 84 = .ok (.aload_n 0, 1) := dc_42 (dc_nn (k := 3) aX12_house_81 rfl)
theorem dX12_house_85 : decode cX12_house 85 = .ok (.aload_n 0, 1) := dc_42 (dc_nn (k := 4) aX12_house_81 rfl)
theorem dX12_house_86 : decode cX12_house 86 = .ok (.getfield 22, 3) := dc_180 (a0 := 0) (b0 := 22) (dc_nn (k := 5) aX12_house_81 rfl)
theorem dX12_house_89 : decode cX12_house 89 = .ok (.aload_n 0, 1) := dc_42 (dc_nn (k := 8) aX12_house_81 rfl)
theorem dX12_house_90 : decode cX12_house 90 = .ok (.getfield 53, 3) := dc_180 (a0 := 0) (b0 := 53) (dc_nn (k := 9) aX12_house_81 rfl)
theorem dX12_house_93 : decode cX12_house 93 = .ok (.invokevirtual 234, 3) := dc_182 (a0 := 0) (b0 := 234) (dc_nn (k := 12) aX12_house_81 rfl)
theorem dX12_house_96 : decode cX12_house 96 = .ok (.aload_n 0, 1) := dc_42 (dc_nn (k := 15) aX12_house_81 rfl)
theorem dX12_house_97 : decode cX12_house 97 = .ok (.aload_n 0, 1) := dc_42 (dc_nn (k := 16) aX12_house_81 rfl)
theorem dX12_house_98 : decode cX12_house 98 = .ok (.getfield 25, 3) := dc_180 (a0 := 0) (b0 := 25) (dc_nn (k := 17) aX12_house_81 rfl)
theorem dX12_house_101 : decode cX12_house 101 = .ok (.aload_n 0, 1) := dc_42 (dc_nn (k := 20) aX12_house_81 rfl)
theorem dX12_house_102 : decode cX12_house 102 = .ok (.getfield 56, 3) := dc_180 (a0 := 0) (b0 := 56) (dc_nn (k := 21) aX12_house_81 rfl)
theorem dX12_house_105 : decode cX12_house 105 = .ok (.invokevirtual 234, 3) := dc_182 (a0 := 0) (b0 := 234) (dc_nn (k := 24) aX12_house_81 rfl)
theorem dX12_house_108 : decode cX12_house 108 = .ok (.aload_n 0, 1) := dc_42 (dc_nn (k := 27) aX12_house_81 rfl)
theorem dX12_house_109 : decode cX12_house 109 = .ok (.aload_n 0, 1) := dc_42 (dc_nn (k := 28) aX12_house_81 rfl)
theorem dX12_house_110 : decode cX12_house 110 = .ok (.getfield 28, 3) := dc_180 (a0 := 0) (b0 := 28) (dc_nn (k := 29) aX12_house_81 rfl)
theorem dX12_house_113 : decode cX12_house 113 = .ok (.aload_n 0, 1) := dc_42 (dc_nn (k := 32) aX12_house_81 rfl)
theorem dX12_house_114 : decode cX12_house 114 = .ok (.getfield 59, 3) := dc_180 (a0 := 0) (b0 := 59) (dc_nn (k := 33) aX12_house_81 rfl)
theorem dX12_house_117 : decode cX12_house 117 = .ok (.invokevirtual 234, 3) := dc_182 (a0 := 0) (b0 := 234) (dc_nn (k := 36) aX12_house_81 rfl)
theorem dX12_house_120 : decode cX12_house 120 = .ok (.aload_n 0, 1) := dc_42 (dc_nn (k := 39) aX12_house_81 rfl)
theorem dX12_house_121 : decode cX12_house 121 = .ok (.invokevirtual 183, 3) := dc_182 (a0 := 0) (b0 := 183) aX12_house_121
theorem dX12_house_124 : decode cX12_house 124 = .ok (.ifCond .eq 79, 3) := dc_153 (a0 := 0) (b0 := 79) (dc_nn (k := 3) aX12_house_121 rfl) (by decide)
theorem dX12_house_127 : decode cX12_house 127 = .ok (.aload_n 0, 1) := dc_42 (dc_nn (k := 6) aX12_house_121 rfl)
theorem dX12_house_128 : decode cX12_house 128 = .ok (.getfield 159, 3) := dc_180 (a0 := 0) (b0 := 159) (dc_nn (k := 7) aX12_house_121 rfl)
theorem dX12_house_131 : decode cX12_house 131 = .ok (.ifCond .eq 72, 3) := dc_153 (a0 := 0) (b0 := 72) (dc_nn (k := 10) aX12_house_121 rfl) (by decide)
theorem dX12_house_134 : decode cX12_house 134 = .ok (.aload_n 0, 1) := dc_42 (dc_nn (k := 13) aX12_house_121 rfl)
theorem dX12_house_135 : decode cX12_house 135 = .ok (.invokevirtual 193, 3) := dc_182 (a0 := 0) (b0 := 193) (dc_nn (k := 14) aX12_house_121 rfl)
theorem dX12_house_138 : decode cX12_house 138 = .ok (.istore_n 2, 1) := dc_61 (dc_nn (k := 17) aX12_house_121 rfl)
theorem dX12_house_139 : decode cX12_house 139 = .ok (.iload_n 2, 1) := dc_28 (dc_nn (k := 18) aX12_house_121 rfl)
theorem dX12_house_140 : decode cX12_house 140 = .ok (.bipush 11, 2) := dc_16 (a0 := 11) (dc_nn (k := 19) aX12_house_121 rfl) (by decide)
theorem dX12_house_142 : decode cX12_house 142 = .ok (.if_icmp .ne 10, 3) := dc_160 (a0 := 0) (b0 := 10) (dc_nn (k := 21) aX12_house_121 rfl) (by decide)
theorem dX12_house_145 : decode cX12_house 145 = .ok (.aload_n 0, 1) := dc_42 (dc_nn (k := 24) aX12_house_121 rfl)
theorem dX12_house_146 : decode cX12_house 146 = .ok (.invokevirtual 238, 3) := dc_182 (a0 := 0) (b0 := 238) (dc_nn (k := 25) aX12_house_121 rfl)
theorem dX12_house_149 : decode cX12_house 149 = .ok (.goto 34, 3) := dc_167 (a0 := 0) (b0 := 34) (dc_nn (k := 28) aX12_house_121 rfl) (by decide)
theorem dX12_house_152 : decode cX12_house 152 = .ok (.iload_n 2, 1) := dc_28 (dc_nn (k := 31) aX12_house_121 rfl)
theorem dX12_house_153 : decode cX12_house 153 = .ok (.bipush 16, 2) := dc_16 (a0 := 16) (dc_nn (k := 32) aX12_house_121 rfl) (by decide)
theorem dX12_house_155 : decode cX12_house 155 = .ok (.if_icmp .ne 10, 3) := dc_160 (a0 := 0) (b0 := 10) (dc_nn (k := 34) aX12_house_121 rfl) (by decide)
theorem dX12_house_158 : decode cX12_house 158 = .ok (.aload_n 0, 1) := dc_42 (dc_nn (k := 37) aX12_house_121 rfl)
theorem dX12_house_159 : decode cX12_house 159 = .ok (.invokevirtual 241, 3) := dc_182 (a0 := 0) (b0 := 241) (dc_nn (k := 38) aX12_house_121 rfl)
theorem dX12_house_162 : decode cX12_house 162 = .ok (.goto 21, 3) := dc_167 (a0 := 0) (b0 := 21) aX12_house_162 (by decide)
theorem dX12_house_165 : decode cX12_house 165 = .ok (.iload_n 2, 1) := dc_28 (dc_nn (k := 3) aX12_house_162 rfl)
theorem dX12_house_166 : decode cX12_house 166 = .ok (.bipush 17, 2) := dc_16 (a0 := 17) (dc_nn (k := 4) aX12_house_162 rfl) (by decide)
theorem dX12_house_168 : decode cX12_house 168 = .ok (.if_icmp .ne 10, 3) := dc_160 (a0 := 0) (b0 := 10) (dc_nn (k := 6) aX12_house_162 rfl) (by decide)
theorem dX12_house_171 : decode cX12_house 171 = .ok (.aload_n 0, 1) := dc_42 (dc_nn (k := 9) aX12_house_162 rfl)
theorem dX12_house_172 : decode cX12_house 172 = .ok (.invokevirtual 244, 3) := dc_182 (a0 := 0) (b0 := 244) (dc_nn (k := 10) aX12_house_162 rfl)
theorem dX12_house_175 : decode cX12_house 175 = .ok (.goto 8, 3) := dc_167 (a0 := 0) (b0 := 8) (dc_nn (k := 13) aX12_house_162 rfl) (by decide)
theorem dX12_house_178 : decode cX12_house 178 = .ok (.aload_n 0, 1) := dc_42 (dc_nn (k := 16) aX12_house_162 rfl)
theorem dX12_house_179 : decode cX12_house 179 = .ok (.iconst 1, 1) := dc_4 (dc_nn (k := 17) aX12_house_162 rfl)
theorem dX12_house_180 : decode cX12_house 180 = .ok (.invokevirtual 190, 3) := dc_182 (a0 := 0) (b0 := 190) (dc_nn (k := 18) aX12_house_162 rfl)
theorem dX12_house_183 : decode cX12_house 183 = .ok (.aload_n 0, 1) := dc_42 (dc_nn (k := 21) aX12_house_162 rfl)
theorem dX12_house_184 : decode cX12_house 184 = .ok (.aload_n 0, 1) := dc_42 (dc_nn (k := 22) aX12_house_162 rfl)
theorem dX12_house_185 : decode cX12_house 185 = .ok (.getfield 159, 3) := dc_180 (a0 := 0) (b0 := 159) (dc_nn (k := 23) aX12_house_162 rfl)
theorem dX12_house_188 : decode cX12_house 188 = .ok (.iconst 3, 1) := dc_6 (dc_nn (k := 26) aX12_house_162 rfl)
theorem dX12_house_189 : decode cX12_house 189 = .ok (.if_icmp .ne 7, 3) := dc_160 (a0 := 0) (b0 := 7) (dc_nn (k := 27) aX12_house_162 rfl) (by decide)
theorem dX12_house_192 : decode cX12_house 192 = .ok (.iconst 1, 1) := dc_4 (dc_nn (k := 30) aX12_house_162 rfl)
theorem dX12_house_193 : decode cX12_house 193 = .ok (.goto 4, 3) := dc_167 (a0 := 0) (b0 := 4) (dc_nn (k := 31) aX12_house_162 rfl) (by decide)
theorem dX12_house_196 : decode cX12_house 196 = .ok (.iconst 0, 1) := dc_3 (dc_nn (k := 34) aX12_house_162 rfl)
theorem dX12_house_197 : decode cX12_house 197 = .ok (.invokevirtual 197, 3) := dc_182 (a0 := 0) (b0 := 197) (dc_nn (k := 35) aX12_house_162 rfl)
theorem dX12_house_200 : decode cX12_house 200 = .ok (.goto (-80), 3) := dc_167 (a0 := 255) (b0 := 176) (dc_nn (k := 38) aX12_house_162 rfl) (by decide)
theorem dX12_house_203 : decode cX12_house 203 = .ok (.aload_n 0, 1) := dc_42 aX12_house_203
theorem dX12_house_204 : decode cX12_house 204 = .ok (.invokevirtual 183, 3) := dc_182 (a0 := 0) (b0 := 183) (dc_nn (k := 1) aX12_house_203 rfl)
theorem dX12_house_207 : decode cX12_house 207 = .ok (.ifCond .ne 8, 3) := dc_154 (a0 := 0) (b0 := 8) (dc_nn (k := 4) aX12_house_203 rfl) (by decide)
theorem dX12_house_210 : decode cX12_house 210 = .ok (.aload_n 0, 1) := dc_42 (dc_nn (k := 7) aX12_house_203 rfl)
theorem dX12_house_211 : decode cX12_house 211 = .ok (.getfield 180, 3) := dc_180 (a0 := 0) (b0 := 180) (dc_nn (k := 8) aX12_house_203 rfl)
theorem dX12_house_214 : decode cX12_house 214 = .ok (.ireturn, 1) := dc_172 (dc_nn (k := 11) aX12_house_203 rfl)
theorem dX12_house_215 : decode cX12_house 215 = .ok (.aload_n 0, 1) := dc_42 (dc_nn (k := 12) aX12_house_203 rfl)
theorem dX12_house_216 : decode cX12_house 216 = .ok (.aload_n 0, 1) := dc_42 (dc_nn (k := 13) aX12_house_203 rfl)
theorem dX12_house_217 : decode cX12_house 217 = .ok (.getfield 219, 3) := dc_180 (a0 := 0) (b0 := 219) (dc_nn (k := 14) aX12_house_203 rfl)
theorem dX12_house_220 : decode cX12_house 220 = .ok (.putfield 228, 3) := dc_181 (a0 := 0) (b0 := 228) (dc_nn (k := 17) aX12_house_203 rfl)
theorem dX12_house_223 : decode cX12_house 223 = .ok (.aload_n 0, 1) := dc_42 (dc_nn (k := 20) aX12_house_203 rfl)
theorem dX12_house_224 : decode cX12_house 224 = .ok (.aload_n 0, 1) := dc_42 (dc_nn (k := 21) aX12_house_203 rfl)
theorem dX12_house_225 : decode cX12_house 225 = .ok (.getfield 222, 3) := dc_180 (a0 := 0) (b0 := 222) (dc_nn (k := 22) aX12_house_203 rfl)
theorem dX12_house_228 : decode cX12_house 228 = .ok (.putfield 231, 3) := dc_181 (a0 := 0) (b0 := 231) (dc_nn (k := 25) aX12_house_203 rfl)
theorem dX12_house_231 : decode cX12_house 231 = .ok (.aload_n 0, 1) := dc_42 (dc_nn (k := 28) aX12_house_203 rfl)
theorem dX12_house_232 : decode cX12_house 232 = .ok (.aload_n 0, 1) := dc_42 (dc_nn (k := 29) aX12_house_203 rfl)
theorem dX12_house_233 : decode cX12_house 233 = .ok (.getfield 41, 3) := dc_180 (a0 := 0) (b0 := 41) (dc_nn (k := 30) aX12_house_203 rfl)
theorem dX12_house_236 : decode cX12_house 236 = .ok (.aload_n 0, 1) := dc_42 (dc_nn (k := 33) aX12_house_203 rfl)
theorem dX12_house_237 : decode cX12_house 237 = .ok (.getfield 7, 3) := dc_180 (a0 := 0) (b0 := 7) (dc_nn (k := 34) aX12_house_203 rfl)
theorem dX12_house_240 : decode cX12_house 240 = .ok (.invokevirtual 234, 3) := dc_182 (a0 := 0) (b0 := 234) (dc_nn (k := 37) aX12_house_203 rfl)
theorem dX12_house_243 : decode cX12_house 243 = .ok (.aload_n 0, 1) := dc_42 aX12_house_243
theorem dX12_house_244 : decode cX12_house 244 = .ok (.aload_n 0, 1) := dc_42 (dc_nn (k := 1) aX12_house_243 rfl)
theorem dX12_house_245 : decode cX12_house 245 = .ok (.getfield 44, 3) := dc_180 (a0 := 0) (b0 := 44) (dc_nn (k := 2) aX12_house_243 rfl)
theorem dX12_house_248 : decode cX12_house 248 = .ok (.aload_n 0, 1) := dc_42 (dc_nn (k := 5) aX12_house_243 rfl)
theorem dX12_house_249 : decode cX12_house 249 = .ok (.getfield 13, 3) := dc_180 (a0 := 0) (b0 := 13) (dc_nn (k := 6) aX12_house_243 rfl)
theorem dX12_house_252 : decode cX12_house 252 = .ok (.invokevirtual 234, 3) := dc_182 (a0 := 0) (b0 := 234) (dc_nn (k := 9) aX12_house_243 rfl)
theorem dX12_house_255 : decode cX12_house 255 = .ok (.aload_n 0, 1) := dc_42 (dc_nn (k := 12) aX12_house_243 rfl)
theorem dX12_house_256 : decode cX12_house 256 = .ok (.aload_n 0, 1) := dc_42 (dc_nn (k := 13) aX12_house_243 rfl)
theorem dX12_house_257 : decode cX12_house 257 = .ok (.getfield 47, 3) := dc_180 (a0 := 0) (b0 := 47) (dc_nn (k := 14) aX12_house_243 rfl)
theorem dX12_house_260 : decode cX12_house 260 = .ok (.aload_n 0, 1) := dc_42 (dc_nn (k := 17) aX12_house_243 rfl)
theorem dX12_house_261 : decode cX12_house 261 = .ok (.getfield 16, 3) := dc_180 (a0 := 0) (b0 := 16) (dc_nn (k := 18) aX12_house_243 rfl)
theorem dX12_house_264 : decode cX12_house 264 = .ok (.invokevirtual 234, 3) := dc_182 (a0 := 0) (b0 := 234) (dc_nn (k := 21) aX12_house_243 rfl)
theorem dX12_house_267 : decode cX12_house 267 = .ok (.aload_n 0, 1) := dc_42 (dc_nn (k := 24) aX12_house_243 rfl)
theorem dX12_house_268 : decode cX12_house 268 = .ok (.aload_n 0, 1) := dc_42 (dc_nn (k := 25) aX12_house_243 rfl)
theorem dX12_house_269 : decode cX12_house 269 = .ok (.getfield 50, 3) := dc_180 (a0 := 0) (b0 := 50) (dc_nn (k := 26) aX12_house_243 rfl)
theorem dX12_house_272 : decode cX12_house 272 = .ok (.aload_n 0, 1) := dc_42 (dc_nn (k := 29) aX12_house_243 rfl)
theorem dX12_house_273 : decode cX12_house 273 = .ok (.getfield 19, 3) := dc_180 (a0 := 0) (b0 := 19) (dc_nn (k := 30) aX12_house_243 rfl)
theorem dX12_house_276 : decode cX12_house 276 = .ok (.invokevirtual 234, 3) := dc_182 (a0 := 0) (b0 := 234) (dc_nn (k := 33) aX12_house_243 rfl)
theorem dX12_house_279 : decode cX12_house 279 = .ok (.aload_n 0, 1) := dc_42 (dc_nn (k := 36) aX12_house_243 rfl)
theorem dX12_house_280 : decode cX12_house 280 = .ok (.aload_n 0, 1) := dc_42 (dc_nn (k := 37) aX12_house_243 rfl)
theorem dX12_house_281 : decode cX12_house 281 = .ok (.getfield 53, 3) := dc_180 (a0 := 0) (b0 := 53) (dc_nn (k := 38) aX12_house_243 rfl)
theorem dX12_house_284 : decode cX12_house 284 = .ok (.aload_n 0, 1) := dc_42 aX12_house_284
theorem dX12_house_285 : decode cX12_house 285 = .ok (.getfield 22, 3) := dc_180 (a0 := 0) (b0 := 22) (dc_nn (k := 1) aX12_house_284 rfl)
theorem dX12_house_288 : decode cX12_house 288 = .ok (.invokevirtual 234, 3) := dc_182 (a0 := 0) (b0 := 234) (dc_nn (k := 4) aX12_house_284 rfl)
theorem dX12_house_291 : decode cX12_house 291 = .ok (.aload_n 0, 1) := dc_42 (dc_nn (k := 7) aX12_house_284 rfl)
theorem dX12_house_292 : decode cX12_house 292 = .ok (.aload_n 0, 1) := dc_42 (dc_nn (k := 8) aX12_house_284 rfl)
theorem dX12_house_293 : decode cX12_house 293 = .ok (.getfield 56, 3) := dc_180 (a0 := 0) (b0 := 56) (dc_nn (k := 9) aX12_house_284 rfl)
theorem dX12_house_296 : decode cX12_house 296 = .ok (.aload_n 0, 1) := dc_42 (dc_nn (k := 12) aX12_house_284 rfl)
theorem dX12_house_297 : decode cX12_house 297 = .ok (.getfield 25, 3) := dc_180 (a0 := 0) (b0 := 25) (dc_nn (k := 13) aX12_house_284 rfl)
theorem dX12_house_300 : decode cX12_house 300 = .ok (.invokevirtual 234, 3) := dc_182 (a0 := 0) (b0 := 234) (dc_nn (k := 16) aX12_house_284 rfl)
theorem dX12_house_303 : decode cX12_house 303 = .ok (.aload_n 0, 1) := dc_42 (dc_nn (k := 19) aX12_house_284 rfl)
theorem dX12_house_304 : decode cX12_house 304 = .ok (.aload_n 0, 1) := dc_42 (dc_nn (k := 20) aX12_house_284 rfl)
theorem dX12_house_305 : decode cX12_house 305 = .ok (.getfield 59, 3) := dc_180 (a0 := 0) (b0 := 59) (dc_nn (k := 21) aX12_house_284 rfl)
theorem dX12_house_308 : decode cX12_house 308 = .ok (.aload_n 0, 1) := dc_42 (dc_nn (k := 24) aX12_house_284 rfl)
theorem dX12_house_309 : decode cX12_house 309 = .ok (.getfield 28, 3) := dc_180 (a0 := 0) (b0 := 28) (dc_nn (k := 25) aX12_house_284 rfl)
theorem dX12_house_312 : decode cX12_house 312 = .ok (.invokevirtual 234, 3) := dc_182 (a0 := 0) (b0 := 234) (dc_nn (k := 28) aX12_house_284 rfl)
theorem dX12_house_315 : decode cX12_house 315 = .ok (.iconst 0, 1) := dc_3 (dc_nn (k := 31) aX12_house_284 rfl)
theorem dX12_house_316 : decode cX12_house 316 = .ok (.ireturn, 1) := dc_172 (dc_nn (k := 32) aX12_house_284 rfl)
set_option maxRecDepth 20000 in
theorem ggX12_isBook_X12_right : GoodIn wsX12_isBook wsX12_right := goodIn_k _ [[5, 0, 0, 0, 0, 0, 0, 0, 0, 0, 0, 0, 0, 0, 0, 0, 0, 0, 0, 0, 0, 0, 0, 0, 0, 0, 0, 0, 0, 0, 0, 0, 0, 0, 0, 0, 0, 0, 0, 0, 0, 0, 0, 0, 0, 0, 0, 0, 0, 0, 0, 0, 0, 0, 0, 0, 0, 0, 0, 0]] (by rfl) (by decide +kernel)
set_option maxRecDepth 20000 in
theorem gX12_isBook_X12_right : GoodIn wsX12_isBook (wsV RX12 209 RX12 yX12_right wsX12_right) := goodIn_app (goodIn_k _ [[1, 0, 0, 0]] (by rfl) (gw_V _ _ _ _)) ggX12_isBook_X12_right
noncomputable def sX12_isBook_0 : List Nat := 42 :: 27 :: 155 :: 0 :: 13 :: 27 :: 16 :: 6 :: 162 :: 0 :: 7 :: 4 :: 167 :: 0 :: 4 :: 3 :: 4 :: 182 :: 0 :: 209 :: 172 :: []
theorem aX12_isBook_0 : dc_at cX12_isBook 0 sX12_isBook_0 := dc_base (by decide +kernel)
theorem dX12_isBook_0 : decode cX12_isBook 0 = .ok (.aload_n 0, 1) := dc_42 aX12_isBook_0
theorem dX12_isBook_1 : decode cX12_isBook 1 = .ok (.iload_n 1, 1) := dc_27 (dc_nn (k := 1) aX12_isBook_0 rfl)
theorem dX12_isBook_2 : decode cX12_isBook 2 = .ok (.ifCond .lt 13, 3) := dc_155 (a0 := 0) (b0 := 13) (dc_nn (k := 2) aX12_isBook_0 rfl) (by decide)
theorem dX12_isBook_5 : decode cX12_isBook 5 = .ok (.iload_n 1, 1) := dc_27 (dc_nn (k := 5) aX12_isBook_0 rfl)
theorem dX12_isBook_6 : decode cX12_isBook 6 = .ok (.bipush 6, 2) := dc_16 (a0 := 6) (dc_nn (k := 6) aX12_isBook_0 rfl) (by decide)
theorem dX12_isBook_8 : decode cX12_isBook 8 = .ok (.if_icmp .ge 7, 3) := dc_162 (a0 := 0) (b0 := 7) (dc_nn (k := 8) aX12_isBook_0 rfl) (by decide)
theorem dX12_isBook_11 : decode cX12_isBook 11 = .ok (.iconst 1, 1) := dc_4 (dc_nn (k := 11) aX12_isBook_0 rfl)
theorem dX12_isBook_12 : decode cX12_isBook 12 = .ok (.goto 4, 3) := dc_167 (a0 := 0) (b0 := 4) (dc_nn (k := 12) aX12_isBook_0 rfl) (by decide)
theorem dX12_isBook_15 : decode cX12_isBook 15 = .ok (.iconst 0, 1) := dc_3 (dc_nn (k := 15) aX12_isBook_0 rfl)
theorem dX12_isBook_16 : decode cX12_isBook 16 = .ok (.iconst 1, 1) := dc_4 (dc_nn (k := 16) aX12_isBook_0 rfl)
theorem dX12_isBook_17 : decode cX12_isBook 17 = .ok (.invokevirtual 209, 3) := dc_182 (a0 := 0) (b0 := 209) (dc_nn (k := 17) aX12_isBook_0 rfl)
theorem dX12_isBook_20 : decode cX12_isBook 20 = .ok (.ireturn, 1) := dc_172 (dc_nn (k := 20) aX12_isBook_0 rfl)
set_option maxRecDepth 20000 in
theorem ggX12_isWheel_X12_right : GoodIn wsX12_isWheel wsX12_right := goodIn_k _ [[6], [1, 5, 0, 0, 0, 0, 0, 0, 0, 0, 0, 0, 0, 0, 0, 0, 0, 0, 0, 0, 0, 0, 0, 0, 0, 0, 0, 0, 0, 0, 0, 0, 0, 0, 0, 0, 0, 0, 0, 0, 0, 0, 0, 0, 0, 0, 0, 0, 0, 0, 0, 0, 0, 0, 0, 0, 0, 0, 0]] (by rfl) (by decide +kernel)
set_option maxRecDepth 20000 in
theorem gX12_isWheel_X12_right : GoodIn wsX12_isWheel (wsV RX12 209 RX12 yX12_right wsX12_right) := goodIn_app (goodIn_k _ [[2, 0, 0, 0]] (by rfl) (gw_V _ _ _ _)) ggX12_isWheel_X12_right
noncomputable def sX12_isWheel_0 : List Nat := 42 :: 3 :: 181 :: 0 :: 129 :: 42 :: 27 :: 155 :: 0 :: 23 :: 27 :: 16 :: 6 :: 162 :: 0 :: 17 :: 28 :: 155 :: 0 :: 13 :: 28 :: 16 :: 20 :: 162 :: 0 :: 7 :: 4 :: 167 :: 0 :: 4 :: 3 :: 4 :: 182 :: 0 :: 209 :: 172 :: []
theorem aX12_isWheel_0 : dc_at cX12_isWheel 0 sX12_isWheel_0 := dc_base (by decide +kernel)
theorem dX12_isWheel_0 : decode cX12_isWheel 0 = .ok (.aload_n 0, 1) := dc_42 aX12_isWheel_0
theorem dX12_isWheel_1 : decode cX12_isWheel 1 = .ok (.iconst 0, 1) := dc_3 (dc_nn (k := 1) aX12_isWheel_0 rfl)
theorem dX12_isWheel_2 : decode cX12_isWheel 2 = .ok (.putfield 129, 3) := dc_181 (a0 := 0) (b0 := 129) (dc_nn (k := 2) aX12_isWheel_0 rfl)
theorem dX12_isWheel_5 : decode cX12_isWheel 5 = .ok (.aload_n 0, 1) := dc_42 (dc_nn (k := 5) aX12_isWheel_0 rfl)
theorem dX12_isWheel_6 : decode cX12_isWheel 6 = .ok (.iload_n 1, 1) := dc_27 (dc_nn (k := 6) aX12_isWheel_0 rfl)
theorem dX12_isWheel_7 : decode cX12_isWheel 7 = .ok (.ifCond .lt 23, 3) := dc_155 (a0 := 0) (b0 := 23) (dc_nn (k := 7) aX12_isWheel_0 rfl) (by decide)
theorem dX12_isWheel_10 : decode cX12_isWheel 10 = .ok (.iload_n 1, 1) := dc_27 (dc_nn (k := 10) aX12_isWheel_0 rfl)
theorem dX12_isWheel_11 : decode cX12_isWheel 11 = .ok (.bipush 6, 2) := dc_16 (a0 := 6) (dc_nn (k := 11) aX12_isWheel_0 rfl) (by decide)
theorem dX12_isWheel_13 : decode cX12_isWheel 13 = .ok (.if_icmp .ge 17, 3) := dc_162 (a0 := 0) (b0 := 17) (dc_nn (k := 13) aX12_isWheel_0 rfl) (by decide)
theorem dX12_isWheel_16 : decode cX12_isWheel 16 = .ok (.iload_n 2, 1) := dc_28 (dc_nn (k := 16) aX12_isWheel_0 rfl)
theorem dX12_isWheel_17 : decode cX12_isWheel 17 = .ok (.ifCond .lt 13, 3) := dc_155 (a0 := 0) (b0 := 13) (dc_nn (k := 17) aX12_isWheel_0 rfl) (by decide)
theorem dX12_isWheel_20 : decode cX12_isWheel 20 = .ok (.iload_n 2, 1) := dc_28 (dc_nn (k := 20) aX12_isWheel_0 rfl)
theorem dX12_isWheel_21 : decode cX12_isWheel 21 = .ok (.bipush 20, 2) := dc_16 (a0 := 20) (dc_nn (k := 21) aX12_isWheel_0 rfl) (by decide)
theorem dX12_isWheel_23 : decode cX12_isWheel 23 = .ok (.if_icmp .ge 7, 3) := dc_162 (a0 := 0) (b0 := 7) (dc_nn (k := 23) aX12_isWheel_0 rfl) (by decide)
theorem dX12_isWheel_26 : decode cX12_isWheel 26 = .ok (.iconst 1, 1) := dc_4 (dc_nn (k := 26) aX12_isWheel_0 rfl)
theorem dX12_isWheel_27 : decode cX12_isWheel 27 = .ok (.goto 4, 3) := dc_167 (a0 := 0) (b0 := 4) (dc_nn (k := 27) aX12_isWheel_0 rfl) (by decide)
theorem dX12_isWheel_30 : decode cX12_isWheel 30 = .ok (.iconst 0, 1) := dc_3 (dc_nn (k := 30) aX12_isWheel_0 rfl)
theorem dX12_isWheel_31 : decode cX12_isWheel 31 = .ok (.iconst 1, 1) := dc_4 (dc_nn (k := 31) aX12_isWheel_0 rfl)
theorem dX12_isWheel_32 : decode cX12_isWheel 32 = .ok (.invokevirtual 209, 3) := dc_182 (a0 := 0) (b0 := 209) (dc_nn (k := 32) aX12_isWheel_0 rfl)
theorem dX12_isWheel_35 : decode cX12_isWheel 35 = .ok (.ireturn, 1) := dc_172 (dc_nn (k := 35) aX12_isWheel_0 rfl)
set_option maxRecDepth 20000 in
theorem ggX12_readsEntry_X12_knownWord : GoodIn wsX12_readsEntry wsX12_knownWord := goodIn_k _ [[10], [5, 5, 0, 0, 0], [9, 5, 0, 0, 0, 34, 0, 0, 0, 0, 0, 0, 0, 0, 0, 0, 0, 0, 0, 0, 0, 0, 0, 0, 0, 0, 0, 0, 0, 0, 0, 0, 0, 0, 0, 0, 0, 0, 0, 0, 0, 0, 0, 0, 0, 0, 0, 0, 0, 0, 0, 0, 0, 0, 0, 0, 0, 0, 0, 0, 0, 0, 0]] (by rfl) (by decide +kernel)
set_option maxRecDepth 20000 in
theorem gX12_readsEntry_X12_knownWord : GoodIn wsX12_readsEntry (wsV RX12 193 RX12 yX12_knownWord wsX12_knownWord) := goodIn_app (goodIn_k _ [[6, 0, 0, 0]] (by rfl) (gw_V _ _ _ _)) ggX12_readsEntry_X12_knownWord
set_option maxRecDepth 20000 in
theorem ggX12_readsEntry_X12_wrong : GoodIn wsX12_readsEntry wsX12_wrong := goodIn_k _ [[22], [3], [2, 1, 48, 0, 0, 0, 0, 0, 0, 0, 0, 0, 0, 0, 0, 0, 0, 0, 0, 0, 0, 0, 0, 0, 0, 0, 0, 0, 0, 0, 0, 0, 0, 0, 0, 0, 0, 0, 0, 0, 0, 0, 0, 0, 0, 0, 0, 0, 0, 0, 0, 0, 0, 0, 0, 0, 0, 0, 0, 0]] (by rfl) (by decide +kernel)
set_option maxRecDepth 20000 in
theorem gX12_readsEntry_X12_wrong : GoodIn wsX12_readsEntry (wsV RX12 190 RX12 yX12_wrong wsX12_wrong) := goodIn_app (goodIn_k _ [[19, 0, 0], [9]] (by rfl) (gw_V _ _ _ _)) ggX12_readsEntry_X12_wrong
set_option maxRecDepth 20000 in
theorem ggX12_readsEntry_X12_isGood : GoodIn wsX12_readsEntry wsX12_isGood := goodIn_k _ [[26], [3, 49, 0, 0, 0, 0, 0, 0, 0, 0, 0, 0, 0, 0, 0, 0, 0, 0, 0, 0, 0, 0, 0, 0, 0, 0, 0, 0, 0, 0, 0, 0, 0, 0, 0, 0, 0, 0, 0, 0, 0, 0, 0, 0, 0, 0, 0, 0, 0, 0, 0, 0, 0, 0, 0, 0, 0, 0, 0]] (by rfl) (by decide +kernel)
set_option maxRecDepth 20000 in
theorem gX12_readsEntry_X12_isGood : GoodIn wsX12_readsEntry (wsV RX12 183 RX12 yX12_isGood wsX12_isGood) := goodIn_app (goodIn_k _ [[23, 0, 0], [9]] (by rfl) (gw_V _ _ _ _)) ggX12_readsEntry_X12_isGood
set_option maxRecDepth 20000 in
theorem ggX12_readsEntry_X12_steps : GoodIn wsX12_readsEntry wsX12_steps := goodIn_k _ [[30, 0, 0], [2, 9, 20], [5, 5, 22, 0, 0], [9, 27, 0, 0, 0, 0, 0, 0, 0, 8, 0, 0, 0, 0, 0, 0, 0, 0, 0, 0, 0, 0, 0, 0, 0, 0, 0, 0, 0, 0, 0, 0, 0, 0, 0, 0, 0, 0, 0, 0, 0, 0, 0, 0, 0, 0, 0, 0, 0, 0, 0, 0, 0, 0, 0, 0, 0, 0, 0, 0, 0, 0, 0, 0, 0, 0, 0]] (by rfl) (by decide +kernel)
set_option maxRecDepth 20000 in
theorem gX12_readsEntry_X12_steps : GoodIn wsX12_readsEntry (wsV RX12 187 RX12 yX12_steps wsX12_steps) := goodIn_app (goodIn_k _ [[27, 0, 0], [9]] (by rfl) (gw_V _ _ _ _)) ggX12_readsEntry_X12_steps
set_option maxRecDepth 20000 in
theorem ggX12_readsEntry_X12_number : GoodIn wsX12_readsEntry wsX12_number := goodIn_k _ [[48], [5, 5, 21], [23, 0, 0], [9, 16], [3, 15, 0, 0, 0], [2, 1, 22, 0, 0, 0, 0, 0], [12, 21, 0, 0, 0, 0, 0, 0, 0, 0, 0, 0, 8, 0, 0, 0, 0, 0, 0, 0, 0, 0, 0, 0, 0, 0, 0, 0, 0, 0, 0, 0, 0, 0, 0, 0, 0, 0, 0, 0, 0, 0, 0, 0, 0, 0, 0, 0, 0, 0, 0, 0, 0, 0, 0, 0, 0, 0, 0, 0, 0, 0, 0, 0, 0, 0, 0, 0, 0, 0]] (by rfl) (by decide +kernel)
set_option maxRecDepth 20000 in
theorem gX12_readsEntry_X12_number : GoodIn wsX12_readsEntry (wsV RX12 201 RX12 yX12_number wsX12_number) := goodIn_app (goodIn_k _ [[45, 0, 0], [9]] (by rfl) (gw_V _ _ _ _)) ggX12_readsEntry_X12_number
set_option maxRecDepth 20000 in
theorem ggX12_readsEntry_X12_need : GoodIn wsX12_readsEntry wsX12_need := goodIn_k _ [[52], [23, 0, 0], [9, 16], [3, 23, 0, 0, 0, 0, 0], [2, 9, 20], [5, 5, 22, 0, 0, 0, 0, 0, 0, 0, 0, 0, 0], [19, 0, 0, 0], [4, 48, 0, 0, 0, 0, 0, 0, 0, 0, 0, 0, 0, 0, 0, 0, 0, 0, 0, 0, 0, 0, 0, 0, 0, 0, 0, 0, 0, 0, 0, 0, 0, 0, 0, 0, 0, 0, 0, 0, 0, 0, 0, 0, 0, 0, 0, 0, 0, 0, 0, 0, 0, 0, 0, 0, 0, 0, 0]] (by rfl) (by decide +kernel)
set_option maxRecDepth 20000 in
theorem gX12_readsEntry_X12_need : GoodIn wsX12_readsEntry (wsV RX12 197 RX12 yX12_need wsX12_need) := goodIn_app (goodIn_k _ [[49, 0, 0], [9]] (by rfl) (gw_V _ _ _ _)) ggX12_readsEntry_X12_need
noncomputable def sX12_readsEntry_202 : List Nat := 4 :: 167 :: 0 :: 4 :: 3 :: 182 :: 0 :: 197 :: 177 :: []
noncomputable def sX12_readsEntry_162 : List Nat := 7 :: 167 :: 0 :: 5 :: 16 :: 29 :: 182 :: 0 :: 201 :: 54 :: 4 :: 42 :: 182 :: 0 :: 183 :: 153 :: 0 :: 16 :: 42 :: 180 :: 0 :: 62 :: 28 :: 16 :: 30 :: 29 :: 104 :: 21 :: 4 :: 96 :: 79 :: 42 :: 42 :: 180 :: 0 :: 159 :: 6 :: 160 :: 0 :: 7 :: sX12_readsEntry_202
noncomputable def sX12_readsEntry_120 : List Nat := 6 :: 181 :: 0 :: 180 :: 42 :: 29 :: 181 :: 0 :: 37 :: 42 :: 3 :: 27 :: 16 :: 10 :: 160 :: 0 :: 8 :: 16 :: 12 :: 167 :: 0 :: 5 :: 16 :: 11 :: 182 :: 0 :: 201 :: 62 :: 42 :: 3 :: 27 :: 16 :: 10 :: 160 :: 0 :: 13 :: 29 :: 16 :: 12 :: 160 :: 0 :: 7 :: sX12_readsEntry_162
noncomputable def sX12_readsEntry_80 : List Nat := 42 :: 180 :: 0 :: 149 :: 62 :: 42 :: 4 :: 16 :: 12 :: 182 :: 0 :: 201 :: 54 :: 4 :: 16 :: 9 :: 21 :: 4 :: 96 :: 4 :: 100 :: 61 :: 42 :: 182 :: 0 :: 183 :: 153 :: 0 :: 23 :: 42 :: 180 :: 0 :: 62 :: 28 :: 46 :: 2 :: 159 :: 0 :: 13 :: 42 :: sX12_readsEntry_120
noncomputable def sX12_readsEntry_40 : List Nat := 61 :: 27 :: 16 :: 9 :: 159 :: 0 :: 18 :: 42 :: 180 :: 0 :: 62 :: 28 :: 46 :: 2 :: 159 :: 0 :: 8 :: 42 :: 6 :: 182 :: 0 :: 190 :: 42 :: 182 :: 0 :: 183 :: 154 :: 0 :: 4 :: 177 :: 42 :: 182 :: 0 :: 187 :: 27 :: 16 :: 9 :: 160 :: 0 :: 52 :: sX12_readsEntry_80
noncomputable def sX12_readsEntry_0 : List Nat := 42 :: 182 :: 0 :: 193 :: 60 :: 27 :: 155 :: 0 :: 9 :: 27 :: 16 :: 10 :: 164 :: 0 :: 8 :: 42 :: 4 :: 182 :: 0 :: 190 :: 42 :: 182 :: 0 :: 183 :: 154 :: 0 :: 4 :: 177 :: 27 :: 16 :: 10 :: 160 :: 0 :: 8 :: 16 :: 21 :: 167 :: 0 :: 4 :: 27 :: sX12_readsEntry_40
theorem aX12_readsEntry_0 : dc_at cX12_readsEntry 0 sX12_readsEntry_0 := dc_base (by decide +kernel)
theorem aX12_readsEntry_40 : dc_at cX12_readsEntry 40 sX12_readsEntry_40 := dc_nn (k := 40) aX12_readsEntry_0 rfl
theorem aX12_readsEntry_80 : dc_at cX12_readsEntry 80 sX12_readsEntry_80 := dc_nn (k := 40) aX12_readsEntry_40 rfl
theorem aX12_readsEntry_120 : dc_at cX12_readsEntry 120 sX12_readsEntry_120 := dc_nn (k := 40) aX12_readsEntry_80 rfl
theorem aX12_readsEntry_162 : dc_at cX12_readsEntry 162 sX12_readsEntry_162 := dc_nn (k := 42) aX12_readsEntry_120 rfl
theorem aX12_readsEntry_202 : dc_at cX12_readsEntry 202 sX12_readsEntry_202 := dc_nn (k := 40) aX12_readsEntry_162 rfl
theorem dX12_readsEntry_0 : decode cX12_readsEntry 0 = .ok (.aload_n 0, 1) := dc_42 aX12_readsEntry_0
theorem dX12_readsEntry_1 : decode cX12_readsEntry 1 = .ok (.invokevirtual 193, 3) := dc_182 (a0 := 0) (b0 := 193) (dc_nn (k := 1) aX12_readsEntry_0 rfl)
theorem dX12_readsEntry_4 : decode cX12_readsEntry 4 = .ok (.istore_n 1, 1) := dc_60 (dc_nn (k := 4) aX12_readsEntry_0 rfl)
theorem dX12_readsEntry_5 : decode cX12_readsEntry 5 = .ok (.iload_n 1, 1) := dc_27 (dc_nn (k := 5) aX12_readsEntry_0 rfl)
theorem dX12_readsEntry_6 : decode cX12_readsEntry 6 = .ok (.ifCond .lt 9, 3) := dc_155 (a0 := 0) (b0 := 9) (dc_nn (k := 6) aX12_readsEntry_0 rfl) (by decide)
theorem dX12_readsEntry_9 : decode cX12_readsEntry 9 = .ok (.iload_n 1, 1) := dc_27 (dc_nn (k := 9) aX12_readsEntry_0 rfl)
theorem dX12_readsEntry_10 : decode cX12_readsEntry 10 = .ok (.bipush 10, 2) := dc_16 (a0 := 10) (dc_nn (k := 10) aX12_readsEntry_0 rfl) (by decide)
theorem dX12_readsEntry_12 : decode cX12_readsEntry 12 = .ok (.if_icmp .le 8, 3) := dc_164 (a0 := 0) (b0 := 8) (dc_nn (k := 12) aX12_readsEntry_0 rfl) (by decide)
theorem dX12_readsEntry_15 : decode cX12_readsEntry 15 = .ok (.aload_n 0, 1) := dc_42 (dc_nn (k := 15) aX12_readsEntry_0 rfl)
theorem dX12_readsEntry_16 : decode cX12_readsEntry 16 = .ok (.iconst 1, 1) := dc_4 (dc_nn (k := 16) aX12_readsEntry_0 rfl)
theorem dX12_readsEntry_17 : decode cX12_readsEntry 17 = .ok (.invokevirtual 190, 3) := dc_182 (a0 := 0) (b0 := 190) (dc_nn (k := 17) aX12_readsEntry_0 rfl)
theorem dX12_readsEntry_20 : decode cX12_readsEntry 20 = .ok (.aload_n 0, 1) := dc_42 (dc_nn (k := 20) aX12_readsEntry_0 rfl)
theorem dX12_readsEntry_21 : decode cX12_readsEntry 21 = .ok (.invokevirtual 183, 3) := dc_182 (a0 := 0) (b0 := 183) (dc_nn (k := 21) aX12_readsEntry_0 rfl)
theorem dX12_readsEntry_24 : decode cX12_readsEntry 24 = .ok (.ifCond .ne 4, 3) := dc_154 (a0 := 0) (b0 := 4) (dc_nn (k := 24) aX12_readsEntry_0 rfl) (by decide)
theorem dX12_readsEntry_27 : decode cX12_readsEntry 27 = .ok (.return_, 1) := dc_177 (dc_nn (k := 27) aX12_readsEntry_0 rfl)
theorem dX12_readsEntry_28 : decode cX12_readsEntry 28 = .ok (.iload_n 1, 1) := dc_27 (dc_nn (k := 28) aX12_readsEntry_0 rfl)
theorem dX12_readsEntry_29 : decode cX12_readsEntry 29 = .ok (.bipush 10, 2) := dc_16 (a0 := 10) (dc_nn (k := 29) aX12_readsEntry_0 rfl) (by decide)
theorem dX12_readsEntry_31 : decode cX12_readsEntry 31 = .ok (.if_icmp .ne 8, 3) := dc_160 (a0 := 0) (b0 := 8) (dc_nn (k := 31) aX12_readsEntry_0 rfl) (by decide)
theorem dX12_readsEntry_34 : decode cX12_readsEntry 34 = .ok (.bipush 21, 2) := dc_16 (a0 := 21) (dc_nn (k := 34) aX12_readsEntry_0 rfl) (by decide)
theorem dX12_readsEntry_36 : decode cX12_readsEntry 36 = .ok (.goto 4, 3) := dc_167 (a0 := 0) (b0 := 4) (dc_nn (k := 36) aX12_readsEntry_0 rfl) (by decide)
theorem dX12_readsEntry_39 : decode cX12_readsEntry 39 = .ok (.iload_n 1, 1) := dc_27 (dc_nn (k := 39) aX12_readsEntry_0 rfl)
theorem dX12_readsEntry_40 : decode cX12_readsEntry 40 = .ok (.istore_n 2, 1) := dc_61 aX12_readsEntry_40
theorem dX12_readsEntry_41 : decode cX12_readsEntry 41 = .ok (.iload_n 1, 1) := dc_27 (dc_nn (k := 1) aX12_readsEntry_40 rfl)
theorem dX12_readsEntry_42 : decode cX12_readsEntry 42 = .ok (.bipush 9, 2) := dc_16 (a0 := 9) (dc_nn (k := 2) aX12_readsEntry_40 rfl) (by decide)
theorem dX12_readsEntry_44 : decode cX12_readsEntry 44 = .ok (.if_icmp .eq 18, 3) := dc_159 (a0 := 0) (b0 := 18) (dc_nn (k := 4) aX12_readsEntry_40 rfl) (by decide)
theorem dX12_readsEntry_47 : decode cX12_readsEntry 47 = .ok (.aload_n 0, 1) := dc_42 (dc_nn (k := 7) aX12_readsEntry_40 rfl)
theorem dX12_readsEntry_48 : decode cX12_readsEntry 48 = .ok (.getfield 62, 3) := dc_180 (a0 := 0) (b0 := 62) (dc_nn (k := 8) aX12_readsEntry_40 rfl)
theorem dX12_readsEntry_51 : decode cX12_readsEntry 51 = .ok (.iload_n 2, 1) := dc_28 (dc_nn (k := 11) aX12_readsEntry_40 rfl)
theorem dX12_readsEntry_52 : decode cX12_readsEntry 52 = .ok (.iaload, 1) := dc_46 (dc_nn (k := 12) aX12_readsEntry_40 rfl)
theorem dX12_readsEntry_53 : decode cX12_readsEntry 53 = .ok (.iconst (-1), 1) := dc_2 (dc_nn (k := 13) aX12_readsEntry_40 rfl)
theorem dX12_readsEntry_54 : decode cX12_readsEntry 54 = .ok (.if_icmp .eq 8, 3) := dc_159 (a0 := 0) (b0 := 8) (dc_nn (k := 14) aX12_readsEntry_40 rfl) (by decide)
theorem dX12_readsEntry_57 : decode cX12_readsEntry 57 = .ok (.aload_n 0, 1) := dc_42 (dc_nn (k := 17) aX12_readsEntry_40 rfl)
theorem dX12_readsEntry_58 : decode cX12_readsEntry 58 = .ok (.iconst 3, 1) := dc_6 (dc_nn (k := 18) aX12_readsEntry_40 rfl)
theorem dX12_readsEntry_59 : decode cX12_readsEntry 59 = .ok (.invokevirtual 190, 3) := dc_182 (a0 := 0) (b0 := 190) (dc_nn (k := 19) aX12_readsEntry_40 rfl)
theorem dX12_readsEntry_62 : decode cX12_readsEntry 62 = .ok (.aload_n 0, 1) := dc_42 (dc_nn (k := 22) aX12_readsEntry_40 rfl)
theorem dX12_readsEntry_63 : decode cX12_readsEntry 63 = .ok (.invokevirtual 183, 3) := dc_182 (a0 := 0) (b0 := 183) (dc_nn (k := 23) aX12_readsEntry_40 rfl)
theorem dX12_readsEntry_66 : decode cX12_readsEntry 66 = .ok (.ifCond .ne 4, 3) := dc_154 (a0 := 0) (b0 := 4) (dc_nn (k := 26) aX12_readsEntry_40 rfl) (by decide)
theorem dX12_readsEntry_69 : decode cX12_readsEntry 69 = .ok (.return_, 1) := dc_177 (dc_nn (k := 29) aX12_readsEntry_40 rfl)
theorem dX12_readsEntry_70 : decode cX12_readsEntry 70 = .ok (.aload_n 0, 1) := dc_42 (dc_nn (k := 30) aX12_readsEntry_40 rfl)
theorem dX12_readsEntry_71 : decode cX12_readsEntry 71 = .ok (.invokevirtual 187, 3) := dc_182 (a0 := 0) (b0 := 187) (dc_nn (k := 31) aX12_readsEntry_40 rfl)
theorem dX12_readsEntry_74 : decode cX12_readsEntry 74 = .ok (.iload_n 1, 1) := dc_27 (dc_nn (k := 34) aX12_readsEntry_40 rfl)
theorem dX12_readsEntry_75 : decode cX12_readsEntry 75 = .ok (.bipush 9, 2) := dc_16 (a0 := 9) (dc_nn (k := 35) aX12_readsEntry_40 rfl) (by decide)
theorem dX12_readsEntry_77 : decode cX12_readsEntry 77 = .ok (.if_icmp .ne 52, 3) := dc_160 (a0 := 0) (b0 := 52) (dc_nn (k := 37) aX12_readsEntry_40 rfl) (by decide)
theorem dX12_readsEntry_80 : decode cX12_readsEntry 80 = .ok (.aload_n 0, 1) := dc_42 aX12_readsEntry_80
theorem dX12_readsEntry_81 : decode cX12_readsEntry 81 = .ok (.getfield 149, 3) := dc_180 (a0 := 0) (b0 := 149) (dc_nn (k := 1) aX12_readsEntry_80 rfl)
theorem dX12_readsEntry_84 : decode cX12_readsEntry 84 = .ok (.istore_n 3, 1) := dc_62 (dc_nn (k := 4) aX12_readsEntry_80 rfl)
theorem dX12_readsEntry_85 : decode cX12_readsEntry 85 = .ok (.aload_n 0, 1) := dc_42 (dc_nn (k := 5) aX12_readsEntry_80 rfl)
theorem dX12_readsEntry_86 : decode cX12_readsEntry 86 = .ok (.iconst 1, 1) := dc_4 (dc_nn (k := 6) aX12_readsEntry_80 rfl)
theorem dX12_readsEntry_87 : decode cX12_readsEntry 87 = .ok (.bipush 12, 2) := dc_16 (a0 := 12) (dc_nn (k := 7) aX12_readsEntry_80 rfl) (by decide)
theorem dX12_readsEntry_89 : decode cX12_readsEntry 89 = .ok (.invokevirtual 201, 3) := dc_182 (a0 := 0) (b0 := 201) (dc_nn (k := 9) aX12_readsEntry_80 rfl)
theorem dX12_readsEntry_92 : decode cX12_readsEntry 92 = .ok (.istore 4, 2) := dc_54 (a0 := 4) (dc_nn (k := 12) aX12_readsEntry_80 rfl)
theorem dX12_readsEntry_94 : decode cX12_readsEntry 94 = .ok (.bipush 9, 2) := dc_16 (a0 := 9) (dc_nn (k := 14) aX12_readsEntry_80 rfl) (by decide)
theorem dX12_readsEntry_96 : decode cX12_readsEntry 96 = .ok (.iload 4, 2) := dc_21 (a0 := 4) (dc_nn (k := 16) aX12_readsEntry_80 rfl)
theorem dX12_readsEntry_98 : decode cX12_readsEntry 98 = .ok (.iadd, 1) := dc_96 (dc_nn (k := 18) aX12_readsEntry_80 rfl)
theorem dX12_readsEntry_99 : decode cX12_readsEntry 99 = .ok (.iconst 1, 1) := dc_4 (dc_nn (k := 19) aX12_readsEntry_80 rfl)
theorem dX12_readsEntry_100 : decode cX12_readsEntry 100 = .ok (.isub, 1) := dc_100 (dc_nn (k := 20) aX12_readsEntry_80 rfl)
theorem dX12_readsEntry_101 : decode cX12_readsEntry 101 = .ok (.istore_n 2, 1) := dc_61 (dc_nn (k := 21) aX12_readsEntry_80 rfl)
theorem dX12_readsEntry_102 : decode cX12_readsEntry 102 = .ok (.aload_n 0, 1) := dc_42 (dc_nn (k := 22) aX12_readsEntry_80 rfl)
theorem dX12_readsEntry_103 : decode cX12_readsEntry 103 = .ok (.invokevirtual 183, 3) := dc_182 (a0 := 0) (b0 := 183) (dc_nn (k := 23) aX12_readsEntry_80 rfl)
theorem dX12_readsEntry_106 : decode cX12_readsEntry 106 = .ok (.ifCond .eq 23, 3) := dc_153 (a0 := 0) (b0 := 23) (dc_nn (k := 26) aX12_readsEntry_80 rfl) (by decide)
theorem dX12_readsEntry_109 : decode cX12_readsEntry 109 = .ok (.aload_n 0, 1) := dc_42 (dc_nn (k := 29) aX12_readsEntry_80 rfl)
theorem dX12_readsEntry_110 : decode cX12_readsEntry 110 = .ok (.getfield 62, 3) := dc_180 (a0 := 0) (b0 := 62) (dc_nn (k := 30) aX12_readsEntry_80 rfl)
theorem dX12_readsEntry_113 : decode cX12_readsEntry 113 = .ok (.iload_n 2, 1) := dc_28 (dc_nn (k := 33) aX12_readsEntry_80 rfl)
theorem dX12_readsEntry_114 : decode cX12_readsEntry 114 = .ok (.iaload, 1) := dc_46 (dc_nn (k := 34) aX12_readsEntry_80 rfl)
theorem dX12_readsEntry_115 : decode cX12_readsEntry 115 = .ok (.iconst (-1), 1) := dc_2 (dc_nn (k := 35) aX12_readsEntry_80 rfl)
theorem dX12_readsEntry_116 : decode cX12_readsEntry 116 = .ok (.if_icmp .eq 13, 3) := dc_159 (a0 := 0) (b0 := 13) (dc_nn (k := 36) aX12_readsEntry_80 rfl) (by decide)
theorem dX12_readsEntry_119 : decode cX12_readsEntry 119 = .ok (.aload_n 0, 1) := dc_42 (dc_nn (k := 39) aX12_readsEntry_80 rfl)
theorem dX12_readsEntry_120 : decode cX12_readsEntry 120 = .ok (.iconst 3, 1) := dc_6 aX12_readsEntry_120
theorem dX12_readsEntry_121 : decode cX12_readsEntry 121 = .ok (.putfield 180, 3) := dc_181 (a0 := 0) (b0 := 180) (dc_nn (k := 1) aX12_readsEntry_120 rfl)
theorem dX12_readsEntry_124 : decode cX12_readsEntry 124 = .ok (.aload_n 0, 1) := dc_42 (dc_nn (k := 4) aX12_readsEntry_120 rfl)
theorem dX12_readsEntry_125 : decode cX12_readsEntry 125 = .ok (.iload_n 3, 1) := dc_29 (dc_nn (k := 5) aX12_readsEntry_120 rfl)
theorem dX12_readsEntry_126 : decode cX12_readsEntry 126 = .ok (.putfield 37, 3) := dc_181 (a0 := 0) (b0 := 37) (dc_nn (k := 6) aX12_readsEntry_120 rfl)
theorem dX12_readsEntry_129 : decode cX12_readsEntry 129 = .ok (.aload_n 0, 1) := dc_42 (dc_nn (k := 9) aX12_readsEntry_120 rfl)
theorem dX12_readsEntry_130 : decode cX12_readsEntry 130 = .ok (.iconst 0, 1) := dc_3 (dc_nn (k := 10) aX12_readsEntry_120 rfl)
theorem dX12_readsEntry_131 : decode cX12_readsEntry 131 = .ok (.iload_n 1, 1) := dc_27 (dc_nn (k := 11) aX12_readsEntry_120 rfl)
theorem dX12_readsEntry_132 : decode cX12_readsEntry 132 = .ok (.bipush 10, 2) := dc_16 (a0 := 10) (dc_nn (k := 12) aX12_readsEntry_120 rfl) (by decide)
theorem dX12_readsEntry_134 : decode cX12_readsEntry 134 = .ok (.if_icmp .ne 8, 3) := dc_160 (a0 := 0) (b0 := 8) (dc_nn (k := 14) aX12_readsEntry_120 rfl) (by decide)
theorem dX12_readsEntry_137 : decode cX12_readsEntry 137 = .ok (.bipush 12, 2) := dc_16 (a0 := 12) (dc_nn (k := 17) aX12_readsEntry_120 rfl) (by decide)
theorem dX12_readsEntry_139 : decode cX12_readsEntry 139 = .ok (.goto 5, 3) := dc_167 (a0 := 0) (b0 := 5) (dc_nn (k := 19) aX12_readsEntry_120 rfl) (by decide)
theorem dX12_readsEntry_142 : decode cX12_readsEntry 142 = .ok (.bipush 11, 2) := dc_16 (a0 := 11) (dc_nn (k := 22) aX12_readsEntry_120 rfl) (by decide)
theorem dX12_readsEntry_144 : decode cX12_readsEntry 144 = .ok (.invokevirtual 201, 3) := dc_182 (a0 := 0) (b0 := 201) (dc_nn (k := 24) aX12_readsEntry_120 rfl)
theorem dX12_readsEntry_147 : decode cX12_readsEntry 147 = .ok (.istore_n 3, 1) := dc_62 (dc_nn (k := 27) aX12_readsEntry_120 rfl)
theorem dX12_readsEntry_148 : decode cX12_readsEntry 148 = .ok (.aload_n 0, 1) := dc_42 (dc_nn (k := 28) aX12_readsEntry_120 rfl)
theorem dX12_readsEntry_149 : decode cX12_readsEntry 149 = .ok (.iconst 0, 1) := dc_3 (dc_nn (k := 29) aX12_readsEntry_120 rfl)
theorem dX12_readsEntry_150 : decode cX12_readsEntry 150 = .ok (.iload_n 1, 1) := dc_27 (dc_nn (k := 30) aX12_readsEntry_120 rfl)
theorem dX12_readsEntry_151 : decode cX12_readsEntry 151 = .ok (.bipush 10, 2) := dc_16 (a0 := 10) (dc_nn (k := 31) aX12_readsEntry_120 rfl) (by decide)
theorem dX12_readsEntry_153 : decode cX12_readsEntry 153 = .ok (.if_icmp .ne 13, 3) := dc_160 (a0 := 0) (b0 := 13) (dc_nn (k := 33) aX12_readsEntry_120 rfl) (by decide)
theorem dX12_readsEntry_156 : decode cX12_readsEntry 156 = .ok (.iload_n 3, 1) := dc_29 (dc_nn (k := 36) aX12_readsEntry_120 rfl)
theorem dX12_readsEntry_157 : decode cX12_readsEntry 157 = .ok (.bipush 12, 2) := dc_16 (a0 := 12) (dc_nn (k := 37) aX12_readsEntry_120 rfl) (by decide)
theorem dX12_readsEntry_159 : decode cX12_readsEntry 159 = .ok (.if_icmp .ne 7, 3) := dc_160 (a0 := 0) (b0 := 7) (dc_nn (k := 39) aX12_readsEntry_120 rfl) (by decide)
theorem dX12_readsEntry_162 : decode cX12_readsEntry 162 = .ok (.iconst 4, 1) := dc_7 aX12_readsEntry_162
theorem dX12_readsEntry_163 : decode cX12_readsEntry 163 = .ok (.goto 5, 3) := dc_167 (a0 := 0) (b0 := 5) (dc_nn (k := 1) aX12_readsEntry_162 rfl) (by decide)
theorem dX12_readsEntry_166 : decode cX12_readsEntry 166 = .ok (.bipush 29, 2) := dc_16 (a0 := 29) (dc_nn (k := 4) aX12_readsEntry_162 rfl) (by decide)
theorem dX12_readsEntry_168 : decode cX12_readsEntry 168 = .ok (.invokevirtual 201, 3) := dc_182 (a0 := 0) (b0 := 201) (dc_nn (k := 6) aX12_readsEntry_162 rfl)
theorem dX12_readsEntry_171 : decode cX12_readsEntry 171 = .ok (.istore 4, 2) := dc_54 (a0 := 4) (dc_nn (k := 9) aX12_readsEntry_162 rfl)
theorem dX12_readsEntry_173 : decode cX12_readsEntry 173 = .ok (.aload_n 0, 1) := dc_42 (dc_nn (k := 11) aX12_readsEntry_162 rfl)
theorem dX12_readsEntry_174 : decode cX12_readsEntry 174 = .ok (.invokevirtual 183, 3) := dc_182 (a0 := 0) (b0 := 183) (dc_nn (k := 12) aX12_readsEntry_162 rfl)
theorem dX12_readsEntry_177 : decode cX12_readsEntry 177 = .ok (.ifCond .eq 16, 3) := dc_153 (a0 := 0) (b0 := 16) (dc_nn (k := 15) aX12_readsEntry_162 rfl) (by decide)
theorem dX12_readsEntry_180 : decode cX12_readsEntry 180 = .ok (.aload_n 0, 1) := dc_42 (dc_nn (k := 18) aX12_readsEntry_162 rfl)
theorem dX12_readsEntry_181 : decode cX12_readsEntry 181 = .ok (.getfield 62, 3) := dc_180 (a0 := 0) (b0 := 62) (dc_nn (k := 19) aX12_readsEntry_162 rfl)
theorem dX12_readsEntry_184 : decode cX12_readsEntry 184 = .ok (.iload_n 2, 1) := dc_28 (dc_nn (k := 22) aX12_readsEntry_162 rfl)
theorem dX12_readsEntry_185 : decode cX12_readsEntry 185 = .ok (.bipush 30, 2) := dc_16 (a0 := 30) (dc_nn (k := 23) aX12_readsEntry_162 rfl) (by decide)
theorem dX12_readsEntry_187 : decode cX12_readsEntry 187 = .ok (.iload_n 3, 1) := dc_29 (dc_nn (k := 25) aX12_readsEntry_162 rfl)
theorem dX12_readsEntry_188 : decode cX12_readsEntry 188 = .ok (.imul, 1) := dc_104 (dc_nn (k := 26) aX12_readsEntry_162 rfl)
theorem dX12_readsEntry_189 : decode cX12_readsEntry 189 = .ok (.iload 4, 2) := dc_21 (a0 := 4) (dc_nn (k := 27) aX12_readsEntry_162 rfl)
theorem dX12_readsEntry_191 : decode cX12_readsEntry 191 = .ok (.iadd, 1) := dc_96 (dc_nn (k := 29) aX12_readsEntry_162 rfl)
theorem dX12_readsEntry_192 : decode cX12_readsEntry 192 = .ok (.iastore, 1) := dc_79 (dc_nn (k := 30) aX12_readsEntry_162 rfl)
theorem dX12_readsEntry_193 : decode cX12_readsEntry 193 = .ok (.aload_n 0, 1) := dc_42 (dc_nn (k := 31) aX12_readsEntry_162 rfl)
theorem dX12_readsEntry_194 : decode cX12_readsEntry 194 = .ok (.aload_n 0, 1) := dc_42 (dc_nn (k := 32) aX12_readsEntry_162 rfl)
theorem dX12_readsEntry_195 : decode cX12_readsEntry 195 = .ok (.getfield 159, 3) := dc_180 (a0 := 0) (b0 := 159) (dc_nn (k := 33) aX12_readsEntry_162 rfl)
theorem dX12_readsEntry_198 : decode cX12_readsEntry 198 = .ok (.iconst 3, 1) := dc_6 (dc_nn (k := 36) aX12_readsEntry_162 rfl)
theorem dX12_readsEntry_199 : decode cX12_readsEntry 199 = .ok (.if_icmp .ne 7, 3) := dc_160 (a0 := 0) (b0 := 7) (dc_nn (k := 37) aX12_readsEntry_162 rfl) (by decide)
theorem dX12_readsEntry_202 : decode cX12_readsEntry 202 = .ok (.iconst 1, 1) := dc_4 aX12_readsEntry_202
theorem dX12_readsEntry_203 : decode cX12_readsEntry 203 = .ok (.goto 4, 3) := dc_167 (a0 := 0) (b0 := 4) (dc_nn (k := 1) aX12_readsEntry_202 rfl) (by decide)
theorem dX12_readsEntry_206 : decode cX12_readsEntry 206 = .ok (.iconst 0, 1) := dc_3 (dc_nn (k := 4) aX12_readsEntry_202 rfl)
theorem dX12_readsEntry_207 : decode cX12_readsEntry 207 = .ok (.invokevirtual 197, 3) := dc_182 (a0 := 0) (b0 := 197) (dc_nn (k := 5) aX12_readsEntry_202 rfl)
theorem dX12_readsEntry_210 : decode cX12_readsEntry 210 = .ok (.return_, 1) := dc_177 (dc_nn (k := 8) aX12_readsEntry_202 rfl)
set_option maxRecDepth 20000 in
theorem ggX12_wheel_X12_isWheel : GoodIn wsX12_wheel wsX12_isWheel := goodIn_k _ [[10, 0, 0, 0, 0], [9, 5, 57, 0, 0, 0, 0, 0, 0, 0, 0, 0, 0, 0, 0, 0, 0, 0, 0, 0, 0, 0, 0, 0, 0, 0, 0, 0, 0, 0, 0, 0, 0, 0, 0, 0, 0, 0, 0, 0, 0, 0, 0, 0, 0, 0, 0, 0, 0, 0, 0, 0, 0, 0, 0, 0, 0, 0, 0, 0]] (by rfl) (by decide +kernel)
set_option maxRecDepth 20000 in
theorem gX12_wheel_X12_isWheel : GoodIn wsX12_wheel (wsV RX12 247 RX12 yX12_isWheel wsX12_isWheel) := goodIn_app (goodIn_k _ [[6, 0, 0, 0]] (by rfl) (gw_V _ _ _ _)) ggX12_wheel_X12_isWheel
set_option maxRecDepth 20000 in
theorem ggX12_wheel_X12_begins : GoodIn wsX12_wheel wsX12_begins := goodIn_k _ [[19, 0], [11], [1, 19], [4, 17, 0], [12, 0, 0], [9, 5, 8, 0, 0, 0, 0, 0, 0], [3, 27, 0, 0, 0, 0, 0, 0, 0, 0, 0, 0, 0, 30, 0, 0, 0, 0, 0, 0, 0, 0, 0, 0, 0, 0, 0, 0, 0, 0, 0, 0, 0, 0, 0, 0, 0, 0, 0, 0, 0, 0, 0, 0, 0, 0, 0, 0, 0, 0, 0, 0, 0, 0, 0, 0, 0, 0, 0, 0, 0, 0, 0, 0, 0, 0, 0, 0, 0, 0, 0]] (by rfl) (by decide +kernel)
set_option maxRecDepth 20000 in
theorem gX12_wheel_X12_begins : GoodIn wsX12_wheel (wsV RX12 225 RX12 yX12_begins wsX12_begins) := goodIn_app (goodIn_k _ [[16, 0, 0], [9]] (by rfl) (gw_V _ _ _ _)) ggX12_wheel_X12_begins
set_option maxRecDepth 20000 in
theorem ggX12_wheel_X12_isGood : GoodIn wsX12_wheel wsX12_isGood := goodIn_k _ [[46], [4, 68, 0, 0, 0, 0, 0, 0, 0, 0, 0, 0, 0, 0, 0, 0, 0, 0, 0, 0, 0, 0, 0, 0, 0, 0, 0, 0, 0, 0, 0, 0, 0, 0, 0, 0, 0, 0, 0, 0, 0, 0, 0, 0, 0, 0, 0, 0, 0, 0, 0, 0, 0, 0, 0, 0, 0, 0, 0]] (by rfl) (by decide +kernel)
set_option maxRecDepth 20000 in
theorem gX12_wheel_X12_isGood : GoodIn wsX12_wheel (wsV RX12 183 RX12 yX12_isGood wsX12_isGood) := goodIn_app (goodIn_k _ [[43, 0, 0], [9]] (by rfl) (gw_V _ _ _ _)) ggX12_wheel_X12_isGood
set_option maxRecDepth 20000 in
theorem ggX12_wheel_X12_readsEntry : GoodIn wsX12_wheel wsX12_readsEntry := goodIn_k _ [[50], [2, 25], [4, 16], [3, 47, 0, 0], [9, 44], [31], [29, 25, 0, 0, 0, 0, 0, 0, 0, 0, 0], [43, 0, 0, 0], [24, 0, 0, 0], [23], [22, 7, 1, 0, 0, 0, 0, 0, 0, 0, 0, 0, 0, 22, 0, 0, 0, 0, 0, 0, 0, 0, 0, 0, 0, 0, 0, 0, 0, 0, 0, 0, 0, 0, 0, 0, 0, 0, 0, 0, 0, 0, 0, 0, 0, 0, 0, 0, 0, 0, 0, 0, 0, 0, 0, 0, 0, 0, 0, 0, 0, 0, 0, 0, 0, 0, 0, 0, 0, 0, 0, 0, 0, 0, 0, 0, 0, 0, 0]] (by rfl) (by decide +kernel)
set_option maxRecDepth 20000 in
theorem gX12_wheel_X12_readsEntry : GoodIn wsX12_wheel (wsV RX12 251 RX12 yX12_readsEntry wsX12_readsEntry) := goodIn_app (goodIn_k _ [[47, 0, 0], [9]] (by rfl) (gw_V _ _ _ _)) ggX12_wheel_X12_readsEntry
noncomputable def sX12_wheel_123 : List Nat := 3 :: 172 :: []
noncomputable def sX12_wheel_82 : List Nat := 172 :: 3 :: 54 :: 4 :: 21 :: 4 :: 16 :: 22 :: 162 :: 0 :: 33 :: 42 :: 180 :: 0 :: 31 :: 16 :: 22 :: 16 :: 20 :: 27 :: 104 :: 28 :: 96 :: 104 :: 21 :: 4 :: 96 :: 42 :: 180 :: 0 :: 62 :: 21 :: 4 :: 46 :: 79 :: 132 :: 4 :: 1 :: 167 :: 255 :: 222 :: sX12_wheel_123
noncomputable def sX12_wheel_40 : List Nat := 21 :: 4 :: 2 :: 79 :: 132 :: 4 :: 1 :: 167 :: 255 :: 238 :: 42 :: 182 :: 0 :: 183 :: 153 :: 0 :: 17 :: 42 :: 180 :: 0 :: 159 :: 153 :: 0 :: 10 :: 42 :: 182 :: 0 :: 251 :: 167 :: 255 :: 238 :: 42 :: 182 :: 0 :: 183 :: 154 :: 0 :: 8 :: 42 :: 180 :: 0 :: 180 :: sX12_wheel_82
noncomputable def sX12_wheel_0 : List Nat := 42 :: 27 :: 28 :: 182 :: 0 :: 247 :: 154 :: 0 :: 5 :: 3 :: 172 :: 42 :: 4 :: 181 :: 0 :: 205 :: 42 :: 29 :: 182 :: 0 :: 225 :: 154 :: 0 :: 5 :: 3 :: 172 :: 3 :: 54 :: 4 :: 21 :: 4 :: 16 :: 22 :: 162 :: 0 :: 17 :: 42 :: 180 :: 0 :: 62 :: sX12_wheel_40
theorem aX12_wheel_0 : dc_at cX12_wheel 0 sX12_wheel_0 := dc_base (by decide +kernel)
theorem aX12_wheel_40 : dc_at cX12_wheel 40 sX12_wheel_40 := dc_nn (k := 40) aX12_wheel_0 rfl
theorem aX12_wheel_82 : dc_at cX12_wheel 82 sX12_wheel_82 := dc_nn (k := 42) aX12_wheel_40 rfl
theorem aX12_wheel_123 : dc_at cX12_wheel 123 sX12_wheel_123 := dc_nn (k := 41) aX12_wheel_82 rfl
theorem dX12_wheel_0 : decode cX12_wheel 0 = .ok (.aload_n 0, 1) := dc_42 aX12_wheel_0
theorem dX12_wheel_1 : decode cX12_wheel 1 = .ok (.iload_n 1, 1) := dc_27 (dc_nn (k := 1) aX12_wheel_0 rfl)
theorem dX12_wheel_2 : decode cX12_wheel 2 = .ok (.iload_n 2, 1) := dc_28 (dc_nn (k := 2) aX12_wheel_0 rfl)
theorem dX12_wheel_3 : decode cX12_wheel 3 = .ok (.invokevirtual 247, 3) := dc_182 (a0 := 0) (b0 := 247) (dc_nn (k := 3) aX12_wheel_0 rfl)
theorem dX12_wheel_6 : decode cX12_wheel 6 = .ok (.ifCond .ne 5, 3) := dc_154 (a0 := 0) (b0 := 5) (dc_nn (k := 6) aX12_wheel_0 rfl) (by decide)
theorem dX12_wheel_9 : decode cX12_wheel 9 = .ok (.iconst 0, 1) := dc_3 (dc_nn (k := 9) aX12_wheel_0 rfl)
theorem dX12_wheel_10 : decode cX12_wheel 10 = .ok (.ireturn, 1) := dc_172 (dc_nn (k := 10) aX12_wheel_0 rfl)
theorem dX12_wheel_11 : decode cX12_wheel 11 = .ok (.aload_n 0, 1) := dc_42 (dc_nn (k := 11) aX12_wheel_0 rfl)
theorem dX12_wheel_12 : decode cX12_wheel 12 = .ok (.iconst 1, 1) := dc_4 (dc_nn (k := 12) aX12_wheel_0 rfl)
theorem dX12_wheel_13 : decode cX12_wheel 13 = .ok (.putfield 205, 3) := dc_181 (a0 := 0) (b0 := 205) (dc_nn (k := 13) aX12_wheel_0 rfl)
theorem dX12_wheel_16 : decode cX12_wheel 16 = .ok (.aload_n 0, 1) := dc_42 (dc_nn (k := 16) aX12_wheel_0 rfl)
theorem dX12_wheel_17 : decode cX12_wheel 17 = .ok (.iload_n 3, 1) := dc_29 (dc_nn (k := 17) aX12_wheel_0 rfl)
theorem dX12_wheel_18 : decode cX12_wheel 18 = .ok (.invokevirtual 225, 3) := dc_182 (a0 := 0) (b0 := 225) (dc_nn (k := 18) aX12_wheel_0 rfl)
theorem dX12_wheel_21 : decode cX12_wheel 21 = .ok (.ifCond .ne 5, 3) := dc_154 (a0 := 0) (b0 := 5) (dc_nn (k := 21) aX12_wheel_0 rfl) (by decide)
theorem dX12_wheel_24 : decode cX12_wheel 24 = .ok (.iconst 0, 1) := dc_3 (dc_nn (k := 24) aX12_wheel_0 rfl)
theorem dX12_wheel_25 : decode cX12_wheel 25 = .ok (.ireturn, 1) := dc_172 (dc_nn (k := 25) aX12_wheel_0 rfl)
theorem dX12_wheel_26 : decode cX12_wheel 26 = .ok (.iconst 0, 1) := dc_3 (dc_nn (k := 26) aX12_wheel_0 rfl)
theorem dX12_wheel_27 : decode cX12_wheel 27 = .ok (.istore 4, 2) := dc_54 (a0 := 4) (dc_nn (k := 27) aX12_wheel_0 rfl)
theorem dX12_wheel_29 : decode cX12_wheel 29 = .ok (.iload 4, 2) := dc_21 (a0 := 4) (dc_nn (k := 29) aX12_wheel_0 rfl)
theorem dX12_wheel_31 : decode cX12_wheel 31 = .ok (.bipush 22, 2) := dc_16 (a0 := 22) (dc_nn (k := 31) aX12_wheel_0 rfl) (by decide)
theorem dX12_wheel_33 : decode cX12_wheel 33 = .ok (.if_icmp .ge 17, 3) := dc_162 (a0 := 0) (b0 := 17) (dc_nn (k := 33) aX12_wheel_0 rfl) (by decide)
theorem dX12_wheel_36 : decode cX12_wheel 36 = .ok (.aload_n 0, 1) := dc_42 (dc_nn (k := 36) aX12_wheel_0 rfl)
theorem dX12_wheel_37 : decode cX12_wheel 37 = .ok (.getfield 62, 3) := dc_180 (a0 := 0) (b0 := 62) (dc_nn (k := 37) aX12_wheel_0 rfl)
theorem dX12_wheel_40 : decode cX12_wheel 40 = .ok (.iload 4, 2) := dc_21 (a0 := 4) aX12_wheel_40
theorem dX12_wheel_42 : decode cX12_wheel 42 = .ok (.iconst (-1), 1) := dc_2 (dc_nn (k := 2) aX12_wheel_40 rfl)
theorem dX12_wheel_43 : decode cX12_wheel 43 = .ok (.iastore, 1) := dc_79 (dc_nn (k := 3) aX12_wheel_40 rfl)
theorem dX12_wheel_44 : decode cX12_wheel 44 = .ok (.iinc 4 1, 3) := dc_132 (a0 := 4) (a1 := 1) (dc_nn (k := 4) aX12_wheel_40 rfl) (by decide)
theorem dX12_wheel_47 : decode cX12_wheel 47 = .ok (.goto (-18), 3) := dc_167 (a0 := 255) (b0 := 238) (dc_nn (k := 7) aX12_wheel_40 rfl) (by decide)
theorem dX12_wheel_50 : decode cX12_wheel 50 = .ok (.aload_n 0, 1) := dc_42 (dc_nn (k := 10) aX12_wheel_40 rfl)
theorem dX12_wheel_51 : decode cX12_wheel 51 = .ok (.invokevirtual 183, 3) := dc_182 (a0 := 0) (b0 := 183) (dc_nn (k := 11) aX12_wheel_40 rfl)
theorem dX12_wheel_54 : decode cX12_wheel 54 = .ok (.ifCond .eq 17, 3) := dc_153 (a0 := 0) (b0 := 17) (dc_nn (k := 14) aX12_wheel_40 rfl) (by decide)
theorem dX12_wheel_57 : decode cX12_wheel 57 = .ok (.aload_n 0, 1) := dc_42 (dc_nn (k := 17) aX12_wheel_40 rfl)
theorem dX12_wheel_58 : decode cX12_wheel 58 = .ok (.getfield 159, 3) := dc_180 (a0 := 0) (b0 := 159) (dc_nn (k := 18) aX12_wheel_40 rfl)
theorem dX12_wheel_61 : decode cX12_wheel 61 = .ok (.ifCond .eq 10, 3) := dc_153 (a0 := 0) (b0 := 10) (dc_nn (k := 21) aX12_wheel_40 rfl) (by decide)
theorem dX12_wheel_64 : decode cX12_wheel 64 = .ok (.aload_n 0, 1) := dc_42 (dc_nn (k := 24) aX12_wheel_40 rfl)
theorem dX12_wheel_65 : decode cX12_wheel 65 = .ok (.invokevirtual 251, 3) := dc_182 (a0 := 0) (b0 := 251) (dc_nn (k := 25) aX12_wheel_40 rfl)
theorem dX12_wheel_68 : decode cX12_wheel 68 = .ok (.goto (-18), 3) := dc_167 (a0 := 255) (b0 := 238) (dc_nn (k := 28) aX12_wheel_40 rfl) (by decide)
theorem dX12_wheel_71 : decode cX12_wheel 71 = .ok (.aload_n 0, 1) := dc_42 (dc_nn (k := 31) aX12_wheel_40 rfl)
theorem dX12_wheel_72 : decode cX12_wheel 72 = .ok (.invokevirtual 183, 3) := dc_182 (a0 := 0) (b0 := 183) (dc_nn (k := 32) aX12_wheel_40 rfl)
theorem dX12_wheel_75 : decode cX12_wheel 75 = .ok (.ifCond .ne 8, 3) := dc_154 (a0 := 0) (b0 := 8) (dc_nn (k := 35) aX12_wheel_40 rfl) (by decide)
theorem dX12_wheel_78 : decode cX12_wheel 78 = .ok (.aload_n 0, 1) := dc_42 (dc_nn (k := 38) aX12_wheel_40 rfl)
theorem dX12_wheel_79 : decode cX12_wheel 79 = .ok (.getfield 180, 3) := dc_180 (a0 := 0) (b0 := 180) (dc_nn (k := 39) aX12_wheel_40 rfl)
theorem dX12_wheel_82 : decode cX12_wheel 82 = .ok (.ireturn, 1) := dc_172 aX12_wheel_82
theorem dX12_wheel_83 : decode cX12_wheel 83 = .ok (.iconst 0, 1) := dc_3 (dc_nn (k := 1) aX12_wheel_82 rfl)
theorem dX12_wheel_84 : decode cX12_wheel 84 = .ok (.istore 4, 2) := dc_54 (a0 := 4) (dc_nn (k := 2) aX12_wheel_82 rfl)
theorem dX12_wheel_86 : decode cX12_wheel 86 = .ok (.iload 4, 2) := dc_21 (a0 := 4) (dc_nn (k := 4) aX12_wheel_82 rfl)
theorem dX12_wheel_88 : decode cX12_wheel 88 = .ok (.bipush 22, 2) := dc_16 (a0 := 22) (dc_nn (k := 6) aX12_wheel_82 rfl) (by decide)
theorem dX12_wheel_90 : decode cX12_wheel 90 = .ok (.if_icmp .ge 33, 3) := dc_162 (a0 := 0) (b0 := 33) (dc_nn (k := 8) aX12_wheel_82 rfl) (by decide)
theorem dX12_wheel_93 : decode cX12_wheel 93 = .ok (.aload_n 0, 1) := dc_42 (dc_nn (k := 11) aX12_wheel_82 rfl)
theorem dX12_wheel_94 : decode cX12_wheel 94 = .ok (.getfield 31, 3) := dc_180 (a0 := 0) (b0 := 31) (dc_nn (k := 12) aX12_wheel_82 rfl)
theorem dX12_wheel_97 : decode cX12_wheel 97 = .ok (.bipush 22, 2) := dc_16 (a0 := 22) (dc_nn (k := 15) aX12_wheel_82 rfl) (by decide)
theorem dX12_wheel_99 : decode cX12_wheel 99 = .ok (.bipush 20, 2) := dc_16 (a0 := 20) (dc_nn (k := 17) aX12_wheel_82 rfl) (by decide)
theorem dX12_wheel_101 : decode cX12_wheel 101 = .ok (.iload_n 1, 1) := dc_27 (dc_nn (k := 19) aX12_wheel_82 rfl)
theorem dX12_wheel_102 : decode cX12_wheel 102 = .ok (.imul, 1) := dc_104 (dc_nn (k := 20) aX12_wheel_82 rfl)
theorem dX12_wheel_103 : decode cX12_wheel 103 = .ok (.iload_n 2, 1) := dc_28 (dc_nn (k := 21) aX12_wheel_82 rfl)
theorem dX12_wheel_104 : decode cX12_wheel 104 = .ok (.iadd, 1) := dc_96 (dc_nn (k := 22) aX12_wheel_82 rfl)
theorem dX12_wheel_105 : decode cX12_wheel 105 = .ok (.imul, 1) := dc_104 (dc_nn (k := 23) aX12_wheel_82 rfl)
theorem dX12_wheel_106 : decode cX12_wheel 106 = .ok (.iload 4, 2) := dc_21 (a0 := 4) (dc_nn (k := 24) aX12_wheel_82 rfl)
theorem dX12_wheel_108 : decode cX12_wheel 108 = .ok (.iadd, 1) := dc_96 (dc_nn (k := 26) aX12_wheel_82 rfl)
theorem dX12_wheel_109 : decode cX12_wheel 109 = .ok (.aload_n 0, 1) := dc_42 (dc_nn (k := 27) aX12_wheel_82 rfl)
theorem dX12_wheel_110 : decode cX12_wheel 110 = .ok (.getfield 62, 3) := dc_180 (a0 := 0) (b0 := 62) (dc_nn (k := 28) aX12_wheel_82 rfl)
theorem dX12_wheel_113 : decode cX12_wheel 113 = .ok (.iload 4, 2) := dc_21 (a0 := 4) (dc_nn (k := 31) aX12_wheel_82 rfl)
theorem dX12_wheel_115 : decode cX12_wheel 115 = .ok (.iaload, 1) := dc_46 (dc_nn (k := 33) aX12_wheel_82 rfl)
theorem dX12_wheel_116 : decode cX12_wheel 116 = .ok (.iastore, 1) := dc_79 (dc_nn (k := 34) aX12_wheel_82 rfl)
theorem dX12_wheel_117 : decode cX12_wheel 117 = .ok (.iinc 4 1, 3) := dc_132 (a0 := 4) (a1 := 1) (dc_nn (k := 35) aX12_wheel_82 rfl) (by decide)
theorem dX12_wheel_120 : decode cX12_wheel 120 = .ok (.goto (-34), 3) := dc_167 (a0 := 255) (b0 := 222) (dc_nn (k := 38) aX12_wheel_82 rfl) (by decide)
theorem dX12_wheel_123 : decode cX12_wheel 123 = .ok (.iconst 0, 1) := dc_3 aX12_wheel_123
theorem dX12_wheel_124 : decode cX12_wheel 124 = .ok (.ireturn, 1) := dc_172 (dc_nn (k := 1) aX12_wheel_123 rfl)
noncomputable def sX12_fault_0 : List Nat := 42 :: 3 :: 181 :: 0 :: 129 :: 42 :: 180 :: 0 :: 37 :: 172 :: []
theorem aX12_fault_0 : dc_at cX12_fault 0 sX12_fault_0 := dc_base (by decide +kernel)
theorem dX12_fault_0 : decode cX12_fault 0 = .ok (.aload_n 0, 1) := dc_42 aX12_fault_0
theorem dX12_fault_1 : decode cX12_fault 1 = .ok (.iconst 0, 1) := dc_3 (dc_nn (k := 1) aX12_fault_0 rfl)
theorem dX12_fault_2 : decode cX12_fault 2 = .ok (.putfield 129, 3) := dc_181 (a0 := 0) (b0 := 129) (dc_nn (k := 2) aX12_fault_0 rfl)
theorem dX12_fault_5 : decode cX12_fault 5 = .ok (.aload_n 0, 1) := dc_42 (dc_nn (k := 5) aX12_fault_0 rfl)
theorem dX12_fault_6 : decode cX12_fault 6 = .ok (.getfield 37, 3) := dc_180 (a0 := 0) (b0 := 37) (dc_nn (k := 6) aX12_fault_0 rfl)
theorem dX12_fault_9 : decode cX12_fault 9 = .ok (.ireturn, 1) := dc_172 (dc_nn (k := 9) aX12_fault_0 rfl)
noncomputable def sX12_at_0 : List Nat := 42 :: 180 :: 0 :: 31 :: 16 :: 22 :: 27 :: 104 :: 28 :: 96 :: 46 :: 172 :: []
theorem aX12_at_0 : dc_at cX12_at 0 sX12_at_0 := dc_base (by decide +kernel)
theorem dX12_at_0 : decode cX12_at 0 = .ok (.aload_n 0, 1) := dc_42 aX12_at_0
theorem dX12_at_1 : decode cX12_at 1 = .ok (.getfield 31, 3) := dc_180 (a0 := 0) (b0 := 31) (dc_nn (k := 1) aX12_at_0 rfl)
theorem dX12_at_4 : decode cX12_at 4 = .ok (.bipush 22, 2) := dc_16 (a0 := 22) (dc_nn (k := 4) aX12_at_0 rfl) (by decide)
theorem dX12_at_6 : decode cX12_at 6 = .ok (.iload_n 1, 1) := dc_27 (dc_nn (k := 6) aX12_at_0 rfl)
theorem dX12_at_7 : decode cX12_at 7 = .ok (.imul, 1) := dc_104 (dc_nn (k := 7) aX12_at_0 rfl)
theorem dX12_at_8 : decode cX12_at 8 = .ok (.iload_n 2, 1) := dc_28 (dc_nn (k := 8) aX12_at_0 rfl)
theorem dX12_at_9 : decode cX12_at 9 = .ok (.iadd, 1) := dc_96 (dc_nn (k := 9) aX12_at_0 rfl)
theorem dX12_at_10 : decode cX12_at 10 = .ok (.iaload, 1) := dc_46 (dc_nn (k := 10) aX12_at_0 rfl)
theorem dX12_at_11 : decode cX12_at 11 = .ok (.ireturn, 1) := dc_172 (dc_nn (k := 11) aX12_at_0 rfl)
set_option maxRecDepth 20000 in
theorem ggX12_tells_X12_at : GoodIn wsX12_tells wsX12_at := goodIn_k _ [[5, 0, 0, 0, 0, 0, 0, 0, 0, 0, 0, 0, 0, 0, 0, 0, 0, 0, 0, 0, 0, 0, 0, 0, 0, 0, 0, 0, 0, 0, 0, 0, 0, 0, 0, 0, 0, 0, 0, 0, 0, 0, 0, 0, 0, 0, 0, 0, 0, 0, 0, 0, 0, 0, 0, 0, 0, 0, 0, 0]] (by rfl) (by decide +kernel)
set_option maxRecDepth 20000 in
theorem gX12_tells_X12_at : GoodIn wsX12_tells (wsV RX12 254 RX12 yX12_at wsX12_at) := goodIn_app (goodIn_k _ [[1, 0, 0, 0]] (by rfl) (gw_V _ _ _ _)) ggX12_tells_X12_at
noncomputable def sX12_tells_0 : List Nat := 3 :: 61 :: 3 :: 62 :: 29 :: 16 :: 22 :: 162 :: 0 :: 29 :: 28 :: 154 :: 0 :: 13 :: 42 :: 27 :: 29 :: 182 :: 0 :: 254 :: 2 :: 159 :: 0 :: 7 :: 4 :: 167 :: 0 :: 4 :: 3 :: 61 :: 132 :: 3 :: 1 :: 167 :: 255 :: 227 :: 28 :: 172 :: []
theorem aX12_tells_0 : dc_at cX12_tells 0 sX12_tells_0 := dc_base (by decide +kernel)
theorem dX12_tells_0 : decode cX12_tells 0 = .ok (.iconst 0, 1) := dc_3 aX12_tells_0
theorem dX12_tells_1 : decode cX12_tells 1 = .ok (.istore_n 2, 1) := dc_61 (dc_nn (k := 1) aX12_tells_0 rfl)
theorem dX12_tells_2 : decode cX12_tells 2 = .ok (.iconst 0, 1) := dc_3 (dc_nn (k := 2) aX12_tells_0 rfl)
theorem dX12_tells_3 : decode cX12_tells 3 = .ok (.istore_n 3, 1) := dc_62 (dc_nn (k := 3) aX12_tells_0 rfl)
theorem dX12_tells_4 : decode cX12_tells 4 = .ok (.iload_n 3, 1) := dc_29 (dc_nn (k := 4) aX12_tells_0 rfl)
theorem dX12_tells_5 : decode cX12_tells 5 = .ok (.bipush 22, 2) := dc_16 (a0 := 22) (dc_nn (k := 5) aX12_tells_0 rfl) (by decide)
theorem dX12_tells_7 : decode cX12_tells 7 = .ok (.if_icmp .ge 29, 3) := dc_162 (a0 := 0) (b0 := 29) (dc_nn (k := 7) aX12_tells_0 rfl) (by decide)
theorem dX12_tells_10 : decode cX12_tells 10 = .ok (.iload_n 2, 1) := dc_28 (dc_nn (k := 10) aX12_tells_0 rfl)
theorem dX12_tells_11 : decode cX12_tells 11 = .ok (.ifCond .ne 13, 3) := dc_154 (a0 := 0) (b0 := 13) (dc_nn (k := 11) aX12_tells_0 rfl) (by decide)
theorem dX12_tells_14 : decode cX12_tells 14 = .ok (.aload_n 0, 1) := dc_42 (dc_nn (k := 14) aX12_tells_0 rfl)
theorem dX12_tells_15 : decode cX12_tells 15 = .ok (.iload_n 1, 1) := dc_27 (dc_nn (k := 15) aX12_tells_0 rfl)
theorem dX12_tells_16 : decode cX12_tells 16 = .ok (.iload_n 3, 1) := dc_29 (dc_nn (k := 16) aX12_tells_0 rfl)
theorem dX12_tells_17 : decode cX12_tells 17 = .ok (.invokevirtual 254, 3) := dc_182 (a0 := 0) (b0 := 254) (dc_nn (k := 17) aX12_tells_0 rfl)
theorem dX12_tells_20 : decode cX12_tells 20 = .ok (.iconst (-1), 1) := dc_2 (dc_nn (k := 20) aX12_tells_0 rfl)
theorem dX12_tells_21 : decode cX12_tells 21 = .ok (.if_icmp .eq 7, 3) := dc_159 (a0 := 0) (b0 := 7) (dc_nn (k := 21) aX12_tells_0 rfl) (by decide)
theorem dX12_tells_24 : decode cX12_tells 24 = .ok (.iconst 1, 1) := dc_4 (dc_nn (k := 24) aX12_tells_0 rfl)
theorem dX12_tells_25 : decode cX12_tells 25 = .ok (.goto 4, 3) := dc_167 (a0 := 0) (b0 := 4) (dc_nn (k := 25) aX12_tells_0 rfl) (by decide)
theorem dX12_tells_28 : decode cX12_tells 28 = .ok (.iconst 0, 1) := dc_3 (dc_nn (k := 28) aX12_tells_0 rfl)
theorem dX12_tells_29 : decode cX12_tells 29 = .ok (.istore_n 2, 1) := dc_61 (dc_nn (k := 29) aX12_tells_0 rfl)
theorem dX12_tells_30 : decode cX12_tells 30 = .ok (.iinc 3 1, 3) := dc_132 (a0 := 3) (a1 := 1) (dc_nn (k := 30) aX12_tells_0 rfl) (by decide)
theorem dX12_tells_33 : decode cX12_tells 33 = .ok (.goto (-29), 3) := dc_167 (a0 := 255) (b0 := 227) (dc_nn (k := 33) aX12_tells_0 rfl) (by decide)
theorem dX12_tells_36 : decode cX12_tells 36 = .ok (.iload_n 2, 1) := dc_28 (dc_nn (k := 36) aX12_tells_0 rfl)
theorem dX12_tells_37 : decode cX12_tells 37 = .ok (.ireturn, 1) := dc_172 (dc_nn (k := 37) aX12_tells_0 rfl)
set_option maxRecDepth 20000 in
theorem ggX12_bookTells_X12_tells : GoodIn wsX12_bookTells wsX12_tells := goodIn_k _ [[5, 0, 0, 0], [4, 4, 0, 0, 0, 0, 0, 0, 0, 0, 0, 0, 0, 0, 0, 0, 0, 0, 0, 0, 0, 0, 0, 0, 0, 0, 0, 0, 0, 0, 0, 0, 0, 0, 0, 0, 0, 0, 0, 0, 0, 0, 0, 0, 0, 0, 0, 0, 0, 0, 0, 0, 0, 0, 0, 0, 0, 0, 0, 0, 0]] (by rfl) (by decide +kernel)
set_option maxRecDepth 20000 in
theorem gX12_bookTells_X12_tells : GoodIn wsX12_bookTells (wsV RX12 257 RX12 yX12_tells wsX12_tells) := goodIn_app (goodIn_k _ [[1, 0, 0, 0]] (by rfl) (gw_V _ _ _ _)) ggX12_bookTells_X12_tells
noncomputable def sX12_bookTells_40 : List Nat := 172 :: []
noncomputable def sX12_bookTells_0 : List Nat := 3 :: 61 :: 3 :: 62 :: 29 :: 16 :: 20 :: 162 :: 0 :: 32 :: 28 :: 154 :: 0 :: 16 :: 42 :: 16 :: 20 :: 27 :: 104 :: 29 :: 96 :: 182 :: 1 :: 1 :: 153 :: 0 :: 7 :: 4 :: 167 :: 0 :: 4 :: 3 :: 61 :: 132 :: 3 :: 1 :: 167 :: 255 :: 224 :: 28 :: sX12_bookTells_40
theorem aX12_bookTells_0 : dc_at cX12_bookTells 0 sX12_bookTells_0 := dc_base (by decide +kernel)
theorem aX12_bookTells_40 : dc_at cX12_bookTells 40 sX12_bookTells_40 := dc_nn (k := 40) aX12_bookTells_0 rfl
theorem dX12_bookTells_0 : decode cX12_bookTells 0 = .ok (.iconst 0, 1) := dc_3 aX12_bookTells_0
theorem dX12_bookTells_1 : decode cX12_bookTells 1 = .ok (.istore_n 2, 1) := dc_61 (dc_nn (k := 1) aX12_bookTells_0 rfl)
theorem dX12_bookTells_2 : decode cX12_bookTells 2 = .ok (.iconst 0, 1) := dc_3 (dc_nn (k := 2) aX12_bookTells_0 rfl)
theorem dX12_bookTells_3 : decode cX12_bookTells 3 = .ok (.istore_n 3, 1) := dc_62 (dc_nn (k := 3) aX12_bookTells_0 rfl)
theorem dX12_bookTells_4 : decode cX12_bookTells 4 = .ok (.iload_n 3, 1) := dc_29 (dc_nn (k := 4) aX12_bookTells_0 rfl)
theorem dX12_bookTells_5 : decode cX12_bookTells 5 = .ok (.bipush 20, 2) := dc_16 (a0 := 20) (dc_nn (k := 5) aX12_bookTells_0 rfl) (by decide)
theorem dX12_bookTells_7 : decode cX12_bookTells 7 = .ok (.if_icmp .ge 32, 3) := dc_162 (a0 := 0) (b0 := 32) (dc_nn (k := 7) aX12_bookTells_0 rfl) (by decide)
theorem dX12_bookTells_10 : decode cX12_bookTells 10 = .ok (.iload_n 2, 1) := dc_28 (dc_nn (k := 10) aX12_bookTells_0 rfl)
theorem dX12_bookTells_11 : decode cX12_bookTells 11 = .ok (.ifCond .ne 16, 3) := dc_154 (a0 := 0) (b0 := 16) (dc_nn (k := 11) aX12_bookTells_0 rfl) (by decide)
theorem dX12_bookTells_14 : decode cX12_bookTells 14 = .ok (.aload_n 0, 1) := dc_42 (dc_nn (k := 14) aX12_bookTells_0 rfl)
theorem dX12_bookTells_15 : decode cX12_bookTells 15 = .ok (.bipush 20, 2) := dc_16 (a0 := 20) (dc_nn (k := 15) aX12_bookTells_0 rfl) (by decide)
theorem dX12_bookTells_17 : decode cX12_bookTells 17 = .ok (.iload_n 1, 1) := dc_27 (dc_nn (k := 17) aX12_bookTells_0 rfl)
theorem dX12_bookTells_18 : decode cX12_bookTells 18 = .ok (.imul, 1) := dc_104 (dc_nn (k := 18) aX12_bookTells_0 rfl)
theorem dX12_bookTells_19 : decode cX12_bookTells 19 = .ok (.iload_n 3, 1) := dc_29 (dc_nn (k := 19) aX12_bookTells_0 rfl)
theorem dX12_bookTells_20 : decode cX12_bookTells 20 = .ok (.iadd, 1) := dc_96 (dc_nn (k := 20) aX12_bookTells_0 rfl)
theorem dX12_bookTells_21 : decode cX12_bookTells 21 = .ok (.invokevirtual 257, 3) := dc_182 (a0 := 1) (b0 := 1) (dc_nn (k := 21) aX12_bookTells_0 rfl)
theorem dX12_bookTells_24 : decode cX12_bookTells 24 = .ok (.ifCond .eq 7, 3) := dc_153 (a0 := 0) (b0 := 7) (dc_nn (k := 24) aX12_bookTells_0 rfl) (by decide)
theorem dX12_bookTells_27 : decode cX12_bookTells 27 = .ok (.iconst 1, 1) := dc_4 (dc_nn (k := 27) aX12_bookTells_0 rfl)
theorem dX12_bookTells_28 : decode cX12_bookTells 28 = .ok (.goto 4, 3) := dc_167 (a0 := 0) (b0 := 4) (dc_nn (k := 28) aX12_bookTells_0 rfl) (by decide)
theorem dX12_bookTells_31 : decode cX12_bookTells 31 = .ok (.iconst 0, 1) := dc_3 (dc_nn (k := 31) aX12_bookTells_0 rfl)
theorem dX12_bookTells_32 : decode cX12_bookTells 32 = .ok (.istore_n 2, 1) := dc_61 (dc_nn (k := 32) aX12_bookTells_0 rfl)
theorem dX12_bookTells_33 : decode cX12_bookTells 33 = .ok (.iinc 3 1, 3) := dc_132 (a0 := 3) (a1 := 1) (dc_nn (k := 33) aX12_bookTells_0 rfl) (by decide)
theorem dX12_bookTells_36 : decode cX12_bookTells 36 = .ok (.goto (-32), 3) := dc_167 (a0 := 255) (b0 := 224) (dc_nn (k := 36) aX12_bookTells_0 rfl) (by decide)
theorem dX12_bookTells_39 : decode cX12_bookTells 39 = .ok (.iload_n 2, 1) := dc_28 (dc_nn (k := 39) aX12_bookTells_0 rfl)
theorem dX12_bookTells_40 : decode cX12_bookTells 40 = .ok (.ireturn, 1) := dc_172 aX12_bookTells_40
noncomputable def sX12_floor_0 : List Nat := 30 :: 32 :: 109 :: 55 :: 4 :: 30 :: 32 :: 113 :: 9 :: 148 :: 153 :: 0 :: 16 :: 30 :: 9 :: 148 :: 156 :: 0 :: 10 :: 22 :: 4 :: 10 :: 101 :: 167 :: 0 :: 5 :: 22 :: 4 :: 173 :: []
theorem aX12_floor_0 : dc_at cX12_floor 0 sX12_floor_0 := dc_base (by decide +kernel)
theorem dX12_floor_0 : decode cX12_floor 0 = .ok (.lload_n 0, 1) := dc_30 aX12_floor_0
theorem dX12_floor_1 : decode cX12_floor 1 = .ok (.lload_n 2, 1) := dc_32 (dc_nn (k := 1) aX12_floor_0 rfl)
theorem dX12_floor_2 : decode cX12_floor 2 = .ok (.ldiv, 1) := dc_109 (dc_nn (k := 2) aX12_floor_0 rfl)
theorem dX12_floor_3 : decode cX12_floor 3 = .ok (.lstore 4, 2) := dc_55 (a0 := 4) (dc_nn (k := 3) aX12_floor_0 rfl)
theorem dX12_floor_5 : decode cX12_floor 5 = .ok (.lload_n 0, 1) := dc_30 (dc_nn (k := 5) aX12_floor_0 rfl)
theorem dX12_floor_6 : decode cX12_floor 6 = .ok (.lload_n 2, 1) := dc_32 (dc_nn (k := 6) aX12_floor_0 rfl)
theorem dX12_floor_7 : decode cX12_floor 7 = .ok (.lrem, 1) := dc_113 (dc_nn (k := 7) aX12_floor_0 rfl)
theorem dX12_floor_8 : decode cX12_floor 8 = .ok (.lconst 0, 1) := dc_9 (dc_nn (k := 8) aX12_floor_0 rfl)
theorem dX12_floor_9 : decode cX12_floor 9 = .ok (.lcmp, 1) := dc_148 (dc_nn (k := 9) aX12_floor_0 rfl)
theorem dX12_floor_10 : decode cX12_floor 10 = .ok (.ifCond .eq 16, 3) := dc_153 (a0 := 0) (b0 := 16) (dc_nn (k := 10) aX12_floor_0 rfl) (by decide)
theorem dX12_floor_13 : decode cX12_floor 13 = .ok (.lload_n 0, 1) := dc_30 (dc_nn (k := 13) aX12_floor_0 rfl)
theorem dX12_floor_14 : decode cX12_floor 14 = .ok (.lconst 0, 1) := dc_9 (dc_nn (k := 14) aX12_floor_0 rfl)
theorem dX12_floor_15 : decode cX12_floor 15 = .ok (.lcmp, 1) := dc_148 (dc_nn (k := 15) aX12_floor_0 rfl)
theorem dX12_floor_16 : decode cX12_floor 16 = .ok (.ifCond .ge 10, 3) := dc_156 (a0 := 0) (b0 := 10) (dc_nn (k := 16) aX12_floor_0 rfl) (by decide)
theorem dX12_floor_19 : decode cX12_floor 19 = .ok (.lload 4, 2) := dc_22 (a0 := 4) (dc_nn (k := 19) aX12_floor_0 rfl)
theorem dX12_floor_21 : decode cX12_floor 21 = .ok (.lconst 1, 1) := dc_10 (dc_nn (k := 21) aX12_floor_0 rfl)
theorem dX12_floor_22 : decode cX12_floor 22 = .ok (.lsub, 1) := dc_101 (dc_nn (k := 22) aX12_floor_0 rfl)
theorem dX12_floor_23 : decode cX12_floor 23 = .ok (.goto 5, 3) := dc_167 (a0 := 0) (b0 := 5) (dc_nn (k := 23) aX12_floor_0 rfl) (by decide)
theorem dX12_floor_26 : decode cX12_floor 26 = .ok (.lload 4, 2) := dc_22 (a0 := 4) (dc_nn (k := 26) aX12_floor_0 rfl)
theorem dX12_floor_28 : decode cX12_floor 28 = .ok (.lreturn, 1) := dc_173 (dc_nn (k := 28) aX12_floor_0 rfl)
set_option maxRecDepth 20000 in
theorem ggX12_placeOn_X12_floor : GoodIn wsX12_placeOn wsX12_floor := goodIn_k _ [[11]] (by rfl) (by decide +kernel)
set_option maxRecDepth 20000 in
theorem gX12_placeOn_X12_floor : GoodIn wsX12_placeOn (va_wsS RX12 264 yX12_floor wsX12_floor) := goodIn_app (goodIn_k _ [[8, 0, 0]] (by rfl) (gw_S _ _ _ _)) ggX12_placeOn_X12_floor
noncomputable def sX12_placeOn_121 : List Nat := 21 :: 11 :: 156 :: 0 :: 12 :: 21 :: 11 :: 17 :: 84 :: 96 :: 96 :: 167 :: 0 :: 5 :: 21 :: 11 :: 172 :: []
noncomputable def sX12_placeOn_81 : List Nat := 180 :: 0 :: 19 :: 21 :: 4 :: 46 :: 133 :: 101 :: 42 :: 180 :: 0 :: 16 :: 21 :: 4 :: 46 :: 133 :: 105 :: 42 :: 180 :: 0 :: 19 :: 21 :: 4 :: 46 :: 133 :: 184 :: 1 :: 8 :: 97 :: 55 :: 9 :: 22 :: 9 :: 20 :: 1 :: 12 :: 113 :: 136 :: 54 :: 11 :: sX12_placeOn_121
noncomputable def sX12_placeOn_41 : List Nat := 21 :: 4 :: 46 :: 133 :: 42 :: 180 :: 0 :: 13 :: 21 :: 4 :: 46 :: 133 :: 29 :: 133 :: 105 :: 20 :: 1 :: 6 :: 109 :: 97 :: 20 :: 1 :: 4 :: 22 :: 7 :: 9 :: 148 :: 156 :: 0 :: 9 :: 22 :: 7 :: 117 :: 167 :: 0 :: 5 :: 22 :: 7 :: 105 :: 42 :: sX12_placeOn_81
noncomputable def sX12_placeOn_0 : List Nat := 16 :: 7 :: 27 :: 104 :: 28 :: 96 :: 54 :: 4 :: 29 :: 42 :: 180 :: 0 :: 19 :: 21 :: 4 :: 46 :: 112 :: 133 :: 55 :: 5 :: 20 :: 1 :: 4 :: 22 :: 5 :: 105 :: 42 :: 180 :: 0 :: 19 :: 21 :: 4 :: 46 :: 133 :: 101 :: 55 :: 7 :: 42 :: 180 :: 0 :: 7 :: sX12_placeOn_41
theorem aX12_placeOn_0 : dc_at cX12_placeOn 0 sX12_placeOn_0 := dc_base (by decide +kernel)
theorem aX12_placeOn_41 : dc_at cX12_placeOn 41 sX12_placeOn_41 := dc_nn (k := 41) aX12_placeOn_0 rfl
theorem aX12_placeOn_81 : dc_at cX12_placeOn 81 sX12_placeOn_81 := dc_nn (k := 40) aX12_placeOn_41 rfl
theorem aX12_placeOn_121 : dc_at cX12_placeOn 121 sX12_placeOn_121 := dc_nn (k := 40) aX12_placeOn_81 rfl
theorem dX12_placeOn_0 : decode cX12_placeOn 0 = .ok (.bipush 7, 2) := dc_16 (a0 := 7) aX12_placeOn_0 (by decide)
theorem dX12_placeOn_2 : decode cX12_placeOn 2 = .ok (.iload_n 1, 1) := dc_27 (dc_nn (k := 2) aX12_placeOn_0 rfl)
theorem dX12_placeOn_3 : decode cX12_placeOn 3 = .ok (.imul, 1) := dc_104 (dc_nn (k := 3) aX12_placeOn_0 rfl)
theorem dX12_placeOn_4 : decode cX12_placeOn 4 = .ok (.iload_n 2, 1) := dc_28 (dc_nn (k := 4) aX12_placeOn_0 rfl)
theorem dX12_placeOn_5 : decode cX12_placeOn 5 = .ok (.iadd, 1) := dc_96 (dc_nn (k := 5) aX12_placeOn_0 rfl)
theorem dX12_placeOn_6 : decode cX12_placeOn 6 = .ok (.istore 4, 2) := dc_54 (a0 := 4) (dc_nn (k := 6) aX12_placeOn_0 rfl)
theorem dX12_placeOn_8 : decode cX12_placeOn 8 = .ok (.iload_n 3, 1) := dc_29 (dc_nn (k := 8) aX12_placeOn_0 rfl)
theorem dX12_placeOn_9 : decode cX12_placeOn 9 = .ok (.aload_n 0, 1) := dc_42 (dc_nn (k := 9) aX12_placeOn_0 rfl)
theorem dX12_placeOn_10 : decode cX12_placeOn 10 = .ok (.getfield 19, 3) := dc_180 (a0 := 0) (b0 := 19) (dc_nn (k := 10) aX12_placeOn_0 rfl)
theorem dX12_placeOn_13 : decode cX12_placeOn 13 = .ok (.iload 4, 2) := dc_21 (a0 := 4) (dc_nn (k := 13) aX12_placeOn_0 rfl)
theorem dX12_placeOn_15 : decode cX12_placeOn 15 = .ok (.iaload, 1) := dc_46 (dc_nn (k := 15) aX12_placeOn_0 rfl)
theorem dX12_placeOn_16 : decode cX12_placeOn 16 = .ok (.irem, 1) := dc_112 (dc_nn (k := 16) aX12_placeOn_0 rfl)
theorem dX12_placeOn_17 : decode cX12_placeOn 17 = .ok (.i2l, 1) := dc_133 (dc_nn (k := 17) aX12_placeOn_0 rfl)
theorem dX12_placeOn_18 : decode cX12_placeOn 18 = .ok (.lstore 5, 2) := dc_55 (a0 := 5) (dc_nn (k := 18) aX12_placeOn_0 rfl)
theorem dX12_placeOn_20 : decode cX12_placeOn 20 = .ok (.ldc2_w 260, 3) := dc_20 (a0 := 1) (b0 := 4) (dc_nn (k := 20) aX12_placeOn_0 rfl)
theorem dX12_placeOn_23 : decode cX12_placeOn 23 = .ok (.lload 5, 2) := dc_22 (a0 := 5) (dc_nn (k := 23) aX12_placeOn_0 rfl)
theorem dX12_placeOn_25 : decode cX12_placeOn 25 = .ok (.lmul, 1) := dc_105 (dc_nn (k := 25) aX12_placeOn_0 rfl)
theorem dX12_placeOn_26 : decode cX12_placeOn 26 = .ok (.aload_n 0, 1) := dc_42 (dc_nn (k := 26) aX12_placeOn_0 rfl)
theorem dX12_placeOn_27 : decode cX12_placeOn 27 = .ok (.getfield 19, 3) := dc_180 (a0 := 0) (b0 := 19) (dc_nn (k := 27) aX12_placeOn_0 rfl)
theorem dX12_placeOn_30 : decode cX12_placeOn 30 = .ok (.iload 4, 2) := dc_21 (a0 := 4) (dc_nn (k := 30) aX12_placeOn_0 rfl)
theorem dX12_placeOn_32 : decode cX12_placeOn 32 = .ok (.iaload, 1) := dc_46 (dc_nn (k := 32) aX12_placeOn_0 rfl)
theorem dX12_placeOn_33 : decode cX12_placeOn 33 = .ok (.i2l, 1) := dc_133 (dc_nn (k := 33) aX12_placeOn_0 rfl)
theorem dX12_placeOn_34 : decode cX12_placeOn 34 = .ok (.lsub, 1) := dc_101 (dc_nn (k := 34) aX12_placeOn_0 rfl)
theorem dX12_placeOn_35 : decode cX12_placeOn 35 = .ok (.lstore 7, 2) := dc_55 (a0 := 7) (dc_nn (k := 35) aX12_placeOn_0 rfl)
theorem dX12_placeOn_37 : decode cX12_placeOn 37 = .ok (.aload_n 0, 1) := dc_42 (dc_nn (k := 37) aX12_placeOn_0 rfl)
theorem dX12_placeOn_38 : decode cX12_placeOn 38 = .ok (.getfield 7, 3) := dc_180 (a0 := 0) (b0 := 7) (dc_nn (k := 38) aX12_placeOn_0 rfl)
theorem dX12_placeOn_41 : decode cX12_placeOn 41 = .ok (.iload 4, 2) := dc_21 (a0 := 4) aX12_placeOn_41
theorem dX12_placeOn_43 : decode cX12_placeOn 43 = .ok (.iaload, 1) := dc_46 (dc_nn (k := 2) aX12_placeOn_41 rfl)
theorem dX12_placeOn_44 : decode cX12_placeOn 44 = .ok (.i2l, 1) := dc_133 (dc_nn (k := 3) aX12_placeOn_41 rfl)
theorem dX12_placeOn_45 : decode cX12_placeOn 45 = .ok (.aload_n 0, 1) := dc_42 (dc_nn (k := 4) aX12_placeOn_41 rfl)
theorem dX12_placeOn_46 : decode cX12_placeOn 46 = .ok (.getfield 13, 3) := dc_180 (a0 := 0) (b0 := 13) (dc_nn (k := 5) aX12_placeOn_41 rfl)
theorem dX12_placeOn_49 : decode cX12_placeOn 49 = .ok (.iload 4, 2) := dc_21 (a0 := 4) (dc_nn (k := 8) aX12_placeOn_41 rfl)
theorem dX12_placeOn_51 : decode cX12_placeOn 51 = .ok (.iaload, 1) := dc_46 (dc_nn (k := 10) aX12_placeOn_41 rfl)
theorem dX12_placeOn_52 : decode cX12_placeOn 52 = .ok (.i2l, 1) := dc_133 (dc_nn (k := 11) aX12_placeOn_41 rfl)
theorem dX12_placeOn_53 : decode cX12_placeOn 53 = .ok (.iload_n 3, 1) := dc_29 (dc_nn (k := 12) aX12_placeOn_41 rfl)
theorem dX12_placeOn_54 : decode cX12_placeOn 54 = .ok (.i2l, 1) := dc_133 (dc_nn (k := 13) aX12_placeOn_41 rfl)
theorem dX12_placeOn_55 : decode cX12_placeOn 55 = .ok (.lmul, 1) := dc_105 (dc_nn (k := 14) aX12_placeOn_41 rfl)
theorem dX12_placeOn_56 : decode cX12_placeOn 56 = .ok (.ldc2_w 262, 3) := dc_20 (a0 := 1) (b0 := 6) (dc_nn (k := 15) aX12_placeOn_41 rfl)
theorem dX12_placeOn_59 : decode cX12_placeOn 59 = .ok (.ldiv, 1) := dc_109 (dc_nn (k := 18) aX12_placeOn_41 rfl)
theorem dX12_placeOn_60 : decode cX12_placeOn 60 = .ok (.ladd, 1) := dc_97 (dc_nn (k := 19) aX12_placeOn_41 rfl)
theorem dX12_placeOn_61 : decode cX12_placeOn 61 = .ok (.ldc2_w 260, 3) := dc_20 (a0 := 1) (b0 := 4) (dc_nn (k := 20) aX12_placeOn_41 rfl)
theorem dX12_placeOn_64 : decode cX12_placeOn 64 = .ok (.lload 7, 2) := dc_22 (a0 := 7) (dc_nn (k := 23) aX12_placeOn_41 rfl)
theorem dX12_placeOn_66 : decode cX12_placeOn 66 = .ok (.lconst 0, 1) := dc_9 (dc_nn (k := 25) aX12_placeOn_41 rfl)
theorem dX12_placeOn_67 : decode cX12_placeOn 67 = .ok (.lcmp, 1) := dc_148 (dc_nn (k := 26) aX12_placeOn_41 rfl)
theorem dX12_placeOn_68 : decode cX12_placeOn 68 = .ok (.ifCond .ge 9, 3) := dc_156 (a0 := 0) (b0 := 9) (dc_nn (k := 27) aX12_placeOn_41 rfl) (by decide)
theorem dX12_placeOn_71 : decode cX12_placeOn 71 = .ok (.lload 7, 2) := dc_22 (a0 := 7) (dc_nn (k := 30) aX12_placeOn_41 rfl)
theorem dX12_placeOn_73 : decode cX12_placeOn 73 = .ok (.lneg, 1) := dc_117 (dc_nn (k := 32) aX12_placeOn_41 rfl)
theorem dX12_placeOn_74 : decode cX12_placeOn 74 = .ok (.goto 5, 3) := dc_167 (a0 := 0) (b0 := 5) (dc_nn (k := 33) aX12_placeOn_41 rfl) (by decide)
theorem dX12_placeOn_77 : decode cX12_placeOn 77 = .ok (.lload 7, 2) := dc_22 (a0 := 7) (dc_nn (k := 36) aX12_placeOn_41 rfl)
theorem dX12_placeOn_79 : decode cX12_placeOn 79 = .ok (.lmul, 1) := dc_105 (dc_nn (k := 38) aX12_placeOn_41 rfl)
theorem dX12_placeOn_80 : decode cX12_placeOn 80 = .ok (.aload_n 0, 1) := dc_42 (dc_nn (k := 39) aX12_placeOn_41 rfl)
theorem dX12_placeOn_81 : decode cX12_placeOn 81 = .ok (.getfield 19, 3) := dc_180 (a0 := 0) (b0 := 19) aX12_placeOn_81
theorem dX12_placeOn_84 : decode cX12_placeOn 84 = .ok (.iload 4, 2) := dc_21 (a0 := 4) (dc_nn (k := 3) aX12_placeOn_81 rfl)
theorem dX12_placeOn_86 : decode cX12_placeOn 86 = .ok (.iaload, 1) := dc_46 (dc_nn (k := 5) aX12_placeOn_81 rfl)
theorem dX12_placeOn_87 : decode cX12_placeOn 87 = .ok (.i2l, 1) := dc_133 (dc_nn (k := 6) aX12_placeOn_81 rfl)
theorem dX12_placeOn_88 : decode cX12_placeOn 88 = .ok (.lsub, 1) := dc_101 (dc_nn (k := 7) aX12_placeOn_81 rfl)
theorem dX12_placeOn_89 : decode cX12_placeOn 89 = .ok (.aload_n 0, 1) := dc_42 (dc_nn (k := 8) aX12_placeOn_81 rfl)
theorem dX12_placeOn_90 : decode cX12_placeOn 90 = .ok (.getfield 16, 3) := dc_180 (a0 := 0) (b0 := 16) (dc_nn (k := 9) aX12_placeOn_81 rfl)
theorem dX12_placeOn_93 : decode cX12_placeOn 93 = .ok (.iload 4, 2) := dc_21 (a0 := 4) (dc_nn (k := 12) aX12_placeOn_81 rfl)
theorem dX12_placeOn_95 : decode cX12_placeOn 95 = .ok (.iaload, 1) := dc_46 (dc_nn (k := 14) aX12_placeOn_81 rfl)
theorem dX12_placeOn_96 : decode cX12_placeOn 96 = .ok (.i2l, 1) := dc_133 (dc_nn (k := 15) aX12_placeOn_81 rfl)
theorem dX12_placeOn_97 : decode cX12_placeOn 97 = .ok (.lmul, 1) := dc_105 (dc_nn (k := 16) aX12_placeOn_81 rfl)
theorem dX12_placeOn_98 : decode cX12_placeOn 98 = .ok (.aload_n 0, 1) := dc_42 (dc_nn (k := 17) aX12_placeOn_81 rfl)
theorem dX12_placeOn_99 : decode cX12_placeOn 99 = .ok (.getfield 19, 3) := dc_180 (a0 := 0) (b0 := 19) (dc_nn (k := 18) aX12_placeOn_81 rfl)
theorem dX12_placeOn_102 : decode cX12_placeOn 102 = .ok (.iload 4, 2) := dc_21 (a0 := 4) (dc_nn (k := 21) aX12_placeOn_81 rfl)
theorem dX12_placeOn_104 : decode cX12_placeOn 104 = .ok (.iaload, 1) := dc_46 (dc_nn (k := 23) aX12_placeOn_81 rfl)
theorem dX12_placeOn_105 : decode cX12_placeOn 105 = .ok (.i2l, 1) := dc_133 (dc_nn (k := 24) aX12_placeOn_81 rfl)
theorem dX12_placeOn_106 : decode cX12_placeOn 106 = .ok (.invokestatic 264, 3) := dc_184 (a0 := 1) (b0 := 8) (dc_nn (k := 25) aX12_placeOn_81 rfl)
theorem dX12_placeOn_109 : decode cX12_placeOn 109 = .ok (.ladd, 1) := dc_97 (dc_nn (k := 28) aX12_placeOn_81 rfl)
theorem dX12_placeOn_110 : decode cX12_placeOn 110 = .ok (.lstore 9, 2) := dc_55 (a0 := 9) (dc_nn (k := 29) aX12_placeOn_81 rfl)
theorem dX12_placeOn_112 : decode cX12_placeOn 112 = .ok (.lload 9, 2) := dc_22 (a0 := 9) (dc_nn (k := 31) aX12_placeOn_81 rfl)
theorem dX12_placeOn_114 : decode cX12_placeOn 114 = .ok (.ldc2_w 268, 3) := dc_20 (a0 := 1) (b0 := 12) (dc_nn (k := 33) aX12_placeOn_81 rfl)
theorem dX12_placeOn_117 : decode cX12_placeOn 117 = .ok (.lrem, 1) := dc_113 (dc_nn (k := 36) aX12_placeOn_81 rfl)
theorem dX12_placeOn_118 : decode cX12_placeOn 118 = .ok (.l2i, 1) := dc_136 (dc_nn (k := 37) aX12_placeOn_81 rfl)
theorem dX12_placeOn_119 : decode cX12_placeOn 119 = .ok (.istore 11, 2) := dc_54 (a0 := 11) (dc_nn (k := 38) aX12_placeOn_81 rfl)
theorem dX12_placeOn_121 : decode cX12_placeOn 121 = .ok (.iload 11, 2) := dc_21 (a0 := 11) aX12_placeOn_121
theorem dX12_placeOn_123 : decode cX12_placeOn 123 = .ok (.ifCond .ge 12, 3) := dc_156 (a0 := 0) (b0 := 12) (dc_nn (k := 2) aX12_placeOn_121 rfl) (by decide)
theorem dX12_placeOn_126 : decode cX12_placeOn 126 = .ok (.iload 11, 2) := dc_21 (a0 := 11) (dc_nn (k := 5) aX12_placeOn_121 rfl)
theorem dX12_placeOn_128 : decode cX12_placeOn 128 = .ok (.sipush 21600, 3) := dc_17 (a0 := 84) (b0 := 96) (dc_nn (k := 7) aX12_placeOn_121 rfl) (by decide)
theorem dX12_placeOn_131 : decode cX12_placeOn 131 = .ok (.iadd, 1) := dc_96 (dc_nn (k := 10) aX12_placeOn_121 rfl)
theorem dX12_placeOn_132 : decode cX12_placeOn 132 = .ok (.goto 5, 3) := dc_167 (a0 := 0) (b0 := 5) (dc_nn (k := 11) aX12_placeOn_121 rfl) (by decide)
theorem dX12_placeOn_135 : decode cX12_placeOn 135 = .ok (.iload 11, 2) := dc_21 (a0 := 11) (dc_nn (k := 14) aX12_placeOn_121 rfl)
theorem dX12_placeOn_137 : decode cX12_placeOn 137 = .ok (.ireturn, 1) := dc_172 (dc_nn (k := 16) aX12_placeOn_121 rfl)
set_option maxRecDepth 20000 in
theorem ggX12_place_X12_within : GoodIn wsX12_place wsX12_within := goodIn_k _ [[6]] (by rfl) (by decide +kernel)
set_option maxRecDepth 20000 in
theorem gX12_place_X12_within : GoodIn wsX12_place (va_wsS RX12 270 yX12_within wsX12_within) := goodIn_app (goodIn_k _ [[3, 0, 0]] (by rfl) (gw_S _ _ _ _)) ggX12_place_X12_within
set_option maxRecDepth 20000 in
theorem ggX12_place_X12_right : GoodIn wsX12_place wsX12_right := goodIn_k _ [[10], [1, 23, 0, 0, 0, 0, 0, 0, 0, 0, 0, 0, 0, 0, 0, 0, 0, 0, 0, 0, 0, 0, 0, 0, 0, 0, 0, 0, 0, 0, 0, 0, 0, 0, 0, 0, 0, 0, 0, 0, 0, 0, 0, 0, 0, 0, 0, 0, 0, 0, 0, 0, 0, 0, 0, 0, 0, 0, 0]] (by rfl) (by decide +kernel)
set_option maxRecDepth 20000 in
theorem gX12_place_X12_right : GoodIn wsX12_place (wsV RX12 209 RX12 yX12_right wsX12_right) := goodIn_app (goodIn_k _ [[7, 0, 0], [5]] (by rfl) (gw_V _ _ _ _)) ggX12_place_X12_right
set_option maxRecDepth 20000 in
theorem ggX12_place_X12_placeOn : GoodIn wsX12_place wsX12_placeOn := goodIn_k _ [[14, 0, 0, 0, 0, 0, 0, 0, 0, 0], [5, 18, 0, 0, 0, 0, 0, 0, 0, 0, 0, 0, 0, 0, 0, 0, 0, 0, 0, 0, 0, 0, 0, 0, 0, 0, 0, 0, 0, 0, 0, 0, 0, 0, 0, 0, 0, 0, 0, 0, 0, 0, 0, 0, 0, 0, 0, 0, 0, 0, 0, 0, 0, 0, 0, 0, 0, 0, 0, 0]] (by rfl) (by decide +kernel)
set_option maxRecDepth 20000 in
theorem gX12_place_X12_placeOn : GoodIn wsX12_place (wsV RX12 274 RX12 yX12_placeOn wsX12_placeOn) := goodIn_app (goodIn_k _ [[11, 0, 0], [5]] (by rfl) (gw_V _ _ _ _)) ggX12_place_X12_placeOn
noncomputable def sX12_place_40 : List Nat := 4 :: 182 :: 0 :: 209 :: 154 :: 0 :: 5 :: 3 :: 172 :: 42 :: 27 :: 28 :: 29 :: 182 :: 1 :: 18 :: 172 :: []
noncomputable def sX12_place_0 : List Nat := 42 :: 3 :: 181 :: 0 :: 129 :: 42 :: 27 :: 3 :: 6 :: 184 :: 1 :: 14 :: 153 :: 0 :: 27 :: 28 :: 3 :: 16 :: 6 :: 184 :: 1 :: 14 :: 153 :: 0 :: 17 :: 29 :: 3 :: 18 :: 218 :: 184 :: 1 :: 14 :: 153 :: 0 :: 7 :: 4 :: 167 :: 0 :: 4 :: 3 :: sX12_place_40
theorem aX12_place_0 : dc_at cX12_place 0 sX12_place_0 := dc_base (by decide +kernel)
theorem aX12_place_40 : dc_at cX12_place 40 sX12_place_40 := dc_nn (k := 40) aX12_place_0 rfl
theorem dX12_place_0 : decode cX12_place 0 = .ok (.aload_n 0, 1) := dc_42 aX12_place_0
theorem dX12_place_1 : decode cX12_place 1 = .ok (.iconst 0, 1) := dc_3 (dc_nn (k := 1) aX12_place_0 rfl)
theorem dX12_place_2 : decode cX12_place 2 = .ok (.putfield 129, 3) := dc_181 (a0 := 0) (b0 := 129) (dc_nn (k := 2) aX12_place_0 rfl)
theorem dX12_place_5 : decode cX12_place 5 = .ok (.aload_n 0, 1) := dc_42 (dc_nn (k := 5) aX12_place_0 rfl)
theorem dX12_place_6 : decode cX12_place 6 = .ok (.iload_n 1, 1) := dc_27 (dc_nn (k := 6) aX12_place_0 rfl)
theorem dX12_place_7 : decode cX12_place 7 = .ok (.iconst 0, 1) := dc_3 (dc_nn (k := 7) aX12_place_0 rfl)
theorem dX12_place_8 : decode cX12_place 8 = .ok (.iconst 3, 1) := dc_6 (dc_nn (k := 8) aX12_place_0 rfl)
theorem dX12_place_9 : decode cX12_place 9 = .ok (.invokestatic 270, 3) := dc_184 (a0 := 1) (b0 := 14) (dc_nn (k := 9) aX12_place_0 rfl)
theorem dX12_place_12 : decode cX12_place 12 = .ok (.ifCond .eq 27, 3) := dc_153 (a0 := 0) (b0 := 27) (dc_nn (k := 12) aX12_place_0 rfl) (by decide)
theorem dX12_place_15 : decode cX12_place 15 = .ok (.iload_n 2, 1) := dc_28 (dc_nn (k := 15) aX12_place_0 rfl)
theorem dX12_place_16 : decode cX12_place 16 = .ok (.iconst 0, 1) := dc_3 (dc_nn (k := 16) aX12_place_0 rfl)
theorem dX12_place_17 : decode cX12_place 17 = .ok (.bipush 6, 2) := dc_16 (a0 := 6) (dc_nn (k := 17) aX12_place_0 rfl) (by decide)
theorem dX12_place_19 : decode cX12_place 19 = .ok (.invokestatic 270, 3) := dc_184 (a0 := 1) (b0 := 14) (dc_nn (k := 19) aX12_place_0 rfl)
theorem dX12_place_22 : decode cX12_place 22 = .ok (.ifCond .eq 17, 3) := dc_153 (a0 := 0) (b0 := 17) (dc_nn (k := 22) aX12_place_0 rfl) (by decide)
theorem dX12_place_25 : decode cX12_place 25 = .ok (.iload_n 3, 1) := dc_29 (dc_nn (k := 25) aX12_place_0 rfl)
theorem dX12_place_26 : decode cX12_place 26 = .ok (.iconst 0, 1) := dc_3 (dc_nn (k := 26) aX12_place_0 rfl)
theorem dX12_place_27 : decode cX12_place 27 = .ok (.ldc 218, 2) := dc_18 (a0 := 218) (dc_nn (k := 27) aX12_place_0 rfl)
theorem dX12_place_29 : decode cX12_place 29 = .ok (.invokestatic 270, 3) := dc_184 (a0 := 1) (b0 := 14) (dc_nn (k := 29) aX12_place_0 rfl)
theorem dX12_place_32 : decode cX12_place 32 = .ok (.ifCond .eq 7, 3) := dc_153 (a0 := 0) (b0 := 7) (dc_nn (k := 32) aX12_place_0 rfl) (by decide)
theorem dX12_place_35 : decode cX12_place 35 = .ok (.iconst 1, 1) := dc_4 (dc_nn (k := 35) aX12_place_0 rfl)
theorem dX12_place_36 : decode cX12_place 36 = .ok (.goto 4, 3) := dc_167 (a0 := 0) (b0 := 4) (dc_nn (k := 36) aX12_place_0 rfl) (by decide)
theorem dX12_place_39 : decode cX12_place 39 = .ok (.iconst 0, 1) := dc_3 (dc_nn (k := 39) aX12_place_0 rfl)
theorem dX12_place_40 : decode cX12_place 40 = .ok (.iconst 1, 1) := dc_4 aX12_place_40
theorem dX12_place_41 : decode cX12_place 41 = .ok (.invokevirtual 209, 3) := dc_182 (a0 := 0) (b0 := 209) (dc_nn (k := 1) aX12_place_40 rfl)
theorem dX12_place_44 : decode cX12_place 44 = .ok (.ifCond .ne 5, 3) := dc_154 (a0 := 0) (b0 := 5) (dc_nn (k := 4) aX12_place_40 rfl) (by decide)
theorem dX12_place_47 : decode cX12_place 47 = .ok (.iconst 0, 1) := dc_3 (dc_nn (k := 7) aX12_place_40 rfl)
theorem dX12_place_48 : decode cX12_place 48 = .ok (.ireturn, 1) := dc_172 (dc_nn (k := 8) aX12_place_40 rfl)
theorem dX12_place_49 : decode cX12_place 49 = .ok (.aload_n 0, 1) := dc_42 (dc_nn (k := 9) aX12_place_40 rfl)
theorem dX12_place_50 : decode cX12_place 50 = .ok (.iload_n 1, 1) := dc_27 (dc_nn (k := 10) aX12_place_40 rfl)
theorem dX12_place_51 : decode cX12_place 51 = .ok (.iload_n 2, 1) := dc_28 (dc_nn (k := 11) aX12_place_40 rfl)
theorem dX12_place_52 : decode cX12_place 52 = .ok (.iload_n 3, 1) := dc_29 (dc_nn (k := 12) aX12_place_40 rfl)
theorem dX12_place_53 : decode cX12_place 53 = .ok (.invokevirtual 274, 3) := dc_182 (a0 := 1) (b0 := 18) (dc_nn (k := 13) aX12_place_40 rfl)
theorem dX12_place_56 : decode cX12_place 56 = .ok (.ireturn, 1) := dc_172 (dc_nn (k := 16) aX12_place_40 rfl)
set_option maxRecDepth 20000 in
theorem ggX12_entry_X12_isWheel : GoodIn wsX12_entry wsX12_isWheel := goodIn_k _ [[5, 0, 0, 0, 0], [4, 5, 8, 0, 0, 0, 0, 0, 0, 0, 0, 0, 0, 0, 0, 0, 0, 0, 0, 0, 0, 0, 0, 0, 0, 0, 0, 0, 0, 0, 0, 0, 0, 0, 0, 0, 0, 0, 0, 0, 0, 0, 0, 0, 0, 0, 0, 0, 0, 0, 0, 0, 0, 0, 0, 0, 0, 0, 0, 0]] (by rfl) (by decide +kernel)
set_option maxRecDepth 20000 in
theorem gX12_entry_X12_isWheel : GoodIn wsX12_entry (wsV RX12 247 RX12 yX12_isWheel wsX12_isWheel) := goodIn_app (goodIn_k _ [[1, 0, 0, 0]] (by rfl) (gw_V _ _ _ _)) ggX12_entry_X12_isWheel
set_option maxRecDepth 20000 in
theorem ggX12_entry_X12_within : GoodIn wsX12_entry wsX12_within := goodIn_k _ [[13]] (by rfl) (by decide +kernel)
set_option maxRecDepth 20000 in
theorem gX12_entry_X12_within : GoodIn wsX12_entry (va_wsS RX12 270 yX12_within wsX12_within) := goodIn_app (goodIn_k _ [[11, 0], [4]] (by rfl) (gw_S _ _ _ _)) ggX12_entry_X12_within
set_option maxRecDepth 20000 in
theorem ggX12_entry_X12_right : GoodIn wsX12_entry wsX12_right := goodIn_k _ [[10], [6, 12, 0, 0, 0, 0, 0, 0, 0, 0, 0, 0, 0, 0, 0, 0, 0, 0, 0, 0, 0, 0, 0, 0, 0, 0, 0, 0, 0, 0, 0, 0, 0, 0, 0, 0, 0, 0, 0, 0, 0, 0, 0, 0, 0, 0, 0, 0, 0, 0, 0, 0, 0, 0, 0, 0, 0, 0, 0]] (by rfl) (by decide +kernel)
set_option maxRecDepth 20000 in
theorem gX12_entry_X12_right : GoodIn wsX12_entry (wsV RX12 209 RX12 yX12_right wsX12_right) := goodIn_app (goodIn_k _ [[7, 0, 0], [4]] (by rfl) (gw_V _ _ _ _)) ggX12_entry_X12_right
set_option maxRecDepth 20000 in
theorem ggX12_entry_X12_at : GoodIn wsX12_entry wsX12_at := goodIn_k _ [[17, 0, 0, 0, 0, 0, 0, 0, 0, 0, 0, 0, 0, 0, 0, 0, 0, 0, 0, 0, 0, 0, 0, 0, 0, 0, 0, 0, 0, 0, 0, 0, 0, 0, 0, 0, 0, 0, 0, 0, 0, 0, 0, 0, 0, 0, 0, 0, 0, 0, 0, 0, 0, 0, 0, 0, 0, 0, 0, 0]] (by rfl) (by decide +kernel)
set_option maxRecDepth 20000 in
theorem gX12_entry_X12_at : GoodIn wsX12_entry (wsV RX12 254 RX12 yX12_at wsX12_at) := goodIn_app (goodIn_k _ [[14, 0, 0], [4]] (by rfl) (gw_V _ _ _ _)) ggX12_entry_X12_at
noncomputable def sX12_entry_0 : List Nat := 42 :: 27 :: 28 :: 182 :: 0 :: 247 :: 153 :: 0 :: 18 :: 42 :: 29 :: 3 :: 16 :: 21 :: 184 :: 1 :: 14 :: 4 :: 182 :: 0 :: 209 :: 154 :: 0 :: 5 :: 3 :: 172 :: 42 :: 16 :: 20 :: 27 :: 104 :: 28 :: 96 :: 29 :: 182 :: 0 :: 254 :: 172 :: []
theorem aX12_entry_0 : dc_at cX12_entry 0 sX12_entry_0 := dc_base (by decide +kernel)
theorem dX12_entry_0 : decode cX12_entry 0 = .ok (.aload_n 0, 1) := dc_42 aX12_entry_0
theorem dX12_entry_1 : decode cX12_entry 1 = .ok (.iload_n 1, 1) := dc_27 (dc_nn (k := 1) aX12_entry_0 rfl)
theorem dX12_entry_2 : decode cX12_entry 2 = .ok (.iload_n 2, 1) := dc_28 (dc_nn (k := 2) aX12_entry_0 rfl)
theorem dX12_entry_3 : decode cX12_entry 3 = .ok (.invokevirtual 247, 3) := dc_182 (a0 := 0) (b0 := 247) (dc_nn (k := 3) aX12_entry_0 rfl)
theorem dX12_entry_6 : decode cX12_entry 6 = .ok (.ifCond .eq 18, 3) := dc_153 (a0 := 0) (b0 := 18) (dc_nn (k := 6) aX12_entry_0 rfl) (by decide)
theorem dX12_entry_9 : decode cX12_entry 9 = .ok (.aload_n 0, 1) := dc_42 (dc_nn (k := 9) aX12_entry_0 rfl)
theorem dX12_entry_10 : decode cX12_entry 10 = .ok (.iload_n 3, 1) := dc_29 (dc_nn (k := 10) aX12_entry_0 rfl)
theorem dX12_entry_11 : decode cX12_entry 11 = .ok (.iconst 0, 1) := dc_3 (dc_nn (k := 11) aX12_entry_0 rfl)
theorem dX12_entry_12 : decode cX12_entry 12 = .ok (.bipush 21, 2) := dc_16 (a0 := 21) (dc_nn (k := 12) aX12_entry_0 rfl) (by decide)
theorem dX12_entry_14 : decode cX12_entry 14 = .ok (.invokestatic 270, 3) := dc_184 (a0 := 1) (b0 := 14) (dc_nn (k := 14) aX12_entry_0 rfl)
theorem dX12_entry_17 : decode cX12_entry 17 = .ok (.iconst 1, 1) := dc_4 (dc_nn (k := 17) aX12_entry_0 rfl)
theorem dX12_entry_18 : decode cX12_entry 18 = .ok (.invokevirtual 209, 3) := dc_182 (a0 := 0) (b0 := 209) (dc_nn (k := 18) aX12_entry_0 rfl)
theorem dX12_entry_21 : decode cX12_entry 21 = .ok (.ifCond .ne 5, 3) := dc_154 (a0 := 0) (b0 := 5) (dc_nn (k := 21) aX12_entry_0 rfl) (by decide)
theorem dX12_entry_24 : decode cX12_entry 24 = .ok (.iconst 0, 1) := dc_3 (dc_nn (k := 24) aX12_entry_0 rfl)
theorem dX12_entry_25 : decode cX12_entry 25 = .ok (.ireturn, 1) := dc_172 (dc_nn (k := 25) aX12_entry_0 rfl)
theorem dX12_entry_26 : decode cX12_entry 26 = .ok (.aload_n 0, 1) := dc_42 (dc_nn (k := 26) aX12_entry_0 rfl)
theorem dX12_entry_27 : decode cX12_entry 27 = .ok (.bipush 20, 2) := dc_16 (a0 := 20) (dc_nn (k := 27) aX12_entry_0 rfl) (by decide)
theorem dX12_entry_29 : decode cX12_entry 29 = .ok (.iload_n 1, 1) := dc_27 (dc_nn (k := 29) aX12_entry_0 rfl)
theorem dX12_entry_30 : decode cX12_entry 30 = .ok (.imul, 1) := dc_104 (dc_nn (k := 30) aX12_entry_0 rfl)
theorem dX12_entry_31 : decode cX12_entry 31 = .ok (.iload_n 2, 1) := dc_28 (dc_nn (k := 31) aX12_entry_0 rfl)
theorem dX12_entry_32 : decode cX12_entry 32 = .ok (.iadd, 1) := dc_96 (dc_nn (k := 32) aX12_entry_0 rfl)
theorem dX12_entry_33 : decode cX12_entry 33 = .ok (.iload_n 3, 1) := dc_29 (dc_nn (k := 33) aX12_entry_0 rfl)
theorem dX12_entry_34 : decode cX12_entry 34 = .ok (.invokevirtual 254, 3) := dc_182 (a0 := 0) (b0 := 254) (dc_nn (k := 34) aX12_entry_0 rfl)
theorem dX12_entry_37 : decode cX12_entry 37 = .ok (.ireturn, 1) := dc_172 (dc_nn (k := 37) aX12_entry_0 rfl)
noncomputable def sX12_isHand_40 : List Nat := 4 :: 167 :: 0 :: 4 :: 3 :: 62 :: 132 :: 4 :: 1 :: 167 :: 255 :: 212 :: 29 :: 172 :: []
noncomputable def sX12_isHand_0 : List Nat := 3 :: 62 :: 3 :: 54 :: 4 :: 21 :: 4 :: 42 :: 180 :: 0 :: 231 :: 162 :: 0 :: 41 :: 29 :: 154 :: 0 :: 25 :: 42 :: 180 :: 0 :: 28 :: 21 :: 4 :: 46 :: 27 :: 160 :: 0 :: 18 :: 42 :: 180 :: 0 :: 25 :: 21 :: 4 :: 46 :: 28 :: 160 :: 0 :: 7 :: sX12_isHand_40
theorem aX12_isHand_0 : dc_at cX12_isHand 0 sX12_isHand_0 := dc_base (by decide +kernel)
theorem aX12_isHand_40 : dc_at cX12_isHand 40 sX12_isHand_40 := dc_nn (k := 40) aX12_isHand_0 rfl
theorem dX12_isHand_0 : decode cX12_isHand 0 = .ok (.iconst 0, 1) := dc_3 aX12_isHand_0
theorem dX12_isHand_1 : decode cX12_isHand 1 = .ok (.istore_n 3, 1) := dc_62 (dc_nn (k := 1) aX12_isHand_0 rfl)
theorem dX12_isHand_2 : decode cX12_isHand 2 = .ok (.iconst 0, 1) := dc_3 (dc_nn (k := 2) aX12_isHand_0 rfl)
theorem dX12_isHand_3 : decode cX12_isHand 3 = .ok (.istore 4, 2) := dc_54 (a0 := 4) (dc_nn (k := 3) aX12_isHand_0 rfl)
theorem dX12_isHand_5 : decode cX12_isHand 5 = .ok (.iload 4, 2) := dc_21 (a0 := 4) (dc_nn (k := 5) aX12_isHand_0 rfl)
theorem dX12_isHand_7 : decode cX12_isHand 7 = .ok (.aload_n 0, 1) := dc_42 (dc_nn (k := 7) aX12_isHand_0 rfl)
theorem dX12_isHand_8 : decode cX12_isHand 8 = .ok (.getfield 231, 3) := dc_180 (a0 := 0) (b0 := 231) (dc_nn (k := 8) aX12_isHand_0 rfl)
theorem dX12_isHand_11 : decode cX12_isHand 11 = .ok (.if_icmp .ge 41, 3) := dc_162 (a0 := 0) (b0 := 41) (dc_nn (k := 11) aX12_isHand_0 rfl) (by decide)
theorem dX12_isHand_14 : decode cX12_isHand 14 = .ok (.iload_n 3, 1) := dc_29 (dc_nn (k := 14) aX12_isHand_0 rfl)
theorem dX12_isHand_15 : decode cX12_isHand 15 = .ok (.ifCond .ne 25, 3) := dc_154 (a0 := 0) (b0 := 25) (dc_nn (k := 15) aX12_isHand_0 rfl) (by decide)
theorem dX12_isHand_18 : decode cX12_isHand 18 = .ok (.aload_n 0, 1) := dc_42 (dc_nn (k := 18) aX12_isHand_0 rfl)
theorem dX12_isHand_19 : decode cX12_isHand 19 = .ok (.getfield 28, 3) := dc_180 (a0 := 0) (b0 := 28) (dc_nn (k := 19) aX12_isHand_0 rfl)
theorem dX12_isHand_22 : decode cX12_isHand 22 = .ok (.iload 4, 2) := dc_21 (a0 := 4) (dc_nn (k := 22) aX12_isHand_0 rfl)
theorem dX12_isHand_24 : decode cX12_isHand 24 = .ok (.iaload, 1) := dc_46 (dc_nn (k := 24) aX12_isHand_0 rfl)
theorem dX12_isHand_25 : decode cX12_isHand 25 = .ok (.iload_n 1, 1) := dc_27 (dc_nn (k := 25) aX12_isHand_0 rfl)
theorem dX12_isHand_26 : decode cX12_isHand 26 = .ok (.if_icmp .ne 18, 3) := dc_160 (a0 := 0) (b0 := 18) (dc_nn (k := 26) aX12_isHand_0 rfl) (by decide)
theorem dX12_isHand_29 : decode cX12_isHand 29 = .ok (.aload_n 0, 1) := dc_42 (dc_nn (k := 29) aX12_isHand_0 rfl)
theorem dX12_isHand_30 : decode cX12_isHand 30 = .ok (.getfield 25, 3) := dc_180 (a0 := 0) (b0 := 25) (dc_nn (k := 30) aX12_isHand_0 rfl)
theorem dX12_isHand_33 : decode cX12_isHand 33 = .ok (.iload 4, 2) := dc_21 (a0 := 4) (dc_nn (k := 33) aX12_isHand_0 rfl)
theorem dX12_isHand_35 : decode cX12_isHand 35 = .ok (.iaload, 1) := dc_46 (dc_nn (k := 35) aX12_isHand_0 rfl)
theorem dX12_isHand_36 : decode cX12_isHand 36 = .ok (.iload_n 2, 1) := dc_28 (dc_nn (k := 36) aX12_isHand_0 rfl)
theorem dX12_isHand_37 : decode cX12_isHand 37 = .ok (.if_icmp .ne 7, 3) := dc_160 (a0 := 0) (b0 := 7) (dc_nn (k := 37) aX12_isHand_0 rfl) (by decide)
theorem dX12_isHand_40 : decode cX12_isHand 40 = .ok (.iconst 1, 1) := dc_4 aX12_isHand_40
theorem dX12_isHand_41 : decode cX12_isHand 41 = .ok (.goto 4, 3) := dc_167 (a0 := 0) (b0 := 4) (dc_nn (k := 1) aX12_isHand_40 rfl) (by decide)
theorem dX12_isHand_44 : decode cX12_isHand 44 = .ok (.iconst 0, 1) := dc_3 (dc_nn (k := 4) aX12_isHand_40 rfl)
theorem dX12_isHand_45 : decode cX12_isHand 45 = .ok (.istore_n 3, 1) := dc_62 (dc_nn (k := 5) aX12_isHand_40 rfl)
theorem dX12_isHand_46 : decode cX12_isHand 46 = .ok (.iinc 4 1, 3) := dc_132 (a0 := 4) (a1 := 1) (dc_nn (k := 6) aX12_isHand_40 rfl) (by decide)
theorem dX12_isHand_49 : decode cX12_isHand 49 = .ok (.goto (-44), 3) := dc_167 (a0 := 255) (b0 := 212) (dc_nn (k := 9) aX12_isHand_40 rfl) (by decide)
theorem dX12_isHand_52 : decode cX12_isHand 52 = .ok (.iload_n 3, 1) := dc_29 (dc_nn (k := 12) aX12_isHand_40 rfl)
theorem dX12_isHand_53 : decode cX12_isHand 53 = .ok (.ireturn, 1) := dc_172 (dc_nn (k := 13) aX12_isHand_40 rfl)
set_option maxRecDepth 20000 in
theorem ggX12_beside_X12_isHand : GoodIn wsX12_beside wsX12_isHand := goodIn_k _ [[5, 0, 0, 0, 0, 0, 0, 0, 0, 0, 0, 0, 0, 0, 0, 0, 0, 0, 0, 0, 0, 0, 0, 0, 0, 0, 0, 0, 0, 0, 0, 0, 0, 0, 0, 0, 0, 0, 0, 0, 0, 0, 0, 0, 0, 0, 0, 0, 0, 0, 0, 0, 0, 0, 0, 0, 0, 0, 0, 0, 0, 0]] (by rfl) (by decide +kernel)
set_option maxRecDepth 20000 in
theorem gX12_beside_X12_isHand : GoodIn wsX12_beside (wsV RX12 277 RX12 yX12_isHand wsX12_isHand) := goodIn_app (goodIn_k _ [[1, 0, 0, 0]] (by rfl) (gw_V _ _ _ _)) ggX12_beside_X12_isHand
noncomputable def sX12_beside_40 : List Nat := 27 :: 16 :: 30 :: 112 :: 28 :: 16 :: 30 :: 112 :: 160 :: 0 :: 22 :: 42 :: 27 :: 16 :: 30 :: 108 :: 28 :: 16 :: 30 :: 108 :: 182 :: 1 :: 21 :: 153 :: 0 :: 7 :: 5 :: 167 :: 0 :: 5 :: 16 :: 9 :: 172 :: []
noncomputable def sX12_beside_0 : List Nat := 27 :: 28 :: 160 :: 0 :: 5 :: 3 :: 172 :: 27 :: 16 :: 30 :: 108 :: 28 :: 16 :: 30 :: 108 :: 160 :: 0 :: 25 :: 42 :: 27 :: 16 :: 30 :: 112 :: 28 :: 16 :: 30 :: 112 :: 182 :: 1 :: 21 :: 153 :: 0 :: 7 :: 4 :: 167 :: 0 :: 5 :: 16 :: 9 :: 172 :: sX12_beside_40
theorem aX12_beside_0 : dc_at cX12_beside 0 sX12_beside_0 := dc_base (by decide +kernel)
theorem aX12_beside_40 : dc_at cX12_beside 40 sX12_beside_40 := dc_nn (k := 40) aX12_beside_0 rfl
theorem dX12_beside_0 : decode cX12_beside 0 = .ok (.iload_n 1, 1) := dc_27 aX12_beside_0
theorem dX12_beside_1 : decode cX12_beside 1 = .ok (.iload_n 2, 1) := dc_28 (dc_nn (k := 1) aX12_beside_0 rfl)
theorem dX12_beside_2 : decode cX12_beside 2 = .ok (.if_icmp .ne 5, 3) := dc_160 (a0 := 0) (b0 := 5) (dc_nn (k := 2) aX12_beside_0 rfl) (by decide)
theorem dX12_beside_5 : decode cX12_beside 5 = .ok (.iconst 0, 1) := dc_3 (dc_nn (k := 5) aX12_beside_0 rfl)
theorem dX12_beside_6 : decode cX12_beside 6 = .ok (.ireturn, 1) := dc_172 (dc_nn (k := 6) aX12_beside_0 rfl)
theorem dX12_beside_7 : decode cX12_beside 7 = .ok (.iload_n 1, 1) := dc_27 (dc_nn (k := 7) aX12_beside_0 rfl)
theorem dX12_beside_8 : decode cX12_beside 8 = .ok (.bipush 30, 2) := dc_16 (a0 := 30) (dc_nn (k := 8) aX12_beside_0 rfl) (by decide)
theorem dX12_beside_10 : decode cX12_beside 10 = .ok (.idiv, 1) := dc_108 (dc_nn (k := 10) aX12_beside_0 rfl)
theorem dX12_beside_11 : decode cX12_beside 11 = .ok (.iload_n 2, 1) := dc_28 (dc_nn (k := 11) aX12_beside_0 rfl)
theorem dX12_beside_12 : decode cX12_beside 12 = .ok (.bipush 30, 2) := dc_16 (a0 := 30) (dc_nn (k := 12) aX12_beside_0 rfl) (by decide)
theorem dX12_beside_14 : decode cX12_beside 14 = .ok (.idiv, 1) := dc_108 (dc_nn (k := 14) aX12_beside_0 rfl)
theorem dX12_beside_15 : decode cX12_beside 15 = .ok (.if_icmp .ne 25, 3) := dc_160 (a0 := 0) (b0 := 25) (dc_nn (k := 15) aX12_beside_0 rfl) (by decide)
theorem dX12_beside_18 : decode cX12_beside 18 = .ok (.aload_n 0, 1) := dc_42 (dc_nn (k := 18) aX12_beside_0 rfl)
theorem dX12_beside_19 : decode cX12_beside 19 = .ok (.iload_n 1, 1) := dc_27 (dc_nn (k := 19) aX12_beside_0 rfl)
theorem dX12_beside_20 : decode cX12_beside 20 = .ok (.bipush 30, 2) := dc_16 (a0 := 30) (dc_nn (k := 20) aX12_beside_0 rfl) (by decide)
theorem dX12_beside_22 : decode cX12_beside 22 = .ok (.irem, 1) := dc_112 (dc_nn (k := 22) aX12_beside_0 rfl)
theorem dX12_beside_23 : decode cX12_beside 23 = .ok (.iload_n 2, 1) := dc_28 (dc_nn (k := 23) aX12_beside_0 rfl)
theorem dX12_beside_24 : decode cX12_beside 24 = .ok (.bipush 30, 2) := dc_16 (a0 := 30) (dc_nn (k := 24) aX12_beside_0 rfl) (by decide)
theorem dX12_beside_26 : decode cX12_beside 26 = .ok (.irem, 1) := dc_112 (dc_nn (k := 26) aX12_beside_0 rfl)
theorem dX12_beside_27 : decode cX12_beside 27 = .ok (.invokevirtual 277, 3) := dc_182 (a0 := 1) (b0 := 21) (dc_nn (k := 27) aX12_beside_0 rfl)
theorem dX12_beside_30 : decode cX12_beside 30 = .ok (.ifCond .eq 7, 3) := dc_153 (a0 := 0) (b0 := 7) (dc_nn (k := 30) aX12_beside_0 rfl) (by decide)
theorem dX12_beside_33 : decode cX12_beside 33 = .ok (.iconst 1, 1) := dc_4 (dc_nn (k := 33) aX12_beside_0 rfl)
theorem dX12_beside_34 : decode cX12_beside 34 = .ok (.goto 5, 3) := dc_167 (a0 := 0) (b0 := 5) (dc_nn (k := 34) aX12_beside_0 rfl) (by decide)
theorem dX12_beside_37 : decode cX12_beside 37 = .ok (.bipush 9, 2) := dc_16 (a0 := 9) (dc_nn (k := 37) aX12_beside_0 rfl) (by decide)
theorem dX12_beside_39 : decode cX12_beside 39 = .ok (.ireturn, 1) := dc_172 (dc_nn (k := 39) aX12_beside_0 rfl)
theorem dX12_beside_40 : decode cX12_beside 40 = .ok (.iload_n 1, 1) := dc_27 aX12_beside_40
theorem dX12_beside_41 : decode cX12_beside 41 = .ok (.bipush 30, 2) := dc_16 (a0 := 30) (dc_nn (k := 1) aX12_beside_40 rfl) (by decide)
theorem dX12_beside_43 : decode cX12_beside 43 = .ok (.irem, 1) := dc_112 (dc_nn (k := 3) aX12_beside_40 rfl)
theorem dX12_beside_44 : decode cX12_beside 44 = .ok (.iload_n 2, 1) := dc_28 (dc_nn (k := 4) aX12_beside_40 rfl)
theorem dX12_beside_45 : decode cX12_beside 45 = .ok (.bipush 30, 2) := dc_16 (a0 := 30) (dc_nn (k := 5) aX12_beside_40 rfl) (by decide)
theorem dX12_beside_47 : decode cX12_beside 47 = .ok (.irem, 1) := dc_112 (dc_nn (k := 7) aX12_beside_40 rfl)
theorem dX12_beside_48 : decode cX12_beside 48 = .ok (.if_icmp .ne 22, 3) := dc_160 (a0 := 0) (b0 := 22) (dc_nn (k := 8) aX12_beside_40 rfl) (by decide)
theorem dX12_beside_51 : decode cX12_beside 51 = .ok (.aload_n 0, 1) := dc_42 (dc_nn (k := 11) aX12_beside_40 rfl)
theorem dX12_beside_52 : decode cX12_beside 52 = .ok (.iload_n 1, 1) := dc_27 (dc_nn (k := 12) aX12_beside_40 rfl)
theorem dX12_beside_53 : decode cX12_beside 53 = .ok (.bipush 30, 2) := dc_16 (a0 := 30) (dc_nn (k := 13) aX12_beside_40 rfl) (by decide)
theorem dX12_beside_55 : decode cX12_beside 55 = .ok (.idiv, 1) := dc_108 (dc_nn (k := 15) aX12_beside_40 rfl)
theorem dX12_beside_56 : decode cX12_beside 56 = .ok (.iload_n 2, 1) := dc_28 (dc_nn (k := 16) aX12_beside_40 rfl)
theorem dX12_beside_57 : decode cX12_beside 57 = .ok (.bipush 30, 2) := dc_16 (a0 := 30) (dc_nn (k := 17) aX12_beside_40 rfl) (by decide)
theorem dX12_beside_59 : decode cX12_beside 59 = .ok (.idiv, 1) := dc_108 (dc_nn (k := 19) aX12_beside_40 rfl)
theorem dX12_beside_60 : decode cX12_beside 60 = .ok (.invokevirtual 277, 3) := dc_182 (a0 := 1) (b0 := 21) (dc_nn (k := 20) aX12_beside_40 rfl)
theorem dX12_beside_63 : decode cX12_beside 63 = .ok (.ifCond .eq 7, 3) := dc_153 (a0 := 0) (b0 := 7) (dc_nn (k := 23) aX12_beside_40 rfl) (by decide)
theorem dX12_beside_66 : decode cX12_beside 66 = .ok (.iconst 2, 1) := dc_5 (dc_nn (k := 26) aX12_beside_40 rfl)
theorem dX12_beside_67 : decode cX12_beside 67 = .ok (.goto 5, 3) := dc_167 (a0 := 0) (b0 := 5) (dc_nn (k := 27) aX12_beside_40 rfl) (by decide)
theorem dX12_beside_70 : decode cX12_beside 70 = .ok (.bipush 9, 2) := dc_16 (a0 := 9) (dc_nn (k := 30) aX12_beside_40 rfl) (by decide)
theorem dX12_beside_72 : decode cX12_beside 72 = .ok (.ireturn, 1) := dc_172 (dc_nn (k := 32) aX12_beside_40 rfl)
set_option maxRecDepth 20000 in
theorem ggX12_costOf_X12_beside : GoodIn wsX12_costOf wsX12_beside := goodIn_k _ [[5, 0, 0, 0], [4, 4, 0, 0, 0, 0, 0, 0, 0, 0, 0, 0, 0, 0, 0, 0, 0, 0, 0, 0, 0, 0, 0, 0, 0, 0, 0, 0, 0, 0, 0, 0, 0, 0, 0, 0, 0, 0, 0, 0, 0, 0, 0, 0, 0, 0, 0, 0, 0, 0, 0, 0, 0, 0, 0, 0, 0, 0, 0, 0, 0, 0, 0]] (by rfl) (by decide +kernel)
set_option maxRecDepth 20000 in
theorem gX12_costOf_X12_beside : GoodIn wsX12_costOf (wsV RX12 280 RX12 yX12_beside wsX12_beside) := goodIn_app (goodIn_k _ [[1, 0, 0, 0]] (by rfl) (gw_V _ _ _ _)) ggX12_costOf_X12_beside
noncomputable def sX12_costOf_0 : List Nat := 42 :: 27 :: 28 :: 182 :: 1 :: 24 :: 62 :: 29 :: 5 :: 160 :: 0 :: 7 :: 4 :: 167 :: 0 :: 4 :: 29 :: 172 :: []
theorem aX12_costOf_0 : dc_at cX12_costOf 0 sX12_costOf_0 := dc_base (by decide +kernel)
theorem dX12_costOf_0 : decode cX12_costOf 0 = .ok (.aload_n 0, 1) := dc_42 aX12_costOf_0
theorem dX12_costOf_1 : decode cX12_costOf 1 = .ok (.iload_n 1, 1) := dc_27 (dc_nn (k := 1) aX12_costOf_0 rfl)
theorem dX12_costOf_2 : decode cX12_costOf 2 = .ok (.iload_n 2, 1) := dc_28 (dc_nn (k := 2) aX12_costOf_0 rfl)
theorem dX12_costOf_3 : decode cX12_costOf 3 = .ok (.invokevirtual 280, 3) := dc_182 (a0 := 1) (b0 := 24) (dc_nn (k := 3) aX12_costOf_0 rfl)
theorem dX12_costOf_6 : decode cX12_costOf 6 = .ok (.istore_n 3, 1) := dc_62 (dc_nn (k := 6) aX12_costOf_0 rfl)
theorem dX12_costOf_7 : decode cX12_costOf 7 = .ok (.iload_n 3, 1) := dc_29 (dc_nn (k := 7) aX12_costOf_0 rfl)
theorem dX12_costOf_8 : decode cX12_costOf 8 = .ok (.iconst 2, 1) := dc_5 (dc_nn (k := 8) aX12_costOf_0 rfl)
theorem dX12_costOf_9 : decode cX12_costOf 9 = .ok (.if_icmp .ne 7, 3) := dc_160 (a0 := 0) (b0 := 7) (dc_nn (k := 9) aX12_costOf_0 rfl) (by decide)
theorem dX12_costOf_12 : decode cX12_costOf 12 = .ok (.iconst 1, 1) := dc_4 (dc_nn (k := 12) aX12_costOf_0 rfl)
theorem dX12_costOf_13 : decode cX12_costOf 13 = .ok (.goto 4, 3) := dc_167 (a0 := 0) (b0 := 4) (dc_nn (k := 13) aX12_costOf_0 rfl) (by decide)
theorem dX12_costOf_16 : decode cX12_costOf 16 = .ok (.iload_n 3, 1) := dc_29 (dc_nn (k := 16) aX12_costOf_0 rfl)
theorem dX12_costOf_17 : decode cX12_costOf 17 = .ok (.ireturn, 1) := dc_172 (dc_nn (k := 17) aX12_costOf_0 rfl)
set_option maxRecDepth 20000 in
theorem ggX12_costOn_X12_at : GoodIn wsX12_costOn wsX12_at := goodIn_k _ [[5, 0, 29, 0, 0, 0, 0, 0, 0, 0, 0, 0, 0, 0, 0, 0, 0, 0, 0, 0, 0, 0, 0, 0, 0, 0, 0, 0, 0, 0, 0, 0, 0, 0, 0, 0, 0, 0, 0, 0, 0, 0, 0, 0, 0, 0, 0, 0, 0, 0, 0, 0, 0, 0, 0, 0, 0, 0, 0, 0]] (by rfl) (by decide +kernel)
set_option maxRecDepth 20000 in
theorem gX12_costOn_X12_at : GoodIn wsX12_costOn (wsV RX12 254 RX12 yX12_at wsX12_at) := goodIn_app (goodIn_k _ [[1, 0, 0, 0]] (by rfl) (gw_V _ _ _ _)) ggX12_costOn_X12_at
set_option maxRecDepth 20000 in
theorem ggX12_costOn_X12_placeOn : GoodIn wsX12_costOn wsX12_placeOn := goodIn_k _ [[10, 0, 0, 0, 0, 0, 0, 0, 0, 0], [4, 15, 15, 0, 0, 0, 0, 0, 0, 0, 0, 0, 0, 0, 0, 0, 0, 0, 0, 0, 0, 0, 0, 0, 0, 0, 0, 0, 0, 0, 0, 0, 0, 0, 0, 0, 0, 0, 0, 0, 0, 0, 0, 0, 0, 0, 0, 0, 0, 0, 0, 0, 0, 0, 0, 0, 0, 0, 0, 0]] (by rfl) (by decide +kernel)
set_option maxRecDepth 20000 in
theorem gX12_costOn_X12_placeOn : GoodIn wsX12_costOn (wsV RX12 274 RX12 yX12_placeOn wsX12_placeOn) := goodIn_app (goodIn_k _ [[7, 0, 0], [4]] (by rfl) (gw_V _ _ _ _)) ggX12_costOn_X12_placeOn
set_option maxRecDepth 20000 in
theorem ggX12_costOn_X12_costOf : GoodIn wsX12_costOn wsX12_costOf := goodIn_k _ [[24, 0, 0, 0], [4, 23, 0, 0, 0, 0, 0, 0, 0, 0, 0, 0, 0, 0, 0, 0, 0, 0, 0, 0, 0, 0, 0, 0, 0, 0, 0, 0, 0, 0, 0, 0, 0, 0, 0, 0, 0, 0, 0, 0, 0, 0, 0, 0, 0, 0, 0, 0, 0, 0, 0, 0, 0, 0, 0, 0, 0, 0, 0, 0, 0, 0, 0, 0, 0, 0, 0]] (by rfl) (by decide +kernel)
set_option maxRecDepth 20000 in
theorem gX12_costOn_X12_costOf : GoodIn wsX12_costOn (wsV RX12 283 RX12 yX12_costOf wsX12_costOf) := goodIn_app (goodIn_k _ [[21, 0, 0], [4]] (by rfl) (gw_V _ _ _ _)) ggX12_costOn_X12_costOf
noncomputable def sX12_costOn_82 : List Nat := 108 :: 182 :: 1 :: 27 :: 96 :: 54 :: 5 :: 132 :: 6 :: 1 :: 167 :: 255 :: 201 :: 21 :: 5 :: 172 :: []
noncomputable def sX12_costOn_41 : List Nat := 162 :: 0 :: 54 :: 21 :: 5 :: 21 :: 4 :: 163 :: 0 :: 47 :: 42 :: 27 :: 21 :: 6 :: 182 :: 0 :: 254 :: 2 :: 159 :: 0 :: 30 :: 21 :: 5 :: 42 :: 42 :: 27 :: 21 :: 6 :: 182 :: 0 :: 254 :: 42 :: 28 :: 21 :: 6 :: 29 :: 182 :: 1 :: 18 :: 16 :: 60 :: sX12_costOn_82
noncomputable def sX12_costOn_0 : List Nat := 42 :: 27 :: 16 :: 21 :: 182 :: 0 :: 254 :: 2 :: 159 :: 0 :: 23 :: 42 :: 27 :: 16 :: 21 :: 182 :: 0 :: 254 :: 29 :: 17 :: 1 :: 109 :: 112 :: 159 :: 0 :: 8 :: 16 :: 30 :: 167 :: 0 :: 4 :: 3 :: 54 :: 5 :: 3 :: 54 :: 6 :: 21 :: 6 :: 16 :: 7 :: sX12_costOn_41
theorem aX12_costOn_0 : dc_at cX12_costOn 0 sX12_costOn_0 := dc_base (by decide +kernel)
theorem aX12_costOn_41 : dc_at cX12_costOn 41 sX12_costOn_41 := dc_nn (k := 41) aX12_costOn_0 rfl
theorem aX12_costOn_82 : dc_at cX12_costOn 82 sX12_costOn_82 := dc_nn (k := 41) aX12_costOn_41 rfl
theorem dX12_costOn_0 : decode cX12_costOn 0 = .ok (.aload_n 0, 1) := dc_42 aX12_costOn_0
theorem dX12_costOn_1 : decode cX12_costOn 1 = .ok (.iload_n 1, 1) := dc_27 (dc_nn (k := 1) aX12_costOn_0 rfl)
theorem dX12_costOn_2 : decode cX12_costOn 2 = .ok (.bipush 21, 2) := dc_16 (a0 := 21) (dc_nn (k := 2) aX12_costOn_0 rfl) (by decide)
theorem dX12_costOn_4 : decode cX12_costOn 4 = .ok (.invokevirtual 254, 3) := dc_182 (a0 := 0) (b0 := 254) (dc_nn (k := 4) aX12_costOn_0 rfl)
theorem dX12_costOn_7 : decode cX12_costOn 7 = .ok (.iconst (-1), 1) := dc_2 (dc_nn (k := 7) aX12_costOn_0 rfl)
theorem dX12_costOn_8 : decode cX12_costOn 8 = .ok (.if_icmp .eq 23, 3) := dc_159 (a0 := 0) (b0 := 23) (dc_nn (k := 8) aX12_costOn_0 rfl) (by decide)
theorem dX12_costOn_11 : decode cX12_costOn 11 = .ok (.aload_n 0, 1) := dc_42 (dc_nn (k := 11) aX12_costOn_0 rfl)
theorem dX12_costOn_12 : decode cX12_costOn 12 = .ok (.iload_n 1, 1) := dc_27 (dc_nn (k := 12) aX12_costOn_0 rfl)
theorem dX12_costOn_13 : decode cX12_costOn 13 = .ok (.bipush 21, 2) := dc_16 (a0 := 21) (dc_nn (k := 13) aX12_costOn_0 rfl) (by decide)
theorem dX12_costOn_15 : decode cX12_costOn 15 = .ok (.invokevirtual 254, 3) := dc_182 (a0 := 0) (b0 := 254) (dc_nn (k := 15) aX12_costOn_0 rfl)
theorem dX12_costOn_18 : decode cX12_costOn 18 = .ok (.iload_n 3, 1) := dc_29 (dc_nn (k := 18) aX12_costOn_0 rfl)
theorem dX12_costOn_19 : decode cX12_costOn 19 = .ok (.sipush 365, 3) := dc_17 (a0 := 1) (b0 := 109) (dc_nn (k := 19) aX12_costOn_0 rfl) (by decide)
theorem dX12_costOn_22 : decode cX12_costOn 22 = .ok (.irem, 1) := dc_112 (dc_nn (k := 22) aX12_costOn_0 rfl)
theorem dX12_costOn_23 : decode cX12_costOn 23 = .ok (.if_icmp .eq 8, 3) := dc_159 (a0 := 0) (b0 := 8) (dc_nn (k := 23) aX12_costOn_0 rfl) (by decide)
theorem dX12_costOn_26 : decode cX12_costOn 26 = .ok (.bipush 30, 2) := dc_16 (a0 := 30) (dc_nn (k := 26) aX12_costOn_0 rfl) (by decide)
theorem dX12_costOn_28 : decode cX12_costOn 28 = .ok (.goto 4, 3) := dc_167 (a0 := 0) (b0 := 4) (dc_nn (k := 28) aX12_costOn_0 rfl) (by decide)
theorem dX12_costOn_31 : decode cX12_costOn 31 = .ok (.iconst 0, 1) := dc_3 (dc_nn (k := 31) aX12_costOn_0 rfl)
theorem dX12_costOn_32 : decode cX12_costOn 32 = .ok (.istore 5, 2) := dc_54 (a0 := 5) (dc_nn (k := 32) aX12_costOn_0 rfl)
theorem dX12_costOn_34 : decode cX12_costOn 34 = .ok (.iconst 0, 1) := dc_3 (dc_nn (k := 34) aX12_costOn_0 rfl)
theorem dX12_costOn_35 : decode cX12_costOn 35 = .ok (.istore 6, 2) := dc_54 (a0 := 6) (dc_nn (k := 35) aX12_costOn_0 rfl)
theorem dX12_costOn_37 : decode cX12_costOn 37 = .ok (.iload 6, 2) := dc_21 (a0 := 6) (dc_nn (k := 37) aX12_costOn_0 rfl)
theorem dX12_costOn_39 : decode cX12_costOn 39 = .ok (.bipush 7, 2) := dc_16 (a0 := 7) (dc_nn (k := 39) aX12_costOn_0 rfl) (by decide)
theorem dX12_costOn_41 : decode cX12_costOn 41 = .ok (.if_icmp .ge 54, 3) := dc_162 (a0 := 0) (b0 := 54) aX12_costOn_41 (by decide)
theorem dX12_costOn_44 : decode cX12_costOn 44 = .ok (.iload 5, 2) := dc_21 (a0 := 5) (dc_nn (k := 3) aX12_costOn_41 rfl)
theorem dX12_costOn_46 : decode cX12_costOn 46 = .ok (.iload 4, 2) := dc_21 (a0 := 4) (dc_nn (k := 5) aX12_costOn_41 rfl)
theorem dX12_costOn_48 : decode cX12_costOn 48 = .ok (.if_icmp .gt 47, 3) := dc_163 (a0 := 0) (b0 := 47) (dc_nn (k := 7) aX12_costOn_41 rfl) (by decide)
theorem dX12_costOn_51 : decode cX12_costOn 51 = .ok (.aload_n 0, 1) := dc_42 (dc_nn (k := 10) aX12_costOn_41 rfl)
theorem dX12_costOn_52 : decode cX12_costOn 52 = .ok (.iload_n 1, 1) := dc_27 (dc_nn (k := 11) aX12_costOn_41 rfl)
theorem dX12_costOn_53 : decode cX12_costOn 53 = .ok (.iload 6, 2) := dc_21 (a0 := 6) (dc_nn (k := 12) aX12_costOn_41 rfl)
theorem dX12_costOn_55 : decode cX12_costOn 55 = .ok (.invokevirtual 254, 3) := dc_182 (a0 := 0) (b0 := 254) (dc_nn (k := 14) aX12_costOn_41 rfl)
theorem dX12_costOn_58 : decode cX12_costOn 58 = .ok (.iconst (-1), 1) := dc_2 (dc_nn (k := 17) aX12_costOn_41 rfl)
theorem dX12_costOn_59 : decode cX12_costOn 59 = .ok (.if_icmp .eq 30, 3) := dc_159 (a0 := 0) (b0 := 30) (dc_nn (k := 18) aX12_costOn_41 rfl) (by decide)
theorem dX12_costOn_62 : decode cX12_costOn 62 = .ok (.iload 5, 2) := dc_21 (a0 := 5) (dc_nn (k := 21) aX12_costOn_41 rfl)
theorem dX12_costOn_64 : decode cX12_costOn 64 = .ok (.aload_n 0, 1) := dc_42 (dc_nn (k := 23) aX12_costOn_41 rfl)
theorem dX12_costOn_65 : decode cX12_costOn 65 = .ok (.aload_n 0, 1) := dc_42 (dc_nn (k := 24) aX12_costOn_41 rfl)
theorem dX12_costOn_66 : decode cX12_costOn 66 = .ok (.iload_n 1, 1) := dc_27 (dc_nn (k := 25) aX12_costOn_41 rfl)
theorem dX12_costOn_67 : decode cX12_costOn 67 = .ok (.iload 6, 2) := dc_21 (a0 := 6) (dc_nn (k := 26) aX12_costOn_41 rfl)
theorem dX12_costOn_69 : decode cX12_costOn 69 = .ok (.invokevirtual 254, 3) := dc_182 (a0 := 0) (b0 := 254) (dc_nn (k := 28) aX12_costOn_41 rfl)
theorem dX12_costOn_72 : decode cX12_costOn 72 = .ok (.aload_n 0, 1) := dc_42 (dc_nn (k := 31) aX12_costOn_41 rfl)
theorem dX12_costOn_73 : decode cX12_costOn 73 = .ok (.iload_n 2, 1) := dc_28 (dc_nn (k := 32) aX12_costOn_41 rfl)
theorem dX12_costOn_74 : decode cX12_costOn 74 = .ok (.iload 6, 2) := dc_21 (a0 := 6) (dc_nn (k := 33) aX12_costOn_41 rfl)
theorem dX12_costOn_76 : decode cX12_costOn 76 = .ok (.iload_n 3, 1) := dc_29 (dc_nn (k := 35) aX12_costOn_41 rfl)
theorem dX12_costOn_77 : decode cX12_costOn 77 = .ok (.invokevirtual 274, 3) := dc_182 (a0 := 1) (b0 := 18) (dc_nn (k := 36) aX12_costOn_41 rfl)
theorem dX12_costOn_80 : decode cX12_costOn 80 = .ok (.bipush 60, 2) := dc_16 (a0 := 60) (dc_nn (k := 39) aX12_costOn_41 rfl) (by decide)
theorem dX12_costOn_82 : decode cX12_costOn 82 = .ok (.idiv, 1) := dc_108 aX12_costOn_82
theorem dX12_costOn_83 : decode cX12_costOn 83 = .ok (.invokevirtual 283, 3) := dc_182 (a0 := 1) (b0 := 27) (dc_nn (k := 1) aX12_costOn_82 rfl)
theorem dX12_costOn_86 : decode cX12_costOn 86 = .ok (.iadd, 1) := dc_96 (dc_nn (k := 4) aX12_costOn_82 rfl)
theorem dX12_costOn_87 : decode cX12_costOn 87 = .ok (.istore 5, 2) := dc_54 (a0 := 5) (dc_nn (k := 5) aX12_costOn_82 rfl)
theorem dX12_costOn_89 : decode cX12_costOn 89 = .ok (.iinc 6 1, 3) := dc_132 (a0 := 6) (a1 := 1) (dc_nn (k := 7) aX12_costOn_82 rfl) (by decide)
theorem dX12_costOn_92 : decode cX12_costOn 92 = .ok (.goto (-55), 3) := dc_167 (a0 := 255) (b0 := 201) (dc_nn (k := 10) aX12_costOn_82 rfl) (by decide)
theorem dX12_costOn_95 : decode cX12_costOn 95 = .ok (.iload 5, 2) := dc_21 (a0 := 5) (dc_nn (k := 13) aX12_costOn_82 rfl)
theorem dX12_costOn_97 : decode cX12_costOn 97 = .ok (.ireturn, 1) := dc_172 (dc_nn (k := 15) aX12_costOn_82 rfl)
set_option maxRecDepth 20000 in
theorem ggX12_cost_X12_isWheel : GoodIn wsX12_cost wsX12_isWheel := goodIn_k _ [[6, 0, 0, 0, 0], [5, 5, 41, 0, 0, 0, 0, 0, 0, 0, 0, 0, 0, 0, 0, 0, 0, 0, 0, 0, 0, 0, 0, 0, 0, 0, 0, 0, 0, 0, 0, 0, 0, 0, 0, 0, 0, 0, 0, 0, 0, 0, 0, 0, 0, 0, 0, 0, 0, 0, 0, 0, 0, 0, 0, 0, 0, 0, 0, 0]] (by rfl) (by decide +kernel)
set_option maxRecDepth 20000 in
theorem gX12_cost_X12_isWheel : GoodIn wsX12_cost (wsV RX12 247 RX12 yX12_isWheel wsX12_isWheel) := goodIn_app (goodIn_k _ [[2, 0, 0, 0]] (by rfl) (gw_V _ _ _ _)) ggX12_cost_X12_isWheel
set_option maxRecDepth 20000 in
theorem ggX12_cost_X12_within : GoodIn wsX12_cost wsX12_within := goodIn_k _ [[14]] (by rfl) (by decide +kernel)
set_option maxRecDepth 20000 in
theorem gX12_cost_X12_within : GoodIn wsX12_cost (va_wsS RX12 270 yX12_within wsX12_within) := goodIn_app (goodIn_k _ [[12, 0], [5]] (by rfl) (gw_S _ _ _ _)) ggX12_cost_X12_within
set_option maxRecDepth 20000 in
theorem ggX12_cost_X12_right : GoodIn wsX12_cost wsX12_right := goodIn_k _ [[11], [7, 45, 0, 0, 0, 0, 0, 0, 0, 0, 0, 0, 0, 0, 0, 0, 0, 0, 0, 0, 0, 0, 0, 0, 0, 0, 0, 0, 0, 0, 0, 0, 0, 0, 0, 0, 0, 0, 0, 0, 0, 0, 0, 0, 0, 0, 0, 0, 0, 0, 0, 0, 0, 0, 0, 0, 0, 0, 0]] (by rfl) (by decide +kernel)
set_option maxRecDepth 20000 in
theorem gX12_cost_X12_right : GoodIn wsX12_cost (wsV RX12 209 RX12 yX12_right wsX12_right) := goodIn_app (goodIn_k _ [[8, 0, 0], [5]] (by rfl) (gw_V _ _ _ _)) ggX12_cost_X12_right
set_option maxRecDepth 20000 in
theorem ggX12_cost_X12_costOn : GoodIn wsX12_cost wsX12_costOn := goodIn_k _ [[18, 0, 0, 0], [5, 16, 0, 0, 0, 0, 0, 0, 0, 0, 0, 0, 0, 0, 0, 0, 0, 0, 0, 0, 0, 0, 0, 0, 0, 0, 0, 0, 0, 0, 0, 0, 0, 0, 0, 0, 0, 0, 0, 0, 0, 0, 0, 0, 0, 0, 0, 0, 0, 0, 0, 0, 0, 0, 0, 0, 0, 0, 0, 0, 0, 0, 0, 0, 0, 0, 0, 0, 0, 0, 0, 0, 0, 0, 0, 0, 0, 0, 0, 0, 0, 0, 0, 0, 0, 0, 0, 0, 0, 0]] (by rfl) (by decide +kernel)
set_option maxRecDepth 20000 in
theorem gX12_cost_X12_costOn : GoodIn wsX12_cost (wsV RX12 286 RX12 yX12_costOn wsX12_costOn) := goodIn_app (goodIn_k _ [[15, 0, 0], [5]] (by rfl) (gw_V _ _ _ _)) ggX12_cost_X12_costOn
noncomputable def sX12_cost_42 : List Nat := 3 :: 172 :: 42 :: 16 :: 20 :: 27 :: 104 :: 28 :: 96 :: 29 :: 21 :: 4 :: 17 :: 3 :: 231 :: 182 :: 1 :: 30 :: 172 :: []
noncomputable def sX12_cost_0 : List Nat := 42 :: 27 :: 28 :: 182 :: 0 :: 247 :: 153 :: 0 :: 36 :: 42 :: 29 :: 3 :: 6 :: 184 :: 1 :: 14 :: 153 :: 0 :: 18 :: 21 :: 4 :: 3 :: 18 :: 218 :: 184 :: 1 :: 14 :: 153 :: 0 :: 7 :: 4 :: 167 :: 0 :: 4 :: 3 :: 4 :: 182 :: 0 :: 209 :: 154 :: 0 :: 5 :: sX12_cost_42
theorem aX12_cost_0 : dc_at cX12_cost 0 sX12_cost_0 := dc_base (by decide +kernel)
theorem aX12_cost_42 : dc_at cX12_cost 42 sX12_cost_42 := dc_nn (k := 42) aX12_cost_0 rfl
theorem dX12_cost_0 : decode cX12_cost 0 = .ok (.aload_n 0, 1) := dc_42 aX12_cost_0
theorem dX12_cost_1 : decode cX12_cost 1 = .ok (.iload_n 1, 1) := dc_27 (dc_nn (k := 1) aX12_cost_0 rfl)
theorem dX12_cost_2 : decode cX12_cost 2 = .ok (.iload_n 2, 1) := dc_28 (dc_nn (k := 2) aX12_cost_0 rfl)
theorem dX12_cost_3 : decode cX12_cost 3 = .ok (.invokevirtual 247, 3) := dc_182 (a0 := 0) (b0 := 247) (dc_nn (k := 3) aX12_cost_0 rfl)
theorem dX12_cost_6 : decode cX12_cost 6 = .ok (.ifCond .eq 36, 3) := dc_153 (a0 := 0) (b0 := 36) (dc_nn (k := 6) aX12_cost_0 rfl) (by decide)
theorem dX12_cost_9 : decode cX12_cost 9 = .ok (.aload_n 0, 1) := dc_42 (dc_nn (k := 9) aX12_cost_0 rfl)
theorem dX12_cost_10 : decode cX12_cost 10 = .ok (.iload_n 3, 1) := dc_29 (dc_nn (k := 10) aX12_cost_0 rfl)
theorem dX12_cost_11 : decode cX12_cost 11 = .ok (.iconst 0, 1) := dc_3 (dc_nn (k := 11) aX12_cost_0 rfl)
theorem dX12_cost_12 : decode cX12_cost 12 = .ok (.iconst 3, 1) := dc_6 (dc_nn (k := 12) aX12_cost_0 rfl)
theorem dX12_cost_13 : decode cX12_cost 13 = .ok (.invokestatic 270, 3) := dc_184 (a0 := 1) (b0 := 14) (dc_nn (k := 13) aX12_cost_0 rfl)
theorem dX12_cost_16 : decode cX12_cost 16 = .ok (.ifCond .eq 18, 3) := dc_153 (a0 := 0) (b0 := 18) (dc_nn (k := 16) aX12_cost_0 rfl) (by decide)
theorem dX12_cost_19 : decode cX12_cost 19 = .ok (.iload 4, 2) := dc_21 (a0 := 4) (dc_nn (k := 19) aX12_cost_0 rfl)
theorem dX12_cost_21 : decode cX12_cost 21 = .ok (.iconst 0, 1) := dc_3 (dc_nn (k := 21) aX12_cost_0 rfl)
theorem dX12_cost_22 : decode cX12_cost 22 = .ok (.ldc 218, 2) := dc_18 (a0 := 218) (dc_nn (k := 22) aX12_cost_0 rfl)
theorem dX12_cost_24 : decode cX12_cost 24 = .ok (.invokestatic 270, 3) := dc_184 (a0 := 1) (b0 := 14) (dc_nn (k := 24) aX12_cost_0 rfl)
theorem dX12_cost_27 : decode cX12_cost 27 = .ok (.ifCond .eq 7, 3) := dc_153 (a0 := 0) (b0 := 7) (dc_nn (k := 27) aX12_cost_0 rfl) (by decide)
theorem dX12_cost_30 : decode cX12_cost 30 = .ok (.iconst 1, 1) := dc_4 (dc_nn (k := 30) aX12_cost_0 rfl)
theorem dX12_cost_31 : decode cX12_cost 31 = .ok (.goto 4, 3) := dc_167 (a0 := 0) (b0 := 4) (dc_nn (k := 31) aX12_cost_0 rfl) (by decide)
theorem dX12_cost_34 : decode cX12_cost 34 = .ok (.iconst 0, 1) := dc_3 (dc_nn (k := 34) aX12_cost_0 rfl)
theorem dX12_cost_35 : decode cX12_cost 35 = .ok (.iconst 1, 1) := dc_4 (dc_nn (k := 35) aX12_cost_0 rfl)
theorem dX12_cost_36 : decode cX12_cost 36 = .ok (.invokevirtual 209, 3) := dc_182 (a0 := 0) (b0 := 209) (dc_nn (k := 36) aX12_cost_0 rfl)
theorem dX12_cost_39 : decode cX12_cost 39 = .ok (.ifCond .ne 5, 3) := dc_154 (a0 := 0) (b0 := 5) (dc_nn (k := 39) aX12_cost_0 rfl) (by decide)
theorem dX12_cost_42 : decode cX12_cost 42 = .ok (.iconst 0, 1) := dc_3 aX12_cost_42
theorem dX12_cost_43 : decode cX12_cost 43 = .ok (.ireturn, 1) := dc_172 (dc_nn (k := 1) aX12_cost_42 rfl)
theorem dX12_cost_44 : decode cX12_cost 44 = .ok (.aload_n 0, 1) := dc_42 (dc_nn (k := 2) aX12_cost_42 rfl)
theorem dX12_cost_45 : decode cX12_cost 45 = .ok (.bipush 20, 2) := dc_16 (a0 := 20) (dc_nn (k := 3) aX12_cost_42 rfl) (by decide)
theorem dX12_cost_47 : decode cX12_cost 47 = .ok (.iload_n 1, 1) := dc_27 (dc_nn (k := 5) aX12_cost_42 rfl)
theorem dX12_cost_48 : decode cX12_cost 48 = .ok (.imul, 1) := dc_104 (dc_nn (k := 6) aX12_cost_42 rfl)
theorem dX12_cost_49 : decode cX12_cost 49 = .ok (.iload_n 2, 1) := dc_28 (dc_nn (k := 7) aX12_cost_42 rfl)
theorem dX12_cost_50 : decode cX12_cost 50 = .ok (.iadd, 1) := dc_96 (dc_nn (k := 8) aX12_cost_42 rfl)
theorem dX12_cost_51 : decode cX12_cost 51 = .ok (.iload_n 3, 1) := dc_29 (dc_nn (k := 9) aX12_cost_42 rfl)
theorem dX12_cost_52 : decode cX12_cost 52 = .ok (.iload 4, 2) := dc_21 (a0 := 4) (dc_nn (k := 10) aX12_cost_42 rfl)
theorem dX12_cost_54 : decode cX12_cost 54 = .ok (.sipush 999, 3) := dc_17 (a0 := 3) (b0 := 231) (dc_nn (k := 12) aX12_cost_42 rfl) (by decide)
theorem dX12_cost_57 : decode cX12_cost 57 = .ok (.invokevirtual 286, 3) := dc_182 (a0 := 1) (b0 := 30) (dc_nn (k := 15) aX12_cost_42 rfl)
theorem dX12_cost_60 : decode cX12_cost 60 = .ok (.ireturn, 1) := dc_172 (dc_nn (k := 18) aX12_cost_42 rfl)
set_option maxRecDepth 20000 in
theorem ggX12_isSpan_X12_within : GoodIn wsX12_isSpan wsX12_within := goodIn_k _ [[6]] (by rfl) (by decide +kernel)
set_option maxRecDepth 20000 in
theorem gX12_isSpan_X12_within : GoodIn wsX12_isSpan (va_wsS RX12 270 yX12_within wsX12_within) := goodIn_app (goodIn_k _ [[3, 0, 0]] (by rfl) (gw_S _ _ _ _)) ggX12_isSpan_X12_within
set_option maxRecDepth 20000 in
theorem ggX12_isSpan_X12_right : GoodIn wsX12_isSpan wsX12_right := goodIn_k _ [[10, 0, 0, 0, 0, 0, 0, 0, 0, 0, 0, 0, 0, 0, 0, 0, 0, 0, 0, 0, 0, 0, 0, 0, 0, 0, 0, 0, 0, 0, 0, 0, 0, 0, 0, 0, 0, 0, 0, 0, 0, 0, 0, 0, 0, 0, 0, 0, 0, 0, 0, 0, 0, 0, 0, 0, 0, 0, 0, 0]] (by rfl) (by decide +kernel)
set_option maxRecDepth 20000 in
theorem gX12_isSpan_X12_right : GoodIn wsX12_isSpan (wsV RX12 209 RX12 yX12_right wsX12_right) := goodIn_app (goodIn_k _ [[7, 0, 0], [5]] (by rfl) (gw_V _ _ _ _)) ggX12_isSpan_X12_right
noncomputable def sX12_isSpan_40 : List Nat := 5 :: 182 :: 0 :: 209 :: 153 :: 0 :: 7 :: 4 :: 167 :: 0 :: 4 :: 3 :: 172 :: []
noncomputable def sX12_isSpan_0 : List Nat := 42 :: 27 :: 3 :: 18 :: 218 :: 184 :: 1 :: 14 :: 4 :: 182 :: 0 :: 209 :: 153 :: 0 :: 39 :: 42 :: 28 :: 3 :: 19 :: 1 :: 34 :: 184 :: 1 :: 14 :: 153 :: 0 :: 15 :: 27 :: 28 :: 96 :: 18 :: 218 :: 163 :: 0 :: 7 :: 4 :: 167 :: 0 :: 4 :: 3 :: sX12_isSpan_40
theorem aX12_isSpan_0 : dc_at cX12_isSpan 0 sX12_isSpan_0 := dc_base (by decide +kernel)
theorem aX12_isSpan_40 : dc_at cX12_isSpan 40 sX12_isSpan_40 := dc_nn (k := 40) aX12_isSpan_0 rfl
theorem dX12_isSpan_0 : decode cX12_isSpan 0 = .ok (.aload_n 0, 1) := dc_42 aX12_isSpan_0
theorem dX12_isSpan_1 : decode cX12_isSpan 1 = .ok (.iload_n 1, 1) := dc_27 (dc_nn (k := 1) aX12_isSpan_0 rfl)
theorem dX12_isSpan_2 : decode cX12_isSpan 2 = .ok (.iconst 0, 1) := dc_3 (dc_nn (k := 2) aX12_isSpan_0 rfl)
theorem dX12_isSpan_3 : decode cX12_isSpan 3 = .ok (.ldc 218, 2) := dc_18 (a0 := 218) (dc_nn (k := 3) aX12_isSpan_0 rfl)
theorem dX12_isSpan_5 : decode cX12_isSpan 5 = .ok (.invokestatic 270, 3) := dc_184 (a0 := 1) (b0 := 14) (dc_nn (k := 5) aX12_isSpan_0 rfl)
theorem dX12_isSpan_8 : decode cX12_isSpan 8 = .ok (.iconst 1, 1) := dc_4 (dc_nn (k := 8) aX12_isSpan_0 rfl)
theorem dX12_isSpan_9 : decode cX12_isSpan 9 = .ok (.invokevirtual 209, 3) := dc_182 (a0 := 0) (b0 := 209) (dc_nn (k := 9) aX12_isSpan_0 rfl)
theorem dX12_isSpan_12 : decode cX12_isSpan 12 = .ok (.ifCond .eq 39, 3) := dc_153 (a0 := 0) (b0 := 39) (dc_nn (k := 12) aX12_isSpan_0 rfl) (by decide)
theorem dX12_isSpan_15 : decode cX12_isSpan 15 = .ok (.aload_n 0, 1) := dc_42 (dc_nn (k := 15) aX12_isSpan_0 rfl)
theorem dX12_isSpan_16 : decode cX12_isSpan 16 = .ok (.iload_n 2, 1) := dc_28 (dc_nn (k := 16) aX12_isSpan_0 rfl)
theorem dX12_isSpan_17 : decode cX12_isSpan 17 = .ok (.iconst 0, 1) := dc_3 (dc_nn (k := 17) aX12_isSpan_0 rfl)
theorem dX12_isSpan_18 : decode cX12_isSpan 18 = .ok (.ldc_w 290, 3) := dc_19 (a0 := 1) (b0 := 34) (dc_nn (k := 18) aX12_isSpan_0 rfl)
theorem dX12_isSpan_21 : decode cX12_isSpan 21 = .ok (.invokestatic 270, 3) := dc_184 (a0 := 1) (b0 := 14) (dc_nn (k := 21) aX12_isSpan_0 rfl)
theorem dX12_isSpan_24 : decode cX12_isSpan 24 = .ok (.ifCond .eq 15, 3) := dc_153 (a0 := 0) (b0 := 15) (dc_nn (k := 24) aX12_isSpan_0 rfl) (by decide)
theorem dX12_isSpan_27 : decode cX12_isSpan 27 = .ok (.iload_n 1, 1) := dc_27 (dc_nn (k := 27) aX12_isSpan_0 rfl)
theorem dX12_isSpan_28 : decode cX12_isSpan 28 = .ok (.iload_n 2, 1) := dc_28 (dc_nn (k := 28) aX12_isSpan_0 rfl)
theorem dX12_isSpan_29 : decode cX12_isSpan 29 = .ok (.iadd, 1) := dc_96 (dc_nn (k := 29) aX12_isSpan_0 rfl)
theorem dX12_isSpan_30 : decode cX12_isSpan 30 = .ok (.ldc 218, 2) := dc_18 (a0 := 218) (dc_nn (k := 30) aX12_isSpan_0 rfl)
theorem dX12_isSpan_32 : decode cX12_isSpan 32 = .ok (.if_icmp .gt 7, 3) := dc_163 (a0 := 0) (b0 := 7) (dc_nn (k := 32) aX12_isSpan_0 rfl) (by decide)
theorem dX12_isSpan_35 : decode cX12_isSpan 35 = .ok (.iconst 1, 1) := dc_4 (dc_nn (k := 35) aX12_isSpan_0 rfl)
theorem dX12_isSpan_36 : decode cX12_isSpan 36 = .ok (.goto 4, 3) := dc_167 (a0 := 0) (b0 := 4) (dc_nn (k := 36) aX12_isSpan_0 rfl) (by decide)
theorem dX12_isSpan_39 : decode cX12_isSpan 39 = .ok (.iconst 0, 1) := dc_3 (dc_nn (k := 39) aX12_isSpan_0 rfl)
theorem dX12_isSpan_40 : decode cX12_isSpan 40 = .ok (.iconst 2, 1) := dc_5 aX12_isSpan_40
theorem dX12_isSpan_41 : decode cX12_isSpan 41 = .ok (.invokevirtual 209, 3) := dc_182 (a0 := 0) (b0 := 209) (dc_nn (k := 1) aX12_isSpan_40 rfl)
theorem dX12_isSpan_44 : decode cX12_isSpan 44 = .ok (.ifCond .eq 7, 3) := dc_153 (a0 := 0) (b0 := 7) (dc_nn (k := 4) aX12_isSpan_40 rfl) (by decide)
theorem dX12_isSpan_47 : decode cX12_isSpan 47 = .ok (.iconst 1, 1) := dc_4 (dc_nn (k := 7) aX12_isSpan_40 rfl)
theorem dX12_isSpan_48 : decode cX12_isSpan 48 = .ok (.goto 4, 3) := dc_167 (a0 := 0) (b0 := 4) (dc_nn (k := 8) aX12_isSpan_40 rfl) (by decide)
theorem dX12_isSpan_51 : decode cX12_isSpan 51 = .ok (.iconst 0, 1) := dc_3 (dc_nn (k := 11) aX12_isSpan_40 rfl)
theorem dX12_isSpan_52 : decode cX12_isSpan 52 = .ok (.ireturn, 1) := dc_172 (dc_nn (k := 12) aX12_isSpan_40 rfl)
set_option maxRecDepth 20000 in
theorem ggX12_best_X12_isWheel : GoodIn wsX12_best wsX12_isWheel := goodIn_k _ [[7, 0, 0, 0, 0], [6, 5, 47, 0, 0, 0, 0, 0, 0, 0, 0, 0, 0, 0, 0, 0, 0, 0, 0, 0, 0, 0, 0, 0, 0, 0, 0, 0, 0, 0, 0, 0, 0, 0, 0, 0, 0, 0, 0, 0, 0, 0, 0, 0, 0, 0, 0, 0, 0, 0, 0, 0, 0, 0, 0, 0, 0, 0, 0, 0]] (by rfl) (by decide +kernel)
set_option maxRecDepth 20000 in
theorem gX12_best_X12_isWheel : GoodIn wsX12_best (wsV RX12 247 RX12 yX12_isWheel wsX12_isWheel) := goodIn_app (goodIn_k _ [[3, 0, 0, 0]] (by rfl) (gw_V _ _ _ _)) ggX12_best_X12_isWheel
set_option maxRecDepth 20000 in
theorem ggX12_best_X12_within : GoodIn wsX12_best wsX12_within := goodIn_k _ [[15]] (by rfl) (by decide +kernel)
set_option maxRecDepth 20000 in
theorem gX12_best_X12_within : GoodIn wsX12_best (va_wsS RX12 270 yX12_within wsX12_within) := goodIn_app (goodIn_k _ [[13, 0], [6]] (by rfl) (gw_S _ _ _ _)) ggX12_best_X12_within
set_option maxRecDepth 20000 in
theorem ggX12_best_X12_right : GoodIn wsX12_best wsX12_right := goodIn_k _ [[12], [8, 51, 0, 0, 0, 0, 0, 0, 0, 0, 0, 0, 0, 0, 0, 0, 0, 0, 0, 0, 0, 0, 0, 0, 0, 0, 0, 0, 0, 0, 0, 0, 0, 0, 0, 0, 0, 0, 0, 0, 0, 0, 0, 0, 0, 0, 0, 0, 0, 0, 0, 0, 0, 0, 0, 0, 0, 0, 0]] (by rfl) (by decide +kernel)
set_option maxRecDepth 20000 in
theorem gX12_best_X12_right : GoodIn wsX12_best (wsV RX12 209 RX12 yX12_right wsX12_right) := goodIn_app (goodIn_k _ [[9, 0, 0], [6]] (by rfl) (gw_V _ _ _ _)) ggX12_best_X12_right
set_option maxRecDepth 20000 in
theorem ggX12_best_X12_isSpan : GoodIn wsX12_best wsX12_isSpan := goodIn_k _ [[19, 0, 0], [13, 0], [6, 8], [9, 0, 0, 0], [8, 51, 0, 0, 0, 0, 0, 0, 0, 0, 0, 0, 0, 0, 0, 0, 0, 0, 0, 0, 0, 0, 0, 0, 0, 0, 0, 0, 0, 0, 0, 0, 0, 0, 0, 0, 0, 0, 0, 0, 0, 0, 0, 0, 0, 0, 0, 0, 0, 0, 0, 0, 0, 0, 0, 0, 0, 0, 0]] (by rfl) (by decide +kernel)
set_option maxRecDepth 20000 in
theorem gX12_best_X12_isSpan : GoodIn wsX12_best (wsV RX12 291 RX12 yX12_isSpan wsX12_isSpan) := goodIn_app (goodIn_k _ [[16, 0, 0], [6]] (by rfl) (gw_V _ _ _ _)) ggX12_best_X12_isSpan
set_option maxRecDepth 20000 in
theorem ggX12_best_X12_costOn : GoodIn wsX12_best wsX12_costOn := goodIn_k _ [[25, 0, 0, 0], [6, 22, 0, 0, 0, 0, 0, 0, 0, 0, 0, 0, 0, 0, 0, 0, 0, 0, 0, 0, 0, 0, 0, 0, 0, 0, 0, 0, 0, 0, 0, 0, 0, 0, 0, 0, 0, 0, 0, 0, 0, 0, 0, 0, 0, 0, 0, 0, 0, 0, 0, 0, 0, 0, 0, 0, 0, 0, 0, 0, 0, 0, 0, 0, 0, 0, 0, 0, 0, 0, 0, 0, 0, 0, 0, 0, 0, 0, 0, 0, 0, 0, 0, 0, 0, 0, 0, 0, 0, 0]] (by rfl) (by decide +kernel)
set_option maxRecDepth 20000 in
theorem gX12_best_X12_costOn : GoodIn wsX12_best (wsV RX12 286 RX12 yX12_costOn wsX12_costOn) := goodIn_app (goodIn_k _ [[22, 0, 0], [6]] (by rfl) (gw_V _ _ _ _)) ggX12_best_X12_costOn
noncomputable def sX12_best_123 : List Nat := 4 :: 96 :: 181 :: 0 :: 65 :: 132 :: 7 :: 1 :: 167 :: 255 :: 170 :: 21 :: 6 :: 172 :: []
noncomputable def sX12_best_82 : List Nat := 21 :: 8 :: 21 :: 6 :: 162 :: 0 :: 8 :: 42 :: 3 :: 181 :: 0 :: 65 :: 21 :: 8 :: 54 :: 6 :: 42 :: 180 :: 0 :: 65 :: 16 :: 20 :: 162 :: 0 :: 14 :: 42 :: 180 :: 0 :: 68 :: 42 :: 180 :: 0 :: 65 :: 21 :: 7 :: 79 :: 42 :: 89 :: 180 :: 0 :: 65 :: sX12_best_123
noncomputable def sX12_best_41 : List Nat := 21 :: 4 :: 54 :: 7 :: 21 :: 7 :: 21 :: 4 :: 21 :: 5 :: 96 :: 163 :: 0 :: 82 :: 42 :: 16 :: 20 :: 27 :: 104 :: 28 :: 96 :: 29 :: 21 :: 7 :: 21 :: 6 :: 182 :: 1 :: 30 :: 54 :: 8 :: 21 :: 8 :: 21 :: 6 :: 164 :: 0 :: 6 :: 167 :: 0 :: 49 :: sX12_best_82
noncomputable def sX12_best_0 : List Nat := 42 :: 27 :: 28 :: 182 :: 0 :: 247 :: 153 :: 0 :: 28 :: 42 :: 29 :: 3 :: 6 :: 184 :: 1 :: 14 :: 4 :: 182 :: 0 :: 209 :: 153 :: 0 :: 14 :: 42 :: 21 :: 4 :: 21 :: 5 :: 182 :: 1 :: 35 :: 154 :: 0 :: 5 :: 3 :: 172 :: 17 :: 3 :: 231 :: 54 :: 6 :: sX12_best_41
theorem aX12_best_0 : dc_at cX12_best 0 sX12_best_0 := dc_base (by decide +kernel)
theorem aX12_best_41 : dc_at cX12_best 41 sX12_best_41 := dc_nn (k := 41) aX12_best_0 rfl
theorem aX12_best_82 : dc_at cX12_best 82 sX12_best_82 := dc_nn (k := 41) aX12_best_41 rfl
theorem aX12_best_123 : dc_at cX12_best 123 sX12_best_123 := dc_nn (k := 41) aX12_best_82 rfl
theorem dX12_best_0 : decode cX12_best 0 = .ok (.aload_n 0, 1) := dc_42 aX12_best_0
theorem dX12_best_1 : decode cX12_best 1 = .ok (.iload_n 1, 1) := dc_27 (dc_nn (k := 1) aX12_best_0 rfl)
theorem dX12_best_2 : decode cX12_best 2 = .ok (.iload_n 2, 1) := dc_28 (dc_nn (k := 2) aX12_best_0 rfl)
theorem dX12_best_3 : decode cX12_best 3 = .ok (.invokevirtual 247, 3) := dc_182 (a0 := 0) (b0 := 247) (dc_nn (k := 3) aX12_best_0 rfl)
theorem dX12_best_6 : decode cX12_best 6 = .ok (.ifCond .eq 28, 3) := dc_153 (a0 := 0) (b0 := 28) (dc_nn (k := 6) aX12_best_0 rfl) (by decide)
theorem dX12_best_9 : decode cX12_best 9 = .ok (.aload_n 0, 1) := dc_42 (dc_nn (k := 9) aX12_best_0 rfl)
theorem dX12_best_10 : decode cX12_best 10 = .ok (.iload_n 3, 1) := dc_29 (dc_nn (k := 10) aX12_best_0 rfl)
theorem dX12_best_11 : decode cX12_best 11 = .ok (.iconst 0, 1) := dc_3 (dc_nn (k := 11) aX12_best_0 rfl)
theorem dX12_best_12 : decode cX12_best 12 = .ok (.iconst 3, 1) := dc_6 (dc_nn (k := 12) aX12_best_0 rfl)
theorem dX12_best_13 : decode cX12_best 13 = .ok (.invokestatic 270, 3) := dc_184 (a0 := 1) (b0 := 14) (dc_nn (k := 13) aX12_best_0 rfl)
theorem dX12_best_16 : decode cX12_best 16 = .ok (.iconst 1, 1) := dc_4 (dc_nn (k := 16) aX12_best_0 rfl)
theorem dX12_best_17 : decode cX12_best 17 = .ok (.invokevirtual 209, 3) := dc_182 (a0 := 0) (b0 := 209) (dc_nn (k := 17) aX12_best_0 rfl)
theorem dX12_best_20 : decode cX12_best 20 = .ok (.ifCond .eq 14, 3) := dc_153 (a0 := 0) (b0 := 14) (dc_nn (k := 20) aX12_best_0 rfl) (by decide)
theorem dX12_best_23 : decode cX12_best 23 = .ok (.aload_n 0, 1) := dc_42 (dc_nn (k := 23) aX12_best_0 rfl)
theorem dX12_best_24 : decode cX12_best 24 = .ok (.iload 4, 2) := dc_21 (a0 := 4) (dc_nn (k := 24) aX12_best_0 rfl)
theorem dX12_best_26 : decode cX12_best 26 = .ok (.iload 5, 2) := dc_21 (a0 := 5) (dc_nn (k := 26) aX12_best_0 rfl)
theorem dX12_best_28 : decode cX12_best 28 = .ok (.invokevirtual 291, 3) := dc_182 (a0 := 1) (b0 := 35) (dc_nn (k := 28) aX12_best_0 rfl)
theorem dX12_best_31 : decode cX12_best 31 = .ok (.ifCond .ne 5, 3) := dc_154 (a0 := 0) (b0 := 5) (dc_nn (k := 31) aX12_best_0 rfl) (by decide)
theorem dX12_best_34 : decode cX12_best 34 = .ok (.iconst 0, 1) := dc_3 (dc_nn (k := 34) aX12_best_0 rfl)
theorem dX12_best_35 : decode cX12_best 35 = .ok (.ireturn, 1) := dc_172 (dc_nn (k := 35) aX12_best_0 rfl)
theorem dX12_best_36 : decode cX12_best 36 = .ok (.sipush 999, 3) := dc_17 (a0 := 3) (b0 := 231) (dc_nn (k := 36) aX12_best_0 rfl) (by decide)
theorem dX12_best_39 : decode cX12_best 39 = .ok (.istore 6, 2) := dc_54 (a0 := 6) (dc_nn (k := 39) aX12_best_0 rfl)
theorem dX12_best_41 : decode cX12_best 41 = .ok (.iload 4, 2) := dc_21 (a0 := 4) aX12_best_41
theorem dX12_best_43 : decode cX12_best 43 = .ok (.istore 7, 2) := dc_54 (a0 := 7) (dc_nn (k := 2) aX12_best_41 rfl)
theorem dX12_best_45 : decode cX12_best 45 = .ok (.iload 7, 2) := dc_21 (a0 := 7) (dc_nn (k := 4) aX12_best_41 rfl)
theorem dX12_best_47 : decode cX12_best 47 = .ok (.iload 4, 2) := dc_21 (a0 := 4) (dc_nn (k := 6) aX12_best_41 rfl)
theorem dX12_best_49 : decode cX12_best 49 = .ok (.iload 5, 2) := dc_21 (a0 := 5) (dc_nn (k := 8) aX12_best_41 rfl)
theorem dX12_best_51 : decode cX12_best 51 = .ok (.iadd, 1) := dc_96 (dc_nn (k := 10) aX12_best_41 rfl)
theorem dX12_best_52 : decode cX12_best 52 = .ok (.if_icmp .gt 82, 3) := dc_163 (a0 := 0) (b0 := 82) (dc_nn (k := 11) aX12_best_41 rfl) (by decide)
theorem dX12_best_55 : decode cX12_best 55 = .ok (.aload_n 0, 1) := dc_42 (dc_nn (k := 14) aX12_best_41 rfl)
theorem dX12_best_56 : decode cX12_best 56 = .ok (.bipush 20, 2) := dc_16 (a0 := 20) (dc_nn (k := 15) aX12_best_41 rfl) (by decide)
theorem dX12_best_58 : decode cX12_best 58 = .ok (.iload_n 1, 1) := dc_27 (dc_nn (k := 17) aX12_best_41 rfl)
theorem dX12_best_59 : decode cX12_best 59 = .ok (.imul, 1) := dc_104 (dc_nn (k := 18) aX12_best_41 rfl)
theorem dX12_best_60 : decode cX12_best 60 = .ok (.iload_n 2, 1) := dc_28 (dc_nn (k := 19) aX12_best_41 rfl)
theorem dX12_best_61 : decode cX12_best 61 = .ok (.iadd, 1) := dc_96 (dc_nn (k := 20) aX12_best_41 rfl)
theorem dX12_best_62 : decode cX12_best 62 = .ok (.iload_n 3, 1) := dc_29 (dc_nn (k := 21) aX12_best_41 rfl)
theorem dX12_best_63 : decode cX12_best 63 = .ok (.iload 7, 2) := dc_21 (a0 := 7) (dc_nn (k := 22) aX12_best_41 rfl)
theorem dX12_best_65 : decode cX12_best 65 = .ok (.iload 6, 2) := dc_21 (a0 := 6) (dc_nn (k := 24) aX12_best_41 rfl)
theorem dX12_best_67 : decode cX12_best 67 = .ok (.invokevirtual 286, 3) := dc_182 (a0 := 1) (b0 := 30) (dc_nn (k := 26) aX12_best_41 rfl)
theorem dX12_best_70 : decode cX12_best 70 = .ok (.istore 8, 2) := dc_54 (a0 := 8) (dc_nn (k := 29) aX12_best_41 rfl)
theorem dX12_best_72 : decode cX12_best 72 = .ok (.iload 8, 2) := dc_21 (a0 := 8) (dc_nn (k := 31) aX12_best_41 rfl)
theorem dX12_best_74 : decode cX12_best 74 = .ok (.iload 6, 2) := dc_21 (a0 := 6) (dc_nn (k := 33) aX12_best_41 rfl)
theorem dX12_best_76 : decode cX12_best 76 = .ok (.if_icmp .le 6, 3) := dc_164 (a0 := 0) (b0 := 6) (dc_nn (k := 35) aX12_best_41 rfl) (by decide)
theorem dX12_best_79 : decode cX12_best 79 = .ok (.goto 49, 3) := dc_167 (a0 := 0) (b0 := 49) (dc_nn (k := 38) aX12_best_41 rfl) (by decide)
theorem dX12_best_82 : decode cX12_best 82 = .ok (.iload 8, 2) := dc_21 (a0 := 8) aX12_best_82
theorem dX12_best_84 : decode cX12_best 84 = .ok (.iload 6, 2) := dc_21 (a0 := 6) (dc_nn (k := 2) aX12_best_82 rfl)
theorem dX12_best_86 : decode cX12_best 86 = .ok (.if_icmp .ge 8, 3) := dc_162 (a0 := 0) (b0 := 8) (dc_nn (k := 4) aX12_best_82 rfl) (by decide)
theorem dX12_best_89 : decode cX12_best 89 = .ok (.aload_n 0, 1) := dc_42 (dc_nn (k := 7) aX12_best_82 rfl)
theorem dX12_best_90 : decode cX12_best 90 = .ok (.iconst 0, 1) := dc_3 (dc_nn (k := 8) aX12_best_82 rfl)
theorem dX12_best_91 : decode cX12_best 91 = .ok (.putfield 65, 3) := dc_181 (a0 := 0) (b0 := 65) (dc_nn (k := 9) aX12_best_82 rfl)
theorem dX12_best_94 : decode cX12_best 94 = .ok (.iload 8, 2) := dc_21 (a0 := 8) (dc_nn (k := 12) aX12_best_82 rfl)
theorem dX12_best_96 : decode cX12_best 96 = .ok (.istore 6, 2) := dc_54 (a0 := 6) (dc_nn (k := 14) aX12_best_82 rfl)
theorem dX12_best_98 : decode cX12_best 98 = .ok (.aload_n 0, 1) := dc_42 (dc_nn (k := 16) aX12_best_82 rfl)
theorem dX12_best_99 : decode cX12_best 99 = .ok (.getfield 65, 3) := dc_180 (a0 := 0) (b0 := 65) (dc_nn (k := 17) aX12_best_82 rfl)
theorem dX12_best_102 : decode cX12_best 102 = .ok (.bipush 20, 2) := dc_16 (a0 := 20) (dc_nn (k := 20) aX12_best_82 rfl) (by decide)
theorem dX12_best_104 : decode cX12_best 104 = .ok (.if_icmp .ge 14, 3) := dc_162 (a0 := 0) (b0 := 14) (dc_nn (k := 22) aX12_best_82 rfl) (by decide)
theorem dX12_best_107 : decode cX12_best 107 = .ok (.aload_n 0, 1) := dc_42 (dc_nn (k := 25) aX12_best_82 rfl)
theorem dX12_best_108 : decode cX12_best 108 = .ok (.getfield 68, 3) := dc_180 (a0 := 0) (b0 := 68) (dc_nn (k := 26) aX12_best_82 rfl)
theorem dX12_best_111 : decode cX12_best 111 = .ok (.aload_n 0, 1) := dc_42 (dc_nn (k := 29) aX12_best_82 rfl)
theorem dX12_best_112 : decode cX12_best 112 = .ok (.getfield 65, 3) := dc_180 (a0 := 0) (b0 := 65) (dc_nn (k := 30) aX12_best_82 rfl)
theorem dX12_best_115 : decode cX12_best 115 = .ok (.iload 7, 2) := dc_21 (a0 := 7) (dc_nn (k := 33) aX12_best_82 rfl)
theorem dX12_best_117 : decode cX12_best 117 = .ok (.iastore, 1) := dc_79 (dc_nn (k := 35) aX12_best_82 rfl)
theorem dX12_best_118 : decode cX12_best 118 = .ok (.aload_n 0, 1) := dc_42 (dc_nn (k := 36) aX12_best_82 rfl)
theorem dX12_best_119 : decode cX12_best 119 = .ok (.dup, 1) := dc_89 (dc_nn (k := 37) aX12_best_82 rfl)
theorem dX12_best_120 : decode cX12_best 120 = .ok (.getfield 65, 3) := dc_180 (a0 := 0) (b0 := 65) (dc_nn (k := 38) aX12_best_82 rfl)
theorem dX12_best_123 : decode cX12_best 123 = .ok (.iconst 1, 1) := dc_4 aX12_best_123
theorem dX12_best_124 : decode cX12_best 124 = .ok (.iadd, 1) := dc_96 (dc_nn (k := 1) aX12_best_123 rfl)
theorem dX12_best_125 : decode cX12_best 125 = .ok (.putfield 65, 3) := dc_181 (a0 := 0) (b0 := 65) (dc_nn (k := 2) aX12_best_123 rfl)
theorem dX12_best_128 : decode cX12_best 128 = .ok (.iinc 7 1, 3) := dc_132 (a0 := 7) (a1 := 1) (dc_nn (k := 5) aX12_best_123 rfl) (by decide)
theorem dX12_best_131 : decode cX12_best 131 = .ok (.goto (-86), 3) := dc_167 (a0 := 255) (b0 := 170) (dc_nn (k := 8) aX12_best_123 rfl) (by decide)
theorem dX12_best_134 : decode cX12_best 134 = .ok (.iload 6, 2) := dc_21 (a0 := 6) (dc_nn (k := 11) aX12_best_123 rfl)
theorem dX12_best_136 : decode cX12_best 136 = .ok (.ireturn, 1) := dc_172 (dc_nn (k := 13) aX12_best_123 rfl)
set_option maxRecDepth 20000 in
theorem ggX12_day_X12_right : GoodIn wsX12_day wsX12_right := goodIn_k _ [[8], [1, 7, 0, 0, 0, 0, 0, 0, 0, 0, 0, 0, 0, 0, 0, 0, 0, 0, 0, 0, 0, 0, 0, 0, 0, 0, 0, 0, 0, 0, 0, 0, 0, 0, 0, 0, 0, 0, 0, 0, 0, 0, 0, 0, 0, 0, 0, 0, 0, 0, 0, 0, 0, 0, 0, 0, 0, 0, 0]] (by rfl) (by decide +kernel)
set_option maxRecDepth 20000 in
theorem gX12_day_X12_right : GoodIn wsX12_day (wsV RX12 209 RX12 yX12_right wsX12_right) := goodIn_app (goodIn_k _ [[4, 0, 0, 0]] (by rfl) (gw_V _ _ _ _)) ggX12_day_X12_right
noncomputable def sX12_day_42 : List Nat := 154 :: 0 :: 5 :: 3 :: 172 :: 27 :: 2 :: 160 :: 0 :: 10 :: 42 :: 180 :: 0 :: 65 :: 167 :: 0 :: 9 :: 42 :: 180 :: 0 :: 68 :: 27 :: 46 :: 172 :: []
noncomputable def sX12_day_0 : List Nat := 42 :: 3 :: 181 :: 0 :: 129 :: 42 :: 42 :: 180 :: 0 :: 65 :: 2 :: 159 :: 0 :: 26 :: 27 :: 2 :: 161 :: 0 :: 21 :: 27 :: 42 :: 180 :: 0 :: 65 :: 162 :: 0 :: 13 :: 27 :: 16 :: 20 :: 162 :: 0 :: 7 :: 4 :: 167 :: 0 :: 4 :: 3 :: 4 :: 182 :: 0 :: 209 :: sX12_day_42
theorem aX12_day_0 : dc_at cX12_day 0 sX12_day_0 := dc_base (by decide +kernel)
theorem aX12_day_42 : dc_at cX12_day 42 sX12_day_42 := dc_nn (k := 42) aX12_day_0 rfl
theorem dX12_day_0 : decode cX12_day 0 = .ok (.aload_n 0, 1) := dc_42 aX12_day_0
theorem dX12_day_1 : decode cX12_day 1 = .ok (.iconst 0, 1) := dc_3 (dc_nn (k := 1) aX12_day_0 rfl)
theorem dX12_day_2 : decode cX12_day 2 = .ok (.putfield 129, 3) := dc_181 (a0 := 0) (b0 := 129) (dc_nn (k := 2) aX12_day_0 rfl)
theorem dX12_day_5 : decode cX12_day 5 = .ok (.aload_n 0, 1) := dc_42 (dc_nn (k := 5) aX12_day_0 rfl)
theorem dX12_day_6 : decode cX12_day 6 = .ok (.aload_n 0, 1) := dc_42 (dc_nn (k := 6) aX12_day_0 rfl)
theorem dX12_day_7 : decode cX12_day 7 = .ok (.getfield 65, 3) := dc_180 (a0 := 0) (b0 := 65) (dc_nn (k := 7) aX12_day_0 rfl)
theorem dX12_day_10 : decode cX12_day 10 = .ok (.iconst (-1), 1) := dc_2 (dc_nn (k := 10) aX12_day_0 rfl)
theorem dX12_day_11 : decode cX12_day 11 = .ok (.if_icmp .eq 26, 3) := dc_159 (a0 := 0) (b0 := 26) (dc_nn (k := 11) aX12_day_0 rfl) (by decide)
theorem dX12_day_14 : decode cX12_day 14 = .ok (.iload_n 1, 1) := dc_27 (dc_nn (k := 14) aX12_day_0 rfl)
theorem dX12_day_15 : decode cX12_day 15 = .ok (.iconst (-1), 1) := dc_2 (dc_nn (k := 15) aX12_day_0 rfl)
theorem dX12_day_16 : decode cX12_day 16 = .ok (.if_icmp .lt 21, 3) := dc_161 (a0 := 0) (b0 := 21) (dc_nn (k := 16) aX12_day_0 rfl) (by decide)
theorem dX12_day_19 : decode cX12_day 19 = .ok (.iload_n 1, 1) := dc_27 (dc_nn (k := 19) aX12_day_0 rfl)
theorem dX12_day_20 : decode cX12_day 20 = .ok (.aload_n 0, 1) := dc_42 (dc_nn (k := 20) aX12_day_0 rfl)
theorem dX12_day_21 : decode cX12_day 21 = .ok (.getfield 65, 3) := dc_180 (a0 := 0) (b0 := 65) (dc_nn (k := 21) aX12_day_0 rfl)
theorem dX12_day_24 : decode cX12_day 24 = .ok (.if_icmp .ge 13, 3) := dc_162 (a0 := 0) (b0 := 13) (dc_nn (k := 24) aX12_day_0 rfl) (by decide)
theorem dX12_day_27 : decode cX12_day 27 = .ok (.iload_n 1, 1) := dc_27 (dc_nn (k := 27) aX12_day_0 rfl)
theorem dX12_day_28 : decode cX12_day 28 = .ok (.bipush 20, 2) := dc_16 (a0 := 20) (dc_nn (k := 28) aX12_day_0 rfl) (by decide)
theorem dX12_day_30 : decode cX12_day 30 = .ok (.if_icmp .ge 7, 3) := dc_162 (a0 := 0) (b0 := 7) (dc_nn (k := 30) aX12_day_0 rfl) (by decide)
theorem dX12_day_33 : decode cX12_day 33 = .ok (.iconst 1, 1) := dc_4 (dc_nn (k := 33) aX12_day_0 rfl)
theorem dX12_day_34 : decode cX12_day 34 = .ok (.goto 4, 3) := dc_167 (a0 := 0) (b0 := 4) (dc_nn (k := 34) aX12_day_0 rfl) (by decide)
theorem dX12_day_37 : decode cX12_day 37 = .ok (.iconst 0, 1) := dc_3 (dc_nn (k := 37) aX12_day_0 rfl)
theorem dX12_day_38 : decode cX12_day 38 = .ok (.iconst 1, 1) := dc_4 (dc_nn (k := 38) aX12_day_0 rfl)
theorem dX12_day_39 : decode cX12_day 39 = .ok (.invokevirtual 209, 3) := dc_182 (a0 := 0) (b0 := 209) (dc_nn (k := 39) aX12_day_0 rfl)
theorem dX12_day_42 : decode cX12_day 42 = .ok (.ifCond .ne 5, 3) := dc_154 (a0 := 0) (b0 := 5) aX12_day_42 (by decide)
theorem dX12_day_45 : decode cX12_day 45 = .ok (.iconst 0, 1) := dc_3 (dc_nn (k := 3) aX12_day_42 rfl)
theorem dX12_day_46 : decode cX12_day 46 = .ok (.ireturn, 1) := dc_172 (dc_nn (k := 4) aX12_day_42 rfl)
theorem dX12_day_47 : decode cX12_day 47 = .ok (.iload_n 1, 1) := dc_27 (dc_nn (k := 5) aX12_day_42 rfl)
theorem dX12_day_48 : decode cX12_day 48 = .ok (.iconst (-1), 1) := dc_2 (dc_nn (k := 6) aX12_day_42 rfl)
theorem dX12_day_49 : decode cX12_day 49 = .ok (.if_icmp .ne 10, 3) := dc_160 (a0 := 0) (b0 := 10) (dc_nn (k := 7) aX12_day_42 rfl) (by decide)
theorem dX12_day_52 : decode cX12_day 52 = .ok (.aload_n 0, 1) := dc_42 (dc_nn (k := 10) aX12_day_42 rfl)
theorem dX12_day_53 : decode cX12_day 53 = .ok (.getfield 65, 3) := dc_180 (a0 := 0) (b0 := 65) (dc_nn (k := 11) aX12_day_42 rfl)
theorem dX12_day_56 : decode cX12_day 56 = .ok (.goto 9, 3) := dc_167 (a0 := 0) (b0 := 9) (dc_nn (k := 14) aX12_day_42 rfl) (by decide)
theorem dX12_day_59 : decode cX12_day 59 = .ok (.aload_n 0, 1) := dc_42 (dc_nn (k := 17) aX12_day_42 rfl)
theorem dX12_day_60 : decode cX12_day 60 = .ok (.getfield 68, 3) := dc_180 (a0 := 0) (b0 := 68) (dc_nn (k := 18) aX12_day_42 rfl)
theorem dX12_day_63 : decode cX12_day 63 = .ok (.iload_n 1, 1) := dc_27 (dc_nn (k := 21) aX12_day_42 rfl)
theorem dX12_day_64 : decode cX12_day 64 = .ok (.iaload, 1) := dc_46 (dc_nn (k := 22) aX12_day_42 rfl)
theorem dX12_day_65 : decode cX12_day 65 = .ok (.ireturn, 1) := dc_172 (dc_nn (k := 23) aX12_day_42 rfl)
set_option maxRecDepth 20000 in
theorem ggX12_whose_X12_isWheel : GoodIn wsX12_whose wsX12_isWheel := goodIn_k _ [[5, 0, 0, 0, 0], [4, 5, 47, 0, 0, 0, 0, 0, 0, 0, 0, 0, 0, 0, 0, 0, 0, 0, 0, 0, 0, 0, 0, 0, 0, 0, 0, 0, 0, 0, 0, 0, 0, 0, 0, 0, 0, 0, 0, 0, 0, 0, 0, 0, 0, 0, 0, 0, 0, 0, 0, 0, 0, 0, 0, 0, 0, 0, 0, 0]] (by rfl) (by decide +kernel)
set_option maxRecDepth 20000 in
theorem gX12_whose_X12_isWheel : GoodIn wsX12_whose (wsV RX12 247 RX12 yX12_isWheel wsX12_isWheel) := goodIn_app (goodIn_k _ [[1, 0, 0, 0]] (by rfl) (gw_V _ _ _ _)) ggX12_whose_X12_isWheel
set_option maxRecDepth 20000 in
theorem ggX12_whose_X12_within : GoodIn wsX12_whose wsX12_within := goodIn_k _ [[13]] (by rfl) (by decide +kernel)
set_option maxRecDepth 20000 in
theorem gX12_whose_X12_within : GoodIn wsX12_whose (va_wsS RX12 270 yX12_within wsX12_within) := goodIn_app (goodIn_k _ [[11, 0], [4]] (by rfl) (gw_S _ _ _ _)) ggX12_whose_X12_within
set_option maxRecDepth 20000 in
theorem ggX12_whose_X12_right : GoodIn wsX12_whose wsX12_right := goodIn_k _ [[10], [6, 51, 0, 0, 0, 0, 0, 0, 0, 0, 0, 0, 0, 0, 0, 0, 0, 0, 0, 0, 0, 0, 0, 0, 0, 0, 0, 0, 0, 0, 0, 0, 0, 0, 0, 0, 0, 0, 0, 0, 0, 0, 0, 0, 0, 0, 0, 0, 0, 0, 0, 0, 0, 0, 0, 0, 0, 0, 0]] (by rfl) (by decide +kernel)
set_option maxRecDepth 20000 in
theorem gX12_whose_X12_right : GoodIn wsX12_whose (wsV RX12 209 RX12 yX12_right wsX12_right) := goodIn_app (goodIn_k _ [[7, 0, 0], [4]] (by rfl) (gw_V _ _ _ _)) ggX12_whose_X12_right
set_option maxRecDepth 20000 in
theorem ggX12_whose_X12_isSpan : GoodIn wsX12_whose wsX12_isSpan := goodIn_k _ [[17, 0, 0], [11, 0], [4, 8], [7, 0, 0, 0], [6, 51, 0, 0, 0, 0, 0, 0, 0, 0, 0, 0, 0, 0, 0, 0, 0, 0, 0, 0, 0, 0, 0, 0, 0, 0, 0, 0, 0, 0, 0, 0, 0, 0, 0, 0, 0, 0, 0, 0, 0, 0, 0, 0, 0, 0, 0, 0, 0, 0, 0, 0, 0, 0, 0, 0, 0, 0, 0]] (by rfl) (by decide +kernel)
set_option maxRecDepth 20000 in
theorem gX12_whose_X12_isSpan : GoodIn wsX12_whose (wsV RX12 291 RX12 yX12_isSpan wsX12_isSpan) := goodIn_app (goodIn_k _ [[14, 0, 0], [4]] (by rfl) (gw_V _ _ _ _)) ggX12_whose_X12_isSpan
set_option maxRecDepth 20000 in
theorem ggX12_whose_X12_costOn : GoodIn wsX12_whose wsX12_costOn := goodIn_k _ [[23, 0, 0, 0], [4, 22, 0, 0, 0, 0, 0, 0, 0, 0, 0, 0, 0, 0, 0, 0, 0, 0, 0, 0, 0, 0, 0, 0, 0, 0, 0, 0, 0, 0, 0, 0, 0, 0, 0, 0, 0, 0, 0, 0, 0, 0, 0, 0, 0, 0, 0, 0, 0, 0, 0, 0, 0, 0, 0, 0, 0, 0, 0, 0, 0, 0, 0, 0, 0, 0, 0, 0, 0, 0, 0, 0, 0, 0, 0, 0, 0, 0, 0, 0, 0, 0, 0, 0, 0, 0, 0, 0, 0, 0]] (by rfl) (by decide +kernel)
set_option maxRecDepth 20000 in
theorem gX12_whose_X12_costOn : GoodIn wsX12_whose (wsV RX12 286 RX12 yX12_costOn wsX12_costOn) := goodIn_app (goodIn_k _ [[20, 0, 0], [4]] (by rfl) (gw_V _ _ _ _)) ggX12_whose_X12_costOn
noncomputable def sX12_whose_163 : List Nat := 167 :: 255 :: 143 :: 21 :: 5 :: 154 :: 0 :: 8 :: 21 :: 7 :: 167 :: 0 :: 16 :: 21 :: 5 :: 4 :: 160 :: 0 :: 8 :: 21 :: 6 :: 167 :: 0 :: 5 :: 21 :: 8 :: 172 :: []
noncomputable def sX12_whose_123 : List Nat := 21 :: 10 :: 21 :: 6 :: 162 :: 0 :: 7 :: 4 :: 167 :: 0 :: 7 :: 21 :: 8 :: 4 :: 96 :: 54 :: 8 :: 21 :: 10 :: 21 :: 6 :: 162 :: 0 :: 8 :: 21 :: 9 :: 167 :: 0 :: 5 :: 21 :: 7 :: 54 :: 7 :: 21 :: 10 :: 54 :: 6 :: 132 :: 9 :: 1 :: sX12_whose_163
noncomputable def sX12_whose_82 : List Nat := 21 :: 11 :: 21 :: 10 :: 182 :: 1 :: 30 :: 54 :: 12 :: 21 :: 12 :: 21 :: 10 :: 162 :: 0 :: 8 :: 21 :: 12 :: 167 :: 0 :: 5 :: 21 :: 10 :: 54 :: 10 :: 132 :: 11 :: 1 :: 167 :: 255 :: 210 :: 21 :: 10 :: 21 :: 6 :: 164 :: 0 :: 6 :: 167 :: 0 :: 40 :: sX12_whose_123
noncomputable def sX12_whose_41 : List Nat := 2 :: 54 :: 7 :: 3 :: 54 :: 8 :: 3 :: 54 :: 9 :: 21 :: 9 :: 7 :: 162 :: 0 :: 113 :: 17 :: 3 :: 231 :: 54 :: 10 :: 29 :: 54 :: 11 :: 21 :: 11 :: 29 :: 21 :: 4 :: 96 :: 163 :: 0 :: 43 :: 42 :: 16 :: 20 :: 27 :: 104 :: 28 :: 96 :: 21 :: 9 :: sX12_whose_82
noncomputable def sX12_whose_0 : List Nat := 42 :: 27 :: 28 :: 182 :: 0 :: 247 :: 153 :: 0 :: 28 :: 42 :: 21 :: 5 :: 3 :: 5 :: 184 :: 1 :: 14 :: 4 :: 182 :: 0 :: 209 :: 153 :: 0 :: 13 :: 42 :: 29 :: 21 :: 4 :: 182 :: 1 :: 35 :: 154 :: 0 :: 5 :: 3 :: 172 :: 17 :: 3 :: 231 :: 54 :: 6 :: sX12_whose_41
theorem aX12_whose_0 : dc_at cX12_whose 0 sX12_whose_0 := dc_base (by decide +kernel)
theorem aX12_whose_41 : dc_at cX12_whose 41 sX12_whose_41 := dc_nn (k := 41) aX12_whose_0 rfl
theorem aX12_whose_82 : dc_at cX12_whose 82 sX12_whose_82 := dc_nn (k := 41) aX12_whose_41 rfl
theorem aX12_whose_123 : dc_at cX12_whose 123 sX12_whose_123 := dc_nn (k := 41) aX12_whose_82 rfl
theorem aX12_whose_163 : dc_at cX12_whose 163 sX12_whose_163 := dc_nn (k := 40) aX12_whose_123 rfl
theorem dX12_whose_0 : decode cX12_whose 0 = .ok (.aload_n 0, 1) := dc_42 aX12_whose_0
theorem dX12_whose_1 : decode cX12_whose 1 = .ok (.iload_n 1, 1) := dc_27 (dc_nn (k := 1) aX12_whose_0 rfl)
theorem dX12_whose_2 : decode cX12_whose 2 = .ok (.iload_n 2, 1) := dc_28 (dc_nn (k := 2) aX12_whose_0 rfl)
theorem dX12_whose_3 : decode cX12_whose 3 = .ok (.invokevirtual 247, 3) := dc_182 (a0 := 0) (b0 := 247) (dc_nn (k := 3) aX12_whose_0 rfl)
theorem dX12_whose_6 : decode cX12_whose 6 = .ok (.ifCond .eq 28, 3) := dc_153 (a0 := 0) (b0 := 28) (dc_nn (k := 6) aX12_whose_0 rfl) (by decide)
theorem dX12_whose_9 : decode cX12_whose 9 = .ok (.aload_n 0, 1) := dc_42 (dc_nn (k := 9) aX12_whose_0 rfl)
theorem dX12_whose_10 : decode cX12_whose 10 = .ok (.iload 5, 2) := dc_21 (a0 := 5) (dc_nn (k := 10) aX12_whose_0 rfl)
theorem dX12_whose_12 : decode cX12_whose 12 = .ok (.iconst 0, 1) := dc_3 (dc_nn (k := 12) aX12_whose_0 rfl)
theorem dX12_whose_13 : decode cX12_whose 13 = .ok (.iconst 2, 1) := dc_5 (dc_nn (k := 13) aX12_whose_0 rfl)
theorem dX12_whose_14 : decode cX12_whose 14 = .ok (.invokestatic 270, 3) := dc_184 (a0 := 1) (b0 := 14) (dc_nn (k := 14) aX12_whose_0 rfl)
theorem dX12_whose_17 : decode cX12_whose 17 = .ok (.iconst 1, 1) := dc_4 (dc_nn (k := 17) aX12_whose_0 rfl)
theorem dX12_whose_18 : decode cX12_whose 18 = .ok (.invokevirtual 209, 3) := dc_182 (a0 := 0) (b0 := 209) (dc_nn (k := 18) aX12_whose_0 rfl)
theorem dX12_whose_21 : decode cX12_whose 21 = .ok (.ifCond .eq 13, 3) := dc_153 (a0 := 0) (b0 := 13) (dc_nn (k := 21) aX12_whose_0 rfl) (by decide)
theorem dX12_whose_24 : decode cX12_whose 24 = .ok (.aload_n 0, 1) := dc_42 (dc_nn (k := 24) aX12_whose_0 rfl)
theorem dX12_whose_25 : decode cX12_whose 25 = .ok (.iload_n 3, 1) := dc_29 (dc_nn (k := 25) aX12_whose_0 rfl)
theorem dX12_whose_26 : decode cX12_whose 26 = .ok (.iload 4, 2) := dc_21 (a0 := 4) (dc_nn (k := 26) aX12_whose_0 rfl)
theorem dX12_whose_28 : decode cX12_whose 28 = .ok (.invokevirtual 291, 3) := dc_182 (a0 := 1) (b0 := 35) (dc_nn (k := 28) aX12_whose_0 rfl)
theorem dX12_whose_31 : decode cX12_whose 31 = .ok (.ifCond .ne 5, 3) := dc_154 (a0 := 0) (b0 := 5) (dc_nn (k := 31) aX12_whose_0 rfl) (by decide)
theorem dX12_whose_34 : decode cX12_whose 34 = .ok (.iconst 0, 1) := dc_3 (dc_nn (k := 34) aX12_whose_0 rfl)
theorem dX12_whose_35 : decode cX12_whose 35 = .ok (.ireturn, 1) := dc_172 (dc_nn (k := 35) aX12_whose_0 rfl)
theorem dX12_whose_36 : decode cX12_whose 36 = .ok (.sipush 999, 3) := dc_17 (a0 := 3) (b0 := 231) (dc_nn (k := 36) aX12_whose_0 rfl) (by decide)
theorem dX12_whose_39 : decode cX12_whose 39 = .ok (.istore 6, 2) := dc_54 (a0 := 6) (dc_nn (k := 39) aX12_whose_0 rfl)
theorem dX12_whose_41 : decode cX12_whose 41 = .ok (.iconst (-1), 1) := dc_2 aX12_whose_41
theorem dX12_whose_42 : decode cX12_whose 42 = .ok (.istore 7, 2) := dc_54 (a0 := 7) (dc_nn (k := 1) aX12_whose_41 rfl)
theorem dX12_whose_44 : decode cX12_whose 44 = .ok (.iconst 0, 1) := dc_3 (dc_nn (k := 3) aX12_whose_41 rfl)
theorem dX12_whose_45 : decode cX12_whose 45 = .ok (.istore 8, 2) := dc_54 (a0 := 8) (dc_nn (k := 4) aX12_whose_41 rfl)
theorem dX12_whose_47 : decode cX12_whose 47 = .ok (.iconst 0, 1) := dc_3 (dc_nn (k := 6) aX12_whose_41 rfl)
theorem dX12_whose_48 : decode cX12_whose 48 = .ok (.istore 9, 2) := dc_54 (a0 := 9) (dc_nn (k := 7) aX12_whose_41 rfl)
theorem dX12_whose_50 : decode cX12_whose 50 = .ok (.iload 9, 2) := dc_21 (a0 := 9) (dc_nn (k := 9) aX12_whose_41 rfl)
theorem dX12_whose_52 : decode cX12_whose 52 = .ok (.iconst 4, 1) := dc_7 (dc_nn (k := 11) aX12_whose_41 rfl)
theorem dX12_whose_53 : decode cX12_whose 53 = .ok (.if_icmp .ge 113, 3) := dc_162 (a0 := 0) (b0 := 113) (dc_nn (k := 12) aX12_whose_41 rfl) (by decide)
theorem dX12_whose_56 : decode cX12_whose 56 = .ok (.sipush 999, 3) := dc_17 (a0 := 3) (b0 := 231) (dc_nn (k := 15) aX12_whose_41 rfl) (by decide)
theorem dX12_whose_59 : decode cX12_whose 59 = .ok (.istore 10, 2) := dc_54 (a0 := 10) (dc_nn (k := 18) aX12_whose_41 rfl)
theorem dX12_whose_61 : decode cX12_whose 61 = .ok (.iload_n 3, 1) := dc_29 (dc_nn (k := 20) aX12_whose_41 rfl)
theorem dX12_whose_62 : decode cX12_whose 62 = .ok (.istore 11, 2) := dc_54 (a0 := 11) (dc_nn (k := 21) aX12_whose_41 rfl)
theorem dX12_whose_64 : decode cX12_whose 64 = .ok (.iload 11, 2) := dc_21 (a0 := 11) (dc_nn (k := 23) aX12_whose_41 rfl)
theorem dX12_whose_66 : decode cX12_whose 66 = .ok (.iload_n 3, 1) := dc_29 (dc_nn (k := 25) aX12_whose_41 rfl)
theorem dX12_whose_67 : decode cX12_whose 67 = .ok (.iload 4, 2) := dc_21 (a0 := 4) (dc_nn (k := 26) aX12_whose_41 rfl)
theorem dX12_whose_69 : decode cX12_whose 69 = .ok (.iadd, 1) := dc_96 (dc_nn (k := 28) aX12_whose_41 rfl)
theorem dX12_whose_70 : decode cX12_whose 70 = .ok (.if_icmp .gt 43, 3) := dc_163 (a0 := 0) (b0 := 43) (dc_nn (k := 29) aX12_whose_41 rfl) (by decide)
theorem dX12_whose_73 : decode cX12_whose 73 = .ok (.aload_n 0, 1) := dc_42 (dc_nn (k := 32) aX12_whose_41 rfl)
theorem dX12_whose_74 : decode cX12_whose 74 = .ok (.bipush 20, 2) := dc_16 (a0 := 20) (dc_nn (k := 33) aX12_whose_41 rfl) (by decide)
theorem dX12_whose_76 : decode cX12_whose 76 = .ok (.iload_n 1, 1) := dc_27 (dc_nn (k := 35) aX12_whose_41 rfl)
theorem dX12_whose_77 : decode cX12_whose 77 = .ok (.imul, 1) := dc_104 (dc_nn (k := 36) aX12_whose_41 rfl)
theorem dX12_whose_78 : decode cX12_whose 78 = .ok (.iload_n 2, 1) := dc_28 (dc_nn (k := 37) aX12_whose_41 rfl)
theorem dX12_whose_79 : decode cX12_whose 79 = .ok (.iadd, 1) := dc_96 (dc_nn (k := 38) aX12_whose_41 rfl)
theorem dX12_whose_80 : decode cX12_whose 80 = .ok (.iload 9, 2) := dc_21 (a0 := 9) (dc_nn (k := 39) aX12_whose_41 rfl)
theorem dX12_whose_82 : decode cX12_whose 82 = .ok (.iload 11, 2) := dc_21 (a0 := 11) aX12_whose_82
theorem dX12_whose_84 : decode cX12_whose 84 = .ok (.iload 10, 2) := dc_21 (a0 := 10) (dc_nn (k := 2) aX12_whose_82 rfl)
theorem dX12_whose_86 : decode cX12_whose 86 = .ok (.invokevirtual 286, 3) := dc_182 (a0 := 1) (b0 := 30) (dc_nn (k := 4) aX12_whose_82 rfl)
theorem dX12_whose_89 : decode cX12_whose 89 = .ok (.istore 12, 2) := dc_54 (a0 := 12) (dc_nn (k := 7) aX12_whose_82 rfl)
theorem dX12_whose_91 : decode cX12_whose 91 = .ok (.iload 12, 2) := dc_21 (a0 := 12) (dc_nn (k := 9) aX12_whose_82 rfl)
theorem dX12_whose_93 : decode cX12_whose 93 = .ok (.iload 10, 2) := dc_21 (a0 := 10) (dc_nn (k := 11) aX12_whose_82 rfl)
theorem dX12_whose_95 : decode cX12_whose 95 = .ok (.if_icmp .ge 8, 3) := dc_162 (a0 := 0) (b0 := 8) (dc_nn (k := 13) aX12_whose_82 rfl) (by decide)
theorem dX12_whose_98 : decode cX12_whose 98 = .ok (.iload 12, 2) := dc_21 (a0 := 12) (dc_nn (k := 16) aX12_whose_82 rfl)
theorem dX12_whose_100 : decode cX12_whose 100 = .ok (.goto 5, 3) := dc_167 (a0 := 0) (b0 := 5) (dc_nn (k := 18) aX12_whose_82 rfl) (by decide)
theorem dX12_whose_103 : decode cX12_whose 103 = .ok (.iload 10, 2) := dc_21 (a0 := 10) (dc_nn (k := 21) aX12_whose_82 rfl)
theorem dX12_whose_105 : decode cX12_whose 105 = .ok (.istore 10, 2) := dc_54 (a0 := 10) (dc_nn (k := 23) aX12_whose_82 rfl)
theorem dX12_whose_107 : decode cX12_whose 107 = .ok (.iinc 11 1, 3) := dc_132 (a0 := 11) (a1 := 1) (dc_nn (k := 25) aX12_whose_82 rfl) (by decide)
theorem dX12_whose_110 : decode cX12_whose 110 = .ok (.goto (-46), 3) := dc_167 (a0 := 255) (b0 := 210) (dc_nn (k := 28) aX12_whose_82 rfl) (by decide)
theorem dX12_whose_113 : decode cX12_whose 113 = .ok (.iload 10, 2) := dc_21 (a0 := 10) (dc_nn (k := 31) aX12_whose_82 rfl)
theorem dX12_whose_115 : decode cX12_whose 115 = .ok (.iload 6, 2) := dc_21 (a0 := 6) (dc_nn (k := 33) aX12_whose_82 rfl)
theorem dX12_whose_117 : decode cX12_whose 117 = .ok (.if_icmp .le 6, 3) := dc_164 (a0 := 0) (b0 := 6) (dc_nn (k := 35) aX12_whose_82 rfl) (by decide)
theorem dX12_whose_120 : decode cX12_whose 120 = .ok (.goto 40, 3) := dc_167 (a0 := 0) (b0 := 40) (dc_nn (k := 38) aX12_whose_82 rfl) (by decide)
theorem dX12_whose_123 : decode cX12_whose 123 = .ok (.iload 10, 2) := dc_21 (a0 := 10) aX12_whose_123
theorem dX12_whose_125 : decode cX12_whose 125 = .ok (.iload 6, 2) := dc_21 (a0 := 6) (dc_nn (k := 2) aX12_whose_123 rfl)
theorem dX12_whose_127 : decode cX12_whose 127 = .ok (.if_icmp .ge 7, 3) := dc_162 (a0 := 0) (b0 := 7) (dc_nn (k := 4) aX12_whose_123 rfl) (by decide)
theorem dX12_whose_130 : decode cX12_whose 130 = .ok (.iconst 1, 1) := dc_4 (dc_nn (k := 7) aX12_whose_123 rfl)
theorem dX12_whose_131 : decode cX12_whose 131 = .ok (.goto 7, 3) := dc_167 (a0 := 0) (b0 := 7) (dc_nn (k := 8) aX12_whose_123 rfl) (by decide)
theorem dX12_whose_134 : decode cX12_whose 134 = .ok (.iload 8, 2) := dc_21 (a0 := 8) (dc_nn (k := 11) aX12_whose_123 rfl)
theorem dX12_whose_136 : decode cX12_whose 136 = .ok (.iconst 1, 1) := dc_4 (dc_nn (k := 13) aX12_whose_123 rfl)
theorem dX12_whose_137 : decode cX12_whose 137 = .ok (.iadd, 1) := dc_96 (dc_nn (k := 14) aX12_whose_123 rfl)
theorem dX12_whose_138 : decode cX12_whose 138 = .ok (.istore 8, 2) := dc_54 (a0 := 8) (dc_nn (k := 15) aX12_whose_123 rfl)
theorem dX12_whose_140 : decode cX12_whose 140 = .ok (.iload 10, 2) := dc_21 (a0 := 10) (dc_nn (k := 17) aX12_whose_123 rfl)
theorem dX12_whose_142 : decode cX12_whose 142 = .ok (.iload 6, 2) := dc_21 (a0 := 6) (dc_nn (k := 19) aX12_whose_123 rfl)
theorem dX12_whose_144 : decode cX12_whose 144 = .ok (.if_icmp .ge 8, 3) := dc_162 (a0 := 0) (b0 := 8) (dc_nn (k := 21) aX12_whose_123 rfl) (by decide)
theorem dX12_whose_147 : decode cX12_whose 147 = .ok (.iload 9, 2) := dc_21 (a0 := 9) (dc_nn (k := 24) aX12_whose_123 rfl)
theorem dX12_whose_149 : decode cX12_whose 149 = .ok (.goto 5, 3) := dc_167 (a0 := 0) (b0 := 5) (dc_nn (k := 26) aX12_whose_123 rfl) (by decide)
theorem dX12_whose_152 : decode cX12_whose 152 = .ok (.iload 7, 2) := dc_21 (a0 := 7) (dc_nn (k := 29) aX12_whose_123 rfl)
theorem dX12_whose_154 : decode cX12_whose 154 = .ok (.istore 7, 2) := dc_54 (a0 := 7) (dc_nn (k := 31) aX12_whose_123 rfl)
theorem dX12_whose_156 : decode cX12_whose 156 = .ok (.iload 10, 2) := dc_21 (a0 := 10) (dc_nn (k := 33) aX12_whose_123 rfl)
theorem dX12_whose_158 : decode cX12_whose 158 = .ok (.istore 6, 2) := dc_54 (a0 := 6) (dc_nn (k := 35) aX12_whose_123 rfl)
theorem dX12_whose_160 : decode cX12_whose 160 = .ok (.iinc 9 1, 3) := dc_132 (a0 := 9) (a1 := 1) (dc_nn (k := 37) aX12_whose_123 rfl) (by decide)
theorem dX12_whose_163 : decode cX12_whose 163 = .ok (.goto (-113), 3) := dc_167 (a0 := 255) (b0 := 143) aX12_whose_163 (by decide)
theorem dX12_whose_166 : decode cX12_whose 166 = .ok (.iload 5, 2) := dc_21 (a0 := 5) (dc_nn (k := 3) aX12_whose_163 rfl)
theorem dX12_whose_168 : decode cX12_whose 168 = .ok (.ifCond .ne 8, 3) := dc_154 (a0 := 0) (b0 := 8) (dc_nn (k := 5) aX12_whose_163 rfl) (by decide)
theorem dX12_whose_171 : decode cX12_whose 171 = .ok (.iload 7, 2) := dc_21 (a0 := 7) (dc_nn (k := 8) aX12_whose_163 rfl)
theorem dX12_whose_173 : decode cX12_whose 173 = .ok (.goto 16, 3) := dc_167 (a0 := 0) (b0 := 16) (dc_nn (k := 10) aX12_whose_163 rfl) (by decide)
theorem dX12_whose_176 : decode cX12_whose 176 = .ok (.iload 5, 2) := dc_21 (a0 := 5) (dc_nn (k := 13) aX12_whose_163 rfl)
theorem dX12_whose_178 : decode cX12_whose 178 = .ok (.iconst 1, 1) := dc_4 (dc_nn (k := 15) aX12_whose_163 rfl)
theorem dX12_whose_179 : decode cX12_whose 179 = .ok (.if_icmp .ne 8, 3) := dc_160 (a0 := 0) (b0 := 8) (dc_nn (k := 16) aX12_whose_163 rfl) (by decide)
theorem dX12_whose_182 : decode cX12_whose 182 = .ok (.iload 6, 2) := dc_21 (a0 := 6) (dc_nn (k := 19) aX12_whose_163 rfl)
theorem dX12_whose_184 : decode cX12_whose 184 = .ok (.goto 5, 3) := dc_167 (a0 := 0) (b0 := 5) (dc_nn (k := 21) aX12_whose_163 rfl) (by decide)
theorem dX12_whose_187 : decode cX12_whose 187 = .ok (.iload 8, 2) := dc_21 (a0 := 8) (dc_nn (k := 24) aX12_whose_163 rfl)
theorem dX12_whose_189 : decode cX12_whose 189 = .ok (.ireturn, 1) := dc_172 (dc_nn (k := 26) aX12_whose_163 rfl)
set_option maxRecDepth 20000 in
theorem ggX12_mixed_X12_isWheel : GoodIn wsX12_mixed wsX12_isWheel := goodIn_k _ [[5, 0, 0, 0, 0], [4, 5, 32, 0, 0, 0, 0, 0, 0, 0, 0, 0, 0, 0, 0, 0, 0, 0, 0, 0, 0, 0, 0, 0, 0, 0, 0, 0, 0, 0, 0, 0, 0, 0, 0, 0, 0, 0, 0, 0, 0, 0, 0, 0, 0, 0, 0, 0, 0, 0, 0, 0, 0, 0, 0, 0, 0, 0, 0, 0]] (by rfl) (by decide +kernel)
set_option maxRecDepth 20000 in
theorem gX12_mixed_X12_isWheel : GoodIn wsX12_mixed (wsV RX12 247 RX12 yX12_isWheel wsX12_isWheel) := goodIn_app (goodIn_k _ [[1, 0, 0, 0]] (by rfl) (gw_V _ _ _ _)) ggX12_mixed_X12_isWheel
set_option maxRecDepth 20000 in
theorem ggX12_mixed_X12_isSpan : GoodIn wsX12_mixed wsX12_isSpan := goodIn_k _ [[14, 0, 0, 0, 0], [4, 14], [7, 0, 0, 0], [6, 36, 0, 0, 0, 0, 0, 0, 0, 0, 0, 0, 0, 0, 0, 0, 0, 0, 0, 0, 0, 0, 0, 0, 0, 0, 0, 0, 0, 0, 0, 0, 0, 0, 0, 0, 0, 0, 0, 0, 0, 0, 0, 0, 0, 0, 0, 0, 0, 0, 0, 0, 0, 0, 0, 0, 0, 0, 0]] (by rfl) (by decide +kernel)
set_option maxRecDepth 20000 in
theorem gX12_mixed_X12_isSpan : GoodIn wsX12_mixed (wsV RX12 291 RX12 yX12_isSpan wsX12_isSpan) := goodIn_app (goodIn_k _ [[11, 0, 0], [4]] (by rfl) (gw_V _ _ _ _)) ggX12_mixed_X12_isSpan
set_option maxRecDepth 20000 in
theorem ggX12_mixed_X12_isMixed : GoodIn wsX12_mixed wsX12_isMixed := goodIn_k _ [[23, 0, 0, 0], [4, 22, 0, 0, 0, 0, 0, 0, 0, 0, 0, 0, 0, 0, 0, 0, 0, 0, 0, 0, 0, 0, 0, 0, 0, 0, 0, 0, 0, 0, 0, 0, 0, 0, 0, 0, 0, 0, 0, 0, 0, 0, 0, 0, 0, 0, 0, 0, 0, 0, 0, 0, 0, 0, 0, 0, 0, 0, 0, 0, 0, 0, 0, 0, 0, 0, 0, 0, 0, 0, 0, 0, 0, 0, 0]] (by rfl) (by decide +kernel)
set_option maxRecDepth 20000 in
theorem gX12_mixed_X12_isMixed : GoodIn wsX12_mixed (wsV RX12 294 RX12 yX12_isMixed wsX12_isMixed) := goodIn_app (goodIn_k _ [[20, 0, 0], [4]] (by rfl) (gw_V _ _ _ _)) ggX12_mixed_X12_isMixed
noncomputable def sX12_mixed_40 : List Nat := 104 :: 28 :: 96 :: 21 :: 6 :: 182 :: 1 :: 38 :: 153 :: 0 :: 6 :: 132 :: 5 :: 1 :: 132 :: 6 :: 1 :: 167 :: 255 :: 226 :: 21 :: 5 :: 172 :: []
noncomputable def sX12_mixed_0 : List Nat := 42 :: 27 :: 28 :: 182 :: 0 :: 247 :: 153 :: 0 :: 13 :: 42 :: 29 :: 21 :: 4 :: 182 :: 1 :: 35 :: 154 :: 0 :: 5 :: 3 :: 172 :: 3 :: 54 :: 5 :: 29 :: 54 :: 6 :: 21 :: 6 :: 29 :: 21 :: 4 :: 96 :: 163 :: 0 :: 27 :: 42 :: 16 :: 20 :: 27 :: sX12_mixed_40
theorem aX12_mixed_0 : dc_at cX12_mixed 0 sX12_mixed_0 := dc_base (by decide +kernel)
theorem aX12_mixed_40 : dc_at cX12_mixed 40 sX12_mixed_40 := dc_nn (k := 40) aX12_mixed_0 rfl
theorem dX12_mixed_0 : decode cX12_mixed 0 = .ok (.aload_n 0, 1) := dc_42 aX12_mixed_0
theorem dX12_mixed_1 : decode cX12_mixed 1 = .ok (.iload_n 1, 1) := dc_27 (dc_nn (k := 1) aX12_mixed_0 rfl)
theorem dX12_mixed_2 : decode cX12_mixed 2 = .ok (.iload_n 2, 1) := dc_28 (dc_nn (k := 2) aX12_mixed_0 rfl)
theorem dX12_mixed_3 : decode cX12_mixed 3 = .ok (.invokevirtual 247, 3) := dc_182 (a0 := 0) (b0 := 247) (dc_nn (k := 3) aX12_mixed_0 rfl)
