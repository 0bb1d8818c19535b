set_option maxRecDepth 20000 in
theorem ggL_house_X11_house : GoodIn wsL_house wsX11_house := goodIn_ca (goodIn_k _ [[6, 0, 0, 0, 0, 0, 0, 0], [5, 8, 0, 0, 0, 0, 0, 0, 0, 0, 0, 0, 0, 0, 0, 0, 0, 0, 0, 0, 0, 0, 0, 0, 0, 0, 0, 0, 0, 0, 0, 0, 0, 0, 0, 0, 0, 0, 0, 0, 0, 0, 0, 0, 0, 0, 0, 0, 0, 0, 0, 0, 0, 0, 0, 0, 0, 0, 0, 0, 0, 0, 0, 0, 0, 0, 0, 0, 0, 0, 0, 0, 0, 0, 0, 0, 0, 0, 0, 0, 0, 0, 0, 0, 0, 0, 0, 0, 0, 0, 0, 0, 0, 0, 0, 0, 0, 0, 0, 0, 0, 0, 0, 0, 0, 0, 0, 0, 0, 0, 0, 0, 0, 0, 0, 0, 0, 0, 0, 0, 0, 0, 0, 0, 0, 0, 0, 0, 0, 0, 0, 0, 0, 0, 0, 0, 0, 0, 0, 0, 0, 0, 0, 0, 0, 0, 0, 0, 0, 0, 0, 0, 0, 0, 0, 0, 0, 0, 0, 0, 0, 0, 0, 0, 0, 0, 0, 0, 0, 0, 0, 0, 0, 0, 0, 0, 0, 0, 0, 0, 0, 0, 0, 0, 0, 0, 0, 0, 0, 0, 0, 0, 0, 0, 0, 0, 0, 0, 0, 0, 0, 0, 0, 0, 0, 0, 0, 0, 0, 0, 0, 0, 0, 0, 0, 0, 0, 0, 0, 0, 0, 0, 0, 0, 0, 0, 0, 0, 0, 0, 0, 0]] (by rfl) (by decide +kernel)) (goodIn_sub (fun _ h => List.mem_cons_of_mem _ (List.mem_append_right _ h)) (by decide +kernel))
set_option maxRecDepth 20000 in
theorem gL_house_X11_house : GoodIn wsL_house (wsV RL 7 RX11 yX11_house wsX11_house) := goodIn_app (goodIn_of _ (by decide +kernel)) ggL_house_X11_house
noncomputable def sL_house_16 : List Nat := 172 :: []
noncomputable def sL_house_15 : List Nat := 3 :: sL_house_16
noncomputable def sL_house_14 : List Nat := 172 :: sL_house_15
noncomputable def sL_house_13 : List Nat := 4 :: sL_house_14
noncomputable def sL_house_12 : List Nat := 78 :: sL_house_13
noncomputable def sL_house_9 : List Nat := 167 :: 0 :: 6 :: sL_house_12
noncomputable def sL_house_8 : List Nat := 80 :: sL_house_9
noncomputable def sL_house_7 : List Nat := 133 :: sL_house_8
noncomputable def sL_house_4 : List Nat := 182 :: 0 :: 7 :: sL_house_7
noncomputable def sL_house_3 : List Nat := 27 :: sL_house_4
noncomputable def sL_house_2 : List Nat := 42 :: sL_house_3
noncomputable def sL_house_1 : List Nat := 3 :: sL_house_2
noncomputable def sL_house_0 : List Nat := 44 :: sL_house_1
theorem aL_house_0 : dc_at cL_house 0 sL_house_0 := dc_base (by decide +kernel)
theorem aL_house_1 : dc_at cL_house 1 sL_house_1 := dc_n1 aL_house_0
theorem aL_house_2 : dc_at cL_house 2 sL_house_2 := dc_n1 aL_house_1
theorem aL_house_3 : dc_at cL_house 3 sL_house_3 := dc_n1 aL_house_2
theorem aL_house_4 : dc_at cL_house 4 sL_house_4 := dc_n1 aL_house_3
theorem aL_house_7 : dc_at cL_house 7 sL_house_7 := dc_n3 aL_house_4
theorem aL_house_8 : dc_at cL_house 8 sL_house_8 := dc_n1 aL_house_7
theorem aL_house_9 : dc_at cL_house 9 sL_house_9 := dc_n1 aL_house_8
theorem aL_house_12 : dc_at cL_house 12 sL_house_12 := dc_n3 aL_house_9
theorem aL_house_13 : dc_at cL_house 13 sL_house_13 := dc_n1 aL_house_12
theorem aL_house_14 : dc_at cL_house 14 sL_house_14 := dc_n1 aL_house_13
theorem aL_house_15 : dc_at cL_house 15 sL_house_15 := dc_n1 aL_house_14
theorem aL_house_16 : dc_at cL_house 16 sL_house_16 := dc_n1 aL_house_15
theorem dL_house_0 : decode cL_house 0 = .ok (.aload_n 2, 1) := dc_44 aL_house_0
theorem dL_house_1 : decode cL_house 1 = .ok (.iconst 0, 1) := dc_3 aL_house_1
theorem dL_house_2 : decode cL_house 2 = .ok (.aload_n 0, 1) := dc_42 aL_house_2
theorem dL_house_3 : decode cL_house 3 = .ok (.iload_n 1, 1) := dc_27 aL_house_3
theorem dL_house_4 : decode cL_house 4 = .ok (.invokevirtual 7, 3) := dc_182 (a0 := 0) (b0 := 7) aL_house_4
theorem dL_house_7 : decode cL_house 7 = .ok (.i2l, 1) := dc_133 aL_house_7
theorem dL_house_8 : decode cL_house 8 = .ok (.lastore, 1) := dc_80 aL_house_8
theorem dL_house_9 : decode cL_house 9 = .ok (.goto 6, 3) := dc_167 (a0 := 0) (b0 := 6) aL_house_9 (by decide)
theorem dL_house_12 : decode cL_house 12 = .ok (.astore_n 3, 1) := dc_78 aL_house_12
theorem dL_house_13 : decode cL_house 13 = .ok (.iconst 1, 1) := dc_4 aL_house_13
theorem dL_house_14 : decode cL_house 14 = .ok (.ireturn, 1) := dc_172 aL_house_14
theorem dL_house_15 : decode cL_house 15 = .ok (.iconst 0, 1) := dc_3 aL_house_15
theorem dL_house_16 : decode cL_house 16 = .ok (.ireturn, 1) := dc_172 aL_house_16
noncomputable def sL_wheel_24 : List Nat := 172 :: []
noncomputable def sL_wheel_23 : List Nat := 3 :: sL_wheel_24
noncomputable def sL_wheel_22 : List Nat := 172 :: sL_wheel_23
noncomputable def sL_wheel_21 : List Nat := 5 :: sL_wheel_22
noncomputable def sL_wheel_19 : List Nat := 58 :: 5 :: sL_wheel_21
noncomputable def sL_wheel_18 : List Nat := 172 :: sL_wheel_19
noncomputable def sL_wheel_17 : List Nat := 4 :: sL_wheel_18
noncomputable def sL_wheel_15 : List Nat := 58 :: 5 :: sL_wheel_17
noncomputable def sL_wheel_12 : List Nat := 167 :: 0 :: 11 :: sL_wheel_15
noncomputable def sL_wheel_11 : List Nat := 80 :: sL_wheel_12
noncomputable def sL_wheel_10 : List Nat := 133 :: sL_wheel_11
noncomputable def sL_wheel_7 : List Nat := 182 :: 0 :: 15 :: sL_wheel_10
noncomputable def sL_wheel_6 : List Nat := 29 :: sL_wheel_7
noncomputable def sL_wheel_5 : List Nat := 28 :: sL_wheel_6
noncomputable def sL_wheel_4 : List Nat := 27 :: sL_wheel_5
noncomputable def sL_wheel_3 : List Nat := 42 :: sL_wheel_4
noncomputable def sL_wheel_2 : List Nat := 3 :: sL_wheel_3
noncomputable def sL_wheel_0 : List Nat := 25 :: 4 :: sL_wheel_2
theorem aL_wheel_0 : dc_at cL_wheel 0 sL_wheel_0 := dc_base (by decide +kernel)
theorem aL_wheel_2 : dc_at cL_wheel 2 sL_wheel_2 := dc_n2 aL_wheel_0
theorem aL_wheel_3 : dc_at cL_wheel 3 sL_wheel_3 := dc_n1 aL_wheel_2
theorem aL_wheel_4 : dc_at cL_wheel 4 sL_wheel_4 := dc_n1 aL_wheel_3
theorem aL_wheel_5 : dc_at cL_wheel 5 sL_wheel_5 := dc_n1 aL_wheel_4
theorem aL_wheel_6 : dc_at cL_wheel 6 sL_wheel_6 := dc_n1 aL_wheel_5
theorem aL_wheel_7 : dc_at cL_wheel 7 sL_wheel_7 := dc_n1 aL_wheel_6
theorem aL_wheel_10 : dc_at cL_wheel 10 sL_wheel_10 := dc_n3 aL_wheel_7
theorem aL_wheel_11 : dc_at cL_wheel 11 sL_wheel_11 := dc_n1 aL_wheel_10
theorem aL_wheel_12 : dc_at cL_wheel 12 sL_wheel_12 := dc_n1 aL_wheel_11
theorem aL_wheel_15 : dc_at cL_wheel 15 sL_wheel_15 := dc_n3 aL_wheel_12
theorem aL_wheel_17 : dc_at cL_wheel 17 sL_wheel_17 := dc_n2 aL_wheel_15
theorem aL_wheel_18 : dc_at cL_wheel 18 sL_wheel_18 := dc_n1 aL_wheel_17
theorem aL_wheel_19 : dc_at cL_wheel 19 sL_wheel_19 := dc_n1 aL_wheel_18
theorem aL_wheel_21 : dc_at cL_wheel 21 sL_wheel_21 := dc_n2 aL_wheel_19
theorem aL_wheel_22 : dc_at cL_wheel 22 sL_wheel_22 := dc_n1 aL_wheel_21
theorem aL_wheel_23 : dc_at cL_wheel 23 sL_wheel_23 := dc_n1 aL_wheel_22
theorem aL_wheel_24 : dc_at cL_wheel 24 sL_wheel_24 := dc_n1 aL_wheel_23
theorem dL_wheel_0 : decode cL_wheel 0 = .ok (.aload 4, 2) := dc_25 (a0 := 4) aL_wheel_0
theorem dL_wheel_2 : decode cL_wheel 2 = .ok (.iconst 0, 1) := dc_3 aL_wheel_2
theorem dL_wheel_3 : decode cL_wheel 3 = .ok (.aload_n 0, 1) := dc_42 aL_wheel_3
theorem dL_wheel_4 : decode cL_wheel 4 = .ok (.iload_n 1, 1) := dc_27 aL_wheel_4
theorem dL_wheel_5 : decode cL_wheel 5 = .ok (.iload_n 2, 1) := dc_28 aL_wheel_5
theorem dL_wheel_6 : decode cL_wheel 6 = .ok (.iload_n 3, 1) := dc_29 aL_wheel_6
theorem dL_wheel_7 : decode cL_wheel 7 = .ok (.invokevirtual 15, 3) := dc_182 (a0 := 0) (b0 := 15) aL_wheel_7
theorem dL_wheel_10 : decode cL_wheel 10 = .ok (.i2l, 1) := dc_133 aL_wheel_10
theorem dL_wheel_11 : decode cL_wheel 11 = .ok (.lastore, 1) := dc_80 aL_wheel_11
theorem dL_wheel_12 : decode cL_wheel 12 = .ok (.goto 11, 3) := dc_167 (a0 := 0) (b0 := 11) aL_wheel_12 (by decide)
theorem dL_wheel_15 : decode cL_wheel 15 = .ok (.astore 5, 2) := dc_58 (a0 := 5) aL_wheel_15
theorem dL_wheel_17 : decode cL_wheel 17 = .ok (.iconst 1, 1) := dc_4 aL_wheel_17
theorem dL_wheel_18 : decode cL_wheel 18 = .ok (.ireturn, 1) := dc_172 aL_wheel_18
theorem dL_wheel_19 : decode cL_wheel 19 = .ok (.astore 5, 2) := dc_58 (a0 := 5) aL_wheel_19
theorem dL_wheel_21 : decode cL_wheel 21 = .ok (.iconst 2, 1) := dc_5 aL_wheel_21
theorem dL_wheel_22 : decode cL_wheel 22 = .ok (.ireturn, 1) := dc_172 aL_wheel_22
theorem dL_wheel_23 : decode cL_wheel 23 = .ok (.iconst 0, 1) := dc_3 aL_wheel_23
theorem dL_wheel_24 : decode cL_wheel 24 = .ok (.ireturn, 1) := dc_172 aL_wheel_24
noncomputable def sL_count_16 : List Nat := 172 :: []
noncomputable def sL_count_15 : List Nat := 3 :: sL_count_16
noncomputable def sL_count_14 : List Nat := 172 :: sL_count_15
noncomputable def sL_count_13 : List Nat := 4 :: sL_count_14
noncomputable def sL_count_12 : List Nat := 78 :: sL_count_13
noncomputable def sL_count_9 : List Nat := 167 :: 0 :: 6 :: sL_count_12
noncomputable def sL_count_8 : List Nat := 80 :: sL_count_9
noncomputable def sL_count_7 : List Nat := 133 :: sL_count_8
noncomputable def sL_count_4 : List Nat := 182 :: 0 :: 21 :: sL_count_7
noncomputable def sL_count_3 : List Nat := 27 :: sL_count_4
noncomputable def sL_count_2 : List Nat := 42 :: sL_count_3
noncomputable def sL_count_1 : List Nat := 3 :: sL_count_2
noncomputable def sL_count_0 : List Nat := 44 :: sL_count_1
theorem aL_count_0 : dc_at cL_count 0 sL_count_0 := dc_base (by decide +kernel)
theorem aL_count_1 : dc_at cL_count 1 sL_count_1 := dc_n1 aL_count_0
theorem aL_count_2 : dc_at cL_count 2 sL_count_2 := dc_n1 aL_count_1
theorem aL_count_3 : dc_at cL_count 3 sL_count_3 := dc_n1 aL_count_2
theorem aL_count_4 : dc_at cL_count 4 sL_count_4 := dc_n1 aL_count_3
theorem aL_count_7 : dc_at cL_count 7 sL_count_7 := dc_n3 aL_count_4
theorem aL_count_8 : dc_at cL_count 8 sL_count_8 := dc_n1 aL_count_7
theorem aL_count_9 : dc_at cL_count 9 sL_count_9 := dc_n1 aL_count_8
theorem aL_count_12 : dc_at cL_count 12 sL_count_12 := dc_n3 aL_count_9
theorem aL_count_13 : dc_at cL_count 13 sL_count_13 := dc_n1 aL_count_12
theorem aL_count_14 : dc_at cL_count 14 sL_count_14 := dc_n1 aL_count_13
theorem aL_count_15 : dc_at cL_count 15 sL_count_15 := dc_n1 aL_count_14
theorem aL_count_16 : dc_at cL_count 16 sL_count_16 := dc_n1 aL_count_15
theorem dL_count_0 : decode cL_count 0 = .ok (.aload_n 2, 1) := dc_44 aL_count_0
theorem dL_count_1 : decode cL_count 1 = .ok (.iconst 0, 1) := dc_3 aL_count_1
theorem dL_count_2 : decode cL_count 2 = .ok (.aload_n 0, 1) := dc_42 aL_count_2
theorem dL_count_3 : decode cL_count 3 = .ok (.iload_n 1, 1) := dc_27 aL_count_3
theorem dL_count_4 : decode cL_count 4 = .ok (.invokevirtual 21, 3) := dc_182 (a0 := 0) (b0 := 21) aL_count_4
theorem dL_count_7 : decode cL_count 7 = .ok (.i2l, 1) := dc_133 aL_count_7
theorem dL_count_8 : decode cL_count 8 = .ok (.lastore, 1) := dc_80 aL_count_8
theorem dL_count_9 : decode cL_count 9 = .ok (.goto 6, 3) := dc_167 (a0 := 0) (b0 := 6) aL_count_9 (by decide)
theorem dL_count_12 : decode cL_count 12 = .ok (.astore_n 3, 1) := dc_78 aL_count_12
theorem dL_count_13 : decode cL_count 13 = .ok (.iconst 1, 1) := dc_4 aL_count_13
theorem dL_count_14 : decode cL_count 14 = .ok (.ireturn, 1) := dc_172 aL_count_14
theorem dL_count_15 : decode cL_count 15 = .ok (.iconst 0, 1) := dc_3 aL_count_15
theorem dL_count_16 : decode cL_count 16 = .ok (.ireturn, 1) := dc_172 aL_count_16
noncomputable def sL_place_20 : List Nat := 172 :: []
noncomputable def sL_place_19 : List Nat := 3 :: sL_place_20
noncomputable def sL_place_18 : List Nat := 172 :: sL_place_19
noncomputable def sL_place_17 : List Nat := 4 :: sL_place_18
noncomputable def sL_place_15 : List Nat := 58 :: 5 :: sL_place_17
noncomputable def sL_place_12 : List Nat := 167 :: 0 :: 7 :: sL_place_15
noncomputable def sL_place_11 : List Nat := 80 :: sL_place_12
noncomputable def sL_place_10 : List Nat := 133 :: sL_place_11
noncomputable def sL_place_7 : List Nat := 182 :: 0 :: 24 :: sL_place_10
noncomputable def sL_place_6 : List Nat := 29 :: sL_place_7
noncomputable def sL_place_5 : List Nat := 28 :: sL_place_6
noncomputable def sL_place_4 : List Nat := 27 :: sL_place_5
noncomputable def sL_place_3 : List Nat := 42 :: sL_place_4
noncomputable def sL_place_2 : List Nat := 3 :: sL_place_3
noncomputable def sL_place_0 : List Nat := 25 :: 4 :: sL_place_2
theorem aL_place_0 : dc_at cL_place 0 sL_place_0 := dc_base (by decide +kernel)
theorem aL_place_2 : dc_at cL_place 2 sL_place_2 := dc_n2 aL_place_0
theorem aL_place_3 : dc_at cL_place 3 sL_place_3 := dc_n1 aL_place_2
theorem aL_place_4 : dc_at cL_place 4 sL_place_4 := dc_n1 aL_place_3
theorem aL_place_5 : dc_at cL_place 5 sL_place_5 := dc_n1 aL_place_4
theorem aL_place_6 : dc_at cL_place 6 sL_place_6 := dc_n1 aL_place_5
theorem aL_place_7 : dc_at cL_place 7 sL_place_7 := dc_n1 aL_place_6
theorem aL_place_10 : dc_at cL_place 10 sL_place_10 := dc_n3 aL_place_7
theorem aL_place_11 : dc_at cL_place 11 sL_place_11 := dc_n1 aL_place_10
theorem aL_place_12 : dc_at cL_place 12 sL_place_12 := dc_n1 aL_place_11
theorem aL_place_15 : dc_at cL_place 15 sL_place_15 := dc_n3 aL_place_12
theorem aL_place_17 : dc_at cL_place 17 sL_place_17 := dc_n2 aL_place_15
theorem aL_place_18 : dc_at cL_place 18 sL_place_18 := dc_n1 aL_place_17
theorem aL_place_19 : dc_at cL_place 19 sL_place_19 := dc_n1 aL_place_18
theorem aL_place_20 : dc_at cL_place 20 sL_place_20 := dc_n1 aL_place_19
theorem dL_place_0 : decode cL_place 0 = .ok (.aload 4, 2) := dc_25 (a0 := 4) aL_place_0
theorem dL_place_2 : decode cL_place 2 = .ok (.iconst 0, 1) := dc_3 aL_place_2
theorem dL_place_3 : decode cL_place 3 = .ok (.aload_n 0, 1) := dc_42 aL_place_3
theorem dL_place_4 : decode cL_place 4 = .ok (.iload_n 1, 1) := dc_27 aL_place_4
theorem dL_place_5 : decode cL_place 5 = .ok (.iload_n 2, 1) := dc_28 aL_place_5
theorem dL_place_6 : decode cL_place 6 = .ok (.iload_n 3, 1) := dc_29 aL_place_6
theorem dL_place_7 : decode cL_place 7 = .ok (.invokevirtual 24, 3) := dc_182 (a0 := 0) (b0 := 24) aL_place_7
theorem dL_place_10 : decode cL_place 10 = .ok (.i2l, 1) := dc_133 aL_place_10
theorem dL_place_11 : decode cL_place 11 = .ok (.lastore, 1) := dc_80 aL_place_11
theorem dL_place_12 : decode cL_place 12 = .ok (.goto 7, 3) := dc_167 (a0 := 0) (b0 := 7) aL_place_12 (by decide)
theorem dL_place_15 : decode cL_place 15 = .ok (.astore 5, 2) := dc_58 (a0 := 5) aL_place_15
theorem dL_place_17 : decode cL_place 17 = .ok (.iconst 1, 1) := dc_4 aL_place_17
theorem dL_place_18 : decode cL_place 18 = .ok (.ireturn, 1) := dc_172 aL_place_18
theorem dL_place_19 : decode cL_place 19 = .ok (.iconst 0, 1) := dc_3 aL_place_19
theorem dL_place_20 : decode cL_place 20 = .ok (.ireturn, 1) := dc_172 aL_place_20
noncomputable def sL_entry_20 : List Nat := 172 :: []
noncomputable def sL_entry_19 : List Nat := 3 :: sL_entry_20
noncomputable def sL_entry_18 : List Nat := 172 :: sL_entry_19
noncomputable def sL_entry_17 : List Nat := 4 :: sL_entry_18
noncomputable def sL_entry_15 : List Nat := 58 :: 5 :: sL_entry_17
noncomputable def sL_entry_12 : List Nat := 167 :: 0 :: 7 :: sL_entry_15
noncomputable def sL_entry_11 : List Nat := 80 :: sL_entry_12
noncomputable def sL_entry_10 : List Nat := 133 :: sL_entry_11
noncomputable def sL_entry_7 : List Nat := 182 :: 0 :: 27 :: sL_entry_10
noncomputable def sL_entry_6 : List Nat := 29 :: sL_entry_7
noncomputable def sL_entry_5 : List Nat := 28 :: sL_entry_6
noncomputable def sL_entry_4 : List Nat := 27 :: sL_entry_5
noncomputable def sL_entry_3 : List Nat := 42 :: sL_entry_4
noncomputable def sL_entry_2 : List Nat := 3 :: sL_entry_3
noncomputable def sL_entry_0 : List Nat := 25 :: 4 :: sL_entry_2
theorem aL_entry_0 : dc_at cL_entry 0 sL_entry_0 := dc_base (by decide +kernel)
theorem aL_entry_2 : dc_at cL_entry 2 sL_entry_2 := dc_n2 aL_entry_0
theorem aL_entry_3 : dc_at cL_entry 3 sL_entry_3 := dc_n1 aL_entry_2
theorem aL_entry_4 : dc_at cL_entry 4 sL_entry_4 := dc_n1 aL_entry_3
theorem aL_entry_5 : dc_at cL_entry 5 sL_entry_5 := dc_n1 aL_entry_4
theorem aL_entry_6 : dc_at cL_entry 6 sL_entry_6 := dc_n1 aL_entry_5
theorem aL_entry_7 : dc_at cL_entry 7 sL_entry_7 := dc_n1 aL_entry_6
theorem aL_entry_10 : dc_at cL_entry 10 sL_entry_10 := dc_n3 aL_entry_7
theorem aL_entry_11 : dc_at cL_entry 11 sL_entry_11 := dc_n1 aL_entry_10
theorem aL_entry_12 : dc_at cL_entry 12 sL_entry_12 := dc_n1 aL_entry_11
theorem aL_entry_15 : dc_at cL_entry 15 sL_entry_15 := dc_n3 aL_entry_12
theorem aL_entry_17 : dc_at cL_entry 17 sL_entry_17 := dc_n2 aL_entry_15
theorem aL_entry_18 : dc_at cL_entry 18 sL_entry_18 := dc_n1 aL_entry_17
theorem aL_entry_19 : dc_at cL_entry 19 sL_entry_19 := dc_n1 aL_entry_18
theorem aL_entry_20 : dc_at cL_entry 20 sL_entry_20 := dc_n1 aL_entry_19
theorem dL_entry_0 : decode cL_entry 0 = .ok (.aload 4, 2) := dc_25 (a0 := 4) aL_entry_0
theorem dL_entry_2 : decode cL_entry 2 = .ok (.iconst 0, 1) := dc_3 aL_entry_2
theorem dL_entry_3 : decode cL_entry 3 = .ok (.aload_n 0, 1) := dc_42 aL_entry_3
theorem dL_entry_4 : decode cL_entry 4 = .ok (.iload_n 1, 1) := dc_27 aL_entry_4
theorem dL_entry_5 : decode cL_entry 5 = .ok (.iload_n 2, 1) := dc_28 aL_entry_5
theorem dL_entry_6 : decode cL_entry 6 = .ok (.iload_n 3, 1) := dc_29 aL_entry_6
theorem dL_entry_7 : decode cL_entry 7 = .ok (.invokevirtual 27, 3) := dc_182 (a0 := 0) (b0 := 27) aL_entry_7
theorem dL_entry_10 : decode cL_entry 10 = .ok (.i2l, 1) := dc_133 aL_entry_10
theorem dL_entry_11 : decode cL_entry 11 = .ok (.lastore, 1) := dc_80 aL_entry_11
theorem dL_entry_12 : decode cL_entry 12 = .ok (.goto 7, 3) := dc_167 (a0 := 0) (b0 := 7) aL_entry_12 (by decide)
theorem dL_entry_15 : decode cL_entry 15 = .ok (.astore 5, 2) := dc_58 (a0 := 5) aL_entry_15
theorem dL_entry_17 : decode cL_entry 17 = .ok (.iconst 1, 1) := dc_4 aL_entry_17
theorem dL_entry_18 : decode cL_entry 18 = .ok (.ireturn, 1) := dc_172 aL_entry_18
theorem dL_entry_19 : decode cL_entry 19 = .ok (.iconst 0, 1) := dc_3 aL_entry_19
theorem dL_entry_20 : decode cL_entry 20 = .ok (.ireturn, 1) := dc_172 aL_entry_20
noncomputable def sL_cost_22 : List Nat := 172 :: []
noncomputable def sL_cost_21 : List Nat := 3 :: sL_cost_22
noncomputable def sL_cost_20 : List Nat := 172 :: sL_cost_21
noncomputable def sL_cost_19 : List Nat := 4 :: sL_cost_20
noncomputable def sL_cost_17 : List Nat := 58 :: 6 :: sL_cost_19
noncomputable def sL_cost_14 : List Nat := 167 :: 0 :: 7 :: sL_cost_17
noncomputable def sL_cost_13 : List Nat := 80 :: sL_cost_14
noncomputable def sL_cost_12 : List Nat := 133 :: sL_cost_13
noncomputable def sL_cost_9 : List Nat := 182 :: 0 :: 30 :: sL_cost_12
noncomputable def sL_cost_7 : List Nat := 21 :: 4 :: sL_cost_9
noncomputable def sL_cost_6 : List Nat := 29 :: sL_cost_7
noncomputable def sL_cost_5 : List Nat := 28 :: sL_cost_6
noncomputable def sL_cost_4 : List Nat := 27 :: sL_cost_5
noncomputable def sL_cost_3 : List Nat := 42 :: sL_cost_4
noncomputable def sL_cost_2 : List Nat := 3 :: sL_cost_3
noncomputable def sL_cost_0 : List Nat := 25 :: 5 :: sL_cost_2
theorem aL_cost_0 : dc_at cL_cost 0 sL_cost_0 := dc_base (by decide +kernel)
theorem aL_cost_2 : dc_at cL_cost 2 sL_cost_2 := dc_n2 aL_cost_0
theorem aL_cost_3 : dc_at cL_cost 3 sL_cost_3 := dc_n1 aL_cost_2
theorem aL_cost_4 : dc_at cL_cost 4 sL_cost_4 := dc_n1 aL_cost_3
theorem aL_cost_5 : dc_at cL_cost 5 sL_cost_5 := dc_n1 aL_cost_4
theorem aL_cost_6 : dc_at cL_cost 6 sL_cost_6 := dc_n1 aL_cost_5
theorem aL_cost_7 : dc_at cL_cost 7 sL_cost_7 := dc_n1 aL_cost_6
theorem aL_cost_9 : dc_at cL_cost 9 sL_cost_9 := dc_n2 aL_cost_7
theorem aL_cost_12 : dc_at cL_cost 12 sL_cost_12 := dc_n3 aL_cost_9
theorem aL_cost_13 : dc_at cL_cost 13 sL_cost_13 := dc_n1 aL_cost_12
theorem aL_cost_14 : dc_at cL_cost 14 sL_cost_14 := dc_n1 aL_cost_13
theorem aL_cost_17 : dc_at cL_cost 17 sL_cost_17 := dc_n3 aL_cost_14
theorem aL_cost_19 : dc_at cL_cost 19 sL_cost_19 := dc_n2 aL_cost_17
theorem aL_cost_20 : dc_at cL_cost 20 sL_cost_20 := dc_n1 aL_cost_19
theorem aL_cost_21 : dc_at cL_cost 21 sL_cost_21 := dc_n1 aL_cost_20
theorem aL_cost_22 : dc_at cL_cost 22 sL_cost_22 := dc_n1 aL_cost_21
theorem dL_cost_0 : decode cL_cost 0 = .ok (.aload 5, 2) := dc_25 (a0 := 5) aL_cost_0
theorem dL_cost_2 : decode cL_cost 2 = .ok (.iconst 0, 1) := dc_3 aL_cost_2
theorem dL_cost_3 : decode cL_cost 3 = .ok (.aload_n 0, 1) := dc_42 aL_cost_3
theorem dL_cost_4 : decode cL_cost 4 = .ok (.iload_n 1, 1) := dc_27 aL_cost_4
theorem dL_cost_5 : decode cL_cost 5 = .ok (.iload_n 2, 1) := dc_28 aL_cost_5
theorem dL_cost_6 : decode cL_cost 6 = .ok (.iload_n 3, 1) := dc_29 aL_cost_6
theorem dL_cost_7 : decode cL_cost 7 = .ok (.iload 4, 2) := dc_21 (a0 := 4) aL_cost_7
theorem dL_cost_9 : decode cL_cost 9 = .ok (.invokevirtual 30, 3) := dc_182 (a0 := 0) (b0 := 30) aL_cost_9
theorem dL_cost_12 : decode cL_cost 12 = .ok (.i2l, 1) := dc_133 aL_cost_12
theorem dL_cost_13 : decode cL_cost 13 = .ok (.lastore, 1) := dc_80 aL_cost_13
theorem dL_cost_14 : decode cL_cost 14 = .ok (.goto 7, 3) := dc_167 (a0 := 0) (b0 := 7) aL_cost_14 (by decide)
theorem dL_cost_17 : decode cL_cost 17 = .ok (.astore 6, 2) := dc_58 (a0 := 6) aL_cost_17
theorem dL_cost_19 : decode cL_cost 19 = .ok (.iconst 1, 1) := dc_4 aL_cost_19
theorem dL_cost_20 : decode cL_cost 20 = .ok (.ireturn, 1) := dc_172 aL_cost_20
theorem dL_cost_21 : decode cL_cost 21 = .ok (.iconst 0, 1) := dc_3 aL_cost_21
theorem dL_cost_22 : decode cL_cost 22 = .ok (.ireturn, 1) := dc_172 aL_cost_22
noncomputable def sL_best_28 : List Nat := 172 :: []
noncomputable def sL_best_27 : List Nat := 3 :: sL_best_28
noncomputable def sL_best_26 : List Nat := 172 :: sL_best_27
noncomputable def sL_best_25 : List Nat := 5 :: sL_best_26
noncomputable def sL_best_23 : List Nat := 58 :: 7 :: sL_best_25
noncomputable def sL_best_22 : List Nat := 172 :: sL_best_23
noncomputable def sL_best_21 : List Nat := 4 :: sL_best_22
noncomputable def sL_best_19 : List Nat := 58 :: 7 :: sL_best_21
noncomputable def sL_best_16 : List Nat := 167 :: 0 :: 11 :: sL_best_19
noncomputable def sL_best_15 : List Nat := 80 :: sL_best_16
noncomputable def sL_best_14 : List Nat := 133 :: sL_best_15
noncomputable def sL_best_11 : List Nat := 182 :: 0 :: 34 :: sL_best_14
noncomputable def sL_best_9 : List Nat := 21 :: 5 :: sL_best_11
noncomputable def sL_best_7 : List Nat := 21 :: 4 :: sL_best_9
noncomputable def sL_best_6 : List Nat := 29 :: sL_best_7
noncomputable def sL_best_5 : List Nat := 28 :: sL_best_6
noncomputable def sL_best_4 : List Nat := 27 :: sL_best_5
noncomputable def sL_best_3 : List Nat := 42 :: sL_best_4
noncomputable def sL_best_2 : List Nat := 3 :: sL_best_3
noncomputable def sL_best_0 : List Nat := 25 :: 6 :: sL_best_2
theorem aL_best_0 : dc_at cL_best 0 sL_best_0 := dc_base (by decide +kernel)
theorem aL_best_2 : dc_at cL_best 2 sL_best_2 := dc_n2 aL_best_0
theorem aL_best_3 : dc_at cL_best 3 sL_best_3 := dc_n1 aL_best_2
theorem aL_best_4 : dc_at cL_best 4 sL_best_4 := dc_n1 aL_best_3
theorem aL_best_5 : dc_at cL_best 5 sL_best_5 := dc_n1 aL_best_4
theorem aL_best_6 : dc_at cL_best 6 sL_best_6 := dc_n1 aL_best_5
theorem aL_best_7 : dc_at cL_best 7 sL_best_7 := dc_n1 aL_best_6
theorem aL_best_9 : dc_at cL_best 9 sL_best_9 := dc_n2 aL_best_7
theorem aL_best_11 : dc_at cL_best 11 sL_best_11 := dc_n2 aL_best_9
theorem aL_best_14 : dc_at cL_best 14 sL_best_14 := dc_n3 aL_best_11
theorem aL_best_15 : dc_at cL_best 15 sL_best_15 := dc_n1 aL_best_14
theorem aL_best_16 : dc_at cL_best 16 sL_best_16 := dc_n1 aL_best_15
theorem aL_best_19 : dc_at cL_best 19 sL_best_19 := dc_n3 aL_best_16
theorem aL_best_21 : dc_at cL_best 21 sL_best_21 := dc_n2 aL_best_19
theorem aL_best_22 : dc_at cL_best 22 sL_best_22 := dc_n1 aL_best_21
theorem aL_best_23 : dc_at cL_best 23 sL_best_23 := dc_n1 aL_best_22
theorem aL_best_25 : dc_at cL_best 25 sL_best_25 := dc_n2 aL_best_23
theorem aL_best_26 : dc_at cL_best 26 sL_best_26 := dc_n1 aL_best_25
theorem aL_best_27 : dc_at cL_best 27 sL_best_27 := dc_n1 aL_best_26
theorem aL_best_28 : dc_at cL_best 28 sL_best_28 := dc_n1 aL_best_27
theorem dL_best_0 : decode cL_best 0 = .ok (.aload 6, 2) := dc_25 (a0 := 6) aL_best_0
theorem dL_best_2 : decode cL_best 2 = .ok (.iconst 0, 1) := dc_3 aL_best_2
theorem dL_best_3 : decode cL_best 3 = .ok (.aload_n 0, 1) := dc_42 aL_best_3
theorem dL_best_4 : decode cL_best 4 = .ok (.iload_n 1, 1) := dc_27 aL_best_4
theorem dL_best_5 : decode cL_best 5 = .ok (.iload_n 2, 1) := dc_28 aL_best_5
theorem dL_best_6 : decode cL_best 6 = .ok (.iload_n 3, 1) := dc_29 aL_best_6
theorem dL_best_7 : decode cL_best 7 = .ok (.iload 4, 2) := dc_21 (a0 := 4) aL_best_7
theorem dL_best_9 : decode cL_best 9 = .ok (.iload 5, 2) := dc_21 (a0 := 5) aL_best_9
theorem dL_best_11 : decode cL_best 11 = .ok (.invokevirtual 34, 3) := dc_182 (a0 := 0) (b0 := 34) aL_best_11
theorem dL_best_14 : decode cL_best 14 = .ok (.i2l, 1) := dc_133 aL_best_14
theorem dL_best_15 : decode cL_best 15 = .ok (.lastore, 1) := dc_80 aL_best_15
theorem dL_best_16 : decode cL_best 16 = .ok (.goto 11, 3) := dc_167 (a0 := 0) (b0 := 11) aL_best_16 (by decide)
theorem dL_best_19 : decode cL_best 19 = .ok (.astore 7, 2) := dc_58 (a0 := 7) aL_best_19
theorem dL_best_21 : decode cL_best 21 = .ok (.iconst 1, 1) := dc_4 aL_best_21
theorem dL_best_22 : decode cL_best 22 = .ok (.ireturn, 1) := dc_172 aL_best_22
theorem dL_best_23 : decode cL_best 23 = .ok (.astore 7, 2) := dc_58 (a0 := 7) aL_best_23
theorem dL_best_25 : decode cL_best 25 = .ok (.iconst 2, 1) := dc_5 aL_best_25
theorem dL_best_26 : decode cL_best 26 = .ok (.ireturn, 1) := dc_172 aL_best_26
theorem dL_best_27 : decode cL_best 27 = .ok (.iconst 0, 1) := dc_3 aL_best_27
theorem dL_best_28 : decode cL_best 28 = .ok (.ireturn, 1) := dc_172 aL_best_28
noncomputable def sL_day_16 : List Nat := 172 :: []
noncomputable def sL_day_15 : List Nat := 3 :: sL_day_16
noncomputable def sL_day_14 : List Nat := 172 :: sL_day_15
noncomputable def sL_day_13 : List Nat := 4 :: sL_day_14
noncomputable def sL_day_12 : List Nat := 78 :: sL_day_13
noncomputable def sL_day_9 : List Nat := 167 :: 0 :: 6 :: sL_day_12
noncomputable def sL_day_8 : List Nat := 80 :: sL_day_9
noncomputable def sL_day_7 : List Nat := 133 :: sL_day_8
noncomputable def sL_day_4 : List Nat := 182 :: 0 :: 38 :: sL_day_7
noncomputable def sL_day_3 : List Nat := 27 :: sL_day_4
noncomputable def sL_day_2 : List Nat := 42 :: sL_day_3
noncomputable def sL_day_1 : List Nat := 3 :: sL_day_2
noncomputable def sL_day_0 : List Nat := 44 :: sL_day_1
theorem aL_day_0 : dc_at cL_day 0 sL_day_0 := dc_base (by decide +kernel)
theorem aL_day_1 : dc_at cL_day 1 sL_day_1 := dc_n1 aL_day_0
theorem aL_day_2 : dc_at cL_day 2 sL_day_2 := dc_n1 aL_day_1
theorem aL_day_3 : dc_at cL_day 3 sL_day_3 := dc_n1 aL_day_2
theorem aL_day_4 : dc_at cL_day 4 sL_day_4 := dc_n1 aL_day_3
theorem aL_day_7 : dc_at cL_day 7 sL_day_7 := dc_n3 aL_day_4
theorem aL_day_8 : dc_at cL_day 8 sL_day_8 := dc_n1 aL_day_7
theorem aL_day_9 : dc_at cL_day 9 sL_day_9 := dc_n1 aL_day_8
theorem aL_day_12 : dc_at cL_day 12 sL_day_12 := dc_n3 aL_day_9
theorem aL_day_13 : dc_at cL_day 13 sL_day_13 := dc_n1 aL_day_12
theorem aL_day_14 : dc_at cL_day 14 sL_day_14 := dc_n1 aL_day_13
theorem aL_day_15 : dc_at cL_day 15 sL_day_15 := dc_n1 aL_day_14
theorem aL_day_16 : dc_at cL_day 16 sL_day_16 := dc_n1 aL_day_15
theorem dL_day_0 : decode cL_day 0 = .ok (.aload_n 2, 1) := dc_44 aL_day_0
theorem dL_day_1 : decode cL_day 1 = .ok (.iconst 0, 1) := dc_3 aL_day_1
theorem dL_day_2 : decode cL_day 2 = .ok (.aload_n 0, 1) := dc_42 aL_day_2
theorem dL_day_3 : decode cL_day 3 = .ok (.iload_n 1, 1) := dc_27 aL_day_3
theorem dL_day_4 : decode cL_day 4 = .ok (.invokevirtual 38, 3) := dc_182 (a0 := 0) (b0 := 38) aL_day_4
theorem dL_day_7 : decode cL_day 7 = .ok (.i2l, 1) := dc_133 aL_day_7
theorem dL_day_8 : decode cL_day 8 = .ok (.lastore, 1) := dc_80 aL_day_8
theorem dL_day_9 : decode cL_day 9 = .ok (.goto 6, 3) := dc_167 (a0 := 0) (b0 := 6) aL_day_9 (by decide)
theorem dL_day_12 : decode cL_day 12 = .ok (.astore_n 3, 1) := dc_78 aL_day_12
theorem dL_day_13 : decode cL_day 13 = .ok (.iconst 1, 1) := dc_4 aL_day_13
theorem dL_day_14 : decode cL_day 14 = .ok (.ireturn, 1) := dc_172 aL_day_14
theorem dL_day_15 : decode cL_day 15 = .ok (.iconst 0, 1) := dc_3 aL_day_15
theorem dL_day_16 : decode cL_day 16 = .ok (.ireturn, 1) := dc_172 aL_day_16
noncomputable def sL_whose_28 : List Nat := 172 :: []
noncomputable def sL_whose_27 : List Nat := 3 :: sL_whose_28
noncomputable def sL_whose_26 : List Nat := 172 :: sL_whose_27
noncomputable def sL_whose_25 : List Nat := 5 :: sL_whose_26
noncomputable def sL_whose_23 : List Nat := 58 :: 7 :: sL_whose_25
noncomputable def sL_whose_22 : List Nat := 172 :: sL_whose_23
noncomputable def sL_whose_21 : List Nat := 4 :: sL_whose_22
noncomputable def sL_whose_19 : List Nat := 58 :: 7 :: sL_whose_21
noncomputable def sL_whose_16 : List Nat := 167 :: 0 :: 11 :: sL_whose_19
noncomputable def sL_whose_15 : List Nat := 80 :: sL_whose_16
noncomputable def sL_whose_14 : List Nat := 133 :: sL_whose_15
noncomputable def sL_whose_11 : List Nat := 182 :: 0 :: 41 :: sL_whose_14
noncomputable def sL_whose_9 : List Nat := 21 :: 5 :: sL_whose_11
noncomputable def sL_whose_7 : List Nat := 21 :: 4 :: sL_whose_9
noncomputable def sL_whose_6 : List Nat := 29 :: sL_whose_7
noncomputable def sL_whose_5 : List Nat := 28 :: sL_whose_6
noncomputable def sL_whose_4 : List Nat := 27 :: sL_whose_5
noncomputable def sL_whose_3 : List Nat := 42 :: sL_whose_4
noncomputable def sL_whose_2 : List Nat := 3 :: sL_whose_3
noncomputable def sL_whose_0 : List Nat := 25 :: 6 :: sL_whose_2
theorem aL_whose_0 : dc_at cL_whose 0 sL_whose_0 := dc_base (by decide +kernel)
theorem aL_whose_2 : dc_at cL_whose 2 sL_whose_2 := dc_n2 aL_whose_0
theorem aL_whose_3 : dc_at cL_whose 3 sL_whose_3 := dc_n1 aL_whose_2
theorem aL_whose_4 : dc_at cL_whose 4 sL_whose_4 := dc_n1 aL_whose_3
theorem aL_whose_5 : dc_at cL_whose 5 sL_whose_5 := dc_n1 aL_whose_4
theorem aL_whose_6 : dc_at cL_whose 6 sL_whose_6 := dc_n1 aL_whose_5
theorem aL_whose_7 : dc_at cL_whose 7 sL_whose_7 := dc_n1 aL_whose_6
theorem aL_whose_9 : dc_at cL_whose 9 sL_whose_9 := dc_n2 aL_whose_7
theorem aL_whose_11 : dc_at cL_whose 11 sL_whose_11 := dc_n2 aL_whose_9
theorem aL_whose_14 : dc_at cL_whose 14 sL_whose_14 := dc_n3 aL_whose_11
theorem aL_whose_15 : dc_at cL_whose 15 sL_whose_15 := dc_n1 aL_whose_14
theorem aL_whose_16 : dc_at cL_whose 16 sL_whose_16 := dc_n1 aL_whose_15
theorem aL_whose_19 : dc_at cL_whose 19 sL_whose_19 := dc_n3 aL_whose_16
theorem aL_whose_21 : dc_at cL_whose 21 sL_whose_21 := dc_n2 aL_whose_19
theorem aL_whose_22 : dc_at cL_whose 22 sL_whose_22 := dc_n1 aL_whose_21
theorem aL_whose_23 : dc_at cL_whose 23 sL_whose_23 := dc_n1 aL_whose_22
theorem aL_whose_25 : dc_at cL_whose 25 sL_whose_25 := dc_n2 aL_whose_23
theorem aL_whose_26 : dc_at cL_whose 26 sL_whose_26 := dc_n1 aL_whose_25
theorem aL_whose_27 : dc_at cL_whose 27 sL_whose_27 := dc_n1 aL_whose_26
theorem aL_whose_28 : dc_at cL_whose 28 sL_whose_28 := dc_n1 aL_whose_27
theorem dL_whose_0 : decode cL_whose 0 = .ok (.aload 6, 2) := dc_25 (a0 := 6) aL_whose_0
theorem dL_whose_2 : decode cL_whose 2 = .ok (.iconst 0, 1) := dc_3 aL_whose_2
theorem dL_whose_3 : decode cL_whose 3 = .ok (.aload_n 0, 1) := dc_42 aL_whose_3
theorem dL_whose_4 : decode cL_whose 4 = .ok (.iload_n 1, 1) := dc_27 aL_whose_4
theorem dL_whose_5 : decode cL_whose 5 = .ok (.iload_n 2, 1) := dc_28 aL_whose_5
theorem dL_whose_6 : decode cL_whose 6 = .ok (.iload_n 3, 1) := dc_29 aL_whose_6
theorem dL_whose_7 : decode cL_whose 7 = .ok (.iload 4, 2) := dc_21 (a0 := 4) aL_whose_7
theorem dL_whose_9 : decode cL_whose 9 = .ok (.iload 5, 2) := dc_21 (a0 := 5) aL_whose_9
theorem dL_whose_11 : decode cL_whose 11 = .ok (.invokevirtual 41, 3) := dc_182 (a0 := 0) (b0 := 41) aL_whose_11
theorem dL_whose_14 : decode cL_whose 14 = .ok (.i2l, 1) := dc_133 aL_whose_14
theorem dL_whose_15 : decode cL_whose 15 = .ok (.lastore, 1) := dc_80 aL_whose_15
theorem dL_whose_16 : decode cL_whose 16 = .ok (.goto 11, 3) := dc_167 (a0 := 0) (b0 := 11) aL_whose_16 (by decide)
theorem dL_whose_19 : decode cL_whose 19 = .ok (.astore 7, 2) := dc_58 (a0 := 7) aL_whose_19
theorem dL_whose_21 : decode cL_whose 21 = .ok (.iconst 1, 1) := dc_4 aL_whose_21
theorem dL_whose_22 : decode cL_whose 22 = .ok (.ireturn, 1) := dc_172 aL_whose_22
theorem dL_whose_23 : decode cL_whose 23 = .ok (.astore 7, 2) := dc_58 (a0 := 7) aL_whose_23
theorem dL_whose_25 : decode cL_whose 25 = .ok (.iconst 2, 1) := dc_5 aL_whose_25
theorem dL_whose_26 : decode cL_whose 26 = .ok (.ireturn, 1) := dc_172 aL_whose_26
theorem dL_whose_27 : decode cL_whose 27 = .ok (.iconst 0, 1) := dc_3 aL_whose_27
theorem dL_whose_28 : decode cL_whose 28 = .ok (.ireturn, 1) := dc_172 aL_whose_28
noncomputable def sL_mixed_26 : List Nat := 172 :: []
noncomputable def sL_mixed_25 : List Nat := 3 :: sL_mixed_26
noncomputable def sL_mixed_24 : List Nat := 172 :: sL_mixed_25
noncomputable def sL_mixed_23 : List Nat := 5 :: sL_mixed_24
noncomputable def sL_mixed_21 : List Nat := 58 :: 6 :: sL_mixed_23
noncomputable def sL_mixed_20 : List Nat := 172 :: sL_mixed_21
noncomputable def sL_mixed_19 : List Nat := 4 :: sL_mixed_20
noncomputable def sL_mixed_17 : List Nat := 58 :: 6 :: sL_mixed_19
noncomputable def sL_mixed_14 : List Nat := 167 :: 0 :: 11 :: sL_mixed_17
noncomputable def sL_mixed_13 : List Nat := 80 :: sL_mixed_14
noncomputable def sL_mixed_12 : List Nat := 133 :: sL_mixed_13
noncomputable def sL_mixed_9 : List Nat := 182 :: 0 :: 44 :: sL_mixed_12
noncomputable def sL_mixed_7 : List Nat := 21 :: 4 :: sL_mixed_9
noncomputable def sL_mixed_6 : List Nat := 29 :: sL_mixed_7
noncomputable def sL_mixed_5 : List Nat := 28 :: sL_mixed_6
noncomputable def sL_mixed_4 : List Nat := 27 :: sL_mixed_5
noncomputable def sL_mixed_3 : List Nat := 42 :: sL_mixed_4
noncomputable def sL_mixed_2 : List Nat := 3 :: sL_mixed_3
noncomputable def sL_mixed_0 : List Nat := 25 :: 5 :: sL_mixed_2
theorem aL_mixed_0 : dc_at cL_mixed 0 sL_mixed_0 := dc_base (by decide +kernel)
theorem aL_mixed_2 : dc_at cL_mixed 2 sL_mixed_2 := dc_n2 aL_mixed_0
theorem aL_mixed_3 : dc_at cL_mixed 3 sL_mixed_3 := dc_n1 aL_mixed_2
theorem aL_mixed_4 : dc_at cL_mixed 4 sL_mixed_4 := dc_n1 aL_mixed_3
theorem aL_mixed_5 : dc_at cL_mixed 5 sL_mixed_5 := dc_n1 aL_mixed_4
theorem aL_mixed_6 : dc_at cL_mixed 6 sL_mixed_6 := dc_n1 aL_mixed_5
theorem aL_mixed_7 : dc_at cL_mixed 7 sL_mixed_7 := dc_n1 aL_mixed_6
theorem aL_mixed_9 : dc_at cL_mixed 9 sL_mixed_9 := dc_n2 aL_mixed_7
theorem aL_mixed_12 : dc_at cL_mixed 12 sL_mixed_12 := dc_n3 aL_mixed_9
theorem aL_mixed_13 : dc_at cL_mixed 13 sL_mixed_13 := dc_n1 aL_mixed_12
theorem aL_mixed_14 : dc_at cL_mixed 14 sL_mixed_14 := dc_n1 aL_mixed_13
theorem aL_mixed_17 : dc_at cL_mixed 17 sL_mixed_17 := dc_n3 aL_mixed_14
theorem aL_mixed_19 : dc_at cL_mixed 19 sL_mixed_19 := dc_n2 aL_mixed_17
theorem aL_mixed_20 : dc_at cL_mixed 20 sL_mixed_20 := dc_n1 aL_mixed_19
theorem aL_mixed_21 : dc_at cL_mixed 21 sL_mixed_21 := dc_n1 aL_mixed_20
theorem aL_mixed_23 : dc_at cL_mixed 23 sL_mixed_23 := dc_n2 aL_mixed_21
theorem aL_mixed_24 : dc_at cL_mixed 24 sL_mixed_24 := dc_n1 aL_mixed_23
theorem aL_mixed_25 : dc_at cL_mixed 25 sL_mixed_25 := dc_n1 aL_mixed_24
theorem aL_mixed_26 : dc_at cL_mixed 26 sL_mixed_26 := dc_n1 aL_mixed_25
theorem dL_mixed_0 : decode cL_mixed 0 = .ok (.aload 5, 2) := dc_25 (a0 := 5) aL_mixed_0
theorem dL_mixed_2 : decode cL_mixed 2 = .ok (.iconst 0, 1) := dc_3 aL_mixed_2
theorem dL_mixed_3 : decode cL_mixed 3 = .ok (.aload_n 0, 1) := dc_42 aL_mixed_3
theorem dL_mixed_4 : decode cL_mixed 4 = .ok (.iload_n 1, 1) := dc_27 aL_mixed_4
theorem dL_mixed_5 : decode cL_mixed 5 = .ok (.iload_n 2, 1) := dc_28 aL_mixed_5
theorem dL_mixed_6 : decode cL_mixed 6 = .ok (.iload_n 3, 1) := dc_29 aL_mixed_6
theorem dL_mixed_7 : decode cL_mixed 7 = .ok (.iload 4, 2) := dc_21 (a0 := 4) aL_mixed_7
theorem dL_mixed_9 : decode cL_mixed 9 = .ok (.invokevirtual 44, 3) := dc_182 (a0 := 0) (b0 := 44) aL_mixed_9
theorem dL_mixed_12 : decode cL_mixed 12 = .ok (.i2l, 1) := dc_133 aL_mixed_12
theorem dL_mixed_13 : decode cL_mixed 13 = .ok (.lastore, 1) := dc_80 aL_mixed_13
theorem dL_mixed_14 : decode cL_mixed 14 = .ok (.goto 11, 3) := dc_167 (a0 := 0) (b0 := 11) aL_mixed_14 (by decide)
theorem dL_mixed_17 : decode cL_mixed 17 = .ok (.astore 6, 2) := dc_58 (a0 := 6) aL_mixed_17
theorem dL_mixed_19 : decode cL_mixed 19 = .ok (.iconst 1, 1) := dc_4 aL_mixed_19
theorem dL_mixed_20 : decode cL_mixed 20 = .ok (.ireturn, 1) := dc_172 aL_mixed_20
theorem dL_mixed_21 : decode cL_mixed 21 = .ok (.astore 6, 2) := dc_58 (a0 := 6) aL_mixed_21
theorem dL_mixed_23 : decode cL_mixed 23 = .ok (.iconst 2, 1) := dc_5 aL_mixed_23
theorem dL_mixed_24 : decode cL_mixed 24 = .ok (.ireturn, 1) := dc_172 aL_mixed_24
theorem dL_mixed_25 : decode cL_mixed 25 = .ok (.iconst 0, 1) := dc_3 aL_mixed_25
theorem dL_mixed_26 : decode cL_mixed 26 = .ok (.ireturn, 1) := dc_172 aL_mixed_26
noncomputable def sL_climb_18 : List Nat := 172 :: []
noncomputable def sL_climb_17 : List Nat := 3 :: sL_climb_18
noncomputable def sL_climb_16 : List Nat := 172 :: sL_climb_17
noncomputable def sL_climb_15 : List Nat := 4 :: sL_climb_16
noncomputable def sL_climb_13 : List Nat := 58 :: 4 :: sL_climb_15
noncomputable def sL_climb_10 : List Nat := 167 :: 0 :: 7 :: sL_climb_13
noncomputable def sL_climb_9 : List Nat := 80 :: sL_climb_10
noncomputable def sL_climb_8 : List Nat := 133 :: sL_climb_9
noncomputable def sL_climb_5 : List Nat := 182 :: 0 :: 47 :: sL_climb_8
noncomputable def sL_climb_4 : List Nat := 28 :: sL_climb_5
noncomputable def sL_climb_3 : List Nat := 27 :: sL_climb_4
noncomputable def sL_climb_2 : List Nat := 42 :: sL_climb_3
noncomputable def sL_climb_1 : List Nat := 3 :: sL_climb_2
noncomputable def sL_climb_0 : List Nat := 45 :: sL_climb_1
theorem aL_climb_0 : dc_at cL_climb 0 sL_climb_0 := dc_base (by decide +kernel)
theorem aL_climb_1 : dc_at cL_climb 1 sL_climb_1 := dc_n1 aL_climb_0
theorem aL_climb_2 : dc_at cL_climb 2 sL_climb_2 := dc_n1 aL_climb_1
theorem aL_climb_3 : dc_at cL_climb 3 sL_climb_3 := dc_n1 aL_climb_2
theorem aL_climb_4 : dc_at cL_climb 4 sL_climb_4 := dc_n1 aL_climb_3
theorem aL_climb_5 : dc_at cL_climb 5 sL_climb_5 := dc_n1 aL_climb_4
theorem aL_climb_8 : dc_at cL_climb 8 sL_climb_8 := dc_n3 aL_climb_5
theorem aL_climb_9 : dc_at cL_climb 9 sL_climb_9 := dc_n1 aL_climb_8
theorem aL_climb_10 : dc_at cL_climb 10 sL_climb_10 := dc_n1 aL_climb_9
theorem aL_climb_13 : dc_at cL_climb 13 sL_climb_13 := dc_n3 aL_climb_10
theorem aL_climb_15 : dc_at cL_climb 15 sL_climb_15 := dc_n2 aL_climb_13
theorem aL_climb_16 : dc_at cL_climb 16 sL_climb_16 := dc_n1 aL_climb_15
theorem aL_climb_17 : dc_at cL_climb 17 sL_climb_17 := dc_n1 aL_climb_16
theorem aL_climb_18 : dc_at cL_climb 18 sL_climb_18 := dc_n1 aL_climb_17
theorem dL_climb_0 : decode cL_climb 0 = .ok (.aload_n 3, 1) := dc_45 aL_climb_0
theorem dL_climb_1 : decode cL_climb 1 = .ok (.iconst 0, 1) := dc_3 aL_climb_1
theorem dL_climb_2 : decode cL_climb 2 = .ok (.aload_n 0, 1) := dc_42 aL_climb_2
theorem dL_climb_3 : decode cL_climb 3 = .ok (.iload_n 1, 1) := dc_27 aL_climb_3
theorem dL_climb_4 : decode cL_climb 4 = .ok (.iload_n 2, 1) := dc_28 aL_climb_4
theorem dL_climb_5 : decode cL_climb 5 = .ok (.invokevirtual 47, 3) := dc_182 (a0 := 0) (b0 := 47) aL_climb_5
theorem dL_climb_8 : decode cL_climb 8 = .ok (.i2l, 1) := dc_133 aL_climb_8
theorem dL_climb_9 : decode cL_climb 9 = .ok (.lastore, 1) := dc_80 aL_climb_9
theorem dL_climb_10 : decode cL_climb 10 = .ok (.goto 7, 3) := dc_167 (a0 := 0) (b0 := 7) aL_climb_10 (by decide)
theorem dL_climb_13 : decode cL_climb 13 = .ok (.astore 4, 2) := dc_58 (a0 := 4) aL_climb_13
theorem dL_climb_15 : decode cL_climb 15 = .ok (.iconst 1, 1) := dc_4 aL_climb_15
theorem dL_climb_16 : decode cL_climb 16 = .ok (.ireturn, 1) := dc_172 aL_climb_16
theorem dL_climb_17 : decode cL_climb 17 = .ok (.iconst 0, 1) := dc_3 aL_climb_17
theorem dL_climb_18 : decode cL_climb 18 = .ok (.ireturn, 1) := dc_172 aL_climb_18
noncomputable def sL_rise_20 : List Nat := 172 :: []
noncomputable def sL_rise_19 : List Nat := 3 :: sL_rise_20
noncomputable def sL_rise_18 : List Nat := 172 :: sL_rise_19
noncomputable def sL_rise_17 : List Nat := 4 :: sL_rise_18
noncomputable def sL_rise_15 : List Nat := 58 :: 5 :: sL_rise_17
noncomputable def sL_rise_12 : List Nat := 167 :: 0 :: 7 :: sL_rise_15
noncomputable def sL_rise_11 : List Nat := 80 :: sL_rise_12
noncomputable def sL_rise_10 : List Nat := 133 :: sL_rise_11
noncomputable def sL_rise_7 : List Nat := 182 :: 0 :: 51 :: sL_rise_10
noncomputable def sL_rise_6 : List Nat := 29 :: sL_rise_7
noncomputable def sL_rise_5 : List Nat := 28 :: sL_rise_6
noncomputable def sL_rise_4 : List Nat := 27 :: sL_rise_5
noncomputable def sL_rise_3 : List Nat := 42 :: sL_rise_4
noncomputable def sL_rise_2 : List Nat := 3 :: sL_rise_3
noncomputable def sL_rise_0 : List Nat := 25 :: 4 :: sL_rise_2
theorem aL_rise_0 : dc_at cL_rise 0 sL_rise_0 := dc_base (by decide +kernel)
theorem aL_rise_2 : dc_at cL_rise 2 sL_rise_2 := dc_n2 aL_rise_0
theorem aL_rise_3 : dc_at cL_rise 3 sL_rise_3 := dc_n1 aL_rise_2
theorem aL_rise_4 : dc_at cL_rise 4 sL_rise_4 := dc_n1 aL_rise_3
theorem aL_rise_5 : dc_at cL_rise 5 sL_rise_5 := dc_n1 aL_rise_4
theorem aL_rise_6 : dc_at cL_rise 6 sL_rise_6 := dc_n1 aL_rise_5
theorem aL_rise_7 : dc_at cL_rise 7 sL_rise_7 := dc_n1 aL_rise_6
theorem aL_rise_10 : dc_at cL_rise 10 sL_rise_10 := dc_n3 aL_rise_7
theorem aL_rise_11 : dc_at cL_rise 11 sL_rise_11 := dc_n1 aL_rise_10
theorem aL_rise_12 : dc_at cL_rise 12 sL_rise_12 := dc_n1 aL_rise_11
theorem aL_rise_15 : dc_at cL_rise 15 sL_rise_15 := dc_n3 aL_rise_12
theorem aL_rise_17 : dc_at cL_rise 17 sL_rise_17 := dc_n2 aL_rise_15
theorem aL_rise_18 : dc_at cL_rise 18 sL_rise_18 := dc_n1 aL_rise_17
theorem aL_rise_19 : dc_at cL_rise 19 sL_rise_19 := dc_n1 aL_rise_18
theorem aL_rise_20 : dc_at cL_rise 20 sL_rise_20 := dc_n1 aL_rise_19
theorem dL_rise_0 : decode cL_rise 0 = .ok (.aload 4, 2) := dc_25 (a0 := 4) aL_rise_0
theorem dL_rise_2 : decode cL_rise 2 = .ok (.iconst 0, 1) := dc_3 aL_rise_2
theorem dL_rise_3 : decode cL_rise 3 = .ok (.aload_n 0, 1) := dc_42 aL_rise_3
theorem dL_rise_4 : decode cL_rise 4 = .ok (.iload_n 1, 1) := dc_27 aL_rise_4
theorem dL_rise_5 : decode cL_rise 5 = .ok (.iload_n 2, 1) := dc_28 aL_rise_5
theorem dL_rise_6 : decode cL_rise 6 = .ok (.iload_n 3, 1) := dc_29 aL_rise_6
theorem dL_rise_7 : decode cL_rise 7 = .ok (.invokevirtual 51, 3) := dc_182 (a0 := 0) (b0 := 51) aL_rise_7
theorem dL_rise_10 : decode cL_rise 10 = .ok (.i2l, 1) := dc_133 aL_rise_10
theorem dL_rise_11 : decode cL_rise 11 = .ok (.lastore, 1) := dc_80 aL_rise_11
theorem dL_rise_12 : decode cL_rise 12 = .ok (.goto 7, 3) := dc_167 (a0 := 0) (b0 := 7) aL_rise_12 (by decide)
theorem dL_rise_15 : decode cL_rise 15 = .ok (.astore 5, 2) := dc_58 (a0 := 5) aL_rise_15
theorem dL_rise_17 : decode cL_rise 17 = .ok (.iconst 1, 1) := dc_4 aL_rise_17
theorem dL_rise_18 : decode cL_rise 18 = .ok (.ireturn, 1) := dc_172 aL_rise_18
theorem dL_rise_19 : decode cL_rise 19 = .ok (.iconst 0, 1) := dc_3 aL_rise_19
theorem dL_rise_20 : decode cL_rise 20 = .ok (.ireturn, 1) := dc_172 aL_rise_20
noncomputable def sL_middle_18 : List Nat := 172 :: []
noncomputable def sL_middle_17 : List Nat := 3 :: sL_middle_18
noncomputable def sL_middle_16 : List Nat := 172 :: sL_middle_17
noncomputable def sL_middle_15 : List Nat := 4 :: sL_middle_16
noncomputable def sL_middle_13 : List Nat := 58 :: 4 :: sL_middle_15
noncomputable def sL_middle_10 : List Nat := 167 :: 0 :: 7 :: sL_middle_13
noncomputable def sL_middle_9 : List Nat := 80 :: sL_middle_10
noncomputable def sL_middle_8 : List Nat := 133 :: sL_middle_9
noncomputable def sL_middle_5 : List Nat := 182 :: 0 :: 54 :: sL_middle_8
noncomputable def sL_middle_4 : List Nat := 28 :: sL_middle_5
noncomputable def sL_middle_3 : List Nat := 27 :: sL_middle_4
noncomputable def sL_middle_2 : List Nat := 42 :: sL_middle_3
noncomputable def sL_middle_1 : List Nat := 3 :: sL_middle_2
noncomputable def sL_middle_0 : List Nat := 45 :: sL_middle_1
theorem aL_middle_0 : dc_at cL_middle 0 sL_middle_0 := dc_base (by decide +kernel)
theorem aL_middle_1 : dc_at cL_middle 1 sL_middle_1 := dc_n1 aL_middle_0
theorem aL_middle_2 : dc_at cL_middle 2 sL_middle_2 := dc_n1 aL_middle_1
theorem aL_middle_3 : dc_at cL_middle 3 sL_middle_3 := dc_n1 aL_middle_2
theorem aL_middle_4 : dc_at cL_middle 4 sL_middle_4 := dc_n1 aL_middle_3
theorem aL_middle_5 : dc_at cL_middle 5 sL_middle_5 := dc_n1 aL_middle_4
theorem aL_middle_8 : dc_at cL_middle 8 sL_middle_8 := dc_n3 aL_middle_5
theorem aL_middle_9 : dc_at cL_middle 9 sL_middle_9 := dc_n1 aL_middle_8
theorem aL_middle_10 : dc_at cL_middle 10 sL_middle_10 := dc_n1 aL_middle_9
theorem aL_middle_13 : dc_at cL_middle 13 sL_middle_13 := dc_n3 aL_middle_10
theorem aL_middle_15 : dc_at cL_middle 15 sL_middle_15 := dc_n2 aL_middle_13
theorem aL_middle_16 : dc_at cL_middle 16 sL_middle_16 := dc_n1 aL_middle_15
theorem aL_middle_17 : dc_at cL_middle 17 sL_middle_17 := dc_n1 aL_middle_16
theorem aL_middle_18 : dc_at cL_middle 18 sL_middle_18 := dc_n1 aL_middle_17
theorem dL_middle_0 : decode cL_middle 0 = .ok (.aload_n 3, 1) := dc_45 aL_middle_0
theorem dL_middle_1 : decode cL_middle 1 = .ok (.iconst 0, 1) := dc_3 aL_middle_1
theorem dL_middle_2 : decode cL_middle 2 = .ok (.aload_n 0, 1) := dc_42 aL_middle_2
theorem dL_middle_3 : decode cL_middle 3 = .ok (.iload_n 1, 1) := dc_27 aL_middle_3
theorem dL_middle_4 : decode cL_middle 4 = .ok (.iload_n 2, 1) := dc_28 aL_middle_4
theorem dL_middle_5 : decode cL_middle 5 = .ok (.invokevirtual 54, 3) := dc_182 (a0 := 0) (b0 := 54) aL_middle_5
theorem dL_middle_8 : decode cL_middle 8 = .ok (.i2l, 1) := dc_133 aL_middle_8
theorem dL_middle_9 : decode cL_middle 9 = .ok (.lastore, 1) := dc_80 aL_middle_9
theorem dL_middle_10 : decode cL_middle 10 = .ok (.goto 7, 3) := dc_167 (a0 := 0) (b0 := 7) aL_middle_10 (by decide)
theorem dL_middle_13 : decode cL_middle 13 = .ok (.astore 4, 2) := dc_58 (a0 := 4) aL_middle_13
theorem dL_middle_15 : decode cL_middle 15 = .ok (.iconst 1, 1) := dc_4 aL_middle_15
theorem dL_middle_16 : decode cL_middle 16 = .ok (.ireturn, 1) := dc_172 aL_middle_16
theorem dL_middle_17 : decode cL_middle 17 = .ok (.iconst 0, 1) := dc_3 aL_middle_17
theorem dL_middle_18 : decode cL_middle 18 = .ok (.ireturn, 1) := dc_172 aL_middle_18
noncomputable def sL_hour_20 : List Nat := 172 :: []
noncomputable def sL_hour_19 : List Nat := 3 :: sL_hour_20
noncomputable def sL_hour_18 : List Nat := 172 :: sL_hour_19
noncomputable def sL_hour_17 : List Nat := 4 :: sL_hour_18
noncomputable def sL_hour_15 : List Nat := 58 :: 5 :: sL_hour_17
noncomputable def sL_hour_12 : List Nat := 167 :: 0 :: 7 :: sL_hour_15
noncomputable def sL_hour_11 : List Nat := 80 :: sL_hour_12
noncomputable def sL_hour_10 : List Nat := 133 :: sL_hour_11
noncomputable def sL_hour_7 : List Nat := 182 :: 0 :: 57 :: sL_hour_10
noncomputable def sL_hour_6 : List Nat := 29 :: sL_hour_7
noncomputable def sL_hour_5 : List Nat := 28 :: sL_hour_6
noncomputable def sL_hour_4 : List Nat := 27 :: sL_hour_5
noncomputable def sL_hour_3 : List Nat := 42 :: sL_hour_4
noncomputable def sL_hour_2 : List Nat := 3 :: sL_hour_3
noncomputable def sL_hour_0 : List Nat := 25 :: 4 :: sL_hour_2
theorem aL_hour_0 : dc_at cL_hour 0 sL_hour_0 := dc_base (by decide +kernel)
theorem aL_hour_2 : dc_at cL_hour 2 sL_hour_2 := dc_n2 aL_hour_0
theorem aL_hour_3 : dc_at cL_hour 3 sL_hour_3 := dc_n1 aL_hour_2
theorem aL_hour_4 : dc_at cL_hour 4 sL_hour_4 := dc_n1 aL_hour_3
theorem aL_hour_5 : dc_at cL_hour 5 sL_hour_5 := dc_n1 aL_hour_4
theorem aL_hour_6 : dc_at cL_hour 6 sL_hour_6 := dc_n1 aL_hour_5
theorem aL_hour_7 : dc_at cL_hour 7 sL_hour_7 := dc_n1 aL_hour_6
theorem aL_hour_10 : dc_at cL_hour 10 sL_hour_10 := dc_n3 aL_hour_7
theorem aL_hour_11 : dc_at cL_hour 11 sL_hour_11 := dc_n1 aL_hour_10
theorem aL_hour_12 : dc_at cL_hour 12 sL_hour_12 := dc_n1 aL_hour_11
theorem aL_hour_15 : dc_at cL_hour 15 sL_hour_15 := dc_n3 aL_hour_12
theorem aL_hour_17 : dc_at cL_hour 17 sL_hour_17 := dc_n2 aL_hour_15
theorem aL_hour_18 : dc_at cL_hour 18 sL_hour_18 := dc_n1 aL_hour_17
theorem aL_hour_19 : dc_at cL_hour 19 sL_hour_19 := dc_n1 aL_hour_18
theorem aL_hour_20 : dc_at cL_hour 20 sL_hour_20 := dc_n1 aL_hour_19
theorem dL_hour_0 : decode cL_hour 0 = .ok (.aload 4, 2) := dc_25 (a0 := 4) aL_hour_0
theorem dL_hour_2 : decode cL_hour 2 = .ok (.iconst 0, 1) := dc_3 aL_hour_2
theorem dL_hour_3 : decode cL_hour 3 = .ok (.aload_n 0, 1) := dc_42 aL_hour_3
theorem dL_hour_4 : decode cL_hour 4 = .ok (.iload_n 1, 1) := dc_27 aL_hour_4
theorem dL_hour_5 : decode cL_hour 5 = .ok (.iload_n 2, 1) := dc_28 aL_hour_5
theorem dL_hour_6 : decode cL_hour 6 = .ok (.iload_n 3, 1) := dc_29 aL_hour_6
theorem dL_hour_7 : decode cL_hour 7 = .ok (.invokevirtual 57, 3) := dc_182 (a0 := 0) (b0 := 57) aL_hour_7
theorem dL_hour_10 : decode cL_hour 10 = .ok (.i2l, 1) := dc_133 aL_hour_10
theorem dL_hour_11 : decode cL_hour 11 = .ok (.lastore, 1) := dc_80 aL_hour_11
theorem dL_hour_12 : decode cL_hour 12 = .ok (.goto 7, 3) := dc_167 (a0 := 0) (b0 := 7) aL_hour_12 (by decide)
theorem dL_hour_15 : decode cL_hour 15 = .ok (.astore 5, 2) := dc_58 (a0 := 5) aL_hour_15
theorem dL_hour_17 : decode cL_hour 17 = .ok (.iconst 1, 1) := dc_4 aL_hour_17
theorem dL_hour_18 : decode cL_hour 18 = .ok (.ireturn, 1) := dc_172 aL_hour_18
theorem dL_hour_19 : decode cL_hour 19 = .ok (.iconst 0, 1) := dc_3 aL_hour_19
theorem dL_hour_20 : decode cL_hour 20 = .ok (.ireturn, 1) := dc_172 aL_hour_20
noncomputable def sL_houseOf_22 : List Nat := 172 :: []
noncomputable def sL_houseOf_21 : List Nat := 3 :: sL_houseOf_22
noncomputable def sL_houseOf_20 : List Nat := 172 :: sL_houseOf_21
noncomputable def sL_houseOf_19 : List Nat := 4 :: sL_houseOf_20
noncomputable def sL_houseOf_17 : List Nat := 58 :: 6 :: sL_houseOf_19
noncomputable def sL_houseOf_14 : List Nat := 167 :: 0 :: 7 :: sL_houseOf_17
noncomputable def sL_houseOf_13 : List Nat := 80 :: sL_houseOf_14
noncomputable def sL_houseOf_12 : List Nat := 133 :: sL_houseOf_13
noncomputable def sL_houseOf_9 : List Nat := 182 :: 0 :: 60 :: sL_houseOf_12
noncomputable def sL_houseOf_7 : List Nat := 21 :: 4 :: sL_houseOf_9
noncomputable def sL_houseOf_6 : List Nat := 29 :: sL_houseOf_7
noncomputable def sL_houseOf_5 : List Nat := 28 :: sL_houseOf_6
noncomputable def sL_houseOf_4 : List Nat := 27 :: sL_houseOf_5
noncomputable def sL_houseOf_3 : List Nat := 42 :: sL_houseOf_4
noncomputable def sL_houseOf_2 : List Nat := 3 :: sL_houseOf_3
noncomputable def sL_houseOf_0 : List Nat := 25 :: 5 :: sL_houseOf_2
theorem aL_houseOf_0 : dc_at cL_houseOf 0 sL_houseOf_0 := dc_base (by decide +kernel)
theorem aL_houseOf_2 : dc_at cL_houseOf 2 sL_houseOf_2 := dc_n2 aL_houseOf_0
theorem aL_houseOf_3 : dc_at cL_houseOf 3 sL_houseOf_3 := dc_n1 aL_houseOf_2
theorem aL_houseOf_4 : dc_at cL_houseOf 4 sL_houseOf_4 := dc_n1 aL_houseOf_3
theorem aL_houseOf_5 : dc_at cL_houseOf 5 sL_houseOf_5 := dc_n1 aL_houseOf_4
theorem aL_houseOf_6 : dc_at cL_houseOf 6 sL_houseOf_6 := dc_n1 aL_houseOf_5
theorem aL_houseOf_7 : dc_at cL_houseOf 7 sL_houseOf_7 := dc_n1 aL_houseOf_6
theorem aL_houseOf_9 : dc_at cL_houseOf 9 sL_houseOf_9 := dc_n2 aL_houseOf_7
theorem aL_houseOf_12 : dc_at cL_houseOf 12 sL_houseOf_12 := dc_n3 aL_houseOf_9
theorem aL_houseOf_13 : dc_at cL_houseOf 13 sL_houseOf_13 := dc_n1 aL_houseOf_12
theorem aL_houseOf_14 : dc_at cL_houseOf 14 sL_houseOf_14 := dc_n1 aL_houseOf_13
theorem aL_houseOf_17 : dc_at cL_houseOf 17 sL_houseOf_17 := dc_n3 aL_houseOf_14
theorem aL_houseOf_19 : dc_at cL_houseOf 19 sL_houseOf_19 := dc_n2 aL_houseOf_17
theorem aL_houseOf_20 : dc_at cL_houseOf 20 sL_houseOf_20 := dc_n1 aL_houseOf_19
theorem aL_houseOf_21 : dc_at cL_houseOf 21 sL_houseOf_21 := dc_n1 aL_houseOf_20
theorem aL_houseOf_22 : dc_at cL_houseOf 22 sL_houseOf_22 := dc_n1 aL_houseOf_21
theorem dL_houseOf_0 : decode cL_houseOf 0 = .ok (.aload 5, 2) := dc_25 (a0 := 5) aL_houseOf_0
theorem dL_houseOf_2 : decode cL_houseOf 2 = .ok (.iconst 0, 1) := dc_3 aL_houseOf_2
theorem dL_houseOf_3 : decode cL_houseOf 3 = .ok (.aload_n 0, 1) := dc_42 aL_houseOf_3
theorem dL_houseOf_4 : decode cL_houseOf 4 = .ok (.iload_n 1, 1) := dc_27 aL_houseOf_4
theorem dL_houseOf_5 : decode cL_houseOf 5 = .ok (.iload_n 2, 1) := dc_28 aL_houseOf_5
theorem dL_houseOf_6 : decode cL_houseOf 6 = .ok (.iload_n 3, 1) := dc_29 aL_houseOf_6
theorem dL_houseOf_7 : decode cL_houseOf 7 = .ok (.iload 4, 2) := dc_21 (a0 := 4) aL_houseOf_7
theorem dL_houseOf_9 : decode cL_houseOf 9 = .ok (.invokevirtual 60, 3) := dc_182 (a0 := 0) (b0 := 60) aL_houseOf_9
theorem dL_houseOf_12 : decode cL_houseOf 12 = .ok (.i2l, 1) := dc_133 aL_houseOf_12
theorem dL_houseOf_13 : decode cL_houseOf 13 = .ok (.lastore, 1) := dc_80 aL_houseOf_13
theorem dL_houseOf_14 : decode cL_houseOf 14 = .ok (.goto 7, 3) := dc_167 (a0 := 0) (b0 := 7) aL_houseOf_14 (by decide)
theorem dL_houseOf_17 : decode cL_houseOf 17 = .ok (.astore 6, 2) := dc_58 (a0 := 6) aL_houseOf_17
theorem dL_houseOf_19 : decode cL_houseOf 19 = .ok (.iconst 1, 1) := dc_4 aL_houseOf_19
theorem dL_houseOf_20 : decode cL_houseOf 20 = .ok (.ireturn, 1) := dc_172 aL_houseOf_20
theorem dL_houseOf_21 : decode cL_houseOf 21 = .ok (.iconst 0, 1) := dc_3 aL_houseOf_21
theorem dL_houseOf_22 : decode cL_houseOf 22 = .ok (.ireturn, 1) := dc_172 aL_houseOf_22
noncomputable def sL_agree_22 : List Nat := 172 :: []
noncomputable def sL_agree_21 : List Nat := 3 :: sL_agree_22
noncomputable def sL_agree_20 : List Nat := 172 :: sL_agree_21
noncomputable def sL_agree_19 : List Nat := 4 :: sL_agree_20
noncomputable def sL_agree_17 : List Nat := 58 :: 6 :: sL_agree_19
noncomputable def sL_agree_14 : List Nat := 167 :: 0 :: 7 :: sL_agree_17
noncomputable def sL_agree_13 : List Nat := 80 :: sL_agree_14
noncomputable def sL_agree_12 : List Nat := 133 :: sL_agree_13
noncomputable def sL_agree_9 : List Nat := 182 :: 0 :: 63 :: sL_agree_12
noncomputable def sL_agree_7 : List Nat := 21 :: 4 :: sL_agree_9
noncomputable def sL_agree_6 : List Nat := 29 :: sL_agree_7
noncomputable def sL_agree_5 : List Nat := 28 :: sL_agree_6
noncomputable def sL_agree_4 : List Nat := 27 :: sL_agree_5
noncomputable def sL_agree_3 : List Nat := 42 :: sL_agree_4
noncomputable def sL_agree_2 : List Nat := 3 :: sL_agree_3
noncomputable def sL_agree_0 : List Nat := 25 :: 5 :: sL_agree_2
theorem aL_agree_0 : dc_at cL_agree 0 sL_agree_0 := dc_base (by decide +kernel)
theorem aL_agree_2 : dc_at cL_agree 2 sL_agree_2 := dc_n2 aL_agree_0
theorem aL_agree_3 : dc_at cL_agree 3 sL_agree_3 := dc_n1 aL_agree_2
theorem aL_agree_4 : dc_at cL_agree 4 sL_agree_4 := dc_n1 aL_agree_3
theorem aL_agree_5 : dc_at cL_agree 5 sL_agree_5 := dc_n1 aL_agree_4
theorem aL_agree_6 : dc_at cL_agree 6 sL_agree_6 := dc_n1 aL_agree_5
theorem aL_agree_7 : dc_at cL_agree 7 sL_agree_7 := dc_n1 aL_agree_6
theorem aL_agree_9 : dc_at cL_agree 9 sL_agree_9 := dc_n2 aL_agree_7
theorem aL_agree_12 : dc_at cL_agree 12 sL_agree_12 := dc_n3 aL_agree_9
theorem aL_agree_13 : dc_at cL_agree 13 sL_agree_13 := dc_n1 aL_agree_12
theorem aL_agree_14 : dc_at cL_agree 14 sL_agree_14 := dc_n1 aL_agree_13
theorem aL_agree_17 : dc_at cL_agree 17 sL_agree_17 := dc_n3 aL_agree_14
theorem aL_agree_19 : dc_at cL_agree 19 sL_agree_19 := dc_n2 aL_agree_17
theorem aL_agree_20 : dc_at cL_agree 20 sL_agree_20 := dc_n1 aL_agree_19
theorem aL_agree_21 : dc_at cL_agree 21 sL_agree_21 := dc_n1 aL_agree_20
theorem aL_agree_22 : dc_at cL_agree 22 sL_agree_22 := dc_n1 aL_agree_21
theorem dL_agree_0 : decode cL_agree 0 = .ok (.aload 5, 2) := dc_25 (a0 := 5) aL_agree_0
theorem dL_agree_2 : decode cL_agree 2 = .ok (.iconst 0, 1) := dc_3 aL_agree_2
theorem dL_agree_3 : decode cL_agree 3 = .ok (.aload_n 0, 1) := dc_42 aL_agree_3
theorem dL_agree_4 : decode cL_agree 4 = .ok (.iload_n 1, 1) := dc_27 aL_agree_4
theorem dL_agree_5 : decode cL_agree 5 = .ok (.iload_n 2, 1) := dc_28 aL_agree_5
theorem dL_agree_6 : decode cL_agree 6 = .ok (.iload_n 3, 1) := dc_29 aL_agree_6
theorem dL_agree_7 : decode cL_agree 7 = .ok (.iload 4, 2) := dc_21 (a0 := 4) aL_agree_7
theorem dL_agree_9 : decode cL_agree 9 = .ok (.invokevirtual 63, 3) := dc_182 (a0 := 0) (b0 := 63) aL_agree_9
theorem dL_agree_12 : decode cL_agree 12 = .ok (.i2l, 1) := dc_133 aL_agree_12
theorem dL_agree_13 : decode cL_agree 13 = .ok (.lastore, 1) := dc_80 aL_agree_13
theorem dL_agree_14 : decode cL_agree 14 = .ok (.goto 7, 3) := dc_167 (a0 := 0) (b0 := 7) aL_agree_14 (by decide)
theorem dL_agree_17 : decode cL_agree 17 = .ok (.astore 6, 2) := dc_58 (a0 := 6) aL_agree_17
theorem dL_agree_19 : decode cL_agree 19 = .ok (.iconst 1, 1) := dc_4 aL_agree_19
theorem dL_agree_20 : decode cL_agree 20 = .ok (.ireturn, 1) := dc_172 aL_agree_20
theorem dL_agree_21 : decode cL_agree 21 = .ok (.iconst 0, 1) := dc_3 aL_agree_21
theorem dL_agree_22 : decode cL_agree 22 = .ok (.ireturn, 1) := dc_172 aL_agree_22
noncomputable def sL_lot_20 : List Nat := 172 :: []
noncomputable def sL_lot_19 : List Nat := 3 :: sL_lot_20
noncomputable def sL_lot_18 : List Nat := 172 :: sL_lot_19
noncomputable def sL_lot_17 : List Nat := 4 :: sL_lot_18
noncomputable def sL_lot_15 : List Nat := 58 :: 5 :: sL_lot_17
noncomputable def sL_lot_12 : List Nat := 167 :: 0 :: 7 :: sL_lot_15
noncomputable def sL_lot_11 : List Nat := 80 :: sL_lot_12
noncomputable def sL_lot_10 : List Nat := 133 :: sL_lot_11
noncomputable def sL_lot_7 : List Nat := 182 :: 0 :: 66 :: sL_lot_10
noncomputable def sL_lot_6 : List Nat := 29 :: sL_lot_7
noncomputable def sL_lot_5 : List Nat := 28 :: sL_lot_6
noncomputable def sL_lot_4 : List Nat := 27 :: sL_lot_5
noncomputable def sL_lot_3 : List Nat := 42 :: sL_lot_4
noncomputable def sL_lot_2 : List Nat := 3 :: sL_lot_3
noncomputable def sL_lot_0 : List Nat := 25 :: 4 :: sL_lot_2
theorem aL_lot_0 : dc_at cL_lot 0 sL_lot_0 := dc_base (by decide +kernel)
theorem aL_lot_2 : dc_at cL_lot 2 sL_lot_2 := dc_n2 aL_lot_0
theorem aL_lot_3 : dc_at cL_lot 3 sL_lot_3 := dc_n1 aL_lot_2
theorem aL_lot_4 : dc_at cL_lot 4 sL_lot_4 := dc_n1 aL_lot_3
theorem aL_lot_5 : dc_at cL_lot 5 sL_lot_5 := dc_n1 aL_lot_4
theorem aL_lot_6 : dc_at cL_lot 6 sL_lot_6 := dc_n1 aL_lot_5
theorem aL_lot_7 : dc_at cL_lot 7 sL_lot_7 := dc_n1 aL_lot_6
theorem aL_lot_10 : dc_at cL_lot 10 sL_lot_10 := dc_n3 aL_lot_7
theorem aL_lot_11 : dc_at cL_lot 11 sL_lot_11 := dc_n1 aL_lot_10
theorem aL_lot_12 : dc_at cL_lot 12 sL_lot_12 := dc_n1 aL_lot_11
theorem aL_lot_15 : dc_at cL_lot 15 sL_lot_15 := dc_n3 aL_lot_12
theorem aL_lot_17 : dc_at cL_lot 17 sL_lot_17 := dc_n2 aL_lot_15
theorem aL_lot_18 : dc_at cL_lot 18 sL_lot_18 := dc_n1 aL_lot_17
theorem aL_lot_19 : dc_at cL_lot 19 sL_lot_19 := dc_n1 aL_lot_18
theorem aL_lot_20 : dc_at cL_lot 20 sL_lot_20 := dc_n1 aL_lot_19
theorem dL_lot_0 : decode cL_lot 0 = .ok (.aload 4, 2) := dc_25 (a0 := 4) aL_lot_0
theorem dL_lot_2 : decode cL_lot 2 = .ok (.iconst 0, 1) := dc_3 aL_lot_2
theorem dL_lot_3 : decode cL_lot 3 = .ok (.aload_n 0, 1) := dc_42 aL_lot_3
theorem dL_lot_4 : decode cL_lot 4 = .ok (.iload_n 1, 1) := dc_27 aL_lot_4
theorem dL_lot_5 : decode cL_lot 5 = .ok (.iload_n 2, 1) := dc_28 aL_lot_5
theorem dL_lot_6 : decode cL_lot 6 = .ok (.iload_n 3, 1) := dc_29 aL_lot_6
theorem dL_lot_7 : decode cL_lot 7 = .ok (.invokevirtual 66, 3) := dc_182 (a0 := 0) (b0 := 66) aL_lot_7
theorem dL_lot_10 : decode cL_lot 10 = .ok (.i2l, 1) := dc_133 aL_lot_10
theorem dL_lot_11 : decode cL_lot 11 = .ok (.lastore, 1) := dc_80 aL_lot_11
theorem dL_lot_12 : decode cL_lot 12 = .ok (.goto 7, 3) := dc_167 (a0 := 0) (b0 := 7) aL_lot_12 (by decide)
theorem dL_lot_15 : decode cL_lot 15 = .ok (.astore 5, 2) := dc_58 (a0 := 5) aL_lot_15
theorem dL_lot_17 : decode cL_lot 17 = .ok (.iconst 1, 1) := dc_4 aL_lot_17
theorem dL_lot_18 : decode cL_lot 18 = .ok (.ireturn, 1) := dc_172 aL_lot_18
theorem dL_lot_19 : decode cL_lot 19 = .ok (.iconst 0, 1) := dc_3 aL_lot_19
theorem dL_lot_20 : decode cL_lot 20 = .ok (.ireturn, 1) := dc_172 aL_lot_20
noncomputable def sL_price_18 : List Nat := 172 :: []
noncomputable def sL_price_17 : List Nat := 3 :: sL_price_18
noncomputable def sL_price_16 : List Nat := 172 :: sL_price_17
noncomputable def sL_price_15 : List Nat := 4 :: sL_price_16
noncomputable def sL_price_13 : List Nat := 58 :: 4 :: sL_price_15
noncomputable def sL_price_10 : List Nat := 167 :: 0 :: 7 :: sL_price_13
noncomputable def sL_price_9 : List Nat := 80 :: sL_price_10
noncomputable def sL_price_8 : List Nat := 133 :: sL_price_9
noncomputable def sL_price_5 : List Nat := 182 :: 0 :: 69 :: sL_price_8
noncomputable def sL_price_4 : List Nat := 28 :: sL_price_5
noncomputable def sL_price_3 : List Nat := 27 :: sL_price_4
noncomputable def sL_price_2 : List Nat := 42 :: sL_price_3
noncomputable def sL_price_1 : List Nat := 3 :: sL_price_2
noncomputable def sL_price_0 : List Nat := 45 :: sL_price_1
theorem aL_price_0 : dc_at cL_price 0 sL_price_0 := dc_base (by decide +kernel)
theorem aL_price_1 : dc_at cL_price 1 sL_price_1 := dc_n1 aL_price_0
theorem aL_price_2 : dc_at cL_price 2 sL_price_2 := dc_n1 aL_price_1
theorem aL_price_3 : dc_at cL_price 3 sL_price_3 := dc_n1 aL_price_2
theorem aL_price_4 : dc_at cL_price 4 sL_price_4 := dc_n1 aL_price_3
theorem aL_price_5 : dc_at cL_price 5 sL_price_5 := dc_n1 aL_price_4
theorem aL_price_8 : dc_at cL_price 8 sL_price_8 := dc_n3 aL_price_5
theorem aL_price_9 : dc_at cL_price 9 sL_price_9 := dc_n1 aL_price_8
theorem aL_price_10 : dc_at cL_price 10 sL_price_10 := dc_n1 aL_price_9
theorem aL_price_13 : dc_at cL_price 13 sL_price_13 := dc_n3 aL_price_10
theorem aL_price_15 : dc_at cL_price 15 sL_price_15 := dc_n2 aL_price_13
theorem aL_price_16 : dc_at cL_price 16 sL_price_16 := dc_n1 aL_price_15
theorem aL_price_17 : dc_at cL_price 17 sL_price_17 := dc_n1 aL_price_16
theorem aL_price_18 : dc_at cL_price 18 sL_price_18 := dc_n1 aL_price_17
theorem dL_price_0 : decode cL_price 0 = .ok (.aload_n 3, 1) := dc_45 aL_price_0
theorem dL_price_1 : decode cL_price 1 = .ok (.iconst 0, 1) := dc_3 aL_price_1
theorem dL_price_2 : decode cL_price 2 = .ok (.aload_n 0, 1) := dc_42 aL_price_2
theorem dL_price_3 : decode cL_price 3 = .ok (.iload_n 1, 1) := dc_27 aL_price_3
theorem dL_price_4 : decode cL_price 4 = .ok (.iload_n 2, 1) := dc_28 aL_price_4
theorem dL_price_5 : decode cL_price 5 = .ok (.invokevirtual 69, 3) := dc_182 (a0 := 0) (b0 := 69) aL_price_5
theorem dL_price_8 : decode cL_price 8 = .ok (.i2l, 1) := dc_133 aL_price_8
theorem dL_price_9 : decode cL_price 9 = .ok (.lastore, 1) := dc_80 aL_price_9
theorem dL_price_10 : decode cL_price 10 = .ok (.goto 7, 3) := dc_167 (a0 := 0) (b0 := 7) aL_price_10 (by decide)
theorem dL_price_13 : decode cL_price 13 = .ok (.astore 4, 2) := dc_58 (a0 := 4) aL_price_13
theorem dL_price_15 : decode cL_price 15 = .ok (.iconst 1, 1) := dc_4 aL_price_15
theorem dL_price_16 : decode cL_price 16 = .ok (.ireturn, 1) := dc_172 aL_price_16
theorem dL_price_17 : decode cL_price 17 = .ok (.iconst 0, 1) := dc_3 aL_price_17
theorem dL_price_18 : decode cL_price 18 = .ok (.ireturn, 1) := dc_172 aL_price_18
noncomputable def sL_seek_17 : List Nat := 172 :: []
noncomputable def sL_seek_16 : List Nat := 3 :: sL_seek_17
noncomputable def sL_seek_15 : List Nat := 172 :: sL_seek_16
noncomputable def sL_seek_14 : List Nat := 4 :: sL_seek_15
noncomputable def sL_seek_12 : List Nat := 58 :: 5 :: sL_seek_14
noncomputable def sL_seek_9 : List Nat := 167 :: 0 :: 7 :: sL_seek_12
noncomputable def sL_seek_6 : List Nat := 182 :: 0 :: 72 :: sL_seek_9
noncomputable def sL_seek_4 : List Nat := 21 :: 4 :: sL_seek_6
noncomputable def sL_seek_3 : List Nat := 29 :: sL_seek_4
noncomputable def sL_seek_2 : List Nat := 28 :: sL_seek_3
noncomputable def sL_seek_1 : List Nat := 27 :: sL_seek_2
noncomputable def sL_seek_0 : List Nat := 42 :: sL_seek_1
theorem aL_seek_0 : dc_at cL_seek 0 sL_seek_0 := dc_base (by decide +kernel)
theorem aL_seek_1 : dc_at cL_seek 1 sL_seek_1 := dc_n1 aL_seek_0
theorem aL_seek_2 : dc_at cL_seek 2 sL_seek_2 := dc_n1 aL_seek_1
theorem aL_seek_3 : dc_at cL_seek 3 sL_seek_3 := dc_n1 aL_seek_2
theorem aL_seek_4 : dc_at cL_seek 4 sL_seek_4 := dc_n1 aL_seek_3
theorem aL_seek_6 : dc_at cL_seek 6 sL_seek_6 := dc_n2 aL_seek_4
theorem aL_seek_9 : dc_at cL_seek 9 sL_seek_9 := dc_n3 aL_seek_6
theorem aL_seek_12 : dc_at cL_seek 12 sL_seek_12 := dc_n3 aL_seek_9
theorem aL_seek_14 : dc_at cL_seek 14 sL_seek_14 := dc_n2 aL_seek_12
theorem aL_seek_15 : dc_at cL_seek 15 sL_seek_15 := dc_n1 aL_seek_14
theorem aL_seek_16 : dc_at cL_seek 16 sL_seek_16 := dc_n1 aL_seek_15
theorem aL_seek_17 : dc_at cL_seek 17 sL_seek_17 := dc_n1 aL_seek_16
theorem dL_seek_0 : decode cL_seek 0 = .ok (.aload_n 0, 1) := dc_42 aL_seek_0
theorem dL_seek_1 : decode cL_seek 1 = .ok (.iload_n 1, 1) := dc_27 aL_seek_1
theorem dL_seek_2 : decode cL_seek 2 = .ok (.iload_n 2, 1) := dc_28 aL_seek_2
theorem dL_seek_3 : decode cL_seek 3 = .ok (.iload_n 3, 1) := dc_29 aL_seek_3
theorem dL_seek_4 : decode cL_seek 4 = .ok (.iload 4, 2) := dc_21 (a0 := 4) aL_seek_4
theorem dL_seek_6 : decode cL_seek 6 = .ok (.invokevirtual 72, 3) := dc_182 (a0 := 0) (b0 := 72) aL_seek_6
theorem dL_seek_9 : decode cL_seek 9 = .ok (.goto 7, 3) := dc_167 (a0 := 0) (b0 := 7) aL_seek_9 (by decide)
theorem dL_seek_12 : decode cL_seek 12 = .ok (.astore 5, 2) := dc_58 (a0 := 5) aL_seek_12
theorem dL_seek_14 : decode cL_seek 14 = .ok (.iconst 1, 1) := dc_4 aL_seek_14
theorem dL_seek_15 : decode cL_seek 15 = .ok (.ireturn, 1) := dc_172 aL_seek_15
theorem dL_seek_16 : decode cL_seek 16 = .ok (.iconst 0, 1) := dc_3 aL_seek_16
theorem dL_seek_17 : decode cL_seek 17 = .ok (.ireturn, 1) := dc_172 aL_seek_17
noncomputable def sL_on_19 : List Nat := 172 :: []
noncomputable def sL_on_18 : List Nat := 3 :: sL_on_19
noncomputable def sL_on_17 : List Nat := 172 :: sL_on_18
noncomputable def sL_on_16 : List Nat := 5 :: sL_on_17
noncomputable def sL_on_15 : List Nat := 78 :: sL_on_16
noncomputable def sL_on_14 : List Nat := 172 :: sL_on_15
noncomputable def sL_on_13 : List Nat := 4 :: sL_on_14
noncomputable def sL_on_12 : List Nat := 78 :: sL_on_13
noncomputable def sL_on_9 : List Nat := 167 :: 0 :: 9 :: sL_on_12
noncomputable def sL_on_8 : List Nat := 80 :: sL_on_9
noncomputable def sL_on_7 : List Nat := 133 :: sL_on_8
noncomputable def sL_on_4 : List Nat := 182 :: 0 :: 76 :: sL_on_7
noncomputable def sL_on_3 : List Nat := 27 :: sL_on_4
noncomputable def sL_on_2 : List Nat := 42 :: sL_on_3
noncomputable def sL_on_1 : List Nat := 3 :: sL_on_2
noncomputable def sL_on_0 : List Nat := 44 :: sL_on_1
theorem aL_on_0 : dc_at cL_on 0 sL_on_0 := dc_base (by decide +kernel)
theorem aL_on_1 : dc_at cL_on 1 sL_on_1 := dc_n1 aL_on_0
theorem aL_on_2 : dc_at cL_on 2 sL_on_2 := dc_n1 aL_on_1
theorem aL_on_3 : dc_at cL_on 3 sL_on_3 := dc_n1 aL_on_2
theorem aL_on_4 : dc_at cL_on 4 sL_on_4 := dc_n1 aL_on_3
theorem aL_on_7 : dc_at cL_on 7 sL_on_7 := dc_n3 aL_on_4
theorem aL_on_8 : dc_at cL_on 8 sL_on_8 := dc_n1 aL_on_7
theorem aL_on_9 : dc_at cL_on 9 sL_on_9 := dc_n1 aL_on_8
theorem aL_on_12 : dc_at cL_on 12 sL_on_12 := dc_n3 aL_on_9
theorem aL_on_13 : dc_at cL_on 13 sL_on_13 := dc_n1 aL_on_12
theorem aL_on_14 : dc_at cL_on 14 sL_on_14 := dc_n1 aL_on_13
theorem aL_on_15 : dc_at cL_on 15 sL_on_15 := dc_n1 aL_on_14
theorem aL_on_16 : dc_at cL_on 16 sL_on_16 := dc_n1 aL_on_15
theorem aL_on_17 : dc_at cL_on 17 sL_on_17 := dc_n1 aL_on_16
theorem aL_on_18 : dc_at cL_on 18 sL_on_18 := dc_n1 aL_on_17
theorem aL_on_19 : dc_at cL_on 19 sL_on_19 := dc_n1 aL_on_18
theorem dL_on_0 : decode cL_on 0 = .ok (.aload_n 2, 1) := dc_44 aL_on_0
theorem dL_on_1 : decode cL_on 1 = .ok (.iconst 0, 1) := dc_3 aL_on_1
theorem dL_on_2 : decode cL_on 2 = .ok (.aload_n 0, 1) := dc_42 aL_on_2
theorem dL_on_3 : decode cL_on 3 = .ok (.iload_n 1, 1) := dc_27 aL_on_3
theorem dL_on_4 : decode cL_on 4 = .ok (.invokevirtual 76, 3) := dc_182 (a0 := 0) (b0 := 76) aL_on_4
theorem dL_on_7 : decode cL_on 7 = .ok (.i2l, 1) := dc_133 aL_on_7
theorem dL_on_8 : decode cL_on 8 = .ok (.lastore, 1) := dc_80 aL_on_8
theorem dL_on_9 : decode cL_on 9 = .ok (.goto 9, 3) := dc_167 (a0 := 0) (b0 := 9) aL_on_9 (by decide)
theorem dL_on_12 : decode cL_on 12 = .ok (.astore_n 3, 1) := dc_78 aL_on_12
theorem dL_on_13 : decode cL_on 13 = .ok (.iconst 1, 1) := dc_4 aL_on_13
theorem dL_on_14 : decode cL_on 14 = .ok (.ireturn, 1) := dc_172 aL_on_14
theorem dL_on_15 : decode cL_on 15 = .ok (.astore_n 3, 1) := dc_78 aL_on_15
theorem dL_on_16 : decode cL_on 16 = .ok (.iconst 2, 1) := dc_5 aL_on_16
theorem dL_on_17 : decode cL_on 17 = .ok (.ireturn, 1) := dc_172 aL_on_17
theorem dL_on_18 : decode cL_on 18 = .ok (.iconst 0, 1) := dc_3 aL_on_18
theorem dL_on_19 : decode cL_on 19 = .ok (.ireturn, 1) := dc_172 aL_on_19
noncomputable def sL_held_16 : List Nat := 172 :: []
noncomputable def sL_held_15 : List Nat := 3 :: sL_held_16
noncomputable def sL_held_14 : List Nat := 172 :: sL_held_15
noncomputable def sL_held_13 : List Nat := 4 :: sL_held_14
noncomputable def sL_held_12 : List Nat := 78 :: sL_held_13
noncomputable def sL_held_9 : List Nat := 167 :: 0 :: 6 :: sL_held_12
noncomputable def sL_held_8 : List Nat := 80 :: sL_held_9
noncomputable def sL_held_7 : List Nat := 133 :: sL_held_8
noncomputable def sL_held_4 : List Nat := 182 :: 0 :: 79 :: sL_held_7
noncomputable def sL_held_3 : List Nat := 27 :: sL_held_4
noncomputable def sL_held_2 : List Nat := 42 :: sL_held_3
noncomputable def sL_held_1 : List Nat := 3 :: sL_held_2
noncomputable def sL_held_0 : List Nat := 44 :: sL_held_1
theorem aL_held_0 : dc_at cL_held 0 sL_held_0 := dc_base (by decide +kernel)
theorem aL_held_1 : dc_at cL_held 1 sL_held_1 := dc_n1 aL_held_0
theorem aL_held_2 : dc_at cL_held 2 sL_held_2 := dc_n1 aL_held_1
theorem aL_held_3 : dc_at cL_held 3 sL_held_3 := dc_n1 aL_held_2
theorem aL_held_4 : dc_at cL_held 4 sL_held_4 := dc_n1 aL_held_3
theorem aL_held_7 : dc_at cL_held 7 sL_held_7 := dc_n3 aL_held_4
theorem aL_held_8 : dc_at cL_held 8 sL_held_8 := dc_n1 aL_held_7
theorem aL_held_9 : dc_at cL_held 9 sL_held_9 := dc_n1 aL_held_8
theorem aL_held_12 : dc_at cL_held 12 sL_held_12 := dc_n3 aL_held_9
theorem aL_held_13 : dc_at cL_held 13 sL_held_13 := dc_n1 aL_held_12
theorem aL_held_14 : dc_at cL_held 14 sL_held_14 := dc_n1 aL_held_13
theorem aL_held_15 : dc_at cL_held 15 sL_held_15 := dc_n1 aL_held_14
theorem aL_held_16 : dc_at cL_held 16 sL_held_16 := dc_n1 aL_held_15
theorem dL_held_0 : decode cL_held 0 = .ok (.aload_n 2, 1) := dc_44 aL_held_0
theorem dL_held_1 : decode cL_held 1 = .ok (.iconst 0, 1) := dc_3 aL_held_1
theorem dL_held_2 : decode cL_held 2 = .ok (.aload_n 0, 1) := dc_42 aL_held_2
theorem dL_held_3 : decode cL_held 3 = .ok (.iload_n 1, 1) := dc_27 aL_held_3
theorem dL_held_4 : decode cL_held 4 = .ok (.invokevirtual 79, 3) := dc_182 (a0 := 0) (b0 := 79) aL_held_4
theorem dL_held_7 : decode cL_held 7 = .ok (.i2l, 1) := dc_133 aL_held_7
theorem dL_held_8 : decode cL_held 8 = .ok (.lastore, 1) := dc_80 aL_held_8
theorem dL_held_9 : decode cL_held 9 = .ok (.goto 6, 3) := dc_167 (a0 := 0) (b0 := 6) aL_held_9 (by decide)
theorem dL_held_12 : decode cL_held 12 = .ok (.astore_n 3, 1) := dc_78 aL_held_12
theorem dL_held_13 : decode cL_held 13 = .ok (.iconst 1, 1) := dc_4 aL_held_13
theorem dL_held_14 : decode cL_held 14 = .ok (.ireturn, 1) := dc_172 aL_held_14
theorem dL_held_15 : decode cL_held 15 = .ok (.iconst 0, 1) := dc_3 aL_held_15
theorem dL_held_16 : decode cL_held 16 = .ok (.ireturn, 1) := dc_172 aL_held_16
noncomputable def sL_misread_24 : List Nat := 172 :: []
noncomputable def sL_misread_23 : List Nat := 3 :: sL_misread_24
noncomputable def sL_misread_22 : List Nat := 172 :: sL_misread_23
noncomputable def sL_misread_21 : List Nat := 4 :: sL_misread_22
noncomputable def sL_misread_19 : List Nat := 58 :: 7 :: sL_misread_21
noncomputable def sL_misread_16 : List Nat := 167 :: 0 :: 7 :: sL_misread_19
noncomputable def sL_misread_15 : List Nat := 80 :: sL_misread_16
noncomputable def sL_misread_14 : List Nat := 133 :: sL_misread_15
noncomputable def sL_misread_11 : List Nat := 182 :: 0 :: 82 :: sL_misread_14
noncomputable def sL_misread_9 : List Nat := 21 :: 5 :: sL_misread_11
noncomputable def sL_misread_7 : List Nat := 21 :: 4 :: sL_misread_9
noncomputable def sL_misread_6 : List Nat := 29 :: sL_misread_7
noncomputable def sL_misread_5 : List Nat := 28 :: sL_misread_6
noncomputable def sL_misread_4 : List Nat := 27 :: sL_misread_5
noncomputable def sL_misread_3 : List Nat := 42 :: sL_misread_4
noncomputable def sL_misread_2 : List Nat := 3 :: sL_misread_3
noncomputable def sL_misread_0 : List Nat := 25 :: 6 :: sL_misread_2
theorem aL_misread_0 : dc_at cL_misread 0 sL_misread_0 := dc_base (by decide +kernel)
theorem aL_misread_2 : dc_at cL_misread 2 sL_misread_2 := dc_n2 aL_misread_0
theorem aL_misread_3 : dc_at cL_misread 3 sL_misread_3 := dc_n1 aL_misread_2
theorem aL_misread_4 : dc_at cL_misread 4 sL_misread_4 := dc_n1 aL_misread_3
theorem aL_misread_5 : dc_at cL_misread 5 sL_misread_5 := dc_n1 aL_misread_4
theorem aL_misread_6 : dc_at cL_misread 6 sL_misread_6 := dc_n1 aL_misread_5
theorem aL_misread_7 : dc_at cL_misread 7 sL_misread_7 := dc_n1 aL_misread_6
theorem aL_misread_9 : dc_at cL_misread 9 sL_misread_9 := dc_n2 aL_misread_7
theorem aL_misread_11 : dc_at cL_misread 11 sL_misread_11 := dc_n2 aL_misread_9
theorem aL_misread_14 : dc_at cL_misread 14 sL_misread_14 := dc_n3 aL_misread_11
theorem aL_misread_15 : dc_at cL_misread 15 sL_misread_15 := dc_n1 aL_misread_14
theorem aL_misread_16 : dc_at cL_misread 16 sL_misread_16 := dc_n1 aL_misread_15
theorem aL_misread_19 : dc_at cL_misread 19 sL_misread_19 := dc_n3 aL_misread_16
theorem aL_misread_21 : dc_at cL_misread 21 sL_misread_21 := dc_n2 aL_misread_19
theorem aL_misread_22 : dc_at cL_misread 22 sL_misread_22 := dc_n1 aL_misread_21
theorem aL_misread_23 : dc_at cL_misread 23 sL_misread_23 := dc_n1 aL_misread_22
theorem aL_misread_24 : dc_at cL_misread 24 sL_misread_24 := dc_n1 aL_misread_23
theorem dL_misread_0 : decode cL_misread 0 = .ok (.aload 6, 2) := dc_25 (a0 := 6) aL_misread_0
theorem dL_misread_2 : decode cL_misread 2 = .ok (.iconst 0, 1) := dc_3 aL_misread_2
theorem dL_misread_3 : decode cL_misread 3 = .ok (.aload_n 0, 1) := dc_42 aL_misread_3
theorem dL_misread_4 : decode cL_misread 4 = .ok (.iload_n 1, 1) := dc_27 aL_misread_4
theorem dL_misread_5 : decode cL_misread 5 = .ok (.iload_n 2, 1) := dc_28 aL_misread_5
theorem dL_misread_6 : decode cL_misread 6 = .ok (.iload_n 3, 1) := dc_29 aL_misread_6
theorem dL_misread_7 : decode cL_misread 7 = .ok (.iload 4, 2) := dc_21 (a0 := 4) aL_misread_7
theorem dL_misread_9 : decode cL_misread 9 = .ok (.iload 5, 2) := dc_21 (a0 := 5) aL_misread_9
theorem dL_misread_11 : decode cL_misread 11 = .ok (.invokevirtual 82, 3) := dc_182 (a0 := 0) (b0 := 82) aL_misread_11
theorem dL_misread_14 : decode cL_misread 14 = .ok (.i2l, 1) := dc_133 aL_misread_14
theorem dL_misread_15 : decode cL_misread 15 = .ok (.lastore, 1) := dc_80 aL_misread_15
theorem dL_misread_16 : decode cL_misread 16 = .ok (.goto 7, 3) := dc_167 (a0 := 0) (b0 := 7) aL_misread_16 (by decide)
theorem dL_misread_19 : decode cL_misread 19 = .ok (.astore 7, 2) := dc_58 (a0 := 7) aL_misread_19
theorem dL_misread_21 : decode cL_misread 21 = .ok (.iconst 1, 1) := dc_4 aL_misread_21
theorem dL_misread_22 : decode cL_misread 22 = .ok (.ireturn, 1) := dc_172 aL_misread_22
theorem dL_misread_23 : decode cL_misread 23 = .ok (.iconst 0, 1) := dc_3 aL_misread_23
theorem dL_misread_24 : decode cL_misread 24 = .ok (.ireturn, 1) := dc_172 aL_misread_24
noncomputable def sL_errors_22 : List Nat := 172 :: []
noncomputable def sL_errors_21 : List Nat := 3 :: sL_errors_22
noncomputable def sL_errors_20 : List Nat := 172 :: sL_errors_21
noncomputable def sL_errors_19 : List Nat := 4 :: sL_errors_20
noncomputable def sL_errors_17 : List Nat := 58 :: 6 :: sL_errors_19
noncomputable def sL_errors_14 : List Nat := 167 :: 0 :: 7 :: sL_errors_17
noncomputable def sL_errors_13 : List Nat := 80 :: sL_errors_14
noncomputable def sL_errors_12 : List Nat := 133 :: sL_errors_13
noncomputable def sL_errors_9 : List Nat := 182 :: 0 :: 85 :: sL_errors_12
noncomputable def sL_errors_7 : List Nat := 21 :: 4 :: sL_errors_9
noncomputable def sL_errors_6 : List Nat := 29 :: sL_errors_7
noncomputable def sL_errors_5 : List Nat := 28 :: sL_errors_6
noncomputable def sL_errors_4 : List Nat := 27 :: sL_errors_5
noncomputable def sL_errors_3 : List Nat := 42 :: sL_errors_4
noncomputable def sL_errors_2 : List Nat := 3 :: sL_errors_3
noncomputable def sL_errors_0 : List Nat := 25 :: 5 :: sL_errors_2
theorem aL_errors_0 : dc_at cL_errors 0 sL_errors_0 := dc_base (by decide +kernel)
theorem aL_errors_2 : dc_at cL_errors 2 sL_errors_2 := dc_n2 aL_errors_0
theorem aL_errors_3 : dc_at cL_errors 3 sL_errors_3 := dc_n1 aL_errors_2
theorem aL_errors_4 : dc_at cL_errors 4 sL_errors_4 := dc_n1 aL_errors_3
theorem aL_errors_5 : dc_at cL_errors 5 sL_errors_5 := dc_n1 aL_errors_4
theorem aL_errors_6 : dc_at cL_errors 6 sL_errors_6 := dc_n1 aL_errors_5
theorem aL_errors_7 : dc_at cL_errors 7 sL_errors_7 := dc_n1 aL_errors_6
theorem aL_errors_9 : dc_at cL_errors 9 sL_errors_9 := dc_n2 aL_errors_7
theorem aL_errors_12 : dc_at cL_errors 12 sL_errors_12 := dc_n3 aL_errors_9
theorem aL_errors_13 : dc_at cL_errors 13 sL_errors_13 := dc_n1 aL_errors_12
theorem aL_errors_14 : dc_at cL_errors 14 sL_errors_14 := dc_n1 aL_errors_13
theorem aL_errors_17 : dc_at cL_errors 17 sL_errors_17 := dc_n3 aL_errors_14
theorem aL_errors_19 : dc_at cL_errors 19 sL_errors_19 := dc_n2 aL_errors_17
theorem aL_errors_20 : dc_at cL_errors 20 sL_errors_20 := dc_n1 aL_errors_19
theorem aL_errors_21 : dc_at cL_errors 21 sL_errors_21 := dc_n1 aL_errors_20
theorem aL_errors_22 : dc_at cL_errors 22 sL_errors_22 := dc_n1 aL_errors_21
theorem dL_errors_0 : decode cL_errors 0 = .ok (.aload 5, 2) := dc_25 (a0 := 5) aL_errors_0
theorem dL_errors_2 : decode cL_errors 2 = .ok (.iconst 0, 1) := dc_3 aL_errors_2
theorem dL_errors_3 : decode cL_errors 3 = .ok (.aload_n 0, 1) := dc_42 aL_errors_3
theorem dL_errors_4 : decode cL_errors 4 = .ok (.iload_n 1, 1) := dc_27 aL_errors_4
theorem dL_errors_5 : decode cL_errors 5 = .ok (.iload_n 2, 1) := dc_28 aL_errors_5
theorem dL_errors_6 : decode cL_errors 6 = .ok (.iload_n 3, 1) := dc_29 aL_errors_6
theorem dL_errors_7 : decode cL_errors 7 = .ok (.iload 4, 2) := dc_21 (a0 := 4) aL_errors_7
theorem dL_errors_9 : decode cL_errors 9 = .ok (.invokevirtual 85, 3) := dc_182 (a0 := 0) (b0 := 85) aL_errors_9
theorem dL_errors_12 : decode cL_errors 12 = .ok (.i2l, 1) := dc_133 aL_errors_12
theorem dL_errors_13 : decode cL_errors 13 = .ok (.lastore, 1) := dc_80 aL_errors_13
theorem dL_errors_14 : decode cL_errors 14 = .ok (.goto 7, 3) := dc_167 (a0 := 0) (b0 := 7) aL_errors_14 (by decide)
theorem dL_errors_17 : decode cL_errors 17 = .ok (.astore 6, 2) := dc_58 (a0 := 6) aL_errors_17
theorem dL_errors_19 : decode cL_errors 19 = .ok (.iconst 1, 1) := dc_4 aL_errors_19
theorem dL_errors_20 : decode cL_errors 20 = .ok (.ireturn, 1) := dc_172 aL_errors_20
theorem dL_errors_21 : decode cL_errors 21 = .ok (.iconst 0, 1) := dc_3 aL_errors_21
theorem dL_errors_22 : decode cL_errors 22 = .ok (.ireturn, 1) := dc_172 aL_errors_22
noncomputable def sL_possible_20 : List Nat := 172 :: []
noncomputable def sL_possible_19 : List Nat := 3 :: sL_possible_20
noncomputable def sL_possible_18 : List Nat := 172 :: sL_possible_19
noncomputable def sL_possible_17 : List Nat := 4 :: sL_possible_18
noncomputable def sL_possible_15 : List Nat := 58 :: 5 :: sL_possible_17
noncomputable def sL_possible_12 : List Nat := 167 :: 0 :: 7 :: sL_possible_15
noncomputable def sL_possible_11 : List Nat := 80 :: sL_possible_12
noncomputable def sL_possible_10 : List Nat := 133 :: sL_possible_11
noncomputable def sL_possible_7 : List Nat := 182 :: 0 :: 88 :: sL_possible_10
noncomputable def sL_possible_6 : List Nat := 29 :: sL_possible_7
noncomputable def sL_possible_5 : List Nat := 28 :: sL_possible_6
noncomputable def sL_possible_4 : List Nat := 27 :: sL_possible_5
noncomputable def sL_possible_3 : List Nat := 42 :: sL_possible_4
noncomputable def sL_possible_2 : List Nat := 3 :: sL_possible_3
noncomputable def sL_possible_0 : List Nat := 25 :: 4 :: sL_possible_2
theorem aL_possible_0 : dc_at cL_possible 0 sL_possible_0 := dc_base (by decide +kernel)
theorem aL_possible_2 : dc_at cL_possible 2 sL_possible_2 := dc_n2 aL_possible_0
theorem aL_possible_3 : dc_at cL_possible 3 sL_possible_3 := dc_n1 aL_possible_2
theorem aL_possible_4 : dc_at cL_possible 4 sL_possible_4 := dc_n1 aL_possible_3
theorem aL_possible_5 : dc_at cL_possible 5 sL_possible_5 := dc_n1 aL_possible_4
theorem aL_possible_6 : dc_at cL_possible 6 sL_possible_6 := dc_n1 aL_possible_5
theorem aL_possible_7 : dc_at cL_possible 7 sL_possible_7 := dc_n1 aL_possible_6
theorem aL_possible_10 : dc_at cL_possible 10 sL_possible_10 := dc_n3 aL_possible_7
theorem aL_possible_11 : dc_at cL_possible 11 sL_possible_11 := dc_n1 aL_possible_10
theorem aL_possible_12 : dc_at cL_possible 12 sL_possible_12 := dc_n1 aL_possible_11
theorem aL_possible_15 : dc_at cL_possible 15 sL_possible_15 := dc_n3 aL_possible_12
theorem aL_possible_17 : dc_at cL_possible 17 sL_possible_17 := dc_n2 aL_possible_15
theorem aL_possible_18 : dc_at cL_possible 18 sL_possible_18 := dc_n1 aL_possible_17
theorem aL_possible_19 : dc_at cL_possible 19 sL_possible_19 := dc_n1 aL_possible_18
theorem aL_possible_20 : dc_at cL_possible 20 sL_possible_20 := dc_n1 aL_possible_19
theorem dL_possible_0 : decode cL_possible 0 = .ok (.aload 4, 2) := dc_25 (a0 := 4) aL_possible_0
theorem dL_possible_2 : decode cL_possible 2 = .ok (.iconst 0, 1) := dc_3 aL_possible_2
theorem dL_possible_3 : decode cL_possible 3 = .ok (.aload_n 0, 1) := dc_42 aL_possible_3
theorem dL_possible_4 : decode cL_possible 4 = .ok (.iload_n 1, 1) := dc_27 aL_possible_4
theorem dL_possible_5 : decode cL_possible 5 = .ok (.iload_n 2, 1) := dc_28 aL_possible_5
theorem dL_possible_6 : decode cL_possible 6 = .ok (.iload_n 3, 1) := dc_29 aL_possible_6
theorem dL_possible_7 : decode cL_possible 7 = .ok (.invokevirtual 88, 3) := dc_182 (a0 := 0) (b0 := 88) aL_possible_7
theorem dL_possible_10 : decode cL_possible 10 = .ok (.i2l, 1) := dc_133 aL_possible_10
theorem dL_possible_11 : decode cL_possible 11 = .ok (.lastore, 1) := dc_80 aL_possible_11
theorem dL_possible_12 : decode cL_possible 12 = .ok (.goto 7, 3) := dc_167 (a0 := 0) (b0 := 7) aL_possible_12 (by decide)
theorem dL_possible_15 : decode cL_possible 15 = .ok (.astore 5, 2) := dc_58 (a0 := 5) aL_possible_15
theorem dL_possible_17 : decode cL_possible 17 = .ok (.iconst 1, 1) := dc_4 aL_possible_17
theorem dL_possible_18 : decode cL_possible 18 = .ok (.ireturn, 1) := dc_172 aL_possible_18
theorem dL_possible_19 : decode cL_possible 19 = .ok (.iconst 0, 1) := dc_3 aL_possible_19
theorem dL_possible_20 : decode cL_possible 20 = .ok (.ireturn, 1) := dc_172 aL_possible_20
noncomputable def sL_slips_18 : List Nat := 172 :: []
noncomputable def sL_slips_17 : List Nat := 3 :: sL_slips_18
noncomputable def sL_slips_16 : List Nat := 172 :: sL_slips_17
noncomputable def sL_slips_15 : List Nat := 4 :: sL_slips_16
noncomputable def sL_slips_13 : List Nat := 58 :: 4 :: sL_slips_15
noncomputable def sL_slips_10 : List Nat := 167 :: 0 :: 7 :: sL_slips_13
noncomputable def sL_slips_9 : List Nat := 80 :: sL_slips_10
noncomputable def sL_slips_8 : List Nat := 133 :: sL_slips_9
noncomputable def sL_slips_5 : List Nat := 182 :: 0 :: 91 :: sL_slips_8
noncomputable def sL_slips_4 : List Nat := 28 :: sL_slips_5
noncomputable def sL_slips_3 : List Nat := 27 :: sL_slips_4
noncomputable def sL_slips_2 : List Nat := 42 :: sL_slips_3
noncomputable def sL_slips_1 : List Nat := 3 :: sL_slips_2
noncomputable def sL_slips_0 : List Nat := 45 :: sL_slips_1
theorem aL_slips_0 : dc_at cL_slips 0 sL_slips_0 := dc_base (by decide +kernel)
theorem aL_slips_1 : dc_at cL_slips 1 sL_slips_1 := dc_n1 aL_slips_0
theorem aL_slips_2 : dc_at cL_slips 2 sL_slips_2 := dc_n1 aL_slips_1
theorem aL_slips_3 : dc_at cL_slips 3 sL_slips_3 := dc_n1 aL_slips_2
theorem aL_slips_4 : dc_at cL_slips 4 sL_slips_4 := dc_n1 aL_slips_3
theorem aL_slips_5 : dc_at cL_slips 5 sL_slips_5 := dc_n1 aL_slips_4
theorem aL_slips_8 : dc_at cL_slips 8 sL_slips_8 := dc_n3 aL_slips_5
theorem aL_slips_9 : dc_at cL_slips 9 sL_slips_9 := dc_n1 aL_slips_8
theorem aL_slips_10 : dc_at cL_slips 10 sL_slips_10 := dc_n1 aL_slips_9
theorem aL_slips_13 : dc_at cL_slips 13 sL_slips_13 := dc_n3 aL_slips_10
theorem aL_slips_15 : dc_at cL_slips 15 sL_slips_15 := dc_n2 aL_slips_13
theorem aL_slips_16 : dc_at cL_slips 16 sL_slips_16 := dc_n1 aL_slips_15
theorem aL_slips_17 : dc_at cL_slips 17 sL_slips_17 := dc_n1 aL_slips_16
theorem aL_slips_18 : dc_at cL_slips 18 sL_slips_18 := dc_n1 aL_slips_17
theorem dL_slips_0 : decode cL_slips 0 = .ok (.aload_n 3, 1) := dc_45 aL_slips_0
theorem dL_slips_1 : decode cL_slips 1 = .ok (.iconst 0, 1) := dc_3 aL_slips_1
theorem dL_slips_2 : decode cL_slips 2 = .ok (.aload_n 0, 1) := dc_42 aL_slips_2
theorem dL_slips_3 : decode cL_slips 3 = .ok (.iload_n 1, 1) := dc_27 aL_slips_3
theorem dL_slips_4 : decode cL_slips 4 = .ok (.iload_n 2, 1) := dc_28 aL_slips_4
theorem dL_slips_5 : decode cL_slips 5 = .ok (.invokevirtual 91, 3) := dc_182 (a0 := 0) (b0 := 91) aL_slips_5
theorem dL_slips_8 : decode cL_slips 8 = .ok (.i2l, 1) := dc_133 aL_slips_8
theorem dL_slips_9 : decode cL_slips 9 = .ok (.lastore, 1) := dc_80 aL_slips_9
theorem dL_slips_10 : decode cL_slips 10 = .ok (.goto 7, 3) := dc_167 (a0 := 0) (b0 := 7) aL_slips_10 (by decide)
theorem dL_slips_13 : decode cL_slips 13 = .ok (.astore 4, 2) := dc_58 (a0 := 4) aL_slips_13
theorem dL_slips_15 : decode cL_slips 15 = .ok (.iconst 1, 1) := dc_4 aL_slips_15
theorem dL_slips_16 : decode cL_slips 16 = .ok (.ireturn, 1) := dc_172 aL_slips_16
theorem dL_slips_17 : decode cL_slips 17 = .ok (.iconst 0, 1) := dc_3 aL_slips_17
theorem dL_slips_18 : decode cL_slips 18 = .ok (.ireturn, 1) := dc_172 aL_slips_18
noncomputable def sL_handed_20 : List Nat := 172 :: []
noncomputable def sL_handed_19 : List Nat := 3 :: sL_handed_20
noncomputable def sL_handed_18 : List Nat := 172 :: sL_handed_19
noncomputable def sL_handed_17 : List Nat := 4 :: sL_handed_18
noncomputable def sL_handed_15 : List Nat := 58 :: 5 :: sL_handed_17
noncomputable def sL_handed_12 : List Nat := 167 :: 0 :: 7 :: sL_handed_15
noncomputable def sL_handed_11 : List Nat := 80 :: sL_handed_12
noncomputable def sL_handed_10 : List Nat := 133 :: sL_handed_11
noncomputable def sL_handed_7 : List Nat := 182 :: 0 :: 94 :: sL_handed_10
noncomputable def sL_handed_6 : List Nat := 29 :: sL_handed_7
noncomputable def sL_handed_5 : List Nat := 28 :: sL_handed_6
noncomputable def sL_handed_4 : List Nat := 27 :: sL_handed_5
noncomputable def sL_handed_3 : List Nat := 42 :: sL_handed_4
noncomputable def sL_handed_2 : List Nat := 3 :: sL_handed_3
noncomputable def sL_handed_0 : List Nat := 25 :: 4 :: sL_handed_2
theorem aL_handed_0 : dc_at cL_handed 0 sL_handed_0 := dc_base (by decide +kernel)
theorem aL_handed_2 : dc_at cL_handed 2 sL_handed_2 := dc_n2 aL_handed_0
theorem aL_handed_3 : dc_at cL_handed 3 sL_handed_3 := dc_n1 aL_handed_2
theorem aL_handed_4 : dc_at cL_handed 4 sL_handed_4 := dc_n1 aL_handed_3
theorem aL_handed_5 : dc_at cL_handed 5 sL_handed_5 := dc_n1 aL_handed_4
theorem aL_handed_6 : dc_at cL_handed 6 sL_handed_6 := dc_n1 aL_handed_5
theorem aL_handed_7 : dc_at cL_handed 7 sL_handed_7 := dc_n1 aL_handed_6
theorem aL_handed_10 : dc_at cL_handed 10 sL_handed_10 := dc_n3 aL_handed_7
theorem aL_handed_11 : dc_at cL_handed 11 sL_handed_11 := dc_n1 aL_handed_10
theorem aL_handed_12 : dc_at cL_handed 12 sL_handed_12 := dc_n1 aL_handed_11
theorem aL_handed_15 : dc_at cL_handed 15 sL_handed_15 := dc_n3 aL_handed_12
theorem aL_handed_17 : dc_at cL_handed 17 sL_handed_17 := dc_n2 aL_handed_15
theorem aL_handed_18 : dc_at cL_handed 18 sL_handed_18 := dc_n1 aL_handed_17
theorem aL_handed_19 : dc_at cL_handed 19 sL_handed_19 := dc_n1 aL_handed_18
theorem aL_handed_20 : dc_at cL_handed 20 sL_handed_20 := dc_n1 aL_handed_19
theorem dL_handed_0 : decode cL_handed 0 = .ok (.aload 4, 2) := dc_25 (a0 := 4) aL_handed_0
theorem dL_handed_2 : decode cL_handed 2 = .ok (.iconst 0, 1) := dc_3 aL_handed_2
theorem dL_handed_3 : decode cL_handed 3 = .ok (.aload_n 0, 1) := dc_42 aL_handed_3
theorem dL_handed_4 : decode cL_handed 4 = .ok (.iload_n 1, 1) := dc_27 aL_handed_4
theorem dL_handed_5 : decode cL_handed 5 = .ok (.iload_n 2, 1) := dc_28 aL_handed_5
theorem dL_handed_6 : decode cL_handed 6 = .ok (.iload_n 3, 1) := dc_29 aL_handed_6
theorem dL_handed_7 : decode cL_handed 7 = .ok (.invokevirtual 94, 3) := dc_182 (a0 := 0) (b0 := 94) aL_handed_7
theorem dL_handed_10 : decode cL_handed 10 = .ok (.i2l, 1) := dc_133 aL_handed_10
theorem dL_handed_11 : decode cL_handed 11 = .ok (.lastore, 1) := dc_80 aL_handed_11
theorem dL_handed_12 : decode cL_handed 12 = .ok (.goto 7, 3) := dc_167 (a0 := 0) (b0 := 7) aL_handed_12 (by decide)
theorem dL_handed_15 : decode cL_handed 15 = .ok (.astore 5, 2) := dc_58 (a0 := 5) aL_handed_15
theorem dL_handed_17 : decode cL_handed 17 = .ok (.iconst 1, 1) := dc_4 aL_handed_17
theorem dL_handed_18 : decode cL_handed 18 = .ok (.ireturn, 1) := dc_172 aL_handed_18
theorem dL_handed_19 : decode cL_handed 19 = .ok (.iconst 0, 1) := dc_3 aL_handed_19
theorem dL_handed_20 : decode cL_handed 20 = .ok (.ireturn, 1) := dc_172 aL_handed_20
noncomputable def sL_leaf_18 : List Nat := 172 :: []
noncomputable def sL_leaf_17 : List Nat := 3 :: sL_leaf_18
noncomputable def sL_leaf_16 : List Nat := 172 :: sL_leaf_17
noncomputable def sL_leaf_15 : List Nat := 4 :: sL_leaf_16
noncomputable def sL_leaf_13 : List Nat := 58 :: 4 :: sL_leaf_15
noncomputable def sL_leaf_10 : List Nat := 167 :: 0 :: 7 :: sL_leaf_13
noncomputable def sL_leaf_9 : List Nat := 80 :: sL_leaf_10
noncomputable def sL_leaf_8 : List Nat := 133 :: sL_leaf_9
noncomputable def sL_leaf_5 : List Nat := 182 :: 0 :: 97 :: sL_leaf_8
noncomputable def sL_leaf_4 : List Nat := 28 :: sL_leaf_5
noncomputable def sL_leaf_3 : List Nat := 27 :: sL_leaf_4
noncomputable def sL_leaf_2 : List Nat := 42 :: sL_leaf_3
noncomputable def sL_leaf_1 : List Nat := 3 :: sL_leaf_2
noncomputable def sL_leaf_0 : List Nat := 45 :: sL_leaf_1
theorem aL_leaf_0 : dc_at cL_leaf 0 sL_leaf_0 := dc_base (by decide +kernel)
theorem aL_leaf_1 : dc_at cL_leaf 1 sL_leaf_1 := dc_n1 aL_leaf_0
theorem aL_leaf_2 : dc_at cL_leaf 2 sL_leaf_2 := dc_n1 aL_leaf_1
theorem aL_leaf_3 : dc_at cL_leaf 3 sL_leaf_3 := dc_n1 aL_leaf_2
theorem aL_leaf_4 : dc_at cL_leaf 4 sL_leaf_4 := dc_n1 aL_leaf_3
theorem aL_leaf_5 : dc_at cL_leaf 5 sL_leaf_5 := dc_n1 aL_leaf_4
theorem aL_leaf_8 : dc_at cL_leaf 8 sL_leaf_8 := dc_n3 aL_leaf_5
theorem aL_leaf_9 : dc_at cL_leaf 9 sL_leaf_9 := dc_n1 aL_leaf_8
theorem aL_leaf_10 : dc_at cL_leaf 10 sL_leaf_10 := dc_n1 aL_leaf_9
theorem aL_leaf_13 : dc_at cL_leaf 13 sL_leaf_13 := dc_n3 aL_leaf_10
theorem aL_leaf_15 : dc_at cL_leaf 15 sL_leaf_15 := dc_n2 aL_leaf_13
theorem aL_leaf_16 : dc_at cL_leaf 16 sL_leaf_16 := dc_n1 aL_leaf_15
theorem aL_leaf_17 : dc_at cL_leaf 17 sL_leaf_17 := dc_n1 aL_leaf_16
theorem aL_leaf_18 : dc_at cL_leaf 18 sL_leaf_18 := dc_n1 aL_leaf_17
theorem dL_leaf_0 : decode cL_leaf 0 = .ok (.aload_n 3, 1) := dc_45 aL_leaf_0
theorem dL_leaf_1 : decode cL_leaf 1 = .ok (.iconst 0, 1) := dc_3 aL_leaf_1
theorem dL_leaf_2 : decode cL_leaf 2 = .ok (.aload_n 0, 1) := dc_42 aL_leaf_2
theorem dL_leaf_3 : decode cL_leaf 3 = .ok (.iload_n 1, 1) := dc_27 aL_leaf_3
theorem dL_leaf_4 : decode cL_leaf 4 = .ok (.iload_n 2, 1) := dc_28 aL_leaf_4
theorem dL_leaf_5 : decode cL_leaf 5 = .ok (.invokevirtual 97, 3) := dc_182 (a0 := 0) (b0 := 97) aL_leaf_5
theorem dL_leaf_8 : decode cL_leaf 8 = .ok (.i2l, 1) := dc_133 aL_leaf_8
theorem dL_leaf_9 : decode cL_leaf 9 = .ok (.lastore, 1) := dc_80 aL_leaf_9
theorem dL_leaf_10 : decode cL_leaf 10 = .ok (.goto 7, 3) := dc_167 (a0 := 0) (b0 := 7) aL_leaf_10 (by decide)
theorem dL_leaf_13 : decode cL_leaf 13 = .ok (.astore 4, 2) := dc_58 (a0 := 4) aL_leaf_13
theorem dL_leaf_15 : decode cL_leaf 15 = .ok (.iconst 1, 1) := dc_4 aL_leaf_15
theorem dL_leaf_16 : decode cL_leaf 16 = .ok (.ireturn, 1) := dc_172 aL_leaf_16
theorem dL_leaf_17 : decode cL_leaf 17 = .ok (.iconst 0, 1) := dc_3 aL_leaf_17
theorem dL_leaf_18 : decode cL_leaf 18 = .ok (.ireturn, 1) := dc_172 aL_leaf_18
noncomputable def sL_order_20 : List Nat := 172 :: []
noncomputable def sL_order_19 : List Nat := 3 :: sL_order_20
noncomputable def sL_order_18 : List Nat := 172 :: sL_order_19
noncomputable def sL_order_17 : List Nat := 4 :: sL_order_18
noncomputable def sL_order_15 : List Nat := 58 :: 5 :: sL_order_17
noncomputable def sL_order_12 : List Nat := 167 :: 0 :: 7 :: sL_order_15
noncomputable def sL_order_11 : List Nat := 80 :: sL_order_12
noncomputable def sL_order_10 : List Nat := 133 :: sL_order_11
noncomputable def sL_order_7 : List Nat := 182 :: 0 :: 100 :: sL_order_10
noncomputable def sL_order_6 : List Nat := 29 :: sL_order_7
noncomputable def sL_order_5 : List Nat := 28 :: sL_order_6
noncomputable def sL_order_4 : List Nat := 27 :: sL_order_5
noncomputable def sL_order_3 : List Nat := 42 :: sL_order_4
noncomputable def sL_order_2 : List Nat := 3 :: sL_order_3
noncomputable def sL_order_0 : List Nat := 25 :: 4 :: sL_order_2
theorem aL_order_0 : dc_at cL_order 0 sL_order_0 := dc_base (by decide +kernel)
theorem aL_order_2 : dc_at cL_order 2 sL_order_2 := dc_n2 aL_order_0
theorem aL_order_3 : dc_at cL_order 3 sL_order_3 := dc_n1 aL_order_2
theorem aL_order_4 : dc_at cL_order 4 sL_order_4 := dc_n1 aL_order_3
theorem aL_order_5 : dc_at cL_order 5 sL_order_5 := dc_n1 aL_order_4
theorem aL_order_6 : dc_at cL_order 6 sL_order_6 := dc_n1 aL_order_5
theorem aL_order_7 : dc_at cL_order 7 sL_order_7 := dc_n1 aL_order_6
theorem aL_order_10 : dc_at cL_order 10 sL_order_10 := dc_n3 aL_order_7
theorem aL_order_11 : dc_at cL_order 11 sL_order_11 := dc_n1 aL_order_10
theorem aL_order_12 : dc_at cL_order 12 sL_order_12 := dc_n1 aL_order_11
theorem aL_order_15 : dc_at cL_order 15 sL_order_15 := dc_n3 aL_order_12
theorem aL_order_17 : dc_at cL_order 17 sL_order_17 := dc_n2 aL_order_15
theorem aL_order_18 : dc_at cL_order 18 sL_order_18 := dc_n1 aL_order_17
theorem aL_order_19 : dc_at cL_order 19 sL_order_19 := dc_n1 aL_order_18
theorem aL_order_20 : dc_at cL_order 20 sL_order_20 := dc_n1 aL_order_19
theorem dL_order_0 : decode cL_order 0 = .ok (.aload 4, 2) := dc_25 (a0 := 4) aL_order_0
theorem dL_order_2 : decode cL_order 2 = .ok (.iconst 0, 1) := dc_3 aL_order_2
theorem dL_order_3 : decode cL_order 3 = .ok (.aload_n 0, 1) := dc_42 aL_order_3
theorem dL_order_4 : decode cL_order 4 = .ok (.iload_n 1, 1) := dc_27 aL_order_4
theorem dL_order_5 : decode cL_order 5 = .ok (.iload_n 2, 1) := dc_28 aL_order_5
theorem dL_order_6 : decode cL_order 6 = .ok (.iload_n 3, 1) := dc_29 aL_order_6
theorem dL_order_7 : decode cL_order 7 = .ok (.invokevirtual 100, 3) := dc_182 (a0 := 0) (b0 := 100) aL_order_7
theorem dL_order_10 : decode cL_order 10 = .ok (.i2l, 1) := dc_133 aL_order_10
theorem dL_order_11 : decode cL_order 11 = .ok (.lastore, 1) := dc_80 aL_order_11
theorem dL_order_12 : decode cL_order 12 = .ok (.goto 7, 3) := dc_167 (a0 := 0) (b0 := 7) aL_order_12 (by decide)
theorem dL_order_15 : decode cL_order 15 = .ok (.astore 5, 2) := dc_58 (a0 := 5) aL_order_15
theorem dL_order_17 : decode cL_order 17 = .ok (.iconst 1, 1) := dc_4 aL_order_17
theorem dL_order_18 : decode cL_order 18 = .ok (.ireturn, 1) := dc_172 aL_order_18
theorem dL_order_19 : decode cL_order 19 = .ok (.iconst 0, 1) := dc_3 aL_order_19
theorem dL_order_20 : decode cL_order 20 = .ok (.ireturn, 1) := dc_172 aL_order_20
noncomputable def sL_same_27 : List Nat := 172 :: []
noncomputable def sL_same_26 : List Nat := 3 :: sL_same_27
noncomputable def sL_same_25 : List Nat := 172 :: sL_same_26
noncomputable def sL_same_24 : List Nat := 4 :: sL_same_25
noncomputable def sL_same_22 : List Nat := 58 :: 5 :: sL_same_24
noncomputable def sL_same_19 : List Nat := 167 :: 0 :: 7 :: sL_same_22
noncomputable def sL_same_18 : List Nat := 80 :: sL_same_19
noncomputable def sL_same_17 : List Nat := 9 :: sL_same_18
noncomputable def sL_same_14 : List Nat := 167 :: 0 :: 4 :: sL_same_17
noncomputable def sL_same_13 : List Nat := 10 :: sL_same_14
noncomputable def sL_same_10 : List Nat := 153 :: 0 :: 7 :: sL_same_13
noncomputable def sL_same_7 : List Nat := 182 :: 0 :: 103 :: sL_same_10
noncomputable def sL_same_6 : List Nat := 29 :: sL_same_7
noncomputable def sL_same_5 : List Nat := 28 :: sL_same_6
noncomputable def sL_same_4 : List Nat := 27 :: sL_same_5
noncomputable def sL_same_3 : List Nat := 42 :: sL_same_4
noncomputable def sL_same_2 : List Nat := 3 :: sL_same_3
noncomputable def sL_same_0 : List Nat := 25 :: 4 :: sL_same_2
theorem aL_same_0 : dc_at cL_same 0 sL_same_0 := dc_base (by decide +kernel)
theorem aL_same_2 : dc_at cL_same 2 sL_same_2 := dc_n2 aL_same_0
theorem aL_same_3 : dc_at cL_same 3 sL_same_3 := dc_n1 aL_same_2
theorem aL_same_4 : dc_at cL_same 4 sL_same_4 := dc_n1 aL_same_3
theorem aL_same_5 : dc_at cL_same 5 sL_same_5 := dc_n1 aL_same_4
theorem aL_same_6 : dc_at cL_same 6 sL_same_6 := dc_n1 aL_same_5
theorem aL_same_7 : dc_at cL_same 7 sL_same_7 := dc_n1 aL_same_6
theorem aL_same_10 : dc_at cL_same 10 sL_same_10 := dc_n3 aL_same_7
theorem aL_same_13 : dc_at cL_same 13 sL_same_13 := dc_n3 aL_same_10
theorem aL_same_14 : dc_at cL_same 14 sL_same_14 := dc_n1 aL_same_13
theorem aL_same_17 : dc_at cL_same 17 sL_same_17 := dc_n3 aL_same_14
theorem aL_same_18 : dc_at cL_same 18 sL_same_18 := dc_n1 aL_same_17
theorem aL_same_19 : dc_at cL_same 19 sL_same_19 := dc_n1 aL_same_18
theorem aL_same_22 : dc_at cL_same 22 sL_same_22 := dc_n3 aL_same_19
theorem aL_same_24 : dc_at cL_same 24 sL_same_24 := dc_n2 aL_same_22
theorem aL_same_25 : dc_at cL_same 25 sL_same_25 := dc_n1 aL_same_24
theorem aL_same_26 : dc_at cL_same 26 sL_same_26 := dc_n1 aL_same_25
theorem aL_same_27 : dc_at cL_same 27 sL_same_27 := dc_n1 aL_same_26
theorem dL_same_0 : decode cL_same 0 = .ok (.aload 4, 2) := dc_25 (a0 := 4) aL_same_0
theorem dL_same_2 : decode cL_same 2 = .ok (.iconst 0, 1) := dc_3 aL_same_2
theorem dL_same_3 : decode cL_same 3 = .ok (.aload_n 0, 1) := dc_42 aL_same_3
theorem dL_same_4 : decode cL_same 4 = .ok (.iload_n 1, 1) := dc_27 aL_same_4
theorem dL_same_5 : decode cL_same 5 = .ok (.iload_n 2, 1) := dc_28 aL_same_5
theorem dL_same_6 : decode cL_same 6 = .ok (.iload_n 3, 1) := dc_29 aL_same_6
theorem dL_same_7 : decode cL_same 7 = .ok (.invokevirtual 103, 3) := dc_182 (a0 := 0) (b0 := 103) aL_same_7
theorem dL_same_10 : decode cL_same 10 = .ok (.ifCond .eq 7, 3) := dc_153 (a0 := 0) (b0 := 7) aL_same_10 (by decide)
theorem dL_same_13 : decode cL_same 13 = .ok (.lconst 1, 1) := dc_10 aL_same_13
theorem dL_same_14 : decode cL_same 14 = .ok (.goto 4, 3) := dc_167 (a0 := 0) (b0 := 4) aL_same_14 (by decide)
theorem dL_same_17 : decode cL_same 17 = .ok (.lconst 0, 1) := dc_9 aL_same_17
theorem dL_same_18 : decode cL_same 18 = .ok (.lastore, 1) := dc_80 aL_same_18
theorem dL_same_19 : decode cL_same 19 = .ok (.goto 7, 3) := dc_167 (a0 := 0) (b0 := 7) aL_same_19 (by decide)
theorem dL_same_22 : decode cL_same 22 = .ok (.astore 5, 2) := dc_58 (a0 := 5) aL_same_22
theorem dL_same_24 : decode cL_same 24 = .ok (.iconst 1, 1) := dc_4 aL_same_24
theorem dL_same_25 : decode cL_same 25 = .ok (.ireturn, 1) := dc_172 aL_same_25
theorem dL_same_26 : decode cL_same 26 = .ok (.iconst 0, 1) := dc_3 aL_same_26
theorem dL_same_27 : decode cL_same 27 = .ok (.ireturn, 1) := dc_172 aL_same_27
noncomputable def sL_births_18 : List Nat := 172 :: []
noncomputable def sL_births_17 : List Nat := 3 :: sL_births_18
noncomputable def sL_births_16 : List Nat := 172 :: sL_births_17
noncomputable def sL_births_15 : List Nat := 4 :: sL_births_16
noncomputable def sL_births_13 : List Nat := 58 :: 4 :: sL_births_15
noncomputable def sL_births_10 : List Nat := 167 :: 0 :: 7 :: sL_births_13
noncomputable def sL_births_9 : List Nat := 80 :: sL_births_10
noncomputable def sL_births_8 : List Nat := 133 :: sL_births_9
noncomputable def sL_births_5 : List Nat := 182 :: 0 :: 107 :: sL_births_8
noncomputable def sL_births_4 : List Nat := 28 :: sL_births_5
noncomputable def sL_births_3 : List Nat := 27 :: sL_births_4
noncomputable def sL_births_2 : List Nat := 42 :: sL_births_3
noncomputable def sL_births_1 : List Nat := 3 :: sL_births_2
noncomputable def sL_births_0 : List Nat := 45 :: sL_births_1
theorem aL_births_0 : dc_at cL_births 0 sL_births_0 := dc_base (by decide +kernel)
theorem aL_births_1 : dc_at cL_births 1 sL_births_1 := dc_n1 aL_births_0
theorem aL_births_2 : dc_at cL_births 2 sL_births_2 := dc_n1 aL_births_1
theorem aL_births_3 : dc_at cL_births 3 sL_births_3 := dc_n1 aL_births_2
theorem aL_births_4 : dc_at cL_births 4 sL_births_4 := dc_n1 aL_births_3
theorem aL_births_5 : dc_at cL_births 5 sL_births_5 := dc_n1 aL_births_4
theorem aL_births_8 : dc_at cL_births 8 sL_births_8 := dc_n3 aL_births_5
theorem aL_births_9 : dc_at cL_births 9 sL_births_9 := dc_n1 aL_births_8
theorem aL_births_10 : dc_at cL_births 10 sL_births_10 := dc_n1 aL_births_9
theorem aL_births_13 : dc_at cL_births 13 sL_births_13 := dc_n3 aL_births_10
theorem aL_births_15 : dc_at cL_births 15 sL_births_15 := dc_n2 aL_births_13
theorem aL_births_16 : dc_at cL_births 16 sL_births_16 := dc_n1 aL_births_15
theorem aL_births_17 : dc_at cL_births 17 sL_births_17 := dc_n1 aL_births_16
theorem aL_births_18 : dc_at cL_births 18 sL_births_18 := dc_n1 aL_births_17
theorem dL_births_0 : decode cL_births 0 = .ok (.aload_n 3, 1) := dc_45 aL_births_0
theorem dL_births_1 : decode cL_births 1 = .ok (.iconst 0, 1) := dc_3 aL_births_1
theorem dL_births_2 : decode cL_births 2 = .ok (.aload_n 0, 1) := dc_42 aL_births_2
theorem dL_births_3 : decode cL_births 3 = .ok (.iload_n 1, 1) := dc_27 aL_births_3
theorem dL_births_4 : decode cL_births 4 = .ok (.iload_n 2, 1) := dc_28 aL_births_4
theorem dL_births_5 : decode cL_births 5 = .ok (.invokevirtual 107, 3) := dc_182 (a0 := 0) (b0 := 107) aL_births_5
theorem dL_births_8 : decode cL_births 8 = .ok (.i2l, 1) := dc_133 aL_births_8
theorem dL_births_9 : decode cL_births 9 = .ok (.lastore, 1) := dc_80 aL_births_9
theorem dL_births_10 : decode cL_births 10 = .ok (.goto 7, 3) := dc_167 (a0 := 0) (b0 := 7) aL_births_10 (by decide)
theorem dL_births_13 : decode cL_births 13 = .ok (.astore 4, 2) := dc_58 (a0 := 4) aL_births_13
theorem dL_births_15 : decode cL_births 15 = .ok (.iconst 1, 1) := dc_4 aL_births_15
theorem dL_births_16 : decode cL_births 16 = .ok (.ireturn, 1) := dc_172 aL_births_16
theorem dL_births_17 : decode cL_births 17 = .ok (.iconst 0, 1) := dc_3 aL_births_17
theorem dL_births_18 : decode cL_births 18 = .ok (.ireturn, 1) := dc_172 aL_births_18
noncomputable def sL_whence_16 : List Nat := 172 :: []
noncomputable def sL_whence_15 : List Nat := 3 :: sL_whence_16
noncomputable def sL_whence_14 : List Nat := 172 :: sL_whence_15
noncomputable def sL_whence_13 : List Nat := 4 :: sL_whence_14
noncomputable def sL_whence_12 : List Nat := 78 :: sL_whence_13
noncomputable def sL_whence_9 : List Nat := 167 :: 0 :: 6 :: sL_whence_12
noncomputable def sL_whence_8 : List Nat := 80 :: sL_whence_9
noncomputable def sL_whence_7 : List Nat := 133 :: sL_whence_8
noncomputable def sL_whence_4 : List Nat := 182 :: 0 :: 110 :: sL_whence_7
noncomputable def sL_whence_3 : List Nat := 27 :: sL_whence_4
noncomputable def sL_whence_2 : List Nat := 42 :: sL_whence_3
noncomputable def sL_whence_1 : List Nat := 3 :: sL_whence_2
noncomputable def sL_whence_0 : List Nat := 44 :: sL_whence_1
theorem aL_whence_0 : dc_at cL_whence 0 sL_whence_0 := dc_base (by decide +kernel)
theorem aL_whence_1 : dc_at cL_whence 1 sL_whence_1 := dc_n1 aL_whence_0
theorem aL_whence_2 : dc_at cL_whence 2 sL_whence_2 := dc_n1 aL_whence_1
theorem aL_whence_3 : dc_at cL_whence 3 sL_whence_3 := dc_n1 aL_whence_2
theorem aL_whence_4 : dc_at cL_whence 4 sL_whence_4 := dc_n1 aL_whence_3
theorem aL_whence_7 : dc_at cL_whence 7 sL_whence_7 := dc_n3 aL_whence_4
theorem aL_whence_8 : dc_at cL_whence 8 sL_whence_8 := dc_n1 aL_whence_7
theorem aL_whence_9 : dc_at cL_whence 9 sL_whence_9 := dc_n1 aL_whence_8
theorem aL_whence_12 : dc_at cL_whence 12 sL_whence_12 := dc_n3 aL_whence_9
theorem aL_whence_13 : dc_at cL_whence 13 sL_whence_13 := dc_n1 aL_whence_12
theorem aL_whence_14 : dc_at cL_whence 14 sL_whence_14 := dc_n1 aL_whence_13
theorem aL_whence_15 : dc_at cL_whence 15 sL_whence_15 := dc_n1 aL_whence_14
theorem aL_whence_16 : dc_at cL_whence 16 sL_whence_16 := dc_n1 aL_whence_15
theorem dL_whence_0 : decode cL_whence 0 = .ok (.aload_n 2, 1) := dc_44 aL_whence_0
theorem dL_whence_1 : decode cL_whence 1 = .ok (.iconst 0, 1) := dc_3 aL_whence_1
theorem dL_whence_2 : decode cL_whence 2 = .ok (.aload_n 0, 1) := dc_42 aL_whence_2
theorem dL_whence_3 : decode cL_whence 3 = .ok (.iload_n 1, 1) := dc_27 aL_whence_3
theorem dL_whence_4 : decode cL_whence 4 = .ok (.invokevirtual 110, 3) := dc_182 (a0 := 0) (b0 := 110) aL_whence_4
theorem dL_whence_7 : decode cL_whence 7 = .ok (.i2l, 1) := dc_133 aL_whence_7
theorem dL_whence_8 : decode cL_whence 8 = .ok (.lastore, 1) := dc_80 aL_whence_8
theorem dL_whence_9 : decode cL_whence 9 = .ok (.goto 6, 3) := dc_167 (a0 := 0) (b0 := 6) aL_whence_9 (by decide)
theorem dL_whence_12 : decode cL_whence 12 = .ok (.astore_n 3, 1) := dc_78 aL_whence_12
theorem dL_whence_13 : decode cL_whence 13 = .ok (.iconst 1, 1) := dc_4 aL_whence_13
theorem dL_whence_14 : decode cL_whence 14 = .ok (.ireturn, 1) := dc_172 aL_whence_14
theorem dL_whence_15 : decode cL_whence 15 = .ok (.iconst 0, 1) := dc_3 aL_whence_15
theorem dL_whence_16 : decode cL_whence 16 = .ok (.ireturn, 1) := dc_172 aL_whence_16
noncomputable def sL_life_27 : List Nat := 172 :: []
noncomputable def sL_life_26 : List Nat := 3 :: sL_life_27
noncomputable def sL_life_25 : List Nat := 172 :: sL_life_26
noncomputable def sL_life_24 : List Nat := 4 :: sL_life_25
noncomputable def sL_life_22 : List Nat := 58 :: 5 :: sL_life_24
noncomputable def sL_life_19 : List Nat := 167 :: 0 :: 7 :: sL_life_22
noncomputable def sL_life_18 : List Nat := 80 :: sL_life_19
noncomputable def sL_life_17 : List Nat := 9 :: sL_life_18
noncomputable def sL_life_14 : List Nat := 167 :: 0 :: 4 :: sL_life_17
noncomputable def sL_life_13 : List Nat := 10 :: sL_life_14
noncomputable def sL_life_10 : List Nat := 153 :: 0 :: 7 :: sL_life_13
noncomputable def sL_life_7 : List Nat := 182 :: 0 :: 113 :: sL_life_10
noncomputable def sL_life_6 : List Nat := 29 :: sL_life_7
noncomputable def sL_life_5 : List Nat := 28 :: sL_life_6
noncomputable def sL_life_4 : List Nat := 27 :: sL_life_5
noncomputable def sL_life_3 : List Nat := 42 :: sL_life_4
noncomputable def sL_life_2 : List Nat := 3 :: sL_life_3
noncomputable def sL_life_0 : List Nat := 25 :: 4 :: sL_life_2
theorem aL_life_0 : dc_at cL_life 0 sL_life_0 := dc_base (by decide +kernel)
theorem aL_life_2 : dc_at cL_life 2 sL_life_2 := dc_n2 aL_life_0
theorem aL_life_3 : dc_at cL_life 3 sL_life_3 := dc_n1 aL_life_2
theorem aL_life_4 : dc_at cL_life 4 sL_life_4 := dc_n1 aL_life_3
theorem aL_life_5 : dc_at cL_life 5 sL_life_5 := dc_n1 aL_life_4
theorem aL_life_6 : dc_at cL_life 6 sL_life_6 := dc_n1 aL_life_5
theorem aL_life_7 : dc_at cL_life 7 sL_life_7 := dc_n1 aL_life_6
theorem aL_life_10 : dc_at cL_life 10 sL_life_10 := dc_n3 aL_life_7
theorem aL_life_13 : dc_at cL_life 13 sL_life_13 := dc_n3 aL_life_10
theorem aL_life_14 : dc_at cL_life 14 sL_life_14 := dc_n1 aL_life_13
theorem aL_life_17 : dc_at cL_life 17 sL_life_17 := dc_n3 aL_life_14
theorem aL_life_18 : dc_at cL_life 18 sL_life_18 := dc_n1 aL_life_17
theorem aL_life_19 : dc_at cL_life 19 sL_life_19 := dc_n1 aL_life_18
theorem aL_life_22 : dc_at cL_life 22 sL_life_22 := dc_n3 aL_life_19
theorem aL_life_24 : dc_at cL_life 24 sL_life_24 := dc_n2 aL_life_22
theorem aL_life_25 : dc_at cL_life 25 sL_life_25 := dc_n1 aL_life_24
theorem aL_life_26 : dc_at cL_life 26 sL_life_26 := dc_n1 aL_life_25
theorem aL_life_27 : dc_at cL_life 27 sL_life_27 := dc_n1 aL_life_26
theorem dL_life_0 : decode cL_life 0 = .ok (.aload 4, 2) := dc_25 (a0 := 4) aL_life_0
theorem dL_life_2 : decode cL_life 2 = .ok (.iconst 0, 1) := dc_3 aL_life_2
theorem dL_life_3 : decode cL_life 3 = .ok (.aload_n 0, 1) := dc_42 aL_life_3
theorem dL_life_4 : decode cL_life 4 = .ok (.iload_n 1, 1) := dc_27 aL_life_4
theorem dL_life_5 : decode cL_life 5 = .ok (.iload_n 2, 1) := dc_28 aL_life_5
theorem dL_life_6 : decode cL_life 6 = .ok (.iload_n 3, 1) := dc_29 aL_life_6
theorem dL_life_7 : decode cL_life 7 = .ok (.invokevirtual 113, 3) := dc_182 (a0 := 0) (b0 := 113) aL_life_7
theorem dL_life_10 : decode cL_life 10 = .ok (.ifCond .eq 7, 3) := dc_153 (a0 := 0) (b0 := 7) aL_life_10 (by decide)
theorem dL_life_13 : decode cL_life 13 = .ok (.lconst 1, 1) := dc_10 aL_life_13
theorem dL_life_14 : decode cL_life 14 = .ok (.goto 4, 3) := dc_167 (a0 := 0) (b0 := 4) aL_life_14 (by decide)
theorem dL_life_17 : decode cL_life 17 = .ok (.lconst 0, 1) := dc_9 aL_life_17
theorem dL_life_18 : decode cL_life 18 = .ok (.lastore, 1) := dc_80 aL_life_18
theorem dL_life_19 : decode cL_life 19 = .ok (.goto 7, 3) := dc_167 (a0 := 0) (b0 := 7) aL_life_19 (by decide)
theorem dL_life_22 : decode cL_life 22 = .ok (.astore 5, 2) := dc_58 (a0 := 5) aL_life_22
theorem dL_life_24 : decode cL_life 24 = .ok (.iconst 1, 1) := dc_4 aL_life_24
theorem dL_life_25 : decode cL_life 25 = .ok (.ireturn, 1) := dc_172 aL_life_25
theorem dL_life_26 : decode cL_life 26 = .ok (.iconst 0, 1) := dc_3 aL_life_26
theorem dL_life_27 : decode cL_life 27 = .ok (.ireturn, 1) := dc_172 aL_life_27
noncomputable def sL_fate_25 : List Nat := 172 :: []
noncomputable def sL_fate_24 : List Nat := 3 :: sL_fate_25
noncomputable def sL_fate_23 : List Nat := 172 :: sL_fate_24
noncomputable def sL_fate_22 : List Nat := 4 :: sL_fate_23
noncomputable def sL_fate_20 : List Nat := 58 :: 4 :: sL_fate_22
noncomputable def sL_fate_17 : List Nat := 167 :: 0 :: 7 :: sL_fate_20
noncomputable def sL_fate_16 : List Nat := 80 :: sL_fate_17
noncomputable def sL_fate_15 : List Nat := 9 :: sL_fate_16
noncomputable def sL_fate_12 : List Nat := 167 :: 0 :: 4 :: sL_fate_15
noncomputable def sL_fate_11 : List Nat := 10 :: sL_fate_12
noncomputable def sL_fate_8 : List Nat := 153 :: 0 :: 7 :: sL_fate_11
noncomputable def sL_fate_5 : List Nat := 182 :: 0 :: 116 :: sL_fate_8
noncomputable def sL_fate_4 : List Nat := 28 :: sL_fate_5
noncomputable def sL_fate_3 : List Nat := 27 :: sL_fate_4
noncomputable def sL_fate_2 : List Nat := 42 :: sL_fate_3
noncomputable def sL_fate_1 : List Nat := 3 :: sL_fate_2
noncomputable def sL_fate_0 : List Nat := 45 :: sL_fate_1
theorem aL_fate_0 : dc_at cL_fate 0 sL_fate_0 := dc_base (by decide +kernel)
theorem aL_fate_1 : dc_at cL_fate 1 sL_fate_1 := dc_n1 aL_fate_0
theorem aL_fate_2 : dc_at cL_fate 2 sL_fate_2 := dc_n1 aL_fate_1
theorem aL_fate_3 : dc_at cL_fate 3 sL_fate_3 := dc_n1 aL_fate_2
theorem aL_fate_4 : dc_at cL_fate 4 sL_fate_4 := dc_n1 aL_fate_3
theorem aL_fate_5 : dc_at cL_fate 5 sL_fate_5 := dc_n1 aL_fate_4
theorem aL_fate_8 : dc_at cL_fate 8 sL_fate_8 := dc_n3 aL_fate_5
theorem aL_fate_11 : dc_at cL_fate 11 sL_fate_11 := dc_n3 aL_fate_8
theorem aL_fate_12 : dc_at cL_fate 12 sL_fate_12 := dc_n1 aL_fate_11
theorem aL_fate_15 : dc_at cL_fate 15 sL_fate_15 := dc_n3 aL_fate_12
theorem aL_fate_16 : dc_at cL_fate 16 sL_fate_16 := dc_n1 aL_fate_15
theorem aL_fate_17 : dc_at cL_fate 17 sL_fate_17 := dc_n1 aL_fate_16
theorem aL_fate_20 : dc_at cL_fate 20 sL_fate_20 := dc_n3 aL_fate_17
theorem aL_fate_22 : dc_at cL_fate 22 sL_fate_22 := dc_n2 aL_fate_20
theorem aL_fate_23 : dc_at cL_fate 23 sL_fate_23 := dc_n1 aL_fate_22
theorem aL_fate_24 : dc_at cL_fate 24 sL_fate_24 := dc_n1 aL_fate_23
theorem aL_fate_25 : dc_at cL_fate 25 sL_fate_25 := dc_n1 aL_fate_24
theorem dL_fate_0 : decode cL_fate 0 = .ok (.aload_n 3, 1) := dc_45 aL_fate_0
theorem dL_fate_1 : decode cL_fate 1 = .ok (.iconst 0, 1) := dc_3 aL_fate_1
theorem dL_fate_2 : decode cL_fate 2 = .ok (.aload_n 0, 1) := dc_42 aL_fate_2
theorem dL_fate_3 : decode cL_fate 3 = .ok (.iload_n 1, 1) := dc_27 aL_fate_3
theorem dL_fate_4 : decode cL_fate 4 = .ok (.iload_n 2, 1) := dc_28 aL_fate_4
theorem dL_fate_5 : decode cL_fate 5 = .ok (.invokevirtual 116, 3) := dc_182 (a0 := 0) (b0 := 116) aL_fate_5
theorem dL_fate_8 : decode cL_fate 8 = .ok (.ifCond .eq 7, 3) := dc_153 (a0 := 0) (b0 := 7) aL_fate_8 (by decide)
theorem dL_fate_11 : decode cL_fate 11 = .ok (.lconst 1, 1) := dc_10 aL_fate_11
theorem dL_fate_12 : decode cL_fate 12 = .ok (.goto 4, 3) := dc_167 (a0 := 0) (b0 := 4) aL_fate_12 (by decide)
theorem dL_fate_15 : decode cL_fate 15 = .ok (.lconst 0, 1) := dc_9 aL_fate_15
theorem dL_fate_16 : decode cL_fate 16 = .ok (.lastore, 1) := dc_80 aL_fate_16
theorem dL_fate_17 : decode cL_fate 17 = .ok (.goto 7, 3) := dc_167 (a0 := 0) (b0 := 7) aL_fate_17 (by decide)
theorem dL_fate_20 : decode cL_fate 20 = .ok (.astore 4, 2) := dc_58 (a0 := 4) aL_fate_20
theorem dL_fate_22 : decode cL_fate 22 = .ok (.iconst 1, 1) := dc_4 aL_fate_22
theorem dL_fate_23 : decode cL_fate 23 = .ok (.ireturn, 1) := dc_172 aL_fate_23
theorem dL_fate_24 : decode cL_fate 24 = .ok (.iconst 0, 1) := dc_3 aL_fate_24
theorem dL_fate_25 : decode cL_fate 25 = .ok (.ireturn, 1) := dc_172 aL_fate_25
noncomputable def sL_fates_16 : List Nat := 172 :: []
noncomputable def sL_fates_15 : List Nat := 3 :: sL_fates_16
noncomputable def sL_fates_14 : List Nat := 172 :: sL_fates_15
noncomputable def sL_fates_13 : List Nat := 4 :: sL_fates_14
noncomputable def sL_fates_12 : List Nat := 78 :: sL_fates_13
noncomputable def sL_fates_9 : List Nat := 167 :: 0 :: 6 :: sL_fates_12
noncomputable def sL_fates_8 : List Nat := 80 :: sL_fates_9
noncomputable def sL_fates_7 : List Nat := 133 :: sL_fates_8
noncomputable def sL_fates_4 : List Nat := 182 :: 0 :: 120 :: sL_fates_7
noncomputable def sL_fates_3 : List Nat := 27 :: sL_fates_4
noncomputable def sL_fates_2 : List Nat := 42 :: sL_fates_3
noncomputable def sL_fates_1 : List Nat := 3 :: sL_fates_2
noncomputable def sL_fates_0 : List Nat := 44 :: sL_fates_1
theorem aL_fates_0 : dc_at cL_fates 0 sL_fates_0 := dc_base (by decide +kernel)
theorem aL_fates_1 : dc_at cL_fates 1 sL_fates_1 := dc_n1 aL_fates_0
theorem aL_fates_2 : dc_at cL_fates 2 sL_fates_2 := dc_n1 aL_fates_1
theorem aL_fates_3 : dc_at cL_fates 3 sL_fates_3 := dc_n1 aL_fates_2
theorem aL_fates_4 : dc_at cL_fates 4 sL_fates_4 := dc_n1 aL_fates_3
theorem aL_fates_7 : dc_at cL_fates 7 sL_fates_7 := dc_n3 aL_fates_4
theorem aL_fates_8 : dc_at cL_fates 8 sL_fates_8 := dc_n1 aL_fates_7
theorem aL_fates_9 : dc_at cL_fates 9 sL_fates_9 := dc_n1 aL_fates_8
theorem aL_fates_12 : dc_at cL_fates 12 sL_fates_12 := dc_n3 aL_fates_9
theorem aL_fates_13 : dc_at cL_fates 13 sL_fates_13 := dc_n1 aL_fates_12
theorem aL_fates_14 : dc_at cL_fates 14 sL_fates_14 := dc_n1 aL_fates_13
theorem aL_fates_15 : dc_at cL_fates 15 sL_fates_15 := dc_n1 aL_fates_14
theorem aL_fates_16 : dc_at cL_fates 16 sL_fates_16 := dc_n1 aL_fates_15
theorem dL_fates_0 : decode cL_fates 0 = .ok (.aload_n 2, 1) := dc_44 aL_fates_0
theorem dL_fates_1 : decode cL_fates 1 = .ok (.iconst 0, 1) := dc_3 aL_fates_1
theorem dL_fates_2 : decode cL_fates 2 = .ok (.aload_n 0, 1) := dc_42 aL_fates_2
theorem dL_fates_3 : decode cL_fates 3 = .ok (.iload_n 1, 1) := dc_27 aL_fates_3
theorem dL_fates_4 : decode cL_fates 4 = .ok (.invokevirtual 120, 3) := dc_182 (a0 := 0) (b0 := 120) aL_fates_4
theorem dL_fates_7 : decode cL_fates 7 = .ok (.i2l, 1) := dc_133 aL_fates_7
theorem dL_fates_8 : decode cL_fates 8 = .ok (.lastore, 1) := dc_80 aL_fates_8
theorem dL_fates_9 : decode cL_fates 9 = .ok (.goto 6, 3) := dc_167 (a0 := 0) (b0 := 6) aL_fates_9 (by decide)
theorem dL_fates_12 : decode cL_fates 12 = .ok (.astore_n 3, 1) := dc_78 aL_fates_12
theorem dL_fates_13 : decode cL_fates 13 = .ok (.iconst 1, 1) := dc_4 aL_fates_13
theorem dL_fates_14 : decode cL_fates 14 = .ok (.ireturn, 1) := dc_172 aL_fates_14
theorem dL_fates_15 : decode cL_fates 15 = .ok (.iconst 0, 1) := dc_3 aL_fates_15
theorem dL_fates_16 : decode cL_fates 16 = .ok (.ireturn, 1) := dc_172 aL_fates_16
noncomputable def sL_hits_18 : List Nat := 172 :: []
noncomputable def sL_hits_17 : List Nat := 3 :: sL_hits_18
noncomputable def sL_hits_16 : List Nat := 172 :: sL_hits_17
noncomputable def sL_hits_15 : List Nat := 4 :: sL_hits_16
noncomputable def sL_hits_13 : List Nat := 58 :: 4 :: sL_hits_15
noncomputable def sL_hits_10 : List Nat := 167 :: 0 :: 7 :: sL_hits_13
noncomputable def sL_hits_9 : List Nat := 80 :: sL_hits_10
noncomputable def sL_hits_8 : List Nat := 133 :: sL_hits_9
noncomputable def sL_hits_5 : List Nat := 182 :: 0 :: 123 :: sL_hits_8
noncomputable def sL_hits_4 : List Nat := 28 :: sL_hits_5
noncomputable def sL_hits_3 : List Nat := 27 :: sL_hits_4
noncomputable def sL_hits_2 : List Nat := 42 :: sL_hits_3
noncomputable def sL_hits_1 : List Nat := 3 :: sL_hits_2
noncomputable def sL_hits_0 : List Nat := 45 :: sL_hits_1
theorem aL_hits_0 : dc_at cL_hits 0 sL_hits_0 := dc_base (by decide +kernel)
theorem aL_hits_1 : dc_at cL_hits 1 sL_hits_1 := dc_n1 aL_hits_0
theorem aL_hits_2 : dc_at cL_hits 2 sL_hits_2 := dc_n1 aL_hits_1
theorem aL_hits_3 : dc_at cL_hits 3 sL_hits_3 := dc_n1 aL_hits_2
theorem aL_hits_4 : dc_at cL_hits 4 sL_hits_4 := dc_n1 aL_hits_3
theorem aL_hits_5 : dc_at cL_hits 5 sL_hits_5 := dc_n1 aL_hits_4
theorem aL_hits_8 : dc_at cL_hits 8 sL_hits_8 := dc_n3 aL_hits_5
theorem aL_hits_9 : dc_at cL_hits 9 sL_hits_9 := dc_n1 aL_hits_8
theorem aL_hits_10 : dc_at cL_hits 10 sL_hits_10 := dc_n1 aL_hits_9
theorem aL_hits_13 : dc_at cL_hits 13 sL_hits_13 := dc_n3 aL_hits_10
theorem aL_hits_15 : dc_at cL_hits 15 sL_hits_15 := dc_n2 aL_hits_13
theorem aL_hits_16 : dc_at cL_hits 16 sL_hits_16 := dc_n1 aL_hits_15
theorem aL_hits_17 : dc_at cL_hits 17 sL_hits_17 := dc_n1 aL_hits_16
theorem aL_hits_18 : dc_at cL_hits 18 sL_hits_18 := dc_n1 aL_hits_17
theorem dL_hits_0 : decode cL_hits 0 = .ok (.aload_n 3, 1) := dc_45 aL_hits_0
theorem dL_hits_1 : decode cL_hits 1 = .ok (.iconst 0, 1) := dc_3 aL_hits_1
theorem dL_hits_2 : decode cL_hits 2 = .ok (.aload_n 0, 1) := dc_42 aL_hits_2
theorem dL_hits_3 : decode cL_hits 3 = .ok (.iload_n 1, 1) := dc_27 aL_hits_3
theorem dL_hits_4 : decode cL_hits 4 = .ok (.iload_n 2, 1) := dc_28 aL_hits_4
theorem dL_hits_5 : decode cL_hits 5 = .ok (.invokevirtual 123, 3) := dc_182 (a0 := 0) (b0 := 123) aL_hits_5
theorem dL_hits_8 : decode cL_hits 8 = .ok (.i2l, 1) := dc_133 aL_hits_8
theorem dL_hits_9 : decode cL_hits 9 = .ok (.lastore, 1) := dc_80 aL_hits_9
theorem dL_hits_10 : decode cL_hits 10 = .ok (.goto 7, 3) := dc_167 (a0 := 0) (b0 := 7) aL_hits_10 (by decide)
theorem dL_hits_13 : decode cL_hits 13 = .ok (.astore 4, 2) := dc_58 (a0 := 4) aL_hits_13
theorem dL_hits_15 : decode cL_hits 15 = .ok (.iconst 1, 1) := dc_4 aL_hits_15
theorem dL_hits_16 : decode cL_hits 16 = .ok (.ireturn, 1) := dc_172 aL_hits_16
theorem dL_hits_17 : decode cL_hits 17 = .ok (.iconst 0, 1) := dc_3 aL_hits_17
theorem dL_hits_18 : decode cL_hits 18 = .ok (.ireturn, 1) := dc_172 aL_hits_18
