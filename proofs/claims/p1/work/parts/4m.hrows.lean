set_option maxRecDepth 20000 in
theorem ggL_house_X11_house : GoodIn wsL_house wsX11_house := goodIn_ca (goodIn_r _ [6, 7, 8, 9, 10, 11, 12, 13, 5, 14, 15, 16, 17, 18, 19, 20, 21, 22, 23, 24, 25, 26, 27, 28, 29, 30, 31, 32, 33, 34, 35, 36, 37, 38, 39, 40, 41, 42, 43, 44, 45, 46, 47, 48, 49, 50, 51, 52, 53, 54, 55, 56, 57, 58, 59, 60, 61, 62, 63, 64, 65, 66, 67, 68, 69, 70, 71, 72, 73, 74, 75, 76, 77, 78, 79, 80, 81, 82, 83, 84, 85, 86, 87, 88, 89, 90, 91, 92, 93, 94, 95, 96, 97, 98, 99, 100, 101, 102, 103, 104, 105, 106, 107, 108, 109, 110, 111, 112, 113, 114, 115, 116, 117, 118, 119, 120, 121, 122, 123, 124, 125, 126, 127, 128, 129, 130, 131, 132, 133, 134, 135, 136, 137, 138, 139, 140, 141, 142, 143, 144, 145, 146, 147, 148, 149, 150, 151, 152, 153, 154, 155, 156, 157, 158, 159, 160, 161, 162, 163, 164, 165, 166, 167, 168, 169, 170, 171, 172, 173, 174, 175, 176, 177, 178, 179, 180, 181, 182, 183, 184, 185, 186, 187, 188, 189, 190, 191, 192, 193, 194, 195, 196, 197, 198, 199, 200, 201, 202, 203, 204, 205, 206, 207, 208, 209, 210, 211, 212, 213, 214, 215, 216, 217, 218, 219, 220, 221, 222, 223, 224, 225, 226, 227, 228, 229, 230, 231, 232, 233, 234, 235, 236, 237, 238, 239, 240, 241, 242, 243, 244] (by decide +kernel) (by decide +kernel)) (goodIn_sub (fun _ h => List.mem_cons_of_mem _ (List.mem_append_right _ h)) (by decide +kernel))
set_option maxRecDepth 20000 in
theorem gL_house_X11_house : GoodIn wsL_house (wsV RL 7 RX11 yX11_house wsX11_house) := goodIn_app (goodIn_of _ (by decide +kernel)) ggL_house_X11_house
theorem dL_house_0 : decode cL_house 0 = .ok (.aload_n 2, 1) := by decide +kernel
theorem dL_house_1 : decode cL_house 1 = .ok (.iconst 0, 1) := by decide +kernel
theorem dL_house_2 : decode cL_house 2 = .ok (.aload_n 0, 1) := by decide +kernel
theorem dL_house_3 : decode cL_house 3 = .ok (.iload_n 1, 1) := by decide +kernel
theorem dL_house_4 : decode cL_house 4 = .ok (.invokevirtual 7, 3) := by decide +kernel
theorem dL_house_7 : decode cL_house 7 = .ok (.i2l, 1) := by decide +kernel
theorem dL_house_8 : decode cL_house 8 = .ok (.lastore, 1) := by decide +kernel
theorem dL_house_9 : decode cL_house 9 = .ok (.goto 6, 3) := by decide +kernel
theorem dL_house_12 : decode cL_house 12 = .ok (.astore_n 3, 1) := by decide +kernel
theorem dL_house_13 : decode cL_house 13 = .ok (.iconst 1, 1) := by decide +kernel
theorem dL_house_14 : decode cL_house 14 = .ok (.ireturn, 1) := by decide +kernel
theorem dL_house_15 : decode cL_house 15 = .ok (.iconst 0, 1) := by decide +kernel
theorem dL_house_16 : decode cL_house 16 = .ok (.ireturn, 1) := by decide +kernel
theorem dL_wheel_0 : decode cL_wheel 0 = .ok (.aload 4, 2) := by decide +kernel
theorem dL_wheel_2 : decode cL_wheel 2 = .ok (.iconst 0, 1) := by decide +kernel
theorem dL_wheel_3 : decode cL_wheel 3 = .ok (.aload_n 0, 1) := by decide +kernel
theorem dL_wheel_4 : decode cL_wheel 4 = .ok (.iload_n 1, 1) := by decide +kernel
theorem dL_wheel_5 : decode cL_wheel 5 = .ok (.iload_n 2, 1) := by decide +kernel
theorem dL_wheel_6 : decode cL_wheel 6 = .ok (.iload_n 3, 1) := by decide +kernel
theorem dL_wheel_7 : decode cL_wheel 7 = .ok (.invokevirtual 15, 3) := by decide +kernel
theorem dL_wheel_10 : decode cL_wheel 10 = .ok (.i2l, 1) := by decide +kernel
theorem dL_wheel_11 : decode cL_wheel 11 = .ok (.lastore, 1) := by decide +kernel
theorem dL_wheel_12 : decode cL_wheel 12 = .ok (.goto 11, 3) := by decide +kernel
theorem dL_wheel_15 : decode cL_wheel 15 = .ok (.astore 5, 2) := by decide +kernel
theorem dL_wheel_17 : decode cL_wheel 17 = .ok (.iconst 1, 1) := by decide +kernel
theorem dL_wheel_18 : decode cL_wheel 18 = .ok (.ireturn, 1) := by decide +kernel
theorem dL_wheel_19 : decode cL_wheel 19 = .ok (.astore 5, 2) := by decide +kernel
theorem dL_wheel_21 : decode cL_wheel 21 = .ok (.iconst 2, 1) := by decide +kernel
theorem dL_wheel_22 : decode cL_wheel 22 = .ok (.ireturn, 1) := by decide +kernel
theorem dL_wheel_23 : decode cL_wheel 23 = .ok (.iconst 0, 1) := by decide +kernel
theorem dL_wheel_24 : decode cL_wheel 24 = .ok (.ireturn, 1) := by decide +kernel
theorem dL_count_0 : decode cL_count 0 = .ok (.aload_n 2, 1) := by decide +kernel
theorem dL_count_1 : decode cL_count 1 = .ok (.iconst 0, 1) := by decide +kernel
theorem dL_count_2 : decode cL_count 2 = .ok (.aload_n 0, 1) := by decide +kernel
theorem dL_count_3 : decode cL_count 3 = .ok (.iload_n 1, 1) := by decide +kernel
theorem dL_count_4 : decode cL_count 4 = .ok (.invokevirtual 21, 3) := by decide +kernel
theorem dL_count_7 : decode cL_count 7 = .ok (.i2l, 1) := by decide +kernel
theorem dL_count_8 : decode cL_count 8 = .ok (.lastore, 1) := by decide +kernel
theorem dL_count_9 : decode cL_count 9 = .ok (.goto 6, 3) := by decide +kernel
theorem dL_count_12 : decode cL_count 12 = .ok (.astore_n 3, 1) := by decide +kernel
theorem dL_count_13 : decode cL_count 13 = .ok (.iconst 1, 1) := by decide +kernel
theorem dL_count_14 : decode cL_count 14 = .ok (.ireturn, 1) := by decide +kernel
theorem dL_count_15 : decode cL_count 15 = .ok (.iconst 0, 1) := by decide +kernel
theorem dL_count_16 : decode cL_count 16 = .ok (.ireturn, 1) := by decide +kernel
theorem dL_place_0 : decode cL_place 0 = .ok (.aload 4, 2) := by decide +kernel
theorem dL_place_2 : decode cL_place 2 = .ok (.iconst 0, 1) := by decide +kernel
theorem dL_place_3 : decode cL_place 3 = .ok (.aload_n 0, 1) := by decide +kernel
theorem dL_place_4 : decode cL_place 4 = .ok (.iload_n 1, 1) := by decide +kernel
theorem dL_place_5 : decode cL_place 5 = .ok (.iload_n 2, 1) := by decide +kernel
theorem dL_place_6 : decode cL_place 6 = .ok (.iload_n 3, 1) := by decide +kernel
theorem dL_place_7 : decode cL_place 7 = .ok (.invokevirtual 24, 3) := by decide +kernel
theorem dL_place_10 : decode cL_place 10 = .ok (.i2l, 1) := by decide +kernel
theorem dL_place_11 : decode cL_place 11 = .ok (.lastore, 1) := by decide +kernel
theorem dL_place_12 : decode cL_place 12 = .ok (.goto 7, 3) := by decide +kernel
theorem dL_place_15 : decode cL_place 15 = .ok (.astore 5, 2) := by decide +kernel
theorem dL_place_17 : decode cL_place 17 = .ok (.iconst 1, 1) := by decide +kernel
theorem dL_place_18 : decode cL_place 18 = .ok (.ireturn, 1) := by decide +kernel
theorem dL_place_19 : decode cL_place 19 = .ok (.iconst 0, 1) := by decide +kernel
theorem dL_place_20 : decode cL_place 20 = .ok (.ireturn, 1) := by decide +kernel
theorem dL_entry_0 : decode cL_entry 0 = .ok (.aload 4, 2) := by decide +kernel
theorem dL_entry_2 : decode cL_entry 2 = .ok (.iconst 0, 1) := by decide +kernel
theorem dL_entry_3 : decode cL_entry 3 = .ok (.aload_n 0, 1) := by decide +kernel
theorem dL_entry_4 : decode cL_entry 4 = .ok (.iload_n 1, 1) := by decide +kernel
theorem dL_entry_5 : decode cL_entry 5 = .ok (.iload_n 2, 1) := by decide +kernel
theorem dL_entry_6 : decode cL_entry 6 = .ok (.iload_n 3, 1) := by decide +kernel
theorem dL_entry_7 : decode cL_entry 7 = .ok (.invokevirtual 27, 3) := by decide +kernel
theorem dL_entry_10 : decode cL_entry 10 = .ok (.i2l, 1) := by decide +kernel
theorem dL_entry_11 : decode cL_entry 11 = .ok (.lastore, 1) := by decide +kernel
theorem dL_entry_12 : decode cL_entry 12 = .ok (.goto 7, 3) := by decide +kernel
theorem dL_entry_15 : decode cL_entry 15 = .ok (.astore 5, 2) := by decide +kernel
theorem dL_entry_17 : decode cL_entry 17 = .ok (.iconst 1, 1) := by decide +kernel
theorem dL_entry_18 : decode cL_entry 18 = .ok (.ireturn, 1) := by decide +kernel
theorem dL_entry_19 : decode cL_entry 19 = .ok (.iconst 0, 1) := by decide +kernel
theorem dL_entry_20 : decode cL_entry 20 = .ok (.ireturn, 1) := by decide +kernel
theorem dL_cost_0 : decode cL_cost 0 = .ok (.aload 5, 2) := by decide +kernel
theorem dL_cost_2 : decode cL_cost 2 = .ok (.iconst 0, 1) := by decide +kernel
theorem dL_cost_3 : decode cL_cost 3 = .ok (.aload_n 0, 1) := by decide +kernel
theorem dL_cost_4 : decode cL_cost 4 = .ok (.iload_n 1, 1) := by decide +kernel
theorem dL_cost_5 : decode cL_cost 5 = .ok (.iload_n 2, 1) := by decide +kernel
theorem dL_cost_6 : decode cL_cost 6 = .ok (.iload_n 3, 1) := by decide +kernel
theorem dL_cost_7 : decode cL_cost 7 = .ok (.iload 4, 2) := by decide +kernel
theorem dL_cost_9 : decode cL_cost 9 = .ok (.invokevirtual 30, 3) := by decide +kernel
theorem dL_cost_12 : decode cL_cost 12 = .ok (.i2l, 1) := by decide +kernel
theorem dL_cost_13 : decode cL_cost 13 = .ok (.lastore, 1) := by decide +kernel
theorem dL_cost_14 : decode cL_cost 14 = .ok (.goto 7, 3) := by decide +kernel
theorem dL_cost_17 : decode cL_cost 17 = .ok (.astore 6, 2) := by decide +kernel
theorem dL_cost_19 : decode cL_cost 19 = .ok (.iconst 1, 1) := by decide +kernel
theorem dL_cost_20 : decode cL_cost 20 = .ok (.ireturn, 1) := by decide +kernel
theorem dL_cost_21 : decode cL_cost 21 = .ok (.iconst 0, 1) := by decide +kernel
theorem dL_cost_22 : decode cL_cost 22 = .ok (.ireturn, 1) := by decide +kernel
theorem dL_best_0 : decode cL_best 0 = .ok (.aload 6, 2) := by decide +kernel
theorem dL_best_2 : decode cL_best 2 = .ok (.iconst 0, 1) := by decide +kernel
theorem dL_best_3 : decode cL_best 3 = .ok (.aload_n 0, 1) := by decide +kernel
theorem dL_best_4 : decode cL_best 4 = .ok (.iload_n 1, 1) := by decide +kernel
theorem dL_best_5 : decode cL_best 5 = .ok (.iload_n 2, 1) := by decide +kernel
theorem dL_best_6 : decode cL_best 6 = .ok (.iload_n 3, 1) := by decide +kernel
theorem dL_best_7 : decode cL_best 7 = .ok (.iload 4, 2) := by decide +kernel
theorem dL_best_9 : decode cL_best 9 = .ok (.iload 5, 2) := by decide +kernel
theorem dL_best_11 : decode cL_best 11 = .ok (.invokevirtual 34, 3) := by decide +kernel
theorem dL_best_14 : decode cL_best 14 = .ok (.i2l, 1) := by decide +kernel
theorem dL_best_15 : decode cL_best 15 = .ok (.lastore, 1) := by decide +kernel
theorem dL_best_16 : decode cL_best 16 = .ok (.goto 11, 3) := by decide +kernel
theorem dL_best_19 : decode cL_best 19 = .ok (.astore 7, 2) := by decide +kernel
theorem dL_best_21 : decode cL_best 21 = .ok (.iconst 1, 1) := by decide +kernel
theorem dL_best_22 : decode cL_best 22 = .ok (.ireturn, 1) := by decide +kernel
theorem dL_best_23 : decode cL_best 23 = .ok (.astore 7, 2) := by decide +kernel
theorem dL_best_25 : decode cL_best 25 = .ok (.iconst 2, 1) := by decide +kernel
theorem dL_best_26 : decode cL_best 26 = .ok (.ireturn, 1) := by decide +kernel
theorem dL_best_27 : decode cL_best 27 = .ok (.iconst 0, 1) := by decide +kernel
theorem dL_best_28 : decode cL_best 28 = .ok (.ireturn, 1) := by decide +kernel
theorem dL_day_0 : decode cL_day 0 = .ok (.aload_n 2, 1) := by decide +kernel
theorem dL_day_1 : decode cL_day 1 = .ok (.iconst 0, 1) := by decide +kernel
theorem dL_day_2 : decode cL_day 2 = .ok (.aload_n 0, 1) := by decide +kernel
theorem dL_day_3 : decode cL_day 3 = .ok (.iload_n 1, 1) := by decide +kernel
theorem dL_day_4 : decode cL_day 4 = .ok (.invokevirtual 38, 3) := by decide +kernel
theorem dL_day_7 : decode cL_day 7 = .ok (.i2l, 1) := by decide +kernel
theorem dL_day_8 : decode cL_day 8 = .ok (.lastore, 1) := by decide +kernel
theorem dL_day_9 : decode cL_day 9 = .ok (.goto 6, 3) := by decide +kernel
theorem dL_day_12 : decode cL_day 12 = .ok (.astore_n 3, 1) := by decide +kernel
theorem dL_day_13 : decode cL_day 13 = .ok (.iconst 1, 1) := by decide +kernel
theorem dL_day_14 : decode cL_day 14 = .ok (.ireturn, 1) := by decide +kernel
theorem dL_day_15 : decode cL_day 15 = .ok (.iconst 0, 1) := by decide +kernel
theorem dL_day_16 : decode cL_day 16 = .ok (.ireturn, 1) := by decide +kernel
theorem dL_whose_0 : decode cL_whose 0 = .ok (.aload 6, 2) := by decide +kernel
theorem dL_whose_2 : decode cL_whose 2 = .ok (.iconst 0, 1) := by decide +kernel
theorem dL_whose_3 : decode cL_whose 3 = .ok (.aload_n 0, 1) := by decide +kernel
theorem dL_whose_4 : decode cL_whose 4 = .ok (.iload_n 1, 1) := by decide +kernel
theorem dL_whose_5 : decode cL_whose 5 = .ok (.iload_n 2, 1) := by decide +kernel
theorem dL_whose_6 : decode cL_whose 6 = .ok (.iload_n 3, 1) := by decide +kernel
theorem dL_whose_7 : decode cL_whose 7 = .ok (.iload 4, 2) := by decide +kernel
theorem dL_whose_9 : decode cL_whose 9 = .ok (.iload 5, 2) := by decide +kernel
theorem dL_whose_11 : decode cL_whose 11 = .ok (.invokevirtual 41, 3) := by decide +kernel
theorem dL_whose_14 : decode cL_whose 14 = .ok (.i2l, 1) := by decide +kernel
theorem dL_whose_15 : decode cL_whose 15 = .ok (.lastore, 1) := by decide +kernel
theorem dL_whose_16 : decode cL_whose 16 = .ok (.goto 11, 3) := by decide +kernel
theorem dL_whose_19 : decode cL_whose 19 = .ok (.astore 7, 2) := by decide +kernel
theorem dL_whose_21 : decode cL_whose 21 = .ok (.iconst 1, 1) := by decide +kernel
theorem dL_whose_22 : decode cL_whose 22 = .ok (.ireturn, 1) := by decide +kernel
theorem dL_whose_23 : decode cL_whose 23 = .ok (.astore 7, 2) := by decide +kernel
theorem dL_whose_25 : decode cL_whose 25 = .ok (.iconst 2, 1) := by decide +kernel
theorem dL_whose_26 : decode cL_whose 26 = .ok (.ireturn, 1) := by decide +kernel
theorem dL_whose_27 : decode cL_whose 27 = .ok (.iconst 0, 1) := by decide +kernel
theorem dL_whose_28 : decode cL_whose 28 = .ok (.ireturn, 1) := by decide +kernel
theorem dL_mixed_0 : decode cL_mixed 0 = .ok (.aload 5, 2) := by decide +kernel
theorem dL_mixed_2 : decode cL_mixed 2 = .ok (.iconst 0, 1) := by decide +kernel
theorem dL_mixed_3 : decode cL_mixed 3 = .ok (.aload_n 0, 1) := by decide +kernel
theorem dL_mixed_4 : decode cL_mixed 4 = .ok (.iload_n 1, 1) := by decide +kernel
theorem dL_mixed_5 : decode cL_mixed 5 = .ok (.iload_n 2, 1) := by decide +kernel
theorem dL_mixed_6 : decode cL_mixed 6 = .ok (.iload_n 3, 1) := by decide +kernel
theorem dL_mixed_7 : decode cL_mixed 7 = .ok (.iload 4, 2) := by decide +kernel
theorem dL_mixed_9 : decode cL_mixed 9 = .ok (.invokevirtual 44, 3) := by decide +kernel
theorem dL_mixed_12 : decode cL_mixed 12 = .ok (.i2l, 1) := by decide +kernel
theorem dL_mixed_13 : decode cL_mixed 13 = .ok (.lastore, 1) := by decide +kernel
theorem dL_mixed_14 : decode cL_mixed 14 = .ok (.goto 11, 3) := by decide +kernel
theorem dL_mixed_17 : decode cL_mixed 17 = .ok (.astore 6, 2) := by decide +kernel
theorem dL_mixed_19 : decode cL_mixed 19 = .ok (.iconst 1, 1) := by decide +kernel
theorem dL_mixed_20 : decode cL_mixed 20 = .ok (.ireturn, 1) := by decide +kernel
theorem dL_mixed_21 : decode cL_mixed 21 = .ok (.astore 6, 2) := by decide +kernel
theorem dL_mixed_23 : decode cL_mixed 23 = .ok (.iconst 2, 1) := by decide +kernel
theorem dL_mixed_24 : decode cL_mixed 24 = .ok (.ireturn, 1) := by decide +kernel
theorem dL_mixed_25 : decode cL_mixed 25 = .ok (.iconst 0, 1) := by decide +kernel
theorem dL_mixed_26 : decode cL_mixed 26 = .ok (.ireturn, 1) := by decide +kernel
theorem dL_climb_0 : decode cL_climb 0 = .ok (.aload_n 3, 1) := by decide +kernel
theorem dL_climb_1 : decode cL_climb 1 = .ok (.iconst 0, 1) := by decide +kernel
theorem dL_climb_2 : decode cL_climb 2 = .ok (.aload_n 0, 1) := by decide +kernel
theorem dL_climb_3 : decode cL_climb 3 = .ok (.iload_n 1, 1) := by decide +kernel
theorem dL_climb_4 : decode cL_climb 4 = .ok (.iload_n 2, 1) := by decide +kernel
theorem dL_climb_5 : decode cL_climb 5 = .ok (.invokevirtual 47, 3) := by decide +kernel
theorem dL_climb_8 : decode cL_climb 8 = .ok (.i2l, 1) := by decide +kernel
theorem dL_climb_9 : decode cL_climb 9 = .ok (.lastore, 1) := by decide +kernel
theorem dL_climb_10 : decode cL_climb 10 = .ok (.goto 7, 3) := by decide +kernel
theorem dL_climb_13 : decode cL_climb 13 = .ok (.astore 4, 2) := by decide +kernel
theorem dL_climb_15 : decode cL_climb 15 = .ok (.iconst 1, 1) := by decide +kernel
theorem dL_climb_16 : decode cL_climb 16 = .ok (.ireturn, 1) := by decide +kernel
theorem dL_climb_17 : decode cL_climb 17 = .ok (.iconst 0, 1) := by decide +kernel
theorem dL_climb_18 : decode cL_climb 18 = .ok (.ireturn, 1) := by decide +kernel
theorem dL_rise_0 : decode cL_rise 0 = .ok (.aload 4, 2) := by decide +kernel
theorem dL_rise_2 : decode cL_rise 2 = .ok (.iconst 0, 1) := by decide +kernel
theorem dL_rise_3 : decode cL_rise 3 = .ok (.aload_n 0, 1) := by decide +kernel
theorem dL_rise_4 : decode cL_rise 4 = .ok (.iload_n 1, 1) := by decide +kernel
theorem dL_rise_5 : decode cL_rise 5 = .ok (.iload_n 2, 1) := by decide +kernel
theorem dL_rise_6 : decode cL_rise 6 = .ok (.iload_n 3, 1) := by decide +kernel
theorem dL_rise_7 : decode cL_rise 7 = .ok (.invokevirtual 51, 3) := by decide +kernel
theorem dL_rise_10 : decode cL_rise 10 = .ok (.i2l, 1) := by decide +kernel
theorem dL_rise_11 : decode cL_rise 11 = .ok (.lastore, 1) := by decide +kernel
theorem dL_rise_12 : decode cL_rise 12 = .ok (.goto 7, 3) := by decide +kernel
theorem dL_rise_15 : decode cL_rise 15 = .ok (.astore 5, 2) := by decide +kernel
theorem dL_rise_17 : decode cL_rise 17 = .ok (.iconst 1, 1) := by decide +kernel
theorem dL_rise_18 : decode cL_rise 18 = .ok (.ireturn, 1) := by decide +kernel
theorem dL_rise_19 : decode cL_rise 19 = .ok (.iconst 0, 1) := by decide +kernel
theorem dL_rise_20 : decode cL_rise 20 = .ok (.ireturn, 1) := by decide +kernel
theorem dL_middle_0 : decode cL_middle 0 = .ok (.aload_n 3, 1) := by decide +kernel
theorem dL_middle_1 : decode cL_middle 1 = .ok (.iconst 0, 1) := by decide +kernel
theorem dL_middle_2 : decode cL_middle 2 = .ok (.aload_n 0, 1) := by decide +kernel
theorem dL_middle_3 : decode cL_middle 3 = .ok (.iload_n 1, 1) := by decide +kernel
theorem dL_middle_4 : decode cL_middle 4 = .ok (.iload_n 2, 1) := by decide +kernel
theorem dL_middle_5 : decode cL_middle 5 = .ok (.invokevirtual 54, 3) := by decide +kernel
theorem dL_middle_8 : decode cL_middle 8 = .ok (.i2l, 1) := by decide +kernel
theorem dL_middle_9 : decode cL_middle 9 = .ok (.lastore, 1) := by decide +kernel
theorem dL_middle_10 : decode cL_middle 10 = .ok (.goto 7, 3) := by decide +kernel
theorem dL_middle_13 : decode cL_middle 13 = .ok (.astore 4, 2) := by decide +kernel
theorem dL_middle_15 : decode cL_middle 15 = .ok (.iconst 1, 1) := by decide +kernel
theorem dL_middle_16 : decode cL_middle 16 = .ok (.ireturn, 1) := by decide +kernel
theorem dL_middle_17 : decode cL_middle 17 = .ok (.iconst 0, 1) := by decide +kernel
theorem dL_middle_18 : decode cL_middle 18 = .ok (.ireturn, 1) := by decide +kernel
theorem dL_hour_0 : decode cL_hour 0 = .ok (.aload 4, 2) := by decide +kernel
theorem dL_hour_2 : decode cL_hour 2 = .ok (.iconst 0, 1) := by decide +kernel
theorem dL_hour_3 : decode cL_hour 3 = .ok (.aload_n 0, 1) := by decide +kernel
theorem dL_hour_4 : decode cL_hour 4 = .ok (.iload_n 1, 1) := by decide +kernel
theorem dL_hour_5 : decode cL_hour 5 = .ok (.iload_n 2, 1) := by decide +kernel
theorem dL_hour_6 : decode cL_hour 6 = .ok (.iload_n 3, 1) := by decide +kernel
theorem dL_hour_7 : decode cL_hour 7 = .ok (.invokevirtual 57, 3) := by decide +kernel
theorem dL_hour_10 : decode cL_hour 10 = .ok (.i2l, 1) := by decide +kernel
theorem dL_hour_11 : decode cL_hour 11 = .ok (.lastore, 1) := by decide +kernel
theorem dL_hour_12 : decode cL_hour 12 = .ok (.goto 7, 3) := by decide +kernel
theorem dL_hour_15 : decode cL_hour 15 = .ok (.astore 5, 2) := by decide +kernel
theorem dL_hour_17 : decode cL_hour 17 = .ok (.iconst 1, 1) := by decide +kernel
theorem dL_hour_18 : decode cL_hour 18 = .ok (.ireturn, 1) := by decide +kernel
theorem dL_hour_19 : decode cL_hour 19 = .ok (.iconst 0, 1) := by decide +kernel
theorem dL_hour_20 : decode cL_hour 20 = .ok (.ireturn, 1) := by decide +kernel
theorem dL_houseOf_0 : decode cL_houseOf 0 = .ok (.aload 5, 2) := by decide +kernel
theorem dL_houseOf_2 : decode cL_houseOf 2 = .ok (.iconst 0, 1) := by decide +kernel
theorem dL_houseOf_3 : decode cL_houseOf 3 = .ok (.aload_n 0, 1) := by decide +kernel
theorem dL_houseOf_4 : decode cL_houseOf 4 = .ok (.iload_n 1, 1) := by decide +kernel
theorem dL_houseOf_5 : decode cL_houseOf 5 = .ok (.iload_n 2, 1) := by decide +kernel
theorem dL_houseOf_6 : decode cL_houseOf 6 = .ok (.iload_n 3, 1) := by decide +kernel
theorem dL_houseOf_7 : decode cL_houseOf 7 = .ok (.iload 4, 2) := by decide +kernel
theorem dL_houseOf_9 : decode cL_houseOf 9 = .ok (.invokevirtual 60, 3) := by decide +kernel
theorem dL_houseOf_12 : decode cL_houseOf 12 = .ok (.i2l, 1) := by decide +kernel
theorem dL_houseOf_13 : decode cL_houseOf 13 = .ok (.lastore, 1) := by decide +kernel
theorem dL_houseOf_14 : decode cL_houseOf 14 = .ok (.goto 7, 3) := by decide +kernel
theorem dL_houseOf_17 : decode cL_houseOf 17 = .ok (.astore 6, 2) := by decide +kernel
theorem dL_houseOf_19 : decode cL_houseOf 19 = .ok (.iconst 1, 1) := by decide +kernel
theorem dL_houseOf_20 : decode cL_houseOf 20 = .ok (.ireturn, 1) := by decide +kernel
theorem dL_houseOf_21 : decode cL_houseOf 21 = .ok (.iconst 0, 1) := by decide +kernel
theorem dL_houseOf_22 : decode cL_houseOf 22 = .ok (.ireturn, 1) := by decide +kernel
theorem dL_agree_0 : decode cL_agree 0 = .ok (.aload 5, 2) := by decide +kernel
theorem dL_agree_2 : decode cL_agree 2 = .ok (.iconst 0, 1) := by decide +kernel
theorem dL_agree_3 : decode cL_agree 3 = .ok (.aload_n 0, 1) := by decide +kernel
theorem dL_agree_4 : decode cL_agree 4 = .ok (.iload_n 1, 1) := by decide +kernel
theorem dL_agree_5 : decode cL_agree 5 = .ok (.iload_n 2, 1) := by decide +kernel
theorem dL_agree_6 : decode cL_agree 6 = .ok (.iload_n 3, 1) := by decide +kernel
theorem dL_agree_7 : decode cL_agree 7 = .ok (.iload 4, 2) := by decide +kernel
theorem dL_agree_9 : decode cL_agree 9 = .ok (.invokevirtual 63, 3) := by decide +kernel
theorem dL_agree_12 : decode cL_agree 12 = .ok (.i2l, 1) := by decide +kernel
theorem dL_agree_13 : decode cL_agree 13 = .ok (.lastore, 1) := by decide +kernel
theorem dL_agree_14 : decode cL_agree 14 = .ok (.goto 7, 3) := by decide +kernel
theorem dL_agree_17 : decode cL_agree 17 = .ok (.astore 6, 2) := by decide +kernel
theorem dL_agree_19 : decode cL_agree 19 = .ok (.iconst 1, 1) := by decide +kernel
theorem dL_agree_20 : decode cL_agree 20 = .ok (.ireturn, 1) := by decide +kernel
theorem dL_agree_21 : decode cL_agree 21 = .ok (.iconst 0, 1) := by decide +kernel
theorem dL_agree_22 : decode cL_agree 22 = .ok (.ireturn, 1) := by decide +kernel
theorem dL_lot_0 : decode cL_lot 0 = .ok (.aload 4, 2) := by decide +kernel
theorem dL_lot_2 : decode cL_lot 2 = .ok (.iconst 0, 1) := by decide +kernel
theorem dL_lot_3 : decode cL_lot 3 = .ok (.aload_n 0, 1) := by decide +kernel
theorem dL_lot_4 : decode cL_lot 4 = .ok (.iload_n 1, 1) := by decide +kernel
theorem dL_lot_5 : decode cL_lot 5 = .ok (.iload_n 2, 1) := by decide +kernel
theorem dL_lot_6 : decode cL_lot 6 = .ok (.iload_n 3, 1) := by decide +kernel
theorem dL_lot_7 : decode cL_lot 7 = .ok (.invokevirtual 66, 3) := by decide +kernel
theorem dL_lot_10 : decode cL_lot 10 = .ok (.i2l, 1) := by decide +kernel
theorem dL_lot_11 : decode cL_lot 11 = .ok (.lastore, 1) := by decide +kernel
theorem dL_lot_12 : decode cL_lot 12 = .ok (.goto 7, 3) := by decide +kernel
theorem dL_lot_15 : decode cL_lot 15 = .ok (.astore 5, 2) := by decide +kernel
theorem dL_lot_17 : decode cL_lot 17 = .ok (.iconst 1, 1) := by decide +kernel
theorem dL_lot_18 : decode cL_lot 18 = .ok (.ireturn, 1) := by decide +kernel
theorem dL_lot_19 : decode cL_lot 19 = .ok (.iconst 0, 1) := by decide +kernel
theorem dL_lot_20 : decode cL_lot 20 = .ok (.ireturn, 1) := by decide +kernel
theorem dL_price_0 : decode cL_price 0 = .ok (.aload_n 3, 1) := by decide +kernel
theorem dL_price_1 : decode cL_price 1 = .ok (.iconst 0, 1) := by decide +kernel
theorem dL_price_2 : decode cL_price 2 = .ok (.aload_n 0, 1) := by decide +kernel
theorem dL_price_3 : decode cL_price 3 = .ok (.iload_n 1, 1) := by decide +kernel
theorem dL_price_4 : decode cL_price 4 = .ok (.iload_n 2, 1) := by decide +kernel
theorem dL_price_5 : decode cL_price 5 = .ok (.invokevirtual 69, 3) := by decide +kernel
theorem dL_price_8 : decode cL_price 8 = .ok (.i2l, 1) := by decide +kernel
theorem dL_price_9 : decode cL_price 9 = .ok (.lastore, 1) := by decide +kernel
theorem dL_price_10 : decode cL_price 10 = .ok (.goto 7, 3) := by decide +kernel
theorem dL_price_13 : decode cL_price 13 = .ok (.astore 4, 2) := by decide +kernel
theorem dL_price_15 : decode cL_price 15 = .ok (.iconst 1, 1) := by decide +kernel
theorem dL_price_16 : decode cL_price 16 = .ok (.ireturn, 1) := by decide +kernel
theorem dL_price_17 : decode cL_price 17 = .ok (.iconst 0, 1) := by decide +kernel
theorem dL_price_18 : decode cL_price 18 = .ok (.ireturn, 1) := by decide +kernel
theorem dL_seek_0 : decode cL_seek 0 = .ok (.aload_n 0, 1) := by decide +kernel
theorem dL_seek_1 : decode cL_seek 1 = .ok (.iload_n 1, 1) := by decide +kernel
theorem dL_seek_2 : decode cL_seek 2 = .ok (.iload_n 2, 1) := by decide +kernel
theorem dL_seek_3 : decode cL_seek 3 = .ok (.iload_n 3, 1) := by decide +kernel
theorem dL_seek_4 : decode cL_seek 4 = .ok (.iload 4, 2) := by decide +kernel
theorem dL_seek_6 : decode cL_seek 6 = .ok (.invokevirtual 72, 3) := by decide +kernel
theorem dL_seek_9 : decode cL_seek 9 = .ok (.goto 7, 3) := by decide +kernel
theorem dL_seek_12 : decode cL_seek 12 = .ok (.astore 5, 2) := by decide +kernel
theorem dL_seek_14 : decode cL_seek 14 = .ok (.iconst 1, 1) := by decide +kernel
theorem dL_seek_15 : decode cL_seek 15 = .ok (.ireturn, 1) := by decide +kernel
theorem dL_seek_16 : decode cL_seek 16 = .ok (.iconst 0, 1) := by decide +kernel
theorem dL_seek_17 : decode cL_seek 17 = .ok (.ireturn, 1) := by decide +kernel
theorem dL_on_0 : decode cL_on 0 = .ok (.aload_n 2, 1) := by decide +kernel
theorem dL_on_1 : decode cL_on 1 = .ok (.iconst 0, 1) := by decide +kernel
theorem dL_on_2 : decode cL_on 2 = .ok (.aload_n 0, 1) := by decide +kernel
theorem dL_on_3 : decode cL_on 3 = .ok (.iload_n 1, 1) := by decide +kernel
theorem dL_on_4 : decode cL_on 4 = .ok (.invokevirtual 76, 3) := by decide +kernel
theorem dL_on_7 : decode cL_on 7 = .ok (.i2l, 1) := by decide +kernel
theorem dL_on_8 : decode cL_on 8 = .ok (.lastore, 1) := by decide +kernel
theorem dL_on_9 : decode cL_on 9 = .ok (.goto 9, 3) := by decide +kernel
theorem dL_on_12 : decode cL_on 12 = .ok (.astore_n 3, 1) := by decide +kernel
theorem dL_on_13 : decode cL_on 13 = .ok (.iconst 1, 1) := by decide +kernel
theorem dL_on_14 : decode cL_on 14 = .ok (.ireturn, 1) := by decide +kernel
theorem dL_on_15 : decode cL_on 15 = .ok (.astore_n 3, 1) := by decide +kernel
theorem dL_on_16 : decode cL_on 16 = .ok (.iconst 2, 1) := by decide +kernel
theorem dL_on_17 : decode cL_on 17 = .ok (.ireturn, 1) := by decide +kernel
theorem dL_on_18 : decode cL_on 18 = .ok (.iconst 0, 1) := by decide +kernel
theorem dL_on_19 : decode cL_on 19 = .ok (.ireturn, 1) := by decide +kernel
theorem dL_held_0 : decode cL_held 0 = .ok (.aload_n 2, 1) := by decide +kernel
theorem dL_held_1 : decode cL_held 1 = .ok (.iconst 0, 1) := by decide +kernel
theorem dL_held_2 : decode cL_held 2 = .ok (.aload_n 0, 1) := by decide +kernel
theorem dL_held_3 : decode cL_held 3 = .ok (.iload_n 1, 1) := by decide +kernel
theorem dL_held_4 : decode cL_held 4 = .ok (.invokevirtual 79, 3) := by decide +kernel
theorem dL_held_7 : decode cL_held 7 = .ok (.i2l, 1) := by decide +kernel
theorem dL_held_8 : decode cL_held 8 = .ok (.lastore, 1) := by decide +kernel
theorem dL_held_9 : decode cL_held 9 = .ok (.goto 6, 3) := by decide +kernel
theorem dL_held_12 : decode cL_held 12 = .ok (.astore_n 3, 1) := by decide +kernel
theorem dL_held_13 : decode cL_held 13 = .ok (.iconst 1, 1) := by decide +kernel
theorem dL_held_14 : decode cL_held 14 = .ok (.ireturn, 1) := by decide +kernel
theorem dL_held_15 : decode cL_held 15 = .ok (.iconst 0, 1) := by decide +kernel
theorem dL_held_16 : decode cL_held 16 = .ok (.ireturn, 1) := by decide +kernel
theorem dL_misread_0 : decode cL_misread 0 = .ok (.aload 6, 2) := by decide +kernel
theorem dL_misread_2 : decode cL_misread 2 = .ok (.iconst 0, 1) := by decide +kernel
theorem dL_misread_3 : decode cL_misread 3 = .ok (.aload_n 0, 1) := by decide +kernel
theorem dL_misread_4 : decode cL_misread 4 = .ok (.iload_n 1, 1) := by decide +kernel
theorem dL_misread_5 : decode cL_misread 5 = .ok (.iload_n 2, 1) := by decide +kernel
theorem dL_misread_6 : decode cL_misread 6 = .ok (.iload_n 3, 1) := by decide +kernel
theorem dL_misread_7 : decode cL_misread 7 = .ok (.iload 4, 2) := by decide +kernel
theorem dL_misread_9 : decode cL_misread 9 = .ok (.iload 5, 2) := by decide +kernel
theorem dL_misread_11 : decode cL_misread 11 = .ok (.invokevirtual 82, 3) := by decide +kernel
theorem dL_misread_14 : decode cL_misread 14 = .ok (.i2l, 1) := by decide +kernel
theorem dL_misread_15 : decode cL_misread 15 = .ok (.lastore, 1) := by decide +kernel
theorem dL_misread_16 : decode cL_misread 16 = .ok (.goto 7, 3) := by decide +kernel
theorem dL_misread_19 : decode cL_misread 19 = .ok (.astore 7, 2) := by decide +kernel
theorem dL_misread_21 : decode cL_misread 21 = .ok (.iconst 1, 1) := by decide +kernel
theorem dL_misread_22 : decode cL_misread 22 = .ok (.ireturn, 1) := by decide +kernel
theorem dL_misread_23 : decode cL_misread 23 = .ok (.iconst 0, 1) := by decide +kernel
theorem dL_misread_24 : decode cL_misread 24 = .ok (.ireturn, 1) := by decide +kernel
theorem dL_errors_0 : decode cL_errors 0 = .ok (.aload 5, 2) := by decide +kernel
theorem dL_errors_2 : decode cL_errors 2 = .ok (.iconst 0, 1) := by decide +kernel
theorem dL_errors_3 : decode cL_errors 3 = .ok (.aload_n 0, 1) := by decide +kernel
theorem dL_errors_4 : decode cL_errors 4 = .ok (.iload_n 1, 1) := by decide +kernel
theorem dL_errors_5 : decode cL_errors 5 = .ok (.iload_n 2, 1) := by decide +kernel
theorem dL_errors_6 : decode cL_errors 6 = .ok (.iload_n 3, 1) := by decide +kernel
theorem dL_errors_7 : decode cL_errors 7 = .ok (.iload 4, 2) := by decide +kernel
theorem dL_errors_9 : decode cL_errors 9 = .ok (.invokevirtual 85, 3) := by decide +kernel
theorem dL_errors_12 : decode cL_errors 12 = .ok (.i2l, 1) := by decide +kernel
theorem dL_errors_13 : decode cL_errors 13 = .ok (.lastore, 1) := by decide +kernel
theorem dL_errors_14 : decode cL_errors 14 = .ok (.goto 7, 3) := by decide +kernel
theorem dL_errors_17 : decode cL_errors 17 = .ok (.astore 6, 2) := by decide +kernel
theorem dL_errors_19 : decode cL_errors 19 = .ok (.iconst 1, 1) := by decide +kernel
theorem dL_errors_20 : decode cL_errors 20 = .ok (.ireturn, 1) := by decide +kernel
theorem dL_errors_21 : decode cL_errors 21 = .ok (.iconst 0, 1) := by decide +kernel
theorem dL_errors_22 : decode cL_errors 22 = .ok (.ireturn, 1) := by decide +kernel
theorem dL_possible_0 : decode cL_possible 0 = .ok (.aload 4, 2) := by decide +kernel
theorem dL_possible_2 : decode cL_possible 2 = .ok (.iconst 0, 1) := by decide +kernel
theorem dL_possible_3 : decode cL_possible 3 = .ok (.aload_n 0, 1) := by decide +kernel
theorem dL_possible_4 : decode cL_possible 4 = .ok (.iload_n 1, 1) := by decide +kernel
theorem dL_possible_5 : decode cL_possible 5 = .ok (.iload_n 2, 1) := by decide +kernel
theorem dL_possible_6 : decode cL_possible 6 = .ok (.iload_n 3, 1) := by decide +kernel
theorem dL_possible_7 : decode cL_possible 7 = .ok (.invokevirtual 88, 3) := by decide +kernel
theorem dL_possible_10 : decode cL_possible 10 = .ok (.i2l, 1) := by decide +kernel
theorem dL_possible_11 : decode cL_possible 11 = .ok (.lastore, 1) := by decide +kernel
theorem dL_possible_12 : decode cL_possible 12 = .ok (.goto 7, 3) := by decide +kernel
theorem dL_possible_15 : decode cL_possible 15 = .ok (.astore 5, 2) := by decide +kernel
theorem dL_possible_17 : decode cL_possible 17 = .ok (.iconst 1, 1) := by decide +kernel
theorem dL_possible_18 : decode cL_possible 18 = .ok (.ireturn, 1) := by decide +kernel
theorem dL_possible_19 : decode cL_possible 19 = .ok (.iconst 0, 1) := by decide +kernel
theorem dL_possible_20 : decode cL_possible 20 = .ok (.ireturn, 1) := by decide +kernel
theorem dL_slips_0 : decode cL_slips 0 = .ok (.aload_n 3, 1) := by decide +kernel
theorem dL_slips_1 : decode cL_slips 1 = .ok (.iconst 0, 1) := by decide +kernel
theorem dL_slips_2 : decode cL_slips 2 = .ok (.aload_n 0, 1) := by decide +kernel
theorem dL_slips_3 : decode cL_slips 3 = .ok (.iload_n 1, 1) := by decide +kernel
theorem dL_slips_4 : decode cL_slips 4 = .ok (.iload_n 2, 1) := by decide +kernel
theorem dL_slips_5 : decode cL_slips 5 = .ok (.invokevirtual 91, 3) := by decide +kernel
theorem dL_slips_8 : decode cL_slips 8 = .ok (.i2l, 1) := by decide +kernel
theorem dL_slips_9 : decode cL_slips 9 = .ok (.lastore, 1) := by decide +kernel
theorem dL_slips_10 : decode cL_slips 10 = .ok (.goto 7, 3) := by decide +kernel
theorem dL_slips_13 : decode cL_slips 13 = .ok (.astore 4, 2) := by decide +kernel
theorem dL_slips_15 : decode cL_slips 15 = .ok (.iconst 1, 1) := by decide +kernel
theorem dL_slips_16 : decode cL_slips 16 = .ok (.ireturn, 1) := by decide +kernel
theorem dL_slips_17 : decode cL_slips 17 = .ok (.iconst 0, 1) := by decide +kernel
theorem dL_slips_18 : decode cL_slips 18 = .ok (.ireturn, 1) := by decide +kernel
theorem dL_handed_0 : decode cL_handed 0 = .ok (.aload 4, 2) := by decide +kernel
theorem dL_handed_2 : decode cL_handed 2 = .ok (.iconst 0, 1) := by decide +kernel
theorem dL_handed_3 : decode cL_handed 3 = .ok (.aload_n 0, 1) := by decide +kernel
theorem dL_handed_4 : decode cL_handed 4 = .ok (.iload_n 1, 1) := by decide +kernel
theorem dL_handed_5 : decode cL_handed 5 = .ok (.iload_n 2, 1) := by decide +kernel
theorem dL_handed_6 : decode cL_handed 6 = .ok (.iload_n 3, 1) := by decide +kernel
theorem dL_handed_7 : decode cL_handed 7 = .ok (.invokevirtual 94, 3) := by decide +kernel
theorem dL_handed_10 : decode cL_handed 10 = .ok (.i2l, 1) := by decide +kernel
theorem dL_handed_11 : decode cL_handed 11 = .ok (.lastore, 1) := by decide +kernel
theorem dL_handed_12 : decode cL_handed 12 = .ok (.goto 7, 3) := by decide +kernel
theorem dL_handed_15 : decode cL_handed 15 = .ok (.astore 5, 2) := by decide +kernel
theorem dL_handed_17 : decode cL_handed 17 = .ok (.iconst 1, 1) := by decide +kernel
theorem dL_handed_18 : decode cL_handed 18 = .ok (.ireturn, 1) := by decide +kernel
theorem dL_handed_19 : decode cL_handed 19 = .ok (.iconst 0, 1) := by decide +kernel
theorem dL_handed_20 : decode cL_handed 20 = .ok (.ireturn, 1) := by decide +kernel
theorem dL_leaf_0 : decode cL_leaf 0 = .ok (.aload_n 3, 1) := by decide +kernel
theorem dL_leaf_1 : decode cL_leaf 1 = .ok (.iconst 0, 1) := by decide +kernel
theorem dL_leaf_2 : decode cL_leaf 2 = .ok (.aload_n 0, 1) := by decide +kernel
theorem dL_leaf_3 : decode cL_leaf 3 = .ok (.iload_n 1, 1) := by decide +kernel
theorem dL_leaf_4 : decode cL_leaf 4 = .ok (.iload_n 2, 1) := by decide +kernel
theorem dL_leaf_5 : decode cL_leaf 5 = .ok (.invokevirtual 97, 3) := by decide +kernel
theorem dL_leaf_8 : decode cL_leaf 8 = .ok (.i2l, 1) := by decide +kernel
theorem dL_leaf_9 : decode cL_leaf 9 = .ok (.lastore, 1) := by decide +kernel
theorem dL_leaf_10 : decode cL_leaf 10 = .ok (.goto 7, 3) := by decide +kernel
theorem dL_leaf_13 : decode cL_leaf 13 = .ok (.astore 4, 2) := by decide +kernel
theorem dL_leaf_15 : decode cL_leaf 15 = .ok (.iconst 1, 1) := by decide +kernel
theorem dL_leaf_16 : decode cL_leaf 16 = .ok (.ireturn, 1) := by decide +kernel
theorem dL_leaf_17 : decode cL_leaf 17 = .ok (.iconst 0, 1) := by decide +kernel
theorem dL_leaf_18 : decode cL_leaf 18 = .ok (.ireturn, 1) := by decide +kernel
theorem dL_order_0 : decode cL_order 0 = .ok (.aload 4, 2) := by decide +kernel
theorem dL_order_2 : decode cL_order 2 = .ok (.iconst 0, 1) := by decide +kernel
theorem dL_order_3 : decode cL_order 3 = .ok (.aload_n 0, 1) := by decide +kernel
theorem dL_order_4 : decode cL_order 4 = .ok (.iload_n 1, 1) := by decide +kernel
theorem dL_order_5 : decode cL_order 5 = .ok (.iload_n 2, 1) := by decide +kernel
theorem dL_order_6 : decode cL_order 6 = .ok (.iload_n 3, 1) := by decide +kernel
theorem dL_order_7 : decode cL_order 7 = .ok (.invokevirtual 100, 3) := by decide +kernel
theorem dL_order_10 : decode cL_order 10 = .ok (.i2l, 1) := by decide +kernel
theorem dL_order_11 : decode cL_order 11 = .ok (.lastore, 1) := by decide +kernel
theorem dL_order_12 : decode cL_order 12 = .ok (.goto 7, 3) := by decide +kernel
theorem dL_order_15 : decode cL_order 15 = .ok (.astore 5, 2) := by decide +kernel
theorem dL_order_17 : decode cL_order 17 = .ok (.iconst 1, 1) := by decide +kernel
theorem dL_order_18 : decode cL_order 18 = .ok (.ireturn, 1) := by decide +kernel
theorem dL_order_19 : decode cL_order 19 = .ok (.iconst 0, 1) := by decide +kernel
theorem dL_order_20 : decode cL_order 20 = .ok (.ireturn, 1) := by decide +kernel
theorem dL_same_0 : decode cL_same 0 = .ok (.aload 4, 2) := by decide +kernel
theorem dL_same_2 : decode cL_same 2 = .ok (.iconst 0, 1) := by decide +kernel
theorem dL_same_3 : decode cL_same 3 = .ok (.aload_n 0, 1) := by decide +kernel
theorem dL_same_4 : decode cL_same 4 = .ok (.iload_n 1, 1) := by decide +kernel
theorem dL_same_5 : decode cL_same 5 = .ok (.iload_n 2, 1) := by decide +kernel
theorem dL_same_6 : decode cL_same 6 = .ok (.iload_n 3, 1) := by decide +kernel
theorem dL_same_7 : decode cL_same 7 = .ok (.invokevirtual 103, 3) := by decide +kernel
theorem dL_same_10 : decode cL_same 10 = .ok (.ifCond .eq 7, 3) := by decide +kernel
theorem dL_same_13 : decode cL_same 13 = .ok (.lconst 1, 1) := by decide +kernel
theorem dL_same_14 : decode cL_same 14 = .ok (.goto 4, 3) := by decide +kernel
theorem dL_same_17 : decode cL_same 17 = .ok (.lconst 0, 1) := by decide +kernel
theorem dL_same_18 : decode cL_same 18 = .ok (.lastore, 1) := by decide +kernel
theorem dL_same_19 : decode cL_same 19 = .ok (.goto 7, 3) := by decide +kernel
theorem dL_same_22 : decode cL_same 22 = .ok (.astore 5, 2) := by decide +kernel
theorem dL_same_24 : decode cL_same 24 = .ok (.iconst 1, 1) := by decide +kernel
theorem dL_same_25 : decode cL_same 25 = .ok (.ireturn, 1) := by decide +kernel
theorem dL_same_26 : decode cL_same 26 = .ok (.iconst 0, 1) := by decide +kernel
theorem dL_same_27 : decode cL_same 27 = .ok (.ireturn, 1) := by decide +kernel
theorem dL_births_0 : decode cL_births 0 = .ok (.aload_n 3, 1) := by decide +kernel
theorem dL_births_1 : decode cL_births 1 = .ok (.iconst 0, 1) := by decide +kernel
theorem dL_births_2 : decode cL_births 2 = .ok (.aload_n 0, 1) := by decide +kernel
theorem dL_births_3 : decode cL_births 3 = .ok (.iload_n 1, 1) := by decide +kernel
theorem dL_births_4 : decode cL_births 4 = .ok (.iload_n 2, 1) := by decide +kernel
theorem dL_births_5 : decode cL_births 5 = .ok (.invokevirtual 107, 3) := by decide +kernel
theorem dL_births_8 : decode cL_births 8 = .ok (.i2l, 1) := by decide +kernel
theorem dL_births_9 : decode cL_births 9 = .ok (.lastore, 1) := by decide +kernel
theorem dL_births_10 : decode cL_births 10 = .ok (.goto 7, 3) := by decide +kernel
theorem dL_births_13 : decode cL_births 13 = .ok (.astore 4, 2) := by decide +kernel
theorem dL_births_15 : decode cL_births 15 = .ok (.iconst 1, 1) := by decide +kernel
theorem dL_births_16 : decode cL_births 16 = .ok (.ireturn, 1) := by decide +kernel
theorem dL_births_17 : decode cL_births 17 = .ok (.iconst 0, 1) := by decide +kernel
theorem dL_births_18 : decode cL_births 18 = .ok (.ireturn, 1) := by decide +kernel
theorem dL_whence_0 : decode cL_whence 0 = .ok (.aload_n 2, 1) := by decide +kernel
theorem dL_whence_1 : decode cL_whence 1 = .ok (.iconst 0, 1) := by decide +kernel
theorem dL_whence_2 : decode cL_whence 2 = .ok (.aload_n 0, 1) := by decide +kernel
theorem dL_whence_3 : decode cL_whence 3 = .ok (.iload_n 1, 1) := by decide +kernel
theorem dL_whence_4 : decode cL_whence 4 = .ok (.invokevirtual 110, 3) := by decide +kernel
theorem dL_whence_7 : decode cL_whence 7 = .ok (.i2l, 1) := by decide +kernel
theorem dL_whence_8 : decode cL_whence 8 = .ok (.lastore, 1) := by decide +kernel
theorem dL_whence_9 : decode cL_whence 9 = .ok (.goto 6, 3) := by decide +kernel
theorem dL_whence_12 : decode cL_whence 12 = .ok (.astore_n 3, 1) := by decide +kernel
theorem dL_whence_13 : decode cL_whence 13 = .ok (.iconst 1, 1) := by decide +kernel
theorem dL_whence_14 : decode cL_whence 14 = .ok (.ireturn, 1) := by decide +kernel
theorem dL_whence_15 : decode cL_whence 15 = .ok (.iconst 0, 1) := by decide +kernel
theorem dL_whence_16 : decode cL_whence 16 = .ok (.ireturn, 1) := by decide +kernel
theorem dL_life_0 : decode cL_life 0 = .ok (.aload 4, 2) := by decide +kernel
theorem dL_life_2 : decode cL_life 2 = .ok (.iconst 0, 1) := by decide +kernel
theorem dL_life_3 : decode cL_life 3 = .ok (.aload_n 0, 1) := by decide +kernel
theorem dL_life_4 : decode cL_life 4 = .ok (.iload_n 1, 1) := by decide +kernel
theorem dL_life_5 : decode cL_life 5 = .ok (.iload_n 2, 1) := by decide +kernel
theorem dL_life_6 : decode cL_life 6 = .ok (.iload_n 3, 1) := by decide +kernel
theorem dL_life_7 : decode cL_life 7 = .ok (.invokevirtual 113, 3) := by decide +kernel
theorem dL_life_10 : decode cL_life 10 = .ok (.ifCond .eq 7, 3) := by decide +kernel
theorem dL_life_13 : decode cL_life 13 = .ok (.lconst 1, 1) := by decide +kernel
theorem dL_life_14 : decode cL_life 14 = .ok (.goto 4, 3) := by decide +kernel
theorem dL_life_17 : decode cL_life 17 = .ok (.lconst 0, 1) := by decide +kernel
theorem dL_life_18 : decode cL_life 18 = .ok (.lastore, 1) := by decide +kernel
theorem dL_life_19 : decode cL_life 19 = .ok (.goto 7, 3) := by decide +kernel
theorem dL_life_22 : decode cL_life 22 = .ok (.astore 5, 2) := by decide +kernel
theorem dL_life_24 : decode cL_life 24 = .ok (.iconst 1, 1) := by decide +kernel
theorem dL_life_25 : decode cL_life 25 = .ok (.ireturn, 1) := by decide +kernel
theorem dL_life_26 : decode cL_life 26 = .ok (.iconst 0, 1) := by decide +kernel
theorem dL_life_27 : decode cL_life 27 = .ok (.ireturn, 1) := by decide +kernel
theorem dL_fate_0 : decode cL_fate 0 = .ok (.aload_n 3, 1) := by decide +kernel
theorem dL_fate_1 : decode cL_fate 1 = .ok (.iconst 0, 1) := by decide +kernel
theorem dL_fate_2 : decode cL_fate 2 = .ok (.aload_n 0, 1) := by decide +kernel
theorem dL_fate_3 : decode cL_fate 3 = .ok (.iload_n 1, 1) := by decide +kernel
theorem dL_fate_4 : decode cL_fate 4 = .ok (.iload_n 2, 1) := by decide +kernel
theorem dL_fate_5 : decode cL_fate 5 = .ok (.invokevirtual 116, 3) := by decide +kernel
theorem dL_fate_8 : decode cL_fate 8 = .ok (.ifCond .eq 7, 3) := by decide +kernel
theorem dL_fate_11 : decode cL_fate 11 = .ok (.lconst 1, 1) := by decide +kernel
theorem dL_fate_12 : decode cL_fate 12 = .ok (.goto 4, 3) := by decide +kernel
theorem dL_fate_15 : decode cL_fate 15 = .ok (.lconst 0, 1) := by decide +kernel
theorem dL_fate_16 : decode cL_fate 16 = .ok (.lastore, 1) := by decide +kernel
theorem dL_fate_17 : decode cL_fate 17 = .ok (.goto 7, 3) := by decide +kernel
theorem dL_fate_20 : decode cL_fate 20 = .ok (.astore 4, 2) := by decide +kernel
theorem dL_fate_22 : decode cL_fate 22 = .ok (.iconst 1, 1) := by decide +kernel
theorem dL_fate_23 : decode cL_fate 23 = .ok (.ireturn, 1) := by decide +kernel
theorem dL_fate_24 : decode cL_fate 24 = .ok (.iconst 0, 1) := by decide +kernel
theorem dL_fate_25 : decode cL_fate 25 = .ok (.ireturn, 1) := by decide +kernel
theorem dL_fates_0 : decode cL_fates 0 = .ok (.aload_n 2, 1) := by decide +kernel
theorem dL_fates_1 : decode cL_fates 1 = .ok (.iconst 0, 1) := by decide +kernel
theorem dL_fates_2 : decode cL_fates 2 = .ok (.aload_n 0, 1) := by decide +kernel
theorem dL_fates_3 : decode cL_fates 3 = .ok (.iload_n 1, 1) := by decide +kernel
theorem dL_fates_4 : decode cL_fates 4 = .ok (.invokevirtual 120, 3) := by decide +kernel
theorem dL_fates_7 : decode cL_fates 7 = .ok (.i2l, 1) := by decide +kernel
theorem dL_fates_8 : decode cL_fates 8 = .ok (.lastore, 1) := by decide +kernel
theorem dL_fates_9 : decode cL_fates 9 = .ok (.goto 6, 3) := by decide +kernel
theorem dL_fates_12 : decode cL_fates 12 = .ok (.astore_n 3, 1) := by decide +kernel
theorem dL_fates_13 : decode cL_fates 13 = .ok (.iconst 1, 1) := by decide +kernel
theorem dL_fates_14 : decode cL_fates 14 = .ok (.ireturn, 1) := by decide +kernel
theorem dL_fates_15 : decode cL_fates 15 = .ok (.iconst 0, 1) := by decide +kernel
theorem dL_fates_16 : decode cL_fates 16 = .ok (.ireturn, 1) := by decide +kernel
theorem dL_hits_0 : decode cL_hits 0 = .ok (.aload_n 3, 1) := by decide +kernel
theorem dL_hits_1 : decode cL_hits 1 = .ok (.iconst 0, 1) := by decide +kernel
theorem dL_hits_2 : decode cL_hits 2 = .ok (.aload_n 0, 1) := by decide +kernel
theorem dL_hits_3 : decode cL_hits 3 = .ok (.iload_n 1, 1) := by decide +kernel
theorem dL_hits_4 : decode cL_hits 4 = .ok (.iload_n 2, 1) := by decide +kernel
theorem dL_hits_5 : decode cL_hits 5 = .ok (.invokevirtual 123, 3) := by decide +kernel
theorem dL_hits_8 : decode cL_hits 8 = .ok (.i2l, 1) := by decide +kernel
theorem dL_hits_9 : decode cL_hits 9 = .ok (.lastore, 1) := by decide +kernel
theorem dL_hits_10 : decode cL_hits 10 = .ok (.goto 7, 3) := by decide +kernel
theorem dL_hits_13 : decode cL_hits 13 = .ok (.astore 4, 2) := by decide +kernel
theorem dL_hits_15 : decode cL_hits 15 = .ok (.iconst 1, 1) := by decide +kernel
theorem dL_hits_16 : decode cL_hits 16 = .ok (.ireturn, 1) := by decide +kernel
theorem dL_hits_17 : decode cL_hits 17 = .ok (.iconst 0, 1) := by decide +kernel
theorem dL_hits_18 : decode cL_hits 18 = .ok (.ireturn, 1) := by decide +kernel
