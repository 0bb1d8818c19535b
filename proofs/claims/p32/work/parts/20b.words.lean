noncomputable def wyX11_need : List Cond := (.code yX11_need cX11_need 1 none :: (wapp [.classLink RX11 157 "java/util/NoSuchElementException", .initialized "java/util/NoSuchElementException"] (wx_at1.filter goodWord)))
noncomputable def wyX11_numberOf : List Cond := (.code yX11_numberOf cX11_numberOf 2 (some .int) :: (wapp [.methodLink RX11 250 yX11_isBook, .static yX11_isBook, .initialized RX11, .code yX11_isBook cX11_isBook 1 (some .boolean), .methodLink RX11 96 yX11_within, .static yX11_within, .code yX11_within cX11_within 3 (some .boolean), .methodLink RX11 168 yX11_need, .static yX11_need, .code yX11_need cX11_need 1 none, .classLink RX11 157 "java/util/NoSuchElementException", .initialized "java/util/NoSuchElementException"] (wx_at1.filter goodWord)))
noncomputable def wyX11_wheel : List Cond := (.code yX11_wheel cX11_wheel 5 (some .int) :: (wapp (wapp (wapp (wapp (wapp (wapp wsX11_wheel_r1 (wapp wsX11_wheel_r2 (wapp wsX11_wheel_r3 (wapp wsX11_wheel_r4 (wapp wsX11_wheel_r5 (wapp wsX11_wheel_r6 (wapp wsX11_wheel_r7 wsX11_wheel_r8))))))) wsX110) wsX90) wsX10) (wx_at1.filter goodWord)) ((vx_atS RX11 377 "java/lang/IllegalArgumentException" ["java/lang/RuntimeException", "java/lang/Exception"]).filter goodWord)))
noncomputable def wyX11_count : List Cond := (.code yX11_count cX11_count 2 (some .int) :: (wapp (wapp (wapp (wapp (wapp (wapp (wapp (wapp (wapp wsX11_count_r1 wsX11_count_r2) wsX110) wsX50) wsX20) wsX40) wsX90) wsX10) wsX70) (wx_at1.filter goodWord)))
noncomputable def wyX11_place : List Cond := (.code yX11_place cX11_place 4 (some .int) :: (wapp (wapp (wapp (wapp wsX11_place_r1 wsX11_place_r2) wsX110) wsX50) (wx_at1.filter goodWord)))
noncomputable def wyX11_entry : List Cond := (.code yX11_entry cX11_entry 5 (some .int) :: (wapp (wapp (wapp [.fieldLink RX11 29 "WheelBook" "books" "LWheelBook$Books;", .methodLink RX11 118 yX11_numberOf, .static yX11_numberOf, .initialized RX11, .code yX11_numberOf cX11_numberOf 2 (some .int), .methodLink RX11 250 yX11_isBook, .static yX11_isBook, .code yX11_isBook cX11_isBook 1 (some .boolean), .methodLink RX11 96 yX11_within, .static yX11_within, .code yX11_within cX11_within 3 (some .boolean), .methodLink RX11 168 yX11_need, .static yX11_need, .code yX11_need cX11_need 1 none, .classLink RX11 157 "java/util/NoSuchElementException", .initialized "java/util/NoSuchElementException", .methodLink RX11 175 yX1_degreeOf, .instanceMethod yX1_degreeOf, .selects RX1 yX1_degreeOf yX1_degreeOf, .initialized RX1, .code yX1_degreeOf cX1_degreeOf 3 (some .int), .fieldLink RX1 9 "WheelBook$Books" "degrees" "[I"] wsX110) wsX10) (wx_at1.filter goodWord)))
noncomputable def wyX11_cost : List Cond := (.code yX11_cost cX11_cost 6 (some .int) :: (wapp (wapp (wapp (wapp (wapp (wapp wsX11_cost_r1 (wapp wsX11_cost_r2 (wapp wsX11_cost_r3 wsX11_cost_r4))) wsX110) wsX50) wsX10) wsX40) (wx_at1.filter goodWord)))
noncomputable def wyX11_best : List Cond := (.code yX11_best cX11_best 7 (some .int) :: (wapp (wapp (wapp (wapp (wapp (wapp (wapp (wapp wsX11_best_r1 (wapp wsX11_best_r2 (wapp wsX11_best_r3 (wapp wsX11_best_r4 wsX11_best_r5)))) wsX110) wsX80) wsX50) wsX10) wsX40) (wx_at1.filter goodWord)) ((vx_atS RX11 377 "java/lang/IllegalArgumentException" ["java/lang/RuntimeException", "java/lang/Exception"]).filter goodWord)))
noncomputable def wyX11_day : List Cond := (.code yX11_day cX11_day 2 (some .int) :: (wapp (wapp (wapp (wapp wsX11_day_r1 wsX11_day_r2) wsX110) wsX80) (wx_at1.filter goodWord)))
noncomputable def wyX11_whose : List Cond := (.code yX11_whose cX11_whose 11 (some .int) :: (wapp (wapp (wapp (wapp (wapp (wapp (wapp (wapp wsX11_whose_r1 (wapp wsX11_whose_r2 (wapp wsX11_whose_r3 (wapp wsX11_whose_r4 wsX11_whose_r5)))) wsX110) wsX80) wsX50) wsX10) wsX40) (wx_at1.filter goodWord)) ((vx_atS RX11 377 "java/lang/IllegalArgumentException" ["java/lang/RuntimeException", "java/lang/Exception"]).filter goodWord)))
noncomputable def wyX11_mixed : List Cond := (.code yX11_mixed cX11_mixed 8 (some .int) :: (wapp (wapp (wapp (wapp (wapp (wapp wsX11_mixed_r1 (wapp wsX11_mixed_r2 (wapp wsX11_mixed_r3 wsX11_mixed_r4))) wsX110) wsX10) wsX50) (wx_at1.filter goodWord)) ((vx_atS RX11 377 "java/lang/IllegalArgumentException" ["java/lang/RuntimeException", "java/lang/Exception"]).filter goodWord)))
noncomputable def wyX11_climb : List Cond := (.code yX11_climb cX11_climb 3 (some .int) :: (wapp (wapp (wapp (wapp [.fieldLink RX11 19 "WheelBook" "told" "LWheelBook$House;", .fieldLink RX11 131 "WheelBook$House" "climates" "LWheelBook$Climates;", .methodLink RX11 212 yX11_isClimate, .instanceMethod yX11_isClimate, .selects RX11 yX11_isClimate yX11_isClimate, .initialized RX11, .code yX11_isClimate cX11_isClimate 2 (some .boolean), .fieldLink RX11 135 "WheelBook$Climates" "many" "I", .methodLink RX11 96 yX11_within, .static yX11_within, .code yX11_within cX11_within 3 (some .boolean), .methodLink RX11 168 yX11_need, .static yX11_need, .code yX11_need cX11_need 1 none, .classLink RX11 157 "java/util/NoSuchElementException", .initialized "java/util/NoSuchElementException", .methodLink RX11 215 yX2_climbOf, .instanceMethod yX2_climbOf, .selects RX2 yX2_climbOf yX2_climbOf, .initialized RX2, .code yX2_climbOf cX2_climbOf 6 (some .int), .fieldLink RX2 11 "WheelBook$Climates" "ahead" "[I"] wsX110) wsX50) wsX20) (wx_at1.filter goodWord)))
noncomputable def wyX11_rise : List Cond := (.code yX11_rise cX11_rise 4 (some .int) :: (wapp (wapp (wapp (wapp (wapp wsX11_rise_r1 wsX11_rise_r2) wsX110) wsX50) wsX20) (wx_at1.filter goodWord)))
noncomputable def wyX11_middle : List Cond := (.code yX11_middle cX11_middle 3 (some .int) :: (wapp (wapp (wapp (wapp (wapp wsX11_middle_r1 wsX11_middle_r2) wsX110) wsX50) wsX20) (wx_at1.filter goodWord)))
noncomputable def wyX11_hour : List Cond := (.code yX11_hour cX11_hour 9 (some .int) :: (wapp (wapp (wapp (wapp (wapp (wapp wsX11_hour_r1 (wapp wsX11_hour_r2 wsX11_hour_r3)) wsX110) wsX50) wsX10) wsX20) (wx_at1.filter goodWord)))
noncomputable def wyX11_houseOf : List Cond := (.code yX11_houseOf cX11_houseOf 5 (some .int) :: (wapp (wapp (wapp (wapp (wapp wsX11_houseOf_r1 wsX11_houseOf_r2) wsX110) wsX50) wsX20) (wx_at1.filter goodWord)))
noncomputable def wyX11_agree : List Cond := (.code yX11_agree cX11_agree 6 (some .int) :: (wapp (wapp (wapp (wapp (wapp (wapp wsX11_agree_r1 (wapp wsX11_agree_r2 wsX11_agree_r3)) wsX110) wsX50) wsX20) wsX10) (wx_at1.filter goodWord)))
noncomputable def wyX11_lot : List Cond := (.code yX11_lot cX11_lot 7 (some .int) :: (wapp (wapp (wapp (wapp (wapp (wapp wsX11_lot_r1 wsX11_lot_r2) wsX110) wsX50) wsX10) wsX40) (wx_at1.filter goodWord)))
noncomputable def wyX11_price : List Cond := (.code yX11_price cX11_price 3 (some .int) :: (wapp (wapp (wapp (wapp (wapp (wapp wsX11_price_r1 wsX11_price_r2) wsX110) wsX50) wsX10) wsX40) (wx_at1.filter goodWord)))
noncomputable def wyX11_seek : List Cond := (.code yX11_seek cX11_seek 6 none :: (wapp (wapp (wapp (wapp wsX11_seek_r1 wsX11_seek_r2) wsX110) wsX80) (wx_at1.filter goodWord)))
noncomputable def wyX11_on : List Cond := (.code yX11_on cX11_on 2 (some .int) :: (wapp (wapp (wapp (wapp (wapp (wapp (wapp (wapp wsX11_on_r1 (wapp wsX11_on_r2 (wapp wsX11_on_r3 wsX11_on_r4))) wsX110) wsX80) wsX50) wsX10) wsX40) (wx_at1.filter goodWord)) ((vx_atS RX11 377 "java/lang/IllegalArgumentException" ["java/lang/RuntimeException", "java/lang/Exception"]).filter goodWord)))
noncomputable def wyX11_held : List Cond := (.code yX11_held cX11_held 3 (some .int) :: (wapp (wapp (wapp [.fieldLink RX11 50 "WheelBook" "search" "LWheelBook$Search;", .fieldLink RX11 196 "WheelBook$Search" "begun" "Z", .fieldLink RX11 200 "WheelBook$Search" "many" "I", .fieldLink RX11 258 "WheelBook$Search" "next" "I", .fieldLink RX11 193 "WheelBook$Search" "least" "I", .fieldLink RX11 261 "WheelBook$Search" "latest" "I", .methodLink RX11 96 yX11_within, .static yX11_within, .initialized RX11, .code yX11_within cX11_within 3 (some .boolean), .methodLink RX11 168 yX11_need, .static yX11_need, .code yX11_need cX11_need 1 none, .classLink RX11 157 "java/util/NoSuchElementException", .initialized "java/util/NoSuchElementException", .methodLink RX11 204 yX8_keptDay, .instanceMethod yX8_keptDay, .selects RX8 yX8_keptDay yX8_keptDay, .initialized RX8, .code yX8_keptDay cX8_keptDay 2 (some .int), .fieldLink RX8 11 "WheelBook$Search" "days" "[I"] wsX110) wsX80) (wx_at1.filter goodWord)))
noncomputable def wyX11_misread : List Cond := (.code yX11_misread cX11_misread 8 (some .int) :: (wapp (wapp (wapp (wapp (wapp (wapp wsX11_misread_r1 (wapp wsX11_misread_r2 wsX11_misread_r3)) wsX110) wsX50) wsX10) wsX40) (wx_at1.filter goodWord)))
noncomputable def wyX11_errors : List Cond := (.code yX11_errors cX11_errors 7 (some .int) :: (wapp (wapp (wapp (wapp (wapp (wapp wsX11_errors_r1 (wapp wsX11_errors_r2 (wapp wsX11_errors_r3 (wapp wsX11_errors_r4 wsX11_errors_r5)))) wsX110) wsX30) wsX10) wsX50) (wx_at1.filter goodWord)))
noncomputable def wyX11_possible : List Cond := (.code yX11_possible cX11_possible 5 (some .int) :: (wapp (wapp (wapp (wapp (wapp (wapp wsX11_possible_r1 (wapp wsX11_possible_r2 (wapp wsX11_possible_r3 wsX11_possible_r4))) wsX110) wsX10) wsX50) wsX20) (wx_at1.filter goodWord)))
noncomputable def wyX11_slips : List Cond := (.code yX11_slips cX11_slips 3 (some .int) :: (wapp (wapp (wapp (wapp (wapp (wapp (wapp wsX11_slips_r1 wsX11_slips_r2) wsX110) wsX100) wsX50) wsX10) wsX40) (wx_at1.filter goodWord)))
noncomputable def wyX11_handed : List Cond := (.code yX11_handed cX11_handed 4 (some .int) :: (wapp (wapp (wapp [.fieldLink RX11 29 "WheelBook" "books" "LWheelBook$Books;", .methodLink RX11 250 yX11_isBook, .static yX11_isBook, .initialized RX11, .code yX11_isBook cX11_isBook 1 (some .boolean), .methodLink RX11 96 yX11_within, .static yX11_within, .code yX11_within cX11_within 3 (some .boolean), .methodLink RX11 168 yX11_need, .static yX11_need, .code yX11_need cX11_need 1 none, .classLink RX11 157 "java/util/NoSuchElementException", .initialized "java/util/NoSuchElementException", .methodLink RX11 304 yX1_howManyHanded, .instanceMethod yX1_howManyHanded, .selects RX1 yX1_howManyHanded yX1_howManyHanded, .initialized RX1, .code yX1_howManyHanded cX1_howManyHanded 9 (some .int), .fieldLink RX1 9 "WheelBook$Books" "degrees" "[I"] wsX110) wsX10) (wx_at1.filter goodWord)))
noncomputable def wyX11_leaf : List Cond := (.code yX11_leaf cX11_leaf 3 (some .int) :: (wapp (wapp (wapp [.fieldLink RX11 66 "WheelBook" "leaves" "LWheelBook$Leaves;", .methodLink RX11 250 yX11_isBook, .static yX11_isBook, .initialized RX11, .code yX11_isBook cX11_isBook 1 (some .boolean), .methodLink RX11 96 yX11_within, .static yX11_within, .code yX11_within cX11_within 3 (some .boolean), .methodLink RX11 168 yX11_need, .static yX11_need, .code yX11_need cX11_need 1 none, .classLink RX11 157 "java/util/NoSuchElementException", .initialized "java/util/NoSuchElementException", .methodLink RX11 307 yX6_addTo, .instanceMethod yX6_addTo, .selects RX6 yX6_addTo yX6_addTo, .initialized RX6, .code yX6_addTo cX6_addTo 3 (some .int), .fieldLink RX6 15 "WheelBook$Leaves" "many" "[I", .fieldLink RX6 9 "WheelBook$Leaves" "wheels" "[I", .methodLink RX6 24 yX6_placeOf, .instanceMethod yX6_placeOf, .selects RX6 yX6_placeOf yX6_placeOf, .code yX6_placeOf cX6_placeOf 4 (some .int)] wsX110) wsX60) (wx_at1.filter goodWord)))
noncomputable def wyX11_order : List Cond := (.code yX11_order cX11_order 4 (some .int) :: (wapp (wapp (wapp (wapp wsX11_order_r1 wsX11_order_r2) wsX110) wsX60) (wx_at1.filter goodWord)))
noncomputable def wyX11_same : List Cond := (.code yX11_same cX11_same 4 (some .boolean) :: (wapp (wapp (wapp (wapp (wapp (wapp wsX11_same_r1 wsX11_same_r2) wsX110) wsX50) wsX10) wsX40) (wx_at1.filter goodWord)))
noncomputable def wyX11_births : List Cond := (.code yX11_births cX11_births 3 (some .int) :: (wapp (wapp (wapp (wapp (wapp (wapp (wapp wsX11_births_r1 (wapp wsX11_births_r2 wsX11_births_r3)) wsX110) wsX50) wsX00) wsX10) wsX40) (wx_at1.filter goodWord)))
noncomputable def wyX11_whence : List Cond := (.code yX11_whence cX11_whence 2 (some .int) :: (wapp (wapp (wapp [.fieldLink RX11 59 "WheelBook" "copies" "LWheelBook$Tree;", .fieldLink RX11 298 "WheelBook$Tree" "isKept" "Z", .methodLink RX11 250 yX11_isBook, .static yX11_isBook, .initialized RX11, .code yX11_isBook cX11_isBook 1 (some .boolean), .methodLink RX11 96 yX11_within, .static yX11_within, .code yX11_within cX11_within 3 (some .boolean), .methodLink RX11 345 yX10_holds, .instanceMethod yX10_holds, .selects RX10 yX10_holds yX10_holds, .initialized RX10, .code yX10_holds cX10_holds 2 (some .boolean), .fieldLink RX10 18 "WheelBook$Tree" "bestRow" "[I", .methodLink RX11 168 yX11_need, .static yX11_need, .code yX11_need cX11_need 1 none, .classLink RX11 157 "java/util/NoSuchElementException", .initialized "java/util/NoSuchElementException", .methodLink RX11 348 yX10_parentOf, .instanceMethod yX10_parentOf, .selects RX10 yX10_parentOf yX10_parentOf, .code yX10_parentOf cX10_parentOf 2 (some .int)] wsX110) wsX100) (wx_at1.filter goodWord)))
noncomputable def wyX11_life : List Cond := (.code yX11_life cX11_life 4 (some .boolean) :: (wapp (wapp (wapp [.fieldLink RX11 80 "WheelBook" "outcomes" "LWheelBook$Outcomes;", .methodLink RX11 96 yX11_within, .static yX11_within, .initialized RX11, .code yX11_within cX11_within 3 (some .boolean), .methodLink RX11 168 yX11_need, .static yX11_need, .code yX11_need cX11_need 1 none, .classLink RX11 157 "java/util/NoSuchElementException", .initialized "java/util/NoSuchElementException", .methodLink RX11 351 yX7_tellLife, .instanceMethod yX7_tellLife, .selects RX7 yX7_tellLife yX7_tellLife, .initialized RX7, .code yX7_tellLife cX7_tellLife 4 none, .fieldLink RX7 9 "WheelBook$Outcomes" "foretold" "[I", .fieldLink RX7 15 "WheelBook$Outcomes" "came" "[I"] wsX110) wsX70) (wx_at1.filter goodWord)))
noncomputable def wyX11_fate : List Cond := (.code yX11_fate cX11_fate 3 (some .boolean) :: (wapp (wapp (wapp [.fieldLink RX11 80 "WheelBook" "outcomes" "LWheelBook$Outcomes;", .methodLink RX11 96 yX11_within, .static yX11_within, .initialized RX11, .code yX11_within cX11_within 3 (some .boolean), .methodLink RX11 168 yX11_need, .static yX11_need, .code yX11_need cX11_need 1 none, .classLink RX11 157 "java/util/NoSuchElementException", .initialized "java/util/NoSuchElementException", .methodLink RX11 354 yX7_tellFate, .instanceMethod yX7_tellFate, .selects RX7 yX7_tellFate yX7_tellFate, .initialized RX7, .code yX7_tellFate cX7_tellFate 3 none, .fieldLink RX7 18 "WheelBook$Outcomes" "houses" "[I"] wsX110) wsX70) (wx_at1.filter goodWord)))
noncomputable def wyX11_fates : List Cond := (.code yX11_fates cX11_fates 2 (some .int) :: (wapp (wapp (wapp (wapp (wapp wsX11_fates_r1 (wapp wsX11_fates_r2 wsX11_fates_r3)) wsX110) wsX70) wsX10) (wx_at1.filter goodWord)))
noncomputable def wyX11_hits : List Cond := (.code yX11_hits cX11_hits 3 (some .int) :: (wapp (wapp (wapp (wapp wsX11_hits_r1 (wapp wsX11_hits_r2 wsX11_hits_r3)) wsX110) wsX70) (wx_at1.filter goodWord)))
noncomputable def wyL_wheel : List Cond := (.codeWith yL_wheel cL_wheel 6 (some .int) [(0, 12, 15, 19), (0, 12, 19, 13)] :: (wapp (wapp (wapp (wapp (wapp (wapp wsL_wheel_r1 (wapp wsL_wheel_r2 (wapp wsL_wheel_r3 (wapp wsL_wheel_r4 (wapp wsL_wheel_r5 (wapp wsL_wheel_r6 (wapp wsL_wheel_r7 wsL_wheel_r8))))))) wsX110) wsX90) wsX10) (wx_at1.filter goodWord)) ((vx_atS RX11 377 "java/lang/IllegalArgumentException" ["java/lang/RuntimeException", "java/lang/Exception"]).filter goodWord)))
noncomputable def wyL_count : List Cond := (.codeWith yL_count cL_count 4 (some .int) [(0, 9, 12, 19)] :: (wapp (wapp (wapp (wapp (wapp (wapp (wapp (wapp (wapp wsL_count_r1 wsL_count_r2) wsX110) wsX50) wsX20) wsX40) wsX90) wsX10) wsX70) (wx_at1.filter goodWord)))
noncomputable def wyL_place : List Cond := (.codeWith yL_place cL_place 6 (some .int) [(0, 12, 15, 19)] :: (wapp (wapp (wapp (wapp wsL_place_r1 wsL_place_r2) wsX110) wsX50) (wx_at1.filter goodWord)))
noncomputable def wyL_entry : List Cond := (.codeWith yL_entry cL_entry 6 (some .int) [(0, 12, 15, 19)] :: (wapp (wapp (wapp (wapp wsL_entry_r1 wsL_entry_r2) wsX110) wsX10) (wx_at1.filter goodWord)))
noncomputable def wyL_cost : List Cond := (.codeWith yL_cost cL_cost 7 (some .int) [(0, 14, 17, 19)] :: (wapp (wapp (wapp (wapp (wapp (wapp wsL_cost_r1 (wapp wsL_cost_r2 (wapp wsL_cost_r3 wsL_cost_r4))) wsX110) wsX50) wsX10) wsX40) (wx_at1.filter goodWord)))
noncomputable def wyL_best : List Cond := (.codeWith yL_best cL_best 8 (some .int) [(0, 16, 19, 19), (0, 16, 23, 13)] :: (wapp (wapp (wapp (wapp (wapp (wapp (wapp (wapp wsL_best_r1 (wapp wsL_best_r2 (wapp wsL_best_r3 (wapp wsL_best_r4 wsL_best_r5)))) wsX110) wsX80) wsX50) wsX10) wsX40) (wx_at1.filter goodWord)) ((vx_atS RX11 377 "java/lang/IllegalArgumentException" ["java/lang/RuntimeException", "java/lang/Exception"]).filter goodWord)))
noncomputable def wyL_day : List Cond := (.codeWith yL_day cL_day 4 (some .int) [(0, 9, 12, 19)] :: (wapp (wapp (wapp (wapp wsL_day_r1 wsL_day_r2) wsX110) wsX80) (wx_at1.filter goodWord)))
noncomputable def wyL_whose : List Cond := (.codeWith yL_whose cL_whose 8 (some .int) [(0, 16, 19, 19), (0, 16, 23, 13)] :: (wapp (wapp (wapp (wapp (wapp (wapp (wapp (wapp wsL_whose_r1 (wapp wsL_whose_r2 (wapp wsL_whose_r3 (wapp wsL_whose_r4 wsL_whose_r5)))) wsX110) wsX80) wsX50) wsX10) wsX40) (wx_at1.filter goodWord)) ((vx_atS RX11 377 "java/lang/IllegalArgumentException" ["java/lang/RuntimeException", "java/lang/Exception"]).filter goodWord)))
noncomputable def wyL_mixed : List Cond := (.codeWith yL_mixed cL_mixed 7 (some .int) [(0, 14, 17, 19), (0, 14, 21, 13)] :: (wapp (wapp (wapp (wapp (wapp (wapp wsL_mixed_r1 (wapp wsL_mixed_r2 (wapp wsL_mixed_r3 wsL_mixed_r4))) wsX110) wsX10) wsX50) (wx_at1.filter goodWord)) ((vx_atS RX11 377 "java/lang/IllegalArgumentException" ["java/lang/RuntimeException", "java/lang/Exception"]).filter goodWord)))
noncomputable def wyL_climb : List Cond := (.codeWith yL_climb cL_climb 5 (some .int) [(0, 10, 13, 19)] :: (wapp (wapp (wapp (wapp (wapp wsL_climb_r1 wsL_climb_r2) wsX110) wsX50) wsX20) (wx_at1.filter goodWord)))
noncomputable def wyL_rise : List Cond := (.codeWith yL_rise cL_rise 6 (some .int) [(0, 12, 15, 19)] :: (wapp (wapp (wapp (wapp (wapp wsL_rise_r1 wsL_rise_r2) wsX110) wsX50) wsX20) (wx_at1.filter goodWord)))
noncomputable def wyL_middle : List Cond := (.codeWith yL_middle cL_middle 5 (some .int) [(0, 10, 13, 19)] :: (wapp (wapp (wapp (wapp (wapp wsL_middle_r1 wsL_middle_r2) wsX110) wsX50) wsX20) (wx_at1.filter goodWord)))
noncomputable def wyL_hour : List Cond := (.codeWith yL_hour cL_hour 6 (some .int) [(0, 12, 15, 19)] :: (wapp (wapp (wapp (wapp (wapp (wapp wsL_hour_r1 (wapp wsL_hour_r2 wsL_hour_r3)) wsX110) wsX50) wsX10) wsX20) (wx_at1.filter goodWord)))
noncomputable def wyL_houseOf : List Cond := (.codeWith yL_houseOf cL_houseOf 7 (some .int) [(0, 14, 17, 19)] :: (wapp (wapp (wapp (wapp (wapp wsL_houseOf_r1 (wapp wsL_houseOf_r2 wsL_houseOf_r3)) wsX110) wsX50) wsX20) (wx_at1.filter goodWord)))
noncomputable def wyL_agree : List Cond := (.codeWith yL_agree cL_agree 7 (some .int) [(0, 14, 17, 19)] :: (wapp (wapp (wapp (wapp (wapp (wapp wsL_agree_r1 (wapp wsL_agree_r2 (wapp wsL_agree_r3 wsL_agree_r4))) wsX110) wsX50) wsX20) wsX10) (wx_at1.filter goodWord)))
noncomputable def wyL_lot : List Cond := (.codeWith yL_lot cL_lot 6 (some .int) [(0, 12, 15, 19)] :: (wapp (wapp (wapp (wapp (wapp (wapp wsL_lot_r1 (wapp wsL_lot_r2 wsL_lot_r3)) wsX110) wsX50) wsX10) wsX40) (wx_at1.filter goodWord)))
noncomputable def wyL_price : List Cond := (.codeWith yL_price cL_price 5 (some .int) [(0, 10, 13, 19)] :: (wapp (wapp (wapp (wapp (wapp (wapp wsL_price_r1 wsL_price_r2) wsX110) wsX50) wsX10) wsX40) (wx_at1.filter goodWord)))
noncomputable def wyL_seek : List Cond := (.codeWith yL_seek cL_seek 6 (some .int) [(0, 9, 12, 19)] :: (wapp (wapp (wapp (wapp wsL_seek_r1 wsL_seek_r2) wsX110) wsX80) (wx_at1.filter goodWord)))
noncomputable def wyL_on : List Cond := (.codeWith yL_on cL_on 4 (some .int) [(0, 9, 12, 19), (0, 9, 15, 13)] :: (wapp (wapp (wapp (wapp (wapp (wapp (wapp (wapp wsL_on_r1 (wapp wsL_on_r2 (wapp wsL_on_r3 (wapp wsL_on_r4 wsL_on_r5)))) wsX110) wsX80) wsX50) wsX10) wsX40) (wx_at1.filter goodWord)) ((vx_atS RX11 377 "java/lang/IllegalArgumentException" ["java/lang/RuntimeException", "java/lang/Exception"]).filter goodWord)))
noncomputable def wyL_held : List Cond := (.codeWith yL_held cL_held 4 (some .int) [(0, 9, 12, 19)] :: (wapp (wapp (wapp (wapp wsL_held_r1 wsL_held_r2) wsX110) wsX80) (wx_at1.filter goodWord)))
noncomputable def wyL_misread : List Cond := (.codeWith yL_misread cL_misread 8 (some .int) [(0, 16, 19, 19)] :: (wapp (wapp (wapp (wapp (wapp (wapp wsL_misread_r1 (wapp wsL_misread_r2 (wapp wsL_misread_r3 wsL_misread_r4))) wsX110) wsX50) wsX10) wsX40) (wx_at1.filter goodWord)))
noncomputable def wyL_errors : List Cond := (.codeWith yL_errors cL_errors 7 (some .int) [(0, 14, 17, 19)] :: (wapp (wapp (wapp (wapp (wapp (wapp wsL_errors_r1 (wapp wsL_errors_r2 (wapp wsL_errors_r3 (wapp wsL_errors_r4 wsL_errors_r5)))) wsX110) wsX30) wsX10) wsX50) (wx_at1.filter goodWord)))
noncomputable def wyL_possible : List Cond := (.codeWith yL_possible cL_possible 6 (some .int) [(0, 12, 15, 19)] :: (wapp (wapp (wapp (wapp (wapp (wapp wsL_possible_r1 (wapp wsL_possible_r2 (wapp wsL_possible_r3 wsL_possible_r4))) wsX110) wsX10) wsX50) wsX20) (wx_at1.filter goodWord)))
noncomputable def wyL_slips : List Cond := (.codeWith yL_slips cL_slips 5 (some .int) [(0, 10, 13, 19)] :: (wapp (wapp (wapp (wapp (wapp (wapp (wapp wsL_slips_r1 wsL_slips_r2) wsX110) wsX100) wsX50) wsX10) wsX40) (wx_at1.filter goodWord)))
noncomputable def wyL_handed : List Cond := (.codeWith yL_handed cL_handed 6 (some .int) [(0, 12, 15, 19)] :: (wapp (wapp (wapp [.classLink RL 19 "java/util/NoSuchElementException", .methodLink RL 94 yX11_handed, .instanceMethod yX11_handed, .selects RX11 yX11_handed yX11_handed, .initialized RX11, .code yX11_handed cX11_handed 4 (some .int), .fieldLink RX11 29 "WheelBook" "books" "LWheelBook$Books;", .methodLink RX11 250 yX11_isBook, .static yX11_isBook, .code yX11_isBook cX11_isBook 1 (some .boolean), .methodLink RX11 96 yX11_within, .static yX11_within, .code yX11_within cX11_within 3 (some .boolean), .methodLink RX11 168 yX11_need, .static yX11_need, .code yX11_need cX11_need 1 none, .classLink RX11 157 "java/util/NoSuchElementException", .initialized "java/util/NoSuchElementException", .methodLink RX11 304 yX1_howManyHanded, .instanceMethod yX1_howManyHanded, .selects RX1 yX1_howManyHanded yX1_howManyHanded, .initialized RX1, .code yX1_howManyHanded cX1_howManyHanded 9 (some .int), .fieldLink RX1 9 "WheelBook$Books" "degrees" "[I"] wsX110) wsX10) (wx_at1.filter goodWord)))
noncomputable def wyL_leaf : List Cond := (.codeWith yL_leaf cL_leaf 5 (some .int) [(0, 10, 13, 19)] :: (wapp (wapp (wapp (wapp wsL_leaf_r1 wsL_leaf_r2) wsX110) wsX60) (wx_at1.filter goodWord)))
noncomputable def wyL_order : List Cond := (.codeWith yL_order cL_order 6 (some .int) [(0, 12, 15, 19)] :: (wapp (wapp (wapp (wapp wsL_order_r1 wsL_order_r2) wsX110) wsX60) (wx_at1.filter goodWord)))
noncomputable def wyL_same : List Cond := (.codeWith yL_same cL_same 6 (some .int) [(0, 19, 22, 19)] :: (wapp (wapp (wapp (wapp (wapp (wapp wsL_same_r1 wsL_same_r2) wsX110) wsX50) wsX10) wsX40) (wx_at1.filter goodWord)))
noncomputable def wyL_births : List Cond := (.codeWith yL_births cL_births 5 (some .int) [(0, 10, 13, 19)] :: (wapp (wapp (wapp (wapp (wapp (wapp (wapp wsL_births_r1 (wapp wsL_births_r2 wsL_births_r3)) wsX110) wsX50) wsX00) wsX10) wsX40) (wx_at1.filter goodWord)))
noncomputable def wyL_whence : List Cond := (.codeWith yL_whence cL_whence 4 (some .int) [(0, 9, 12, 19)] :: (wapp (wapp (wapp (wapp wsL_whence_r1 wsL_whence_r2) wsX110) wsX100) (wx_at1.filter goodWord)))
noncomputable def wyL_life : List Cond := (.codeWith yL_life cL_life 6 (some .int) [(0, 19, 22, 19)] :: (wapp (wapp (wapp [.classLink RL 19 "java/util/NoSuchElementException", .methodLink RL 113 yX11_life, .instanceMethod yX11_life, .selects RX11 yX11_life yX11_life, .initialized RX11, .code yX11_life cX11_life 4 (some .boolean), .fieldLink RX11 80 "WheelBook" "outcomes" "LWheelBook$Outcomes;", .methodLink RX11 96 yX11_within, .static yX11_within, .code yX11_within cX11_within 3 (some .boolean), .methodLink RX11 168 yX11_need, .static yX11_need, .code yX11_need cX11_need 1 none, .classLink RX11 157 "java/util/NoSuchElementException", .initialized "java/util/NoSuchElementException", .methodLink RX11 351 yX7_tellLife, .instanceMethod yX7_tellLife, .selects RX7 yX7_tellLife yX7_tellLife, .initialized RX7, .code yX7_tellLife cX7_tellLife 4 none, .fieldLink RX7 9 "WheelBook$Outcomes" "foretold" "[I", .fieldLink RX7 15 "WheelBook$Outcomes" "came" "[I"] wsX110) wsX70) (wx_at1.filter goodWord)))
noncomputable def wyL_fate : List Cond := (.codeWith yL_fate cL_fate 5 (some .int) [(0, 17, 20, 19)] :: (wapp (wapp (wapp [.classLink RL 19 "java/util/NoSuchElementException", .methodLink RL 116 yX11_fate, .instanceMethod yX11_fate, .selects RX11 yX11_fate yX11_fate, .initialized RX11, .code yX11_fate cX11_fate 3 (some .boolean), .fieldLink RX11 80 "WheelBook" "outcomes" "LWheelBook$Outcomes;", .methodLink RX11 96 yX11_within, .static yX11_within, .code yX11_within cX11_within 3 (some .boolean), .methodLink RX11 168 yX11_need, .static yX11_need, .code yX11_need cX11_need 1 none, .classLink RX11 157 "java/util/NoSuchElementException", .initialized "java/util/NoSuchElementException", .methodLink RX11 354 yX7_tellFate, .instanceMethod yX7_tellFate, .selects RX7 yX7_tellFate yX7_tellFate, .initialized RX7, .code yX7_tellFate cX7_tellFate 3 none, .fieldLink RX7 18 "WheelBook$Outcomes" "houses" "[I"] wsX110) wsX70) (wx_at1.filter goodWord)))
noncomputable def wyL_fates : List Cond := (.codeWith yL_fates cL_fates 4 (some .int) [(0, 9, 12, 19)] :: (wapp (wapp (wapp (wapp (wapp wsL_fates_r1 (wapp wsL_fates_r2 wsL_fates_r3)) wsX110) wsX70) wsX10) (wx_at1.filter goodWord)))
noncomputable def wyL_hits : List Cond := (.codeWith yL_hits cL_hits 5 (some .int) [(0, 10, 13, 19)] :: (wapp (wapp (wapp (wapp wsL_hits_r1 (wapp wsL_hits_r2 wsL_hits_r3)) wsX110) wsX70) (wx_at1.filter goodWord)))
set_option maxRecDepth 20000 in
theorem ggyX11_wheel_X11_numberOf : GoodIn wyX11_wheel wyX11_numberOf := goodIn_ca (goodIn_k _ [[8, 0, 0], [7, 3, 0, 0, 0, 0, 0, 0, 0, 0]] (by rfl) (by decide +kernel)) (goodIn_sub (fun _ h => List.mem_cons_of_mem _ (List.mem_append_left _ (List.mem_append_right _ h))) (by decide +kernel))
set_option maxRecDepth 20000 in
theorem gyX11_wheel_X11_numberOf : GoodIn wyX11_wheel (va_wsS RX11 118 yX11_numberOf wyX11_numberOf) := goodIn_app (goodIn_k _ [[5, 0, 0]] (by rfl) (gw_S _ _ _ _)) ggyX11_wheel_X11_numberOf
set_option maxRecDepth 20000 in
theorem ggyX11_wheel_X11_within : GoodIn wyX11_wheel wsX11_within := goodIn_k _ [[14]] (by rfl) (by decide +kernel)
set_option maxRecDepth 20000 in
theorem gyX11_wheel_X11_within : GoodIn wyX11_wheel (va_wsS RX11 96 yX11_within wsX11_within) := goodIn_app (goodIn_k _ [[12, 0], [7]] (by rfl) (gw_S _ _ _ _)) ggyX11_wheel_X11_within
set_option maxRecDepth 20000 in
theorem ggyX11_wheel_X11_allow : GoodIn wyX11_wheel wsX11_allow := goodIn_ca (goodIn_k _ [[22, 0, 0]] (by rfl) (by decide +kernel)) (goodIn_sub (fun _ h => List.mem_cons_of_mem _ (List.mem_append_right _ h)) (by decide +kernel))
set_option maxRecDepth 20000 in
theorem gyX11_wheel_X11_allow : GoodIn wyX11_wheel (va_wsS RX11 100 yX11_allow wsX11_allow) := goodIn_app (goodIn_k _ [[20, 0], [7]] (by rfl) (gw_S _ _ _ _)) ggyX11_wheel_X11_allow
set_option maxRecDepth 20000 in
theorem ggyX11_wheel_X9_begin : GoodIn wyX11_wheel wsX9_begin := goodIn_k _ [[29, 0, 0, 0, 0, 0, 0, 0, 0, 0, 0, 0, 0], [28, 13, 0, 0, 0, 0, 0, 0, 0, 0, 0, 0, 0, 0, 0, 134, 0, 0, 0, 0, 0, 0, 0, 0, 0]] (by rfl) (by decide +kernel)
set_option maxRecDepth 20000 in
theorem gyX11_wheel_X9_begin : GoodIn wyX11_wheel (wsV RX11 104 RX9 yX9_begin wsX9_begin) := goodIn_app (goodIn_k _ [[25, 0, 0, 0]] (by rfl) (gw_V _ _ _ _)) ggyX11_wheel_X9_begin
set_option maxRecDepth 20000 in
theorem ggyX11_wheel_X1_readEntries : GoodIn wyX11_wheel wsX1_readEntries := goodIn_k _ [[60, 0, 0, 0, 0, 0, 0, 0, 0], [28, 40], [45, 24, 0, 0], [59, 13, 0, 0, 0, 0, 0], [36, 7], [43, 35, 0, 0, 0, 0, 0, 0, 0, 0, 0, 0, 0, 0, 0, 0, 0, 0, 0, 0, 0, 0, 0, 0, 0, 0, 0, 0, 0, 0, 0, 0, 0, 0, 0, 0, 0, 0, 0, 0, 0, 0, 0, 0, 0, 0, 0, 0, 0, 0, 0], [40, 0, 0], [35, 10, 0, 0, 0, 0, 0, 0, 0, 0, 0, 73, 0, 0, 0, 0, 0, 0, 0, 0], [37, 0, 99, 0, 0, 0, 0, 0, 0, 0, 0, 0, 0, 0, 0, 0], [39, 112, 0, 0, 0, 0, 0, 0, 0, 0, 0, 0, 0, 0, 0, 0, 0, 32, 0], [190, 0, 0, 0, 0, 0, 0, 0, 0, 0]] (by rfl) (by decide +kernel)
set_option maxRecDepth 20000 in
theorem gyX11_wheel_X1_readEntries : GoodIn wyX11_wheel (wsV RX11 122 RX1 yX1_readEntries wsX1_readEntries) := goodIn_app (goodIn_k _ [[56, 0, 0, 0]] (by rfl) (gw_V _ _ _ _)) ggyX11_wheel_X1_readEntries
set_option maxRecDepth 20000 in
theorem ggyX11_wheel_X1_keepDraft : GoodIn wyX11_wheel wsX1_keepDraft := goodIn_k _ [[171], [61, 110, 0, 0, 0, 0, 23, 0]] (by rfl) (by decide +kernel)
set_option maxRecDepth 20000 in
theorem gyX11_wheel_X1_keepDraft : GoodIn wyX11_wheel (wsV RX11 125 RX1 yX1_keepDraft wsX1_keepDraft) := goodIn_app (goodIn_k _ [[168, 0, 0], [59]] (by rfl) (gw_V _ _ _ _)) ggyX11_wheel_X1_keepDraft
set_option maxRecDepth 20000 in
theorem ggyX11_count_X1_howManyTell : GoodIn wyX11_count wsX1_howManyTell := goodIn_k _ [[16, 0, 0, 0], [15, 4, 0, 0, 0, 0, 0, 49, 0]] (by rfl) (by decide +kernel)
set_option maxRecDepth 20000 in
theorem gyX11_count_X1_howManyTell : GoodIn wyX11_count (wsV RX11 147 RX1 yX1_howManyTell wsX1_howManyTell) := goodIn_app (goodIn_k _ [[12, 0, 0, 0]] (by rfl) (gw_V _ _ _ _)) ggyX11_count_X1_howManyTell
set_option maxRecDepth 20000 in
theorem ggyX11_count_X7_howManyLives : GoodIn wyX11_count wsX7_howManyLives := goodIn_k _ [[30, 0, 0, 0, 0], [29, 5, 0, 40, 0, 0, 0, 0, 0]] (by rfl) (by decide +kernel)
set_option maxRecDepth 20000 in
theorem gyX11_count_X7_howManyLives : GoodIn wyX11_count (wsV RX11 151 RX7 yX7_howManyLives wsX7_howManyLives) := goodIn_app (goodIn_k _ [[26, 0, 0, 0]] (by rfl) (gw_V _ _ _ _)) ggyX11_count_X7_howManyLives
set_option maxRecDepth 20000 in
theorem ggyX11_count_X7_howManyFates : GoodIn wyX11_count wsX7_howManyFates := goodIn_k _ [[40, 0], [32, 0, 0], [29, 5, 0, 40, 0, 0, 0, 0, 0]] (by rfl) (by decide +kernel)
set_option maxRecDepth 20000 in
theorem gyX11_count_X7_howManyFates : GoodIn wyX11_count (wsV RX11 154 RX7 yX7_howManyFates wsX7_howManyFates) := goodIn_app (goodIn_k _ [[37, 0, 0], [29]] (by rfl) (gw_V _ _ _ _)) ggyX11_count_X7_howManyFates
set_option maxRecDepth 20000 in
theorem ggyX11_place_X11_within : GoodIn wyX11_place wsX11_within := goodIn_k _ [[5]] (by rfl) (by decide +kernel)
set_option maxRecDepth 20000 in
theorem gyX11_place_X11_within : GoodIn wyX11_place (va_wsS RX11 96 yX11_within wsX11_within) := goodIn_app (goodIn_k _ [[2, 0, 0]] (by rfl) (gw_S _ _ _ _)) ggyX11_place_X11_within
set_option maxRecDepth 20000 in
theorem ggyX11_place_X11_isDay : GoodIn wyX11_place wsX11_isDay := goodIn_k _ [[8, 0], [2, 0, 0, 0]] (by rfl) (by decide +kernel)
set_option maxRecDepth 20000 in
theorem gyX11_place_X11_isDay : GoodIn wyX11_place (va_wsS RX11 164 yX11_isDay wsX11_isDay) := goodIn_app (goodIn_k _ [[6, 0], [4]] (by rfl) (gw_S _ _ _ _)) ggyX11_place_X11_isDay
set_option maxRecDepth 20000 in
theorem ggyX11_place_X11_need : GoodIn wyX11_place wyX11_need := goodIn_ca (goodIn_k _ [[12, 0, 0]] (by rfl) (by decide +kernel)) (goodIn_sub (fun _ h => List.mem_cons_of_mem _ (List.mem_append_right _ h)) (by decide +kernel))
set_option maxRecDepth 20000 in
theorem gyX11_place_X11_need : GoodIn wyX11_place (va_wsS RX11 168 yX11_need wyX11_need) := goodIn_app (goodIn_k _ [[10, 0], [4]] (by rfl) (gw_S _ _ _ _)) ggyX11_place_X11_need
set_option maxRecDepth 20000 in
theorem ggyX11_place_X5_placeOn : GoodIn wyX11_place wsX5_placeOn := goodIn_k _ [[19, 0, 0, 0, 0, 0, 0, 0], [18, 8, 0, 0, 0, 0, 0, 0, 0, 0, 0, 0, 0, 0, 0, 0, 13, 0, 0, 0, 0, 0]] (by rfl) (by decide +kernel)
set_option maxRecDepth 20000 in
theorem gyX11_place_X5_placeOn : GoodIn wyX11_place (wsV RX11 171 RX5 yX5_placeOn wsX5_placeOn) := goodIn_app (goodIn_k _ [[15, 0, 0, 0]] (by rfl) (gw_V _ _ _ _)) ggyX11_place_X5_placeOn
set_option maxRecDepth 20000 in
theorem ggyX11_entry_X11_numberOf : GoodIn wyX11_entry wyX11_numberOf := goodIn_ca (goodIn_k _ [[5, 0, 0], [4, 3, 0, 0, 0, 0, 0, 0, 0, 0]] (by rfl) (by decide +kernel)) (goodIn_sub (fun _ h => List.mem_cons_of_mem _ (List.mem_append_right _ h)) (by decide +kernel))
set_option maxRecDepth 20000 in
theorem gyX11_entry_X11_numberOf : GoodIn wyX11_entry (va_wsS RX11 118 yX11_numberOf wyX11_numberOf) := goodIn_app (goodIn_k _ [[2, 0, 0]] (by rfl) (gw_S _ _ _ _)) ggyX11_entry_X11_numberOf
set_option maxRecDepth 20000 in
theorem ggyX11_entry_X11_within : GoodIn wyX11_entry wsX11_within := goodIn_k _ [[11]] (by rfl) (by decide +kernel)
set_option maxRecDepth 20000 in
theorem gyX11_entry_X11_within : GoodIn wyX11_entry (va_wsS RX11 96 yX11_within wsX11_within) := goodIn_app (goodIn_k _ [[9, 0], [4]] (by rfl) (gw_S _ _ _ _)) ggyX11_entry_X11_within
set_option maxRecDepth 20000 in
theorem ggyX11_entry_X11_need : GoodIn wyX11_entry wyX11_need := goodIn_ca (goodIn_k _ [[14, 0, 0]] (by rfl) (by decide +kernel)) (goodIn_sub (fun _ h => List.mem_cons_of_mem _ (List.mem_append_right _ h)) (by decide +kernel))
set_option maxRecDepth 20000 in
theorem gyX11_entry_X11_need : GoodIn wyX11_entry (va_wsS RX11 168 yX11_need wyX11_need) := goodIn_app (goodIn_k _ [[12, 0], [4]] (by rfl) (gw_S _ _ _ _)) ggyX11_entry_X11_need
set_option maxRecDepth 20000 in
theorem ggyX11_entry_X1_degreeOf : GoodIn wyX11_entry wsX1_degreeOf := goodIn_k _ [[21, 0, 13, 0]] (by rfl) (by decide +kernel)
set_option maxRecDepth 20000 in
theorem gyX11_entry_X1_degreeOf : GoodIn wyX11_entry (wsV RX11 175 RX1 yX1_degreeOf wsX1_degreeOf) := goodIn_app (goodIn_k _ [[17, 0, 0, 0]] (by rfl) (gw_V _ _ _ _)) ggyX11_entry_X1_degreeOf
set_option maxRecDepth 20000 in
theorem ggyX11_cost_X11_numberOf : GoodIn wyX11_cost wyX11_numberOf := goodIn_ca (goodIn_k _ [[6, 0, 0], [5, 3, 0, 0, 0, 0, 0, 0, 0, 0]] (by rfl) (by decide +kernel)) (goodIn_sub (fun _ h => List.mem_cons_of_mem _ (List.mem_append_right _ h)) (by decide +kernel))
set_option maxRecDepth 20000 in
theorem gyX11_cost_X11_numberOf : GoodIn wyX11_cost (va_wsS RX11 118 yX11_numberOf wyX11_numberOf) := goodIn_app (goodIn_k _ [[3, 0, 0]] (by rfl) (gw_S _ _ _ _)) ggyX11_cost_X11_numberOf
set_option maxRecDepth 20000 in
theorem ggyX11_cost_X11_within : GoodIn wyX11_cost wsX11_within := goodIn_k _ [[12]] (by rfl) (by decide +kernel)
set_option maxRecDepth 20000 in
theorem gyX11_cost_X11_within : GoodIn wyX11_cost (va_wsS RX11 96 yX11_within wsX11_within) := goodIn_app (goodIn_k _ [[10, 0], [5]] (by rfl) (gw_S _ _ _ _)) ggyX11_cost_X11_within
set_option maxRecDepth 20000 in
theorem ggyX11_cost_X11_isDay : GoodIn wyX11_cost wsX11_isDay := goodIn_k _ [[20, 0], [10, 0], [5, 6]] (by rfl) (by decide +kernel)
set_option maxRecDepth 20000 in
theorem gyX11_cost_X11_isDay : GoodIn wyX11_cost (va_wsS RX11 164 yX11_isDay wsX11_isDay) := goodIn_app (goodIn_k _ [[18, 0], [5]] (by rfl) (gw_S _ _ _ _)) ggyX11_cost_X11_isDay
set_option maxRecDepth 20000 in
theorem ggyX11_cost_X11_need : GoodIn wyX11_cost wyX11_need := goodIn_ca (goodIn_k _ [[15, 0, 0]] (by rfl) (by decide +kernel)) (goodIn_sub (fun _ h => List.mem_cons_of_mem _ (List.mem_append_right _ h)) (by decide +kernel))
set_option maxRecDepth 20000 in
theorem gyX11_cost_X11_need : GoodIn wyX11_cost (va_wsS RX11 168 yX11_need wyX11_need) := goodIn_app (goodIn_k _ [[13, 0], [5]] (by rfl) (gw_S _ _ _ _)) ggyX11_cost_X11_need
set_option maxRecDepth 20000 in
theorem ggyX11_cost_X3_costOn : GoodIn wyX11_cost wsX3_costOn := goodIn_k _ [[25, 0, 0, 0, 0, 0, 0, 0, 0, 0, 0, 0, 0, 0, 0, 0, 0, 0, 0, 0, 0, 0, 0, 0, 0, 0, 0, 0, 0, 0, 0, 0, 0, 0, 0, 0, 0, 0, 0, 0, 0, 0, 0, 0, 0, 0, 0, 0, 0, 0, 0, 0, 0, 13, 0, 0, 0, 0, 0, 0, 0, 0, 0]] (by rfl) (by decide +kernel)
set_option maxRecDepth 20000 in
theorem gyX11_cost_X3_costOn : GoodIn wyX11_cost (va_wsS RX11 178 yX3_costOn wsX3_costOn) := goodIn_app (goodIn_k _ [[22, 0, 0]] (by rfl) (gw_S _ _ _ _)) ggyX11_cost_X3_costOn
set_option maxRecDepth 20000 in
theorem ggyX11_best_X11_numberOf : GoodIn wyX11_best wyX11_numberOf := goodIn_ca (goodIn_k _ [[8, 0, 0], [7, 3, 0, 0, 0, 0, 0, 0, 0, 0]] (by rfl) (by decide +kernel)) (goodIn_sub (fun _ h => List.mem_cons_of_mem _ (List.mem_append_left _ (List.mem_append_right _ h))) (by decide +kernel))
set_option maxRecDepth 20000 in
theorem gyX11_best_X11_numberOf : GoodIn wyX11_best (va_wsS RX11 118 yX11_numberOf wyX11_numberOf) := goodIn_app (goodIn_k _ [[5, 0, 0]] (by rfl) (gw_S _ _ _ _)) ggyX11_best_X11_numberOf
set_option maxRecDepth 20000 in
theorem ggyX11_best_X11_within : GoodIn wyX11_best wsX11_within := goodIn_k _ [[14]] (by rfl) (by decide +kernel)
set_option maxRecDepth 20000 in
theorem gyX11_best_X11_within : GoodIn wyX11_best (va_wsS RX11 96 yX11_within wsX11_within) := goodIn_app (goodIn_k _ [[12, 0], [7]] (by rfl) (gw_S _ _ _ _)) ggyX11_best_X11_within
set_option maxRecDepth 20000 in
theorem ggyX11_best_X11_isDay : GoodIn wyX11_best wsX11_isDay := goodIn_k _ [[22, 0], [12, 0], [7, 6]] (by rfl) (by decide +kernel)
set_option maxRecDepth 20000 in
theorem gyX11_best_X11_isDay : GoodIn wyX11_best (va_wsS RX11 164 yX11_isDay wsX11_isDay) := goodIn_app (goodIn_k _ [[20, 0], [7]] (by rfl) (gw_S _ _ _ _)) ggyX11_best_X11_isDay
set_option maxRecDepth 20000 in
theorem ggyX11_best_X11_need : GoodIn wyX11_best wyX11_need := goodIn_ca (goodIn_k _ [[17, 0, 0]] (by rfl) (by decide +kernel)) (goodIn_sub (fun _ h => List.mem_cons_of_mem _ (List.mem_append_left _ (List.mem_append_right _ h))) (by decide +kernel))
set_option maxRecDepth 20000 in
theorem gyX11_best_X11_need : GoodIn wyX11_best (va_wsS RX11 168 yX11_need wyX11_need) := goodIn_app (goodIn_k _ [[15, 0], [7]] (by rfl) (gw_S _ _ _ _)) ggyX11_best_X11_need
set_option maxRecDepth 20000 in
theorem ggyX11_best_X11_isSpan : GoodIn wyX11_best wsX11_isSpan := goodIn_k _ [[26, 0], [23], [12, 0], [7, 6]] (by rfl) (by decide +kernel)
set_option maxRecDepth 20000 in
theorem gyX11_best_X11_isSpan : GoodIn wyX11_best (va_wsS RX11 182 yX11_isSpan wsX11_isSpan) := goodIn_app (goodIn_k _ [[24, 0], [7]] (by rfl) (gw_S _ _ _ _)) ggyX11_best_X11_isSpan
set_option maxRecDepth 20000 in
theorem ggyX11_best_X11_allow : GoodIn wyX11_best wsX11_allow := goodIn_ca (goodIn_k _ [[30, 0, 0]] (by rfl) (by decide +kernel)) (goodIn_sub (fun _ h => List.mem_cons_of_mem _ (List.mem_append_right _ h)) (by decide +kernel))
set_option maxRecDepth 20000 in
theorem gyX11_best_X11_allow : GoodIn wyX11_best (va_wsS RX11 100 yX11_allow wsX11_allow) := goodIn_app (goodIn_k _ [[28, 0], [7]] (by rfl) (gw_S _ _ _ _)) ggyX11_best_X11_allow
set_option maxRecDepth 20000 in
theorem ggyX11_best_X8_begin : GoodIn wyX11_best wsX8_begin := goodIn_k _ [[37, 0, 0, 0, 0, 0, 0, 0, 79, 0, 0, 0, 0, 0, 0, 0]] (by rfl) (by decide +kernel)
set_option maxRecDepth 20000 in
theorem gyX11_best_X8_begin : GoodIn wyX11_best (wsV RX11 186 RX8 yX8_begin wsX8_begin) := goodIn_app (goodIn_k _ [[33, 0, 0, 0]] (by rfl) (gw_V _ _ _ _)) ggyX11_best_X8_begin
set_option maxRecDepth 20000 in
theorem ggyX11_best_X8_goOn : GoodIn wyX11_best wsX8_goOn := goodIn_k _ [[48], [41, 7], [39, 0, 1, 7, 0, 0, 0, 0, 0, 0, 0, 0, 0, 0, 0, 0, 0, 0, 0, 0, 0, 0, 0, 0, 0, 0, 0, 0, 0, 0, 0, 0, 0, 0, 0, 0, 0, 0, 0, 0, 0, 0, 0, 0, 0, 0, 0, 0, 0, 0, 0, 0, 0, 0, 0, 0, 0, 0, 0, 0, 0, 0], [36, 72], [43, 66], [44, 79, 0, 0, 0, 0, 0, 0, 0, 0, 0, 0, 0, 0, 0, 0, 0, 0, 0]] (by rfl) (by decide +kernel)
set_option maxRecDepth 20000 in
theorem gyX11_best_X8_goOn : GoodIn wyX11_best (wsV RX11 189 RX8 yX8_goOn wsX8_goOn) := goodIn_app (goodIn_k _ [[45, 0, 0], [36]] (by rfl) (gw_V _ _ _ _)) ggyX11_best_X8_goOn
set_option maxRecDepth 20000 in
theorem ggyX11_day_X11_need : GoodIn wyX11_day wyX11_need := goodIn_ca (goodIn_k _ [[7, 0, 0]] (by rfl) (by decide +kernel)) (goodIn_sub (fun _ h => List.mem_cons_of_mem _ (List.mem_append_right _ h)) (by decide +kernel))
set_option maxRecDepth 20000 in
theorem gyX11_day_X11_need : GoodIn wyX11_day (va_wsS RX11 168 yX11_need wyX11_need) := goodIn_app (goodIn_k _ [[4, 0, 0]] (by rfl) (gw_S _ _ _ _)) ggyX11_day_X11_need
set_option maxRecDepth 20000 in
theorem ggyX11_day_X8_howManyKept : GoodIn wyX11_day wsX8_howManyKept := goodIn_k _ [[14, 0, 0, 0, 0, 0, 21, 0, 0, 0, 0, 0, 0, 0]] (by rfl) (by decide +kernel)
set_option maxRecDepth 20000 in
theorem gyX11_day_X8_howManyKept : GoodIn wyX11_day (wsV RX11 201 RX8 yX8_howManyKept wsX8_howManyKept) := goodIn_app (goodIn_k _ [[10, 0, 0, 0]] (by rfl) (gw_V _ _ _ _)) ggyX11_day_X8_howManyKept
set_option maxRecDepth 20000 in
theorem ggyX11_day_X11_within : GoodIn wyX11_day wsX11_within := goodIn_k _ [[22]] (by rfl) (by decide +kernel)
set_option maxRecDepth 20000 in
theorem gyX11_day_X11_within : GoodIn wyX11_day (va_wsS RX11 96 yX11_within wsX11_within) := goodIn_app (goodIn_k _ [[20, 0], [6]] (by rfl) (gw_S _ _ _ _)) ggyX11_day_X11_within
set_option maxRecDepth 20000 in
theorem ggyX11_day_X8_keptDay : GoodIn wyX11_day wsX8_keptDay := goodIn_k _ [[26, 0, 13, 0, 0, 0, 0, 0, 0, 0]] (by rfl) (by decide +kernel)
set_option maxRecDepth 20000 in
theorem gyX11_day_X8_keptDay : GoodIn wyX11_day (wsV RX11 204 RX8 yX8_keptDay wsX8_keptDay) := goodIn_app (goodIn_k _ [[23, 0, 0], [13]] (by rfl) (gw_V _ _ _ _)) ggyX11_day_X8_keptDay
set_option maxRecDepth 20000 in
theorem ggyX11_whose_X11_numberOf : GoodIn wyX11_whose wyX11_numberOf := goodIn_ca (goodIn_k _ [[8, 0, 0], [7, 3, 0, 0, 0, 0, 0, 0, 0, 0]] (by rfl) (by decide +kernel)) (goodIn_sub (fun _ h => List.mem_cons_of_mem _ (List.mem_append_left _ (List.mem_append_right _ h))) (by decide +kernel))
set_option maxRecDepth 20000 in
theorem gyX11_whose_X11_numberOf : GoodIn wyX11_whose (va_wsS RX11 118 yX11_numberOf wyX11_numberOf) := goodIn_app (goodIn_k _ [[5, 0, 0]] (by rfl) (gw_S _ _ _ _)) ggyX11_whose_X11_numberOf
set_option maxRecDepth 20000 in
theorem ggyX11_whose_X11_isDay : GoodIn wyX11_whose wsX11_isDay := goodIn_k _ [[22, 0], [12, 0], [7, 6]] (by rfl) (by decide +kernel)
set_option maxRecDepth 20000 in
theorem gyX11_whose_X11_isDay : GoodIn wyX11_whose (va_wsS RX11 164 yX11_isDay wsX11_isDay) := goodIn_app (goodIn_k _ [[20, 0], [7]] (by rfl) (gw_S _ _ _ _)) ggyX11_whose_X11_isDay
set_option maxRecDepth 20000 in
theorem ggyX11_whose_X11_within : GoodIn wyX11_whose wsX11_within := goodIn_k _ [[14]] (by rfl) (by decide +kernel)
set_option maxRecDepth 20000 in
theorem gyX11_whose_X11_within : GoodIn wyX11_whose (va_wsS RX11 96 yX11_within wsX11_within) := goodIn_app (goodIn_k _ [[12, 0], [7]] (by rfl) (gw_S _ _ _ _)) ggyX11_whose_X11_within
set_option maxRecDepth 20000 in
theorem ggyX11_whose_X11_need : GoodIn wyX11_whose wyX11_need := goodIn_ca (goodIn_k _ [[17, 0, 0]] (by rfl) (by decide +kernel)) (goodIn_sub (fun _ h => List.mem_cons_of_mem _ (List.mem_append_left _ (List.mem_append_right _ h))) (by decide +kernel))
set_option maxRecDepth 20000 in
theorem gyX11_whose_X11_need : GoodIn wyX11_whose (va_wsS RX11 168 yX11_need wyX11_need) := goodIn_app (goodIn_k _ [[15, 0], [7]] (by rfl) (gw_S _ _ _ _)) ggyX11_whose_X11_need
set_option maxRecDepth 20000 in
theorem ggyX11_whose_X11_isSpan : GoodIn wyX11_whose wsX11_isSpan := goodIn_k _ [[26, 0], [23], [12, 0], [7, 6]] (by rfl) (by decide +kernel)
set_option maxRecDepth 20000 in
theorem gyX11_whose_X11_isSpan : GoodIn wyX11_whose (va_wsS RX11 182 yX11_isSpan wsX11_isSpan) := goodIn_app (goodIn_k _ [[24, 0], [7]] (by rfl) (gw_S _ _ _ _)) ggyX11_whose_X11_isSpan
set_option maxRecDepth 20000 in
theorem ggyX11_whose_X11_allow : GoodIn wyX11_whose wsX11_allow := goodIn_ca (goodIn_k _ [[30, 0, 0]] (by rfl) (by decide +kernel)) (goodIn_sub (fun _ h => List.mem_cons_of_mem _ (List.mem_append_right _ h)) (by decide +kernel))
set_option maxRecDepth 20000 in
theorem gyX11_whose_X11_allow : GoodIn wyX11_whose (va_wsS RX11 100 yX11_allow wsX11_allow) := goodIn_app (goodIn_k _ [[28, 0], [7]] (by rfl) (gw_S _ _ _ _)) ggyX11_whose_X11_allow
set_option maxRecDepth 20000 in
theorem ggyX11_whose_X8_begin : GoodIn wyX11_whose wsX8_begin := goodIn_k _ [[37, 0, 0, 0, 0, 0, 0, 0, 79, 0, 0, 0, 0, 0, 0, 0]] (by rfl) (by decide +kernel)
set_option maxRecDepth 20000 in
theorem gyX11_whose_X8_begin : GoodIn wyX11_whose (wsV RX11 186 RX8 yX8_begin wsX8_begin) := goodIn_app (goodIn_k _ [[33, 0, 0, 0]] (by rfl) (gw_V _ _ _ _)) ggyX11_whose_X8_begin
set_option maxRecDepth 20000 in
theorem ggyX11_whose_X8_goOn : GoodIn wyX11_whose wsX8_goOn := goodIn_k _ [[48], [41, 7], [39, 0, 1, 7, 0, 0, 0, 0, 0, 0, 0, 0, 0, 0, 0, 0, 0, 0, 0, 0, 0, 0, 0, 0, 0, 0, 0, 0, 0, 0, 0, 0, 0, 0, 0, 0, 0, 0, 0, 0, 0, 0, 0, 0, 0, 0, 0, 0, 0, 0, 0, 0, 0, 0, 0, 0, 0, 0, 0, 0, 0, 0], [36, 72], [43, 66], [44, 79, 0, 0, 0, 0, 0, 0, 0, 0, 0, 0, 0, 0, 0, 0, 0, 0, 0]] (by rfl) (by decide +kernel)
set_option maxRecDepth 20000 in
theorem gyX11_whose_X8_goOn : GoodIn wyX11_whose (wsV RX11 189 RX8 yX8_goOn wsX8_goOn) := goodIn_app (goodIn_k _ [[45, 0, 0], [36]] (by rfl) (gw_V _ _ _ _)) ggyX11_whose_X8_goOn
set_option maxRecDepth 20000 in
theorem ggyX11_mixed_X11_numberOf : GoodIn wyX11_mixed wyX11_numberOf := goodIn_ca (goodIn_k _ [[6, 0, 0], [5, 3, 0, 0, 0, 0, 0, 0, 0, 0]] (by rfl) (by decide +kernel)) (goodIn_sub (fun _ h => List.mem_cons_of_mem _ (List.mem_append_left _ (List.mem_append_right _ h))) (by decide +kernel))
set_option maxRecDepth 20000 in
theorem gyX11_mixed_X11_numberOf : GoodIn wyX11_mixed (va_wsS RX11 118 yX11_numberOf wyX11_numberOf) := goodIn_app (goodIn_k _ [[3, 0, 0]] (by rfl) (gw_S _ _ _ _)) ggyX11_mixed_X11_numberOf
set_option maxRecDepth 20000 in
theorem ggyX11_mixed_X11_isDay : GoodIn wyX11_mixed wsX11_isDay := goodIn_k _ [[20, 0], [10, 0], [5, 6]] (by rfl) (by decide +kernel)
set_option maxRecDepth 20000 in
theorem gyX11_mixed_X11_isDay : GoodIn wyX11_mixed (va_wsS RX11 164 yX11_isDay wsX11_isDay) := goodIn_app (goodIn_k _ [[18, 0], [5]] (by rfl) (gw_S _ _ _ _)) ggyX11_mixed_X11_isDay
set_option maxRecDepth 20000 in
theorem ggyX11_mixed_X11_need : GoodIn wyX11_mixed wyX11_need := goodIn_ca (goodIn_k _ [[15, 0, 0]] (by rfl) (by decide +kernel)) (goodIn_sub (fun _ h => List.mem_cons_of_mem _ (List.mem_append_left _ (List.mem_append_right _ h))) (by decide +kernel))
set_option maxRecDepth 20000 in
theorem gyX11_mixed_X11_need : GoodIn wyX11_mixed (va_wsS RX11 168 yX11_need wyX11_need) := goodIn_app (goodIn_k _ [[13, 0], [5]] (by rfl) (gw_S _ _ _ _)) ggyX11_mixed_X11_need
set_option maxRecDepth 20000 in
theorem ggyX11_mixed_X11_isSpan : GoodIn wyX11_mixed wsX11_isSpan := goodIn_k _ [[24, 0], [21], [10, 0], [5, 6]] (by rfl) (by decide +kernel)
set_option maxRecDepth 20000 in
theorem gyX11_mixed_X11_isSpan : GoodIn wyX11_mixed (va_wsS RX11 182 yX11_isSpan wsX11_isSpan) := goodIn_app (goodIn_k _ [[22, 0], [5]] (by rfl) (gw_S _ _ _ _)) ggyX11_mixed_X11_isSpan
set_option maxRecDepth 20000 in
theorem ggyX11_mixed_X11_allow : GoodIn wyX11_mixed wsX11_allow := goodIn_ca (goodIn_k _ [[28, 0, 0]] (by rfl) (by decide +kernel)) (goodIn_sub (fun _ h => List.mem_cons_of_mem _ (List.mem_append_right _ h)) (by decide +kernel))
set_option maxRecDepth 20000 in
theorem gyX11_mixed_X11_allow : GoodIn wyX11_mixed (va_wsS RX11 100 yX11_allow wsX11_allow) := goodIn_app (goodIn_k _ [[26, 0], [5]] (by rfl) (gw_S _ _ _ _)) ggyX11_mixed_X11_allow
set_option maxRecDepth 20000 in
theorem ggyX11_mixed_X3_isMixed : GoodIn wyX11_mixed wsX3_isMixed := goodIn_k _ [[34, 0, 0, 0, 0, 0, 0, 0, 0], [33, 9, 0, 0, 0, 0, 0, 0, 0, 0, 0, 0, 0, 0, 0, 0, 0, 0, 0, 0, 0, 0, 0, 0, 0, 0, 0, 0, 0, 0, 0, 0, 0, 13, 0, 0, 0, 0, 0, 0, 0]] (by rfl) (by decide +kernel)
set_option maxRecDepth 20000 in
theorem gyX11_mixed_X3_isMixed : GoodIn wyX11_mixed (va_wsS RX11 208 yX3_isMixed wsX3_isMixed) := goodIn_app (goodIn_k _ [[31, 0, 0]] (by rfl) (gw_S _ _ _ _)) ggyX11_mixed_X3_isMixed
set_option maxRecDepth 20000 in
theorem ggyX11_climb_X11_isClimate : GoodIn wyX11_climb wsX11_isClimate := goodIn_k _ [[7], [1, 0, 5, 0, 0], [6, 4, 11, 0, 0, 0, 0, 0, 0, 0, 0, 0, 0, 0, 0, 0, 0, 0, 0, 0, 0, 0, 0]] (by rfl) (by decide +kernel)
set_option maxRecDepth 20000 in
theorem gyX11_climb_X11_isClimate : GoodIn wyX11_climb (wsV RX11 212 RX11 yX11_isClimate wsX11_isClimate) := goodIn_app (goodIn_k _ [[3, 0, 0, 0]] (by rfl) (gw_V _ _ _ _)) ggyX11_climb_X11_isClimate
set_option maxRecDepth 20000 in
theorem ggyX11_climb_X11_within : GoodIn wyX11_climb wsX11_within := goodIn_k _ [[11]] (by rfl) (by decide +kernel)
set_option maxRecDepth 20000 in
theorem gyX11_climb_X11_within : GoodIn wyX11_climb (va_wsS RX11 96 yX11_within wsX11_within) := goodIn_app (goodIn_k _ [[9, 0], [6]] (by rfl) (gw_S _ _ _ _)) ggyX11_climb_X11_within
set_option maxRecDepth 20000 in
theorem ggyX11_climb_X11_need : GoodIn wyX11_climb wyX11_need := goodIn_ca (goodIn_k _ [[14, 0, 0]] (by rfl) (by decide +kernel)) (goodIn_sub (fun _ h => List.mem_cons_of_mem _ (List.mem_append_right _ h)) (by decide +kernel))
set_option maxRecDepth 20000 in
theorem gyX11_climb_X11_need : GoodIn wyX11_climb (va_wsS RX11 168 yX11_need wyX11_need) := goodIn_app (goodIn_k _ [[12, 0], [6]] (by rfl) (gw_S _ _ _ _)) ggyX11_climb_X11_need
set_option maxRecDepth 20000 in
theorem ggyX11_climb_X2_climbOf : GoodIn wyX11_climb wsX2_climbOf := goodIn_k _ [[21, 0, 19, 0]] (by rfl) (by decide +kernel)
set_option maxRecDepth 20000 in
theorem gyX11_climb_X2_climbOf : GoodIn wyX11_climb (wsV RX11 215 RX2 yX2_climbOf wsX2_climbOf) := goodIn_app (goodIn_k _ [[17, 0, 0, 0]] (by rfl) (gw_V _ _ _ _)) ggyX11_climb_X2_climbOf
set_option maxRecDepth 20000 in
theorem ggyX11_rise_X11_isClimate : GoodIn wyX11_rise wsX11_isClimate := goodIn_k _ [[7], [1, 0, 5, 0, 0], [6, 4, 20, 0, 0, 0, 0, 0, 0, 0, 0, 0, 0, 0, 0, 0, 0, 0, 0, 0, 0, 0, 0]] (by rfl) (by decide +kernel)
set_option maxRecDepth 20000 in
theorem gyX11_rise_X11_isClimate : GoodIn wyX11_rise (wsV RX11 212 RX11 yX11_isClimate wsX11_isClimate) := goodIn_app (goodIn_k _ [[3, 0, 0, 0]] (by rfl) (gw_V _ _ _ _)) ggyX11_rise_X11_isClimate
set_option maxRecDepth 20000 in
theorem ggyX11_rise_X11_within : GoodIn wyX11_rise wsX11_within := goodIn_k _ [[11]] (by rfl) (by decide +kernel)
set_option maxRecDepth 20000 in
theorem gyX11_rise_X11_within : GoodIn wyX11_rise (va_wsS RX11 96 yX11_within wsX11_within) := goodIn_app (goodIn_k _ [[9, 0], [6]] (by rfl) (gw_S _ _ _ _)) ggyX11_rise_X11_within
set_option maxRecDepth 20000 in
theorem ggyX11_rise_X11_need : GoodIn wyX11_rise wyX11_need := goodIn_ca (goodIn_k _ [[14, 0, 0]] (by rfl) (by decide +kernel)) (goodIn_sub (fun _ h => List.mem_cons_of_mem _ (List.mem_append_right _ h)) (by decide +kernel))
set_option maxRecDepth 20000 in
theorem gyX11_rise_X11_need : GoodIn wyX11_rise (va_wsS RX11 168 yX11_need wyX11_need) := goodIn_app (goodIn_k _ [[12, 0], [6]] (by rfl) (gw_S _ _ _ _)) ggyX11_rise_X11_need
set_option maxRecDepth 20000 in
theorem ggyX11_rise_X2_risingAt : GoodIn wyX11_rise wsX2_risingAt := goodIn_k _ [[21, 0, 0, 0, 0], [20, 5, 0, 0, 0, 0, 0, 19, 0]] (by rfl) (by decide +kernel)
set_option maxRecDepth 20000 in
theorem gyX11_rise_X2_risingAt : GoodIn wyX11_rise (wsV RX11 218 RX2 yX2_risingAt wsX2_risingAt) := goodIn_app (goodIn_k _ [[17, 0, 0, 0]] (by rfl) (gw_V _ _ _ _)) ggyX11_rise_X2_risingAt
set_option maxRecDepth 20000 in
theorem ggyX11_middle_X11_isClimate : GoodIn wyX11_middle wsX11_isClimate := goodIn_k _ [[7], [1, 0, 5, 0, 0], [6, 4, 25, 0, 0, 0, 0, 0, 0, 0, 0, 0, 0, 0, 0, 0, 0, 0, 0, 0, 0, 0, 0]] (by rfl) (by decide +kernel)
set_option maxRecDepth 20000 in
theorem gyX11_middle_X11_isClimate : GoodIn wyX11_middle (wsV RX11 212 RX11 yX11_isClimate wsX11_isClimate) := goodIn_app (goodIn_k _ [[3, 0, 0, 0]] (by rfl) (gw_V _ _ _ _)) ggyX11_middle_X11_isClimate
set_option maxRecDepth 20000 in
theorem ggyX11_middle_X11_within : GoodIn wyX11_middle wsX11_within := goodIn_k _ [[11]] (by rfl) (by decide +kernel)
set_option maxRecDepth 20000 in
theorem gyX11_middle_X11_within : GoodIn wyX11_middle (va_wsS RX11 96 yX11_within wsX11_within) := goodIn_app (goodIn_k _ [[9, 0], [6]] (by rfl) (gw_S _ _ _ _)) ggyX11_middle_X11_within
set_option maxRecDepth 20000 in
theorem ggyX11_middle_X11_need : GoodIn wyX11_middle wyX11_need := goodIn_ca (goodIn_k _ [[14, 0, 0]] (by rfl) (by decide +kernel)) (goodIn_sub (fun _ h => List.mem_cons_of_mem _ (List.mem_append_right _ h)) (by decide +kernel))
set_option maxRecDepth 20000 in
theorem gyX11_middle_X11_need : GoodIn wyX11_middle (va_wsS RX11 168 yX11_need wyX11_need) := goodIn_app (goodIn_k _ [[12, 0], [6]] (by rfl) (gw_S _ _ _ _)) ggyX11_middle_X11_need
set_option maxRecDepth 20000 in
theorem ggyX11_middle_X2_middleOf : GoodIn wyX11_middle wsX2_middleOf := goodIn_k _ [[21, 0, 0, 0, 0, 0], [20, 6, 0, 0, 0, 0, 0, 0, 0, 0, 0, 19, 0]] (by rfl) (by decide +kernel)
set_option maxRecDepth 20000 in
theorem gyX11_middle_X2_middleOf : GoodIn wyX11_middle (wsV RX11 221 RX2 yX2_middleOf wsX2_middleOf) := goodIn_app (goodIn_k _ [[17, 0, 0, 0]] (by rfl) (gw_V _ _ _ _)) ggyX11_middle_X2_middleOf
set_option maxRecDepth 20000 in
theorem ggyX11_hour_X11_numberOf : GoodIn wyX11_hour wyX11_numberOf := goodIn_ca (goodIn_k _ [[7, 0, 0], [6, 3, 0, 0, 0, 0, 0, 0, 0, 0]] (by rfl) (by decide +kernel)) (goodIn_sub (fun _ h => List.mem_cons_of_mem _ (List.mem_append_right _ h)) (by decide +kernel))
set_option maxRecDepth 20000 in
theorem gyX11_hour_X11_numberOf : GoodIn wyX11_hour (va_wsS RX11 118 yX11_numberOf wyX11_numberOf) := goodIn_app (goodIn_k _ [[4, 0, 0]] (by rfl) (gw_S _ _ _ _)) ggyX11_hour_X11_numberOf
set_option maxRecDepth 20000 in
theorem ggyX11_hour_X1_degreeOf : GoodIn wyX11_hour wsX1_degreeOf := goodIn_k _ [[23, 0, 47, 0]] (by rfl) (by decide +kernel)
set_option maxRecDepth 20000 in
theorem gyX11_hour_X1_degreeOf : GoodIn wyX11_hour (wsV RX11 175 RX1 yX1_degreeOf wsX1_degreeOf) := goodIn_app (goodIn_k _ [[19, 0, 0, 0]] (by rfl) (gw_V _ _ _ _)) ggyX11_hour_X1_degreeOf
set_option maxRecDepth 20000 in
theorem ggyX11_hour_X2_howManyHours : GoodIn wyX11_hour wsX2_howManyHours := goodIn_k _ [[29, 0, 0, 0, 0], [28, 5, 0, 0, 0, 0, 0, 0, 0, 0, 0, 0, 0, 0, 0, 0, 25, 0]] (by rfl) (by decide +kernel)
set_option maxRecDepth 20000 in
theorem gyX11_hour_X2_howManyHours : GoodIn wyX11_hour (wsV RX11 224 RX2 yX2_howManyHours wsX2_howManyHours) := goodIn_app (goodIn_k _ [[25, 0, 0, 0]] (by rfl) (gw_V _ _ _ _)) ggyX11_hour_X2_howManyHours
set_option maxRecDepth 20000 in
theorem ggyX11_hour_X2_nthHour : GoodIn wyX11_hour wsX2_nthHour := goodIn_k _ [[52], [30, 0, 0, 0], [28, 5, 0, 0, 0, 0, 0, 0, 0, 0, 0, 0, 0, 0, 0, 0, 25, 0]] (by rfl) (by decide +kernel)
set_option maxRecDepth 20000 in
theorem gyX11_hour_X2_nthHour : GoodIn wyX11_hour (wsV RX11 227 RX2 yX2_nthHour wsX2_nthHour) := goodIn_app (goodIn_k _ [[49, 0, 0], [28]] (by rfl) (gw_V _ _ _ _)) ggyX11_hour_X2_nthHour
set_option maxRecDepth 20000 in
theorem ggyX11_hour_X11_need : GoodIn wyX11_hour wyX11_need := goodIn_ca (goodIn_k _ [[16, 0, 0]] (by rfl) (by decide +kernel)) (goodIn_sub (fun _ h => List.mem_cons_of_mem _ (List.mem_append_right _ h)) (by decide +kernel))
set_option maxRecDepth 20000 in
theorem gyX11_hour_X11_need : GoodIn wyX11_hour (va_wsS RX11 168 yX11_need wyX11_need) := goodIn_app (goodIn_k _ [[14, 0], [6]] (by rfl) (gw_S _ _ _ _)) ggyX11_hour_X11_need
set_option maxRecDepth 20000 in
theorem ggyX11_houseOf_X11_within : GoodIn wyX11_houseOf wsX11_within := goodIn_k _ [[6]] (by rfl) (by decide +kernel)
set_option maxRecDepth 20000 in
theorem gyX11_houseOf_X11_within : GoodIn wyX11_houseOf (va_wsS RX11 96 yX11_within wsX11_within) := goodIn_app (goodIn_k _ [[3, 0, 0]] (by rfl) (gw_S _ _ _ _)) ggyX11_houseOf_X11_within
set_option maxRecDepth 20000 in
theorem ggyX11_houseOf_X11_isWay : GoodIn wyX11_houseOf wsX11_isWay := goodIn_k _ [[10], [3, 0, 0, 0, 4, 0, 0, 0], [1, 0, 12, 33, 0, 0, 0, 0, 0, 0, 0, 0, 0, 0, 0, 0, 0, 0, 0, 0, 0, 0, 0, 0]] (by rfl) (by decide +kernel)
set_option maxRecDepth 20000 in
theorem gyX11_houseOf_X11_isWay : GoodIn wyX11_houseOf (wsV RX11 230 RX11 yX11_isWay wsX11_isWay) := goodIn_app (goodIn_k _ [[7, 0, 0], [5]] (by rfl) (gw_V _ _ _ _)) ggyX11_houseOf_X11_isWay
set_option maxRecDepth 20000 in
theorem ggyX11_houseOf_X11_need : GoodIn wyX11_houseOf wyX11_need := goodIn_ca (goodIn_k _ [[18, 0, 0]] (by rfl) (by decide +kernel)) (goodIn_sub (fun _ h => List.mem_cons_of_mem _ (List.mem_append_right _ h)) (by decide +kernel))
set_option maxRecDepth 20000 in
theorem gyX11_houseOf_X11_need : GoodIn wyX11_houseOf (va_wsS RX11 168 yX11_need wyX11_need) := goodIn_app (goodIn_k _ [[16, 0], [5]] (by rfl) (gw_S _ _ _ _)) ggyX11_houseOf_X11_need
set_option maxRecDepth 20000 in
theorem ggyX11_houseOf_X2_houseDegree : GoodIn wyX11_houseOf wsX2_houseDegree := goodIn_k _ [[25, 0, 0, 0], [24, 4, 0, 0, 0, 0, 0, 0, 0, 0, 0, 0, 0, 0, 0, 0, 0, 0, 0, 0, 0, 19, 0]] (by rfl) (by decide +kernel)
set_option maxRecDepth 20000 in
theorem gyX11_houseOf_X2_houseDegree : GoodIn wyX11_houseOf (wsV RX11 233 RX2 yX2_houseDegree wsX2_houseDegree) := goodIn_app (goodIn_k _ [[21, 0, 0, 0]] (by rfl) (gw_V _ _ _ _)) ggyX11_houseOf_X2_houseDegree
set_option maxRecDepth 20000 in
theorem ggyX11_agree_X11_numberOf : GoodIn wyX11_agree wyX11_numberOf := goodIn_ca (goodIn_k _ [[7, 0, 0], [6, 3, 0, 0, 0, 0, 0, 0, 0, 0]] (by rfl) (by decide +kernel)) (goodIn_sub (fun _ h => List.mem_cons_of_mem _ (List.mem_append_right _ h)) (by decide +kernel))
set_option maxRecDepth 20000 in
theorem gyX11_agree_X11_numberOf : GoodIn wyX11_agree (va_wsS RX11 118 yX11_numberOf wyX11_numberOf) := goodIn_app (goodIn_k _ [[4, 0, 0]] (by rfl) (gw_S _ _ _ _)) ggyX11_agree_X11_numberOf
set_option maxRecDepth 20000 in
theorem ggyX11_agree_X11_isWay : GoodIn wyX11_agree wsX11_isWay := goodIn_k _ [[22], [11, 0], [6, 6, 9, 0, 0, 0], [2, 0, 23, 43, 0, 0, 0, 0, 0, 0, 0, 0, 0, 0, 0, 0, 0, 0, 0, 0, 0, 0, 0, 0]] (by rfl) (by decide +kernel)
set_option maxRecDepth 20000 in
theorem gyX11_agree_X11_isWay : GoodIn wyX11_agree (wsV RX11 230 RX11 yX11_isWay wsX11_isWay) := goodIn_app (goodIn_k _ [[19, 0, 0], [6]] (by rfl) (gw_V _ _ _ _)) ggyX11_agree_X11_isWay
set_option maxRecDepth 20000 in
theorem ggyX11_agree_X11_need : GoodIn wyX11_agree wyX11_need := goodIn_ca (goodIn_k _ [[16, 0, 0]] (by rfl) (by decide +kernel)) (goodIn_sub (fun _ h => List.mem_cons_of_mem _ (List.mem_append_right _ h)) (by decide +kernel))
set_option maxRecDepth 20000 in
theorem gyX11_agree_X11_need : GoodIn wyX11_agree (va_wsS RX11 168 yX11_need wyX11_need) := goodIn_app (goodIn_k _ [[14, 0], [6]] (by rfl) (gw_S _ _ _ _)) ggyX11_agree_X11_need
set_option maxRecDepth 20000 in
theorem ggyX11_agree_X1_degreeOf : GoodIn wyX11_agree wsX1_degreeOf := goodIn_k _ [[32, 0, 58, 0]] (by rfl) (by decide +kernel)
set_option maxRecDepth 20000 in
theorem gyX11_agree_X1_degreeOf : GoodIn wyX11_agree (wsV RX11 175 RX1 yX1_degreeOf wsX1_degreeOf) := goodIn_app (goodIn_k _ [[28, 0, 0, 0]] (by rfl) (gw_V _ _ _ _)) ggyX11_agree_X1_degreeOf
set_option maxRecDepth 20000 in
theorem ggyX11_agree_X1_howManyHouses : GoodIn wyX11_agree wsX1_howManyHouses := goodIn_k _ [[37, 0], [29, 0, 0, 0, 0, 58, 0]] (by rfl) (by decide +kernel)
set_option maxRecDepth 20000 in
theorem gyX11_agree_X1_howManyHouses : GoodIn wyX11_agree (wsV RX11 237 RX1 yX1_howManyHouses wsX1_howManyHouses) := goodIn_app (goodIn_k _ [[34, 0, 0], [31]] (by rfl) (gw_V _ _ _ _)) ggyX11_agree_X1_howManyHouses
set_option maxRecDepth 20000 in
theorem ggyX11_agree_X1_howManyDiffer : GoodIn wyX11_agree wsX1_howManyDiffer := goodIn_k _ [[42], [38], [29, 0, 0, 0, 0, 9, 0, 0, 0, 0, 0, 0, 0, 0, 0, 0, 0, 0, 0, 0, 0, 0, 0, 0, 0, 0, 0, 0, 0, 0, 0, 0, 0, 21, 0], [90, 0]] (by rfl) (by decide +kernel)
set_option maxRecDepth 20000 in
theorem gyX11_agree_X1_howManyDiffer : GoodIn wyX11_agree (wsV RX11 240 RX1 yX1_howManyDiffer wsX1_howManyDiffer) := goodIn_app (goodIn_k _ [[39, 0, 0], [31]] (by rfl) (gw_V _ _ _ _)) ggyX11_agree_X1_howManyDiffer
set_option maxRecDepth 20000 in
theorem ggyX11_lot_X11_numberOf : GoodIn wyX11_lot wyX11_numberOf := goodIn_ca (goodIn_k _ [[7, 0, 0], [6, 3, 0, 0, 0, 0, 0, 0, 0, 0]] (by rfl) (by decide +kernel)) (goodIn_sub (fun _ h => List.mem_cons_of_mem _ (List.mem_append_right _ h)) (by decide +kernel))
set_option maxRecDepth 20000 in
theorem gyX11_lot_X11_numberOf : GoodIn wyX11_lot (va_wsS RX11 118 yX11_numberOf wyX11_numberOf) := goodIn_app (goodIn_k _ [[4, 0, 0]] (by rfl) (gw_S _ _ _ _)) ggyX11_lot_X11_numberOf
set_option maxRecDepth 20000 in
theorem ggyX11_lot_X11_within : GoodIn wyX11_lot wsX11_within := goodIn_k _ [[13]] (by rfl) (by decide +kernel)
set_option maxRecDepth 20000 in
theorem gyX11_lot_X11_within : GoodIn wyX11_lot (va_wsS RX11 96 yX11_within wsX11_within) := goodIn_app (goodIn_k _ [[11, 0], [6]] (by rfl) (gw_S _ _ _ _)) ggyX11_lot_X11_within
set_option maxRecDepth 20000 in
theorem ggyX11_lot_X11_need : GoodIn wyX11_lot wyX11_need := goodIn_ca (goodIn_k _ [[16, 0, 0]] (by rfl) (by decide +kernel)) (goodIn_sub (fun _ h => List.mem_cons_of_mem _ (List.mem_append_right _ h)) (by decide +kernel))
set_option maxRecDepth 20000 in
theorem gyX11_lot_X11_need : GoodIn wyX11_lot (va_wsS RX11 168 yX11_need wyX11_need) := goodIn_app (goodIn_k _ [[14, 0], [6]] (by rfl) (gw_S _ _ _ _)) ggyX11_lot_X11_need
set_option maxRecDepth 20000 in
theorem ggyX11_lot_X1_lotOf : GoodIn wyX11_lot wsX1_lotOf := goodIn_k _ [[23, 0, 0, 0], [22, 4, 0, 0, 0, 0, 0, 34, 0]] (by rfl) (by decide +kernel)
set_option maxRecDepth 20000 in
theorem gyX11_lot_X1_lotOf : GoodIn wyX11_lot (wsV RX11 244 RX1 yX1_lotOf wsX1_lotOf) := goodIn_app (goodIn_k _ [[19, 0, 0, 0]] (by rfl) (gw_V _ _ _ _)) ggyX11_lot_X1_lotOf
set_option maxRecDepth 20000 in
theorem ggyX11_lot_X1_degreeOf : GoodIn wyX11_lot wsX1_degreeOf := goodIn_k _ [[27, 0, 38, 0]] (by rfl) (by decide +kernel)
set_option maxRecDepth 20000 in
theorem gyX11_lot_X1_degreeOf : GoodIn wyX11_lot (wsV RX11 175 RX1 yX1_degreeOf wsX1_degreeOf) := goodIn_app (goodIn_k _ [[33], [25, 0], [22]] (by rfl) (gw_V _ _ _ _)) ggyX11_lot_X1_degreeOf
set_option maxRecDepth 20000 in
theorem ggyX11_lot_X4_costBeside : GoodIn wyX11_lot wsX4_costBeside := goodIn_k _ [[38, 0, 0, 0], [37, 4, 0, 0, 0, 0, 0, 21, 0]] (by rfl) (by decide +kernel)
set_option maxRecDepth 20000 in
theorem gyX11_lot_X4_costBeside : GoodIn wyX11_lot (wsV RX11 247 RX4 yX4_costBeside wsX4_costBeside) := goodIn_app (goodIn_k _ [[34, 0, 0, 0]] (by rfl) (gw_V _ _ _ _)) ggyX11_lot_X4_costBeside
set_option maxRecDepth 20000 in
theorem ggyX11_price_X11_isBook : GoodIn wyX11_price wsX11_isBook := goodIn_k _ [[7, 0, 0], [6, 3]] (by rfl) (by decide +kernel)
set_option maxRecDepth 20000 in
theorem gyX11_price_X11_isBook : GoodIn wyX11_price (va_wsS RX11 250 yX11_isBook wsX11_isBook) := goodIn_app (goodIn_k _ [[4, 0, 0]] (by rfl) (gw_S _ _ _ _)) ggyX11_price_X11_isBook
set_option maxRecDepth 20000 in
theorem ggyX11_price_X11_need : GoodIn wyX11_price wyX11_need := goodIn_ca (goodIn_k _ [[13, 0, 0]] (by rfl) (by decide +kernel)) (goodIn_sub (fun _ h => List.mem_cons_of_mem _ (List.mem_append_right _ h)) (by decide +kernel))
set_option maxRecDepth 20000 in
theorem gyX11_price_X11_need : GoodIn wyX11_price (va_wsS RX11 168 yX11_need wyX11_need) := goodIn_app (goodIn_k _ [[11, 0], [6]] (by rfl) (gw_S _ _ _ _)) ggyX11_price_X11_need
set_option maxRecDepth 20000 in
theorem ggyX11_price_X10_priceOf : GoodIn wyX11_price wsX10_priceOf := goodIn_k _ [[19, 0, 0, 0, 0, 0, 0, 0, 0], [18, 9, 0, 0, 0, 0, 0, 0, 0, 0, 0, 0, 0, 0, 0, 0, 19, 0, 0, 0]] (by rfl) (by decide +kernel)
set_option maxRecDepth 20000 in
theorem gyX11_price_X10_priceOf : GoodIn wyX11_price (va_wsS RX11 253 yX10_priceOf wsX10_priceOf) := goodIn_app (goodIn_k _ [[16, 0, 0]] (by rfl) (gw_S _ _ _ _)) ggyX11_price_X10_priceOf
set_option maxRecDepth 20000 in
theorem ggyX11_seek_X11_numberOf : GoodIn wyX11_seek wyX11_numberOf := goodIn_ca (goodIn_k _ [[5, 0, 0], [4, 3, 0, 0, 0, 0, 0, 0, 0, 0]] (by rfl) (by decide +kernel)) (goodIn_sub (fun _ h => List.mem_cons_of_mem _ (List.mem_append_right _ h)) (by decide +kernel))
set_option maxRecDepth 20000 in
theorem gyX11_seek_X11_numberOf : GoodIn wyX11_seek (va_wsS RX11 118 yX11_numberOf wyX11_numberOf) := goodIn_app (goodIn_k _ [[2, 0, 0]] (by rfl) (gw_S _ _ _ _)) ggyX11_seek_X11_numberOf
set_option maxRecDepth 20000 in
theorem ggyX11_seek_X11_within : GoodIn wyX11_seek wsX11_within := goodIn_k _ [[11]] (by rfl) (by decide +kernel)
set_option maxRecDepth 20000 in
theorem gyX11_seek_X11_within : GoodIn wyX11_seek (va_wsS RX11 96 yX11_within wsX11_within) := goodIn_app (goodIn_k _ [[9, 0], [4]] (by rfl) (gw_S _ _ _ _)) ggyX11_seek_X11_within
set_option maxRecDepth 20000 in
theorem ggyX11_seek_X11_isDay : GoodIn wyX11_seek wsX11_isDay := goodIn_k _ [[19, 0], [9, 0], [4, 6]] (by rfl) (by decide +kernel)
set_option maxRecDepth 20000 in
theorem gyX11_seek_X11_isDay : GoodIn wyX11_seek (va_wsS RX11 164 yX11_isDay wsX11_isDay) := goodIn_app (goodIn_k _ [[17, 0], [4]] (by rfl) (gw_S _ _ _ _)) ggyX11_seek_X11_isDay
set_option maxRecDepth 20000 in
theorem ggyX11_seek_X11_need : GoodIn wyX11_seek wyX11_need := goodIn_ca (goodIn_k _ [[14, 0, 0]] (by rfl) (by decide +kernel)) (goodIn_sub (fun _ h => List.mem_cons_of_mem _ (List.mem_append_right _ h)) (by decide +kernel))
set_option maxRecDepth 20000 in
theorem gyX11_seek_X11_need : GoodIn wyX11_seek (va_wsS RX11 168 yX11_need wyX11_need) := goodIn_app (goodIn_k _ [[12, 0], [4]] (by rfl) (gw_S _ _ _ _)) ggyX11_seek_X11_need
set_option maxRecDepth 20000 in
theorem ggyX11_seek_X8_begin : GoodIn wyX11_seek wsX8_begin := goodIn_k _ [[25, 0, 0, 0, 0, 0, 0, 0, 13, 0, 0, 0, 0, 0, 0, 0]] (by rfl) (by decide +kernel)
set_option maxRecDepth 20000 in
theorem gyX11_seek_X8_begin : GoodIn wyX11_seek (wsV RX11 186 RX8 yX8_begin wsX8_begin) := goodIn_app (goodIn_k _ [[21, 0, 0, 0]] (by rfl) (gw_V _ _ _ _)) ggyX11_seek_X8_begin
set_option maxRecDepth 20000 in
theorem ggyX11_on_X11_need : GoodIn wyX11_on wyX11_need := goodIn_ca (goodIn_k _ [[9, 0, 0]] (by rfl) (by decide +kernel)) (goodIn_sub (fun _ h => List.mem_cons_of_mem _ (List.mem_append_left _ (List.mem_append_right _ h))) (by decide +kernel))
set_option maxRecDepth 20000 in
theorem gyX11_on_X11_need : GoodIn wyX11_on (va_wsS RX11 168 yX11_need wyX11_need) := goodIn_app (goodIn_k _ [[6, 0, 0]] (by rfl) (gw_S _ _ _ _)) ggyX11_on_X11_need
set_option maxRecDepth 20000 in
theorem ggyX11_on_X11_within : GoodIn wyX11_on wsX11_within := goodIn_k _ [[14]] (by rfl) (by decide +kernel)
set_option maxRecDepth 20000 in
theorem gyX11_on_X11_within : GoodIn wyX11_on (va_wsS RX11 96 yX11_within wsX11_within) := goodIn_app (goodIn_k _ [[12, 0], [8]] (by rfl) (gw_S _ _ _ _)) ggyX11_on_X11_within
set_option maxRecDepth 20000 in
theorem ggyX11_on_X11_allow : GoodIn wyX11_on wsX11_allow := goodIn_ca (goodIn_k _ [[17, 0, 0]] (by rfl) (by decide +kernel)) (goodIn_sub (fun _ h => List.mem_cons_of_mem _ (List.mem_append_right _ h)) (by decide +kernel))
set_option maxRecDepth 20000 in
theorem gyX11_on_X11_allow : GoodIn wyX11_on (va_wsS RX11 100 yX11_allow wsX11_allow) := goodIn_app (goodIn_k _ [[15, 0], [8]] (by rfl) (gw_S _ _ _ _)) ggyX11_on_X11_allow
set_option maxRecDepth 20000 in
theorem ggyX11_on_X8_goOn : GoodIn wyX11_on wsX8_goOn := goodIn_k _ [[24, 0, 0, 0, 0, 0, 0, 0, 0, 0, 0, 0, 0, 0, 0, 0, 0, 0, 0, 0, 0, 0, 0, 0, 0, 0, 0, 0, 0, 0, 0, 0, 0, 0, 0, 0, 0, 0, 0, 0, 0, 0, 0, 0, 0, 0, 0, 0, 0, 0, 0, 0, 0, 0, 0, 0, 0, 0, 0, 0, 0, 0, 0, 0, 0], [23, 65, 0, 0, 0, 13, 0, 0, 0, 0, 0, 0, 0, 0, 0, 0, 0, 0, 0, 0, 0, 0, 0]] (by rfl) (by decide +kernel)
set_option maxRecDepth 20000 in
theorem gyX11_on_X8_goOn : GoodIn wyX11_on (wsV RX11 189 RX8 yX8_goOn wsX8_goOn) := goodIn_app (goodIn_k _ [[20, 0, 0, 0]] (by rfl) (gw_V _ _ _ _)) ggyX11_on_X8_goOn
set_option maxRecDepth 20000 in
theorem ggyX11_held_X11_within : GoodIn wyX11_held wsX11_within := goodIn_k _ [[10]] (by rfl) (by decide +kernel)
set_option maxRecDepth 20000 in
theorem gyX11_held_X11_within : GoodIn wyX11_held (va_wsS RX11 96 yX11_within wsX11_within) := goodIn_app (goodIn_k _ [[7, 0, 0]] (by rfl) (gw_S _ _ _ _)) ggyX11_held_X11_within
set_option maxRecDepth 20000 in
theorem ggyX11_held_X11_need : GoodIn wyX11_held wyX11_need := goodIn_ca (goodIn_k _ [[13, 0, 0]] (by rfl) (by decide +kernel)) (goodIn_sub (fun _ h => List.mem_cons_of_mem _ (List.mem_append_right _ h)) (by decide +kernel))
set_option maxRecDepth 20000 in
theorem gyX11_held_X11_need : GoodIn wyX11_held (va_wsS RX11 168 yX11_need wyX11_need) := goodIn_app (goodIn_k _ [[11, 0], [9]] (by rfl) (gw_S _ _ _ _)) ggyX11_held_X11_need
set_option maxRecDepth 20000 in
theorem ggyX11_held_X8_keptDay : GoodIn wyX11_held wsX8_keptDay := goodIn_k _ [[20, 0, 13, 0, 0, 0, 0, 0, 0, 0]] (by rfl) (by decide +kernel)
set_option maxRecDepth 20000 in
theorem gyX11_held_X8_keptDay : GoodIn wyX11_held (wsV RX11 204 RX8 yX8_keptDay wsX8_keptDay) := goodIn_app (goodIn_k _ [[16, 0, 0, 0]] (by rfl) (gw_V _ _ _ _)) ggyX11_held_X8_keptDay
set_option maxRecDepth 20000 in
theorem ggyX11_misread_X11_numberOf : GoodIn wyX11_misread wyX11_numberOf := goodIn_ca (goodIn_k _ [[7, 0, 0], [6, 3, 0, 0, 0, 0, 0, 0, 0, 0]] (by rfl) (by decide +kernel)) (goodIn_sub (fun _ h => List.mem_cons_of_mem _ (List.mem_append_right _ h)) (by decide +kernel))
set_option maxRecDepth 20000 in
theorem gyX11_misread_X11_numberOf : GoodIn wyX11_misread (va_wsS RX11 118 yX11_numberOf wyX11_numberOf) := goodIn_app (goodIn_k _ [[4, 0, 0]] (by rfl) (gw_S _ _ _ _)) ggyX11_misread_X11_numberOf
set_option maxRecDepth 20000 in
theorem ggyX11_misread_X11_within : GoodIn wyX11_misread wsX11_within := goodIn_k _ [[13]] (by rfl) (by decide +kernel)
set_option maxRecDepth 20000 in
theorem gyX11_misread_X11_within : GoodIn wyX11_misread (va_wsS RX11 96 yX11_within wsX11_within) := goodIn_app (goodIn_k _ [[11, 0], [6]] (by rfl) (gw_S _ _ _ _)) ggyX11_misread_X11_within
set_option maxRecDepth 20000 in
theorem ggyX11_misread_X11_isDay : GoodIn wyX11_misread wsX11_isDay := goodIn_k _ [[21, 0], [11, 0], [6, 6]] (by rfl) (by decide +kernel)
set_option maxRecDepth 20000 in
theorem gyX11_misread_X11_isDay : GoodIn wyX11_misread (va_wsS RX11 164 yX11_isDay wsX11_isDay) := goodIn_app (goodIn_k _ [[19, 0], [6]] (by rfl) (gw_S _ _ _ _)) ggyX11_misread_X11_isDay
set_option maxRecDepth 20000 in
theorem ggyX11_misread_X11_need : GoodIn wyX11_misread wyX11_need := goodIn_ca (goodIn_k _ [[16, 0, 0]] (by rfl) (by decide +kernel)) (goodIn_sub (fun _ h => List.mem_cons_of_mem _ (List.mem_append_right _ h)) (by decide +kernel))
set_option maxRecDepth 20000 in
theorem gyX11_misread_X11_need : GoodIn wyX11_misread (va_wsS RX11 168 yX11_need wyX11_need) := goodIn_app (goodIn_k _ [[14, 0], [6]] (by rfl) (gw_S _ _ _ _)) ggyX11_misread_X11_need
set_option maxRecDepth 20000 in
theorem ggyX11_misread_X1_degreeOf : GoodIn wyX11_misread wsX1_degreeOf := goodIn_k _ [[27, 0, 60, 0]] (by rfl) (by decide +kernel)
set_option maxRecDepth 20000 in
theorem gyX11_misread_X1_degreeOf : GoodIn wyX11_misread (wsV RX11 175 RX1 yX1_degreeOf wsX1_degreeOf) := goodIn_app (goodIn_k _ [[23, 0, 0, 0]] (by rfl) (gw_V _ _ _ _)) ggyX11_misread_X1_degreeOf
set_option maxRecDepth 20000 in
theorem ggyX11_misread_X5_degreeOn : GoodIn wyX11_misread wsX5_degreeOn := goodIn_k _ [[33, 0, 0, 0], [32, 4, 0, 0, 0, 0, 0, 0, 0, 0, 0, 0, 0, 0, 0, 0, 0, 0, 0, 0, 0, 0, 0, 0, 23, 0, 0, 0, 0, 0]] (by rfl) (by decide +kernel)
set_option maxRecDepth 20000 in
theorem gyX11_misread_X5_degreeOn : GoodIn wyX11_misread (wsV RX11 267 RX5 yX5_degreeOn wsX5_degreeOn) := goodIn_app (goodIn_k _ [[29, 0, 0, 0]] (by rfl) (gw_V _ _ _ _)) ggyX11_misread_X5_degreeOn
set_option maxRecDepth 20000 in
theorem ggyX11_misread_X4_misreading : GoodIn wyX11_misread wsX4_misreading := goodIn_k _ [[64, 0, 0, 0], [63, 4, 0, 21, 0]] (by rfl) (by decide +kernel)
set_option maxRecDepth 20000 in
theorem gyX11_misread_X4_misreading : GoodIn wyX11_misread (wsV RX11 270 RX4 yX4_misreading wsX4_misreading) := goodIn_app (goodIn_k _ [[60, 0, 0, 0]] (by rfl) (gw_V _ _ _ _)) ggyX11_misread_X4_misreading
set_option maxRecDepth 20000 in
theorem ggyX11_errors_X11_numberOf : GoodIn wyX11_errors wyX11_numberOf := goodIn_ca (goodIn_k _ [[7, 0, 0], [6, 3, 0, 0, 0, 0, 0, 0, 0, 0]] (by rfl) (by decide +kernel)) (goodIn_sub (fun _ h => List.mem_cons_of_mem _ (List.mem_append_right _ h)) (by decide +kernel))
set_option maxRecDepth 20000 in
theorem gyX11_errors_X11_numberOf : GoodIn wyX11_errors (va_wsS RX11 118 yX11_numberOf wyX11_numberOf) := goodIn_app (goodIn_k _ [[4, 0, 0]] (by rfl) (gw_S _ _ _ _)) ggyX11_errors_X11_numberOf
set_option maxRecDepth 20000 in
theorem ggyX11_errors_X11_isDay : GoodIn wyX11_errors wsX11_isDay := goodIn_k _ [[21, 0], [11, 0], [6, 6]] (by rfl) (by decide +kernel)
set_option maxRecDepth 20000 in
theorem gyX11_errors_X11_isDay : GoodIn wyX11_errors (va_wsS RX11 164 yX11_isDay wsX11_isDay) := goodIn_app (goodIn_k _ [[19, 0], [6]] (by rfl) (gw_S _ _ _ _)) ggyX11_errors_X11_isDay
set_option maxRecDepth 20000 in
theorem ggyX11_errors_X11_within : GoodIn wyX11_errors wsX11_within := goodIn_k _ [[13]] (by rfl) (by decide +kernel)
set_option maxRecDepth 20000 in
theorem gyX11_errors_X11_within : GoodIn wyX11_errors (va_wsS RX11 96 yX11_within wsX11_within) := goodIn_app (goodIn_k _ [[11, 0], [6]] (by rfl) (gw_S _ _ _ _)) ggyX11_errors_X11_within
set_option maxRecDepth 20000 in
theorem ggyX11_errors_X11_need : GoodIn wyX11_errors wyX11_need := goodIn_ca (goodIn_k _ [[16, 0, 0]] (by rfl) (by decide +kernel)) (goodIn_sub (fun _ h => List.mem_cons_of_mem _ (List.mem_append_right _ h)) (by decide +kernel))
set_option maxRecDepth 20000 in
theorem gyX11_errors_X11_need : GoodIn wyX11_errors (va_wsS RX11 168 yX11_need wyX11_need) := goodIn_app (goodIn_k _ [[14, 0], [6]] (by rfl) (gw_S _ _ _ _)) ggyX11_errors_X11_need
set_option maxRecDepth 20000 in
theorem ggyX11_errors_X3_setSharers : GoodIn wyX11_errors wsX3_setSharers := goodIn_k _ [[27, 0, 0, 0, 0, 0, 0, 0, 0, 0], [26, 10, 0, 0, 0, 0, 0, 0, 0, 0, 0, 0, 0, 0, 0, 0, 0, 0, 0, 0, 0, 0, 0, 0, 0, 0, 0, 0, 0, 0, 0, 0, 0, 45, 0, 0, 0, 0, 0, 0, 0, 0]] (by rfl) (by decide +kernel)
set_option maxRecDepth 20000 in
theorem gyX11_errors_X3_setSharers : GoodIn wyX11_errors (wsV RX11 273 RX3 yX3_setSharers wsX3_setSharers) := goodIn_app (goodIn_k _ [[23, 0, 0, 0]] (by rfl) (gw_V _ _ _ _)) ggyX11_errors_X3_setSharers
set_option maxRecDepth 20000 in
theorem ggyX11_errors_X3_howManyErrors : GoodIn wyX11_errors wsX3_howManyErrors := goodIn_k _ [[72], [28, 85]] (by rfl) (by decide +kernel)
set_option maxRecDepth 20000 in
theorem gyX11_errors_X3_howManyErrors : GoodIn wyX11_errors (wsV RX11 277 RX3 yX3_howManyErrors wsX3_howManyErrors) := goodIn_app (goodIn_k _ [[69, 0, 0], [26]] (by rfl) (gw_V _ _ _ _)) ggyX11_errors_X3_howManyErrors
set_option maxRecDepth 20000 in
theorem ggyX11_errors_X3_setFollowed : GoodIn wyX11_errors wsX3_setFollowed := goodIn_k _ [[76, 0, 0, 0], [26, 53], [28, 52, 0, 0, 0, 0, 0, 0, 0, 0, 0, 0, 22]] (by rfl) (by decide +kernel)
set_option maxRecDepth 20000 in
theorem gyX11_errors_X3_setFollowed : GoodIn wyX11_errors (wsV RX11 280 RX3 yX3_setFollowed wsX3_setFollowed) := goodIn_app (goodIn_k _ [[73, 0, 0], [26]] (by rfl) (gw_V _ _ _ _)) ggyX11_errors_X3_setFollowed
set_option maxRecDepth 20000 in
theorem ggyX11_errors_X3_howManyShared : GoodIn wyX11_errors wsX3_howManyShared := goodIn_k _ [[95], [88, 0, 0], [26, 64], [28, 85]] (by rfl) (by decide +kernel)
set_option maxRecDepth 20000 in
theorem gyX11_errors_X3_howManyShared : GoodIn wyX11_errors (wsV RX11 283 RX3 yX3_howManyShared wsX3_howManyShared) := goodIn_app (goodIn_k _ [[92, 0, 0], [26]] (by rfl) (gw_V _ _ _ _)) ggyX11_errors_X3_howManyShared
set_option maxRecDepth 20000 in
theorem ggyX11_errors_X3_howManyAlone : GoodIn wyX11_errors wsX3_howManyAlone := goodIn_k _ [[99], [28, 85]] (by rfl) (by decide +kernel)
set_option maxRecDepth 20000 in
theorem gyX11_errors_X3_howManyAlone : GoodIn wyX11_errors (wsV RX11 286 RX3 yX3_howManyAlone wsX3_howManyAlone) := goodIn_app (goodIn_k _ [[96, 0, 0], [26]] (by rfl) (gw_V _ _ _ _)) ggyX11_errors_X3_howManyAlone
set_option maxRecDepth 20000 in
theorem ggyX11_errors_X3_weightOf : GoodIn wyX11_errors wsX3_weightOf := goodIn_k _ [[80], [28, 52, 0, 0, 0, 0, 0, 0, 0, 0, 0], [26, 64, 22]] (by rfl) (by decide +kernel)
set_option maxRecDepth 20000 in
theorem gyX11_errors_X3_weightOf : GoodIn wyX11_errors (wsV RX11 289 RX3 yX3_weightOf wsX3_weightOf) := goodIn_app (goodIn_k _ [[100], [78, 0], [26]] (by rfl) (gw_V _ _ _ _)) ggyX11_errors_X3_weightOf
set_option maxRecDepth 20000 in
theorem ggyX11_possible_X11_numberOf : GoodIn wyX11_possible wyX11_numberOf := goodIn_ca (goodIn_k _ [[5, 0, 0], [4, 3, 0, 0, 0, 0, 0, 0, 0, 0]] (by rfl) (by decide +kernel)) (goodIn_sub (fun _ h => List.mem_cons_of_mem _ (List.mem_append_right _ h)) (by decide +kernel))
set_option maxRecDepth 20000 in
theorem gyX11_possible_X11_numberOf : GoodIn wyX11_possible (va_wsS RX11 118 yX11_numberOf wyX11_numberOf) := goodIn_app (goodIn_k _ [[2, 0, 0]] (by rfl) (gw_S _ _ _ _)) ggyX11_possible_X11_numberOf
set_option maxRecDepth 20000 in
theorem ggyX11_possible_X11_within : GoodIn wyX11_possible wsX11_within := goodIn_k _ [[11]] (by rfl) (by decide +kernel)
set_option maxRecDepth 20000 in
theorem gyX11_possible_X11_within : GoodIn wyX11_possible (va_wsS RX11 96 yX11_within wsX11_within) := goodIn_app (goodIn_k _ [[9, 0], [4]] (by rfl) (gw_S _ _ _ _)) ggyX11_possible_X11_within
set_option maxRecDepth 20000 in
theorem ggyX11_possible_X11_need : GoodIn wyX11_possible wyX11_need := goodIn_ca (goodIn_k _ [[14, 0, 0]] (by rfl) (by decide +kernel)) (goodIn_sub (fun _ h => List.mem_cons_of_mem _ (List.mem_append_right _ h)) (by decide +kernel))
set_option maxRecDepth 20000 in
theorem gyX11_possible_X11_need : GoodIn wyX11_possible (va_wsS RX11 168 yX11_need wyX11_need) := goodIn_app (goodIn_k _ [[12, 0], [4]] (by rfl) (gw_S _ _ _ _)) ggyX11_possible_X11_need
set_option maxRecDepth 20000 in
theorem ggyX11_possible_X1_degreeOf : GoodIn wyX11_possible wsX1_degreeOf := goodIn_k _ [[21, 0, 69, 0]] (by rfl) (by decide +kernel)
set_option maxRecDepth 20000 in
theorem gyX11_possible_X1_degreeOf : GoodIn wyX11_possible (wsV RX11 175 RX1 yX1_degreeOf wsX1_degreeOf) := goodIn_app (goodIn_k _ [[17, 0, 0, 0]] (by rfl) (gw_V _ _ _ _)) ggyX11_possible_X1_degreeOf
set_option maxRecDepth 20000 in
theorem ggyX11_possible_X11_waysThatCanBe : GoodIn wyX11_possible wsX11_waysThatCanBe := goodIn_k _ [[26], [1, 25, 0, 0, 0, 0, 0], [20, 12, 0], [18, 0, 1, 0, 12, 0, 0, 0, 0, 0, 0, 0, 0, 0, 0, 0, 0, 0, 0, 0, 0, 0, 0, 0, 0, 0, 0, 0, 0, 0, 0, 0, 16, 0, 0, 0, 0, 0, 0, 0, 0, 0, 0, 0, 0, 2, 0, 0, 0, 0, 0, 0, 0], [92, 0]] (by rfl) (by decide +kernel)
set_option maxRecDepth 20000 in
theorem gyX11_possible_X11_waysThatCanBe : GoodIn wyX11_possible (wsV RX11 292 RX11 yX11_waysThatCanBe wsX11_waysThatCanBe) := goodIn_app (goodIn_k _ [[23, 0, 0], [4]] (by rfl) (gw_V _ _ _ _)) ggyX11_possible_X11_waysThatCanBe
set_option maxRecDepth 20000 in
theorem ggyX11_possible_X11_climatesThatCanBe : GoodIn wyX11_possible wsX11_climatesThatCanBe := goodIn_k _ [[66], [1, 25, 0, 0], [17, 0, 0, 0, 0, 0, 7, 0, 0, 0, 0, 0, 0, 0, 0, 0, 0, 0, 0, 0, 0, 0, 0, 0, 0, 0, 0, 0, 0, 0, 0, 0, 0, 0, 0, 0, 0, 0, 0, 4, 0, 0, 0, 0, 0, 0, 0, 0, 0, 0, 0, 0, 0, 0, 0, 0, 0, 0, 0, 0, 0, 0, 0, 0, 2, 0, 0, 0, 0, 0, 0, 0], [92, 0]] (by rfl) (by decide +kernel)
set_option maxRecDepth 20000 in
theorem gyX11_possible_X11_climatesThatCanBe : GoodIn wyX11_possible (wsV RX11 295 RX11 yX11_climatesThatCanBe wsX11_climatesThatCanBe) := goodIn_app (goodIn_k _ [[63, 0, 0], [4]] (by rfl) (gw_V _ _ _ _)) ggyX11_possible_X11_climatesThatCanBe
set_option maxRecDepth 20000 in
theorem ggyX11_slips_X11_within : GoodIn wyX11_slips wsX11_within := goodIn_k _ [[9]] (by rfl) (by decide +kernel)
set_option maxRecDepth 20000 in
theorem gyX11_slips_X11_within : GoodIn wyX11_slips (va_wsS RX11 96 yX11_within wsX11_within) := goodIn_app (goodIn_k _ [[6, 0, 0]] (by rfl) (gw_S _ _ _ _)) ggyX11_slips_X11_within
set_option maxRecDepth 20000 in
theorem ggyX11_slips_X11_need : GoodIn wyX11_slips wyX11_need := goodIn_ca (goodIn_k _ [[12, 0, 0]] (by rfl) (by decide +kernel)) (goodIn_sub (fun _ h => List.mem_cons_of_mem _ (List.mem_append_right _ h)) (by decide +kernel))
set_option maxRecDepth 20000 in
theorem gyX11_slips_X11_need : GoodIn wyX11_slips (va_wsS RX11 168 yX11_need wyX11_need) := goodIn_app (goodIn_k _ [[10, 0], [8]] (by rfl) (gw_S _ _ _ _)) ggyX11_slips_X11_need
set_option maxRecDepth 20000 in
theorem ggyX11_slips_X10_howManySlips : GoodIn wyX11_slips wsX10_howManySlips := goodIn_k _ [[19, 0, 0, 0, 0], [18, 5, 0, 0, 0, 0, 0, 0, 0, 0, 0, 0, 0, 0, 0, 0, 0, 0, 0, 0, 0, 13, 0, 0, 0, 0, 6, 0, 0, 0]] (by rfl) (by decide +kernel)
set_option maxRecDepth 20000 in
theorem gyX11_slips_X10_howManySlips : GoodIn wyX11_slips (wsV RX11 301 RX10 yX10_howManySlips wsX10_howManySlips) := goodIn_app (goodIn_k _ [[15, 0, 0, 0]] (by rfl) (gw_V _ _ _ _)) ggyX11_slips_X10_howManySlips
set_option maxRecDepth 20000 in
theorem ggyX11_handed_X11_isBook : GoodIn wyX11_handed wsX11_isBook := goodIn_k _ [[5, 0, 0], [4, 3]] (by rfl) (by decide +kernel)
set_option maxRecDepth 20000 in
theorem gyX11_handed_X11_isBook : GoodIn wyX11_handed (va_wsS RX11 250 yX11_isBook wsX11_isBook) := goodIn_app (goodIn_k _ [[2, 0, 0]] (by rfl) (gw_S _ _ _ _)) ggyX11_handed_X11_isBook
set_option maxRecDepth 20000 in
theorem ggyX11_handed_X11_need : GoodIn wyX11_handed wyX11_need := goodIn_ca (goodIn_k _ [[11, 0, 0]] (by rfl) (by decide +kernel)) (goodIn_sub (fun _ h => List.mem_cons_of_mem _ (List.mem_append_right _ h)) (by decide +kernel))
set_option maxRecDepth 20000 in
theorem gyX11_handed_X11_need : GoodIn wyX11_handed (va_wsS RX11 168 yX11_need wyX11_need) := goodIn_app (goodIn_k _ [[9, 0], [4]] (by rfl) (gw_S _ _ _ _)) ggyX11_handed_X11_need
set_option maxRecDepth 20000 in
theorem ggyX11_handed_X1_howManyHanded : GoodIn wyX11_handed wsX1_howManyHanded := goodIn_k _ [[18, 0, 13, 0]] (by rfl) (by decide +kernel)
set_option maxRecDepth 20000 in
theorem gyX11_handed_X1_howManyHanded : GoodIn wyX11_handed (wsV RX11 304 RX1 yX1_howManyHanded wsX1_howManyHanded) := goodIn_app (goodIn_k _ [[14, 0, 0, 0]] (by rfl) (gw_V _ _ _ _)) ggyX11_handed_X1_howManyHanded
set_option maxRecDepth 20000 in
theorem ggyX11_leaf_X11_isBook : GoodIn wyX11_leaf wsX11_isBook := goodIn_k _ [[5, 0, 0], [4, 3]] (by rfl) (by decide +kernel)
set_option maxRecDepth 20000 in
theorem gyX11_leaf_X11_isBook : GoodIn wyX11_leaf (va_wsS RX11 250 yX11_isBook wsX11_isBook) := goodIn_app (goodIn_k _ [[2, 0, 0]] (by rfl) (gw_S _ _ _ _)) ggyX11_leaf_X11_isBook
set_option maxRecDepth 20000 in
theorem ggyX11_leaf_X11_within : GoodIn wyX11_leaf wsX11_within := goodIn_k _ [[8]] (by rfl) (by decide +kernel)
set_option maxRecDepth 20000 in
theorem gyX11_leaf_X11_within : GoodIn wyX11_leaf (va_wsS RX11 96 yX11_within wsX11_within) := goodIn_app (goodIn_k _ [[6, 0], [4]] (by rfl) (gw_S _ _ _ _)) ggyX11_leaf_X11_within
set_option maxRecDepth 20000 in
theorem ggyX11_leaf_X11_need : GoodIn wyX11_leaf wyX11_need := goodIn_ca (goodIn_k _ [[11, 0, 0]] (by rfl) (by decide +kernel)) (goodIn_sub (fun _ h => List.mem_cons_of_mem _ (List.mem_append_right _ h)) (by decide +kernel))
set_option maxRecDepth 20000 in
theorem gyX11_leaf_X11_need : GoodIn wyX11_leaf (va_wsS RX11 168 yX11_need wyX11_need) := goodIn_app (goodIn_k _ [[9, 0], [4]] (by rfl) (gw_S _ _ _ _)) ggyX11_leaf_X11_need
set_option maxRecDepth 20000 in
theorem ggyX11_leaf_X6_addTo : GoodIn wyX11_leaf wsX6_addTo := goodIn_k _ [[18, 0, 0, 0, 0, 0], [17, 6, 13, 0, 0, 0]] (by rfl) (by decide +kernel)
set_option maxRecDepth 20000 in
theorem gyX11_leaf_X6_addTo : GoodIn wyX11_leaf (wsV RX11 307 RX6 yX6_addTo wsX6_addTo) := goodIn_app (goodIn_k _ [[14, 0, 0, 0]] (by rfl) (gw_V _ _ _ _)) ggyX11_leaf_X6_addTo
set_option maxRecDepth 20000 in
theorem ggyX11_order_X11_isBook : GoodIn wyX11_order wsX11_isBook := goodIn_k _ [[5, 0, 0], [4, 3]] (by rfl) (by decide +kernel)
set_option maxRecDepth 20000 in
theorem gyX11_order_X11_isBook : GoodIn wyX11_order (va_wsS RX11 250 yX11_isBook wsX11_isBook) := goodIn_app (goodIn_k _ [[2, 0, 0]] (by rfl) (gw_S _ _ _ _)) ggyX11_order_X11_isBook
set_option maxRecDepth 20000 in
theorem ggyX11_order_X11_within : GoodIn wyX11_order wsX11_within := goodIn_k _ [[8]] (by rfl) (by decide +kernel)
set_option maxRecDepth 20000 in
theorem gyX11_order_X11_within : GoodIn wyX11_order (va_wsS RX11 96 yX11_within wsX11_within) := goodIn_app (goodIn_k _ [[6, 0], [4]] (by rfl) (gw_S _ _ _ _)) ggyX11_order_X11_within
set_option maxRecDepth 20000 in
theorem ggyX11_order_X11_need : GoodIn wyX11_order wyX11_need := goodIn_ca (goodIn_k _ [[11, 0, 0]] (by rfl) (by decide +kernel)) (goodIn_sub (fun _ h => List.mem_cons_of_mem _ (List.mem_append_right _ h)) (by decide +kernel))
set_option maxRecDepth 20000 in
theorem gyX11_order_X11_need : GoodIn wyX11_order (va_wsS RX11 168 yX11_need wyX11_need) := goodIn_app (goodIn_k _ [[9, 0], [4]] (by rfl) (gw_S _ _ _ _)) ggyX11_order_X11_need
set_option maxRecDepth 20000 in
theorem ggyX11_order_X6_howManyInOrder : GoodIn wyX11_order wsX6_howManyInOrder := goodIn_k _ [[18, 0, 0, 0, 0, 0, 0, 0, 0, 0], [17, 10, 0, 0, 0, 0, 0, 0, 17, 0, 0, 0]] (by rfl) (by decide +kernel)
set_option maxRecDepth 20000 in
theorem gyX11_order_X6_howManyInOrder : GoodIn wyX11_order (wsV RX11 310 RX6 yX6_howManyInOrder wsX6_howManyInOrder) := goodIn_app (goodIn_k _ [[14, 0, 0, 0]] (by rfl) (gw_V _ _ _ _)) ggyX11_order_X6_howManyInOrder
set_option maxRecDepth 20000 in
theorem ggyX11_order_X6_howManyTurned : GoodIn wyX11_order wsX6_howManyTurned := goodIn_k _ [[38], [20, 4, 0, 0], [17, 10, 0, 0, 0, 0, 0, 0, 17, 0, 0, 0]] (by rfl) (by decide +kernel)
set_option maxRecDepth 20000 in
theorem gyX11_order_X6_howManyTurned : GoodIn wyX11_order (wsV RX11 313 RX6 yX6_howManyTurned wsX6_howManyTurned) := goodIn_app (goodIn_k _ [[35, 0, 0], [17]] (by rfl) (gw_V _ _ _ _)) ggyX11_order_X6_howManyTurned
set_option maxRecDepth 20000 in
theorem ggyX11_same_X11_isNumber : GoodIn wyX11_same wsX11_isNumber := goodIn_k _ [[7, 0, 0], [6, 3]] (by rfl) (by decide +kernel)
set_option maxRecDepth 20000 in
theorem gyX11_same_X11_isNumber : GoodIn wyX11_same (va_wsS RX11 316 yX11_isNumber wsX11_isNumber) := goodIn_app (goodIn_k _ [[4, 0, 0]] (by rfl) (gw_S _ _ _ _)) ggyX11_same_X11_isNumber
set_option maxRecDepth 20000 in
theorem ggyX11_same_X11_within : GoodIn wyX11_same wsX11_within := goodIn_k _ [[10]] (by rfl) (by decide +kernel)
set_option maxRecDepth 20000 in
theorem gyX11_same_X11_within : GoodIn wyX11_same (va_wsS RX11 96 yX11_within wsX11_within) := goodIn_app (goodIn_k _ [[8, 0], [6]] (by rfl) (gw_S _ _ _ _)) ggyX11_same_X11_within
set_option maxRecDepth 20000 in
theorem ggyX11_same_X11_need : GoodIn wyX11_same wyX11_need := goodIn_ca (goodIn_k _ [[13, 0, 0]] (by rfl) (by decide +kernel)) (goodIn_sub (fun _ h => List.mem_cons_of_mem _ (List.mem_append_right _ h)) (by decide +kernel))
set_option maxRecDepth 20000 in
theorem gyX11_same_X11_need : GoodIn wyX11_same (va_wsS RX11 168 yX11_need wyX11_need) := goodIn_app (goodIn_k _ [[11, 0], [6]] (by rfl) (gw_S _ _ _ _)) ggyX11_same_X11_need
set_option maxRecDepth 20000 in
theorem ggyX11_same_X0_areOne : GoodIn wyX11_same wsX0_areOne := goodIn_k _ [[19, 0, 0, 0, 0, 0, 0, 0, 0, 0, 0, 0, 0, 0, 0, 0, 0, 0, 0, 0, 0, 19, 0, 0, 0]] (by rfl) (by decide +kernel)
set_option maxRecDepth 20000 in
theorem gyX11_same_X0_areOne : GoodIn wyX11_same (va_wsS RX11 319 yX0_areOne wsX0_areOne) := goodIn_app (goodIn_k _ [[16, 0, 0]] (by rfl) (gw_S _ _ _ _)) ggyX11_same_X0_areOne
set_option maxRecDepth 20000 in
theorem ggyX11_births_X11_isNumber : GoodIn wyX11_births wsX11_isNumber := goodIn_k _ [[8, 0, 0], [7, 3]] (by rfl) (by decide +kernel)
set_option maxRecDepth 20000 in
theorem gyX11_births_X11_isNumber : GoodIn wyX11_births (va_wsS RX11 316 yX11_isNumber wsX11_isNumber) := goodIn_app (goodIn_k _ [[5, 0, 0]] (by rfl) (gw_S _ _ _ _)) ggyX11_births_X11_isNumber
set_option maxRecDepth 20000 in
theorem ggyX11_births_X11_within : GoodIn wyX11_births wsX11_within := goodIn_k _ [[11]] (by rfl) (by decide +kernel)
set_option maxRecDepth 20000 in
theorem gyX11_births_X11_within : GoodIn wyX11_births (va_wsS RX11 96 yX11_within wsX11_within) := goodIn_app (goodIn_k _ [[9, 0], [7]] (by rfl) (gw_S _ _ _ _)) ggyX11_births_X11_within
set_option maxRecDepth 20000 in
theorem ggyX11_births_X11_need : GoodIn wyX11_births wyX11_need := goodIn_ca (goodIn_k _ [[14, 0, 0]] (by rfl) (by decide +kernel)) (goodIn_sub (fun _ h => List.mem_cons_of_mem _ (List.mem_append_right _ h)) (by decide +kernel))
set_option maxRecDepth 20000 in
theorem gyX11_births_X11_need : GoodIn wyX11_births (va_wsS RX11 168 yX11_need wyX11_need) := goodIn_app (goodIn_k _ [[12, 0], [7]] (by rfl) (gw_S _ _ _ _)) ggyX11_births_X11_need
set_option maxRecDepth 20000 in
theorem ggyX11_births_X0_partBy : GoodIn wyX11_births wsX0_partBy := goodIn_k _ [[21, 0, 0, 0], [20, 4, 0, 0, 0, 0, 0, 0, 0, 0, 0, 0, 0, 0, 0, 0, 0, 0, 0, 0, 0, 0, 0, 0, 0, 0, 0, 0, 0, 0, 32, 0, 0, 0, 0]] (by rfl) (by decide +kernel)
set_option maxRecDepth 20000 in
theorem gyX11_births_X0_partBy : GoodIn wyX11_births (wsV RX11 323 RX0 yX0_partBy wsX0_partBy) := goodIn_app (goodIn_k _ [[17, 0, 0, 0]] (by rfl) (gw_V _ _ _ _)) ggyX11_births_X0_partBy
set_option maxRecDepth 20000 in
theorem ggyX11_births_X0_howManyParts : GoodIn wyX11_births wsX0_howManyParts := goodIn_k _ [[57], [22, 35, 0, 0], [29, 31, 0], [27, 0, 1, 0, 54, 0, 0]] (by rfl) (by decide +kernel)
set_option maxRecDepth 20000 in
theorem gyX11_births_X0_howManyParts : GoodIn wyX11_births (wsV RX11 327 RX0 yX0_howManyParts wsX0_howManyParts) := goodIn_app (goodIn_k _ [[54, 0, 0], [20]] (by rfl) (gw_V _ _ _ _)) ggyX11_births_X0_howManyParts
set_option maxRecDepth 20000 in
theorem ggyX11_births_X0_leastOf : GoodIn wyX11_births wsX0_leastOf := goodIn_k _ [[66], [22, 63]] (by rfl) (by decide +kernel)
set_option maxRecDepth 20000 in
theorem gyX11_births_X0_leastOf : GoodIn wyX11_births (wsV RX11 331 RX0 yX0_leastOf wsX0_leastOf) := goodIn_app (goodIn_k _ [[63, 0, 0], [20]] (by rfl) (gw_V _ _ _ _)) ggyX11_births_X0_leastOf
set_option maxRecDepth 20000 in
theorem ggyX11_whence_X11_isBook : GoodIn wyX11_whence wsX11_isBook := goodIn_k _ [[6, 0, 0], [5, 3]] (by rfl) (by decide +kernel)
set_option maxRecDepth 20000 in
theorem gyX11_whence_X11_isBook : GoodIn wyX11_whence (va_wsS RX11 250 yX11_isBook wsX11_isBook) := goodIn_app (goodIn_k _ [[3, 0, 0]] (by rfl) (gw_S _ _ _ _)) ggyX11_whence_X11_isBook
set_option maxRecDepth 20000 in
theorem ggyX11_whence_X10_holds : GoodIn wyX11_whence wsX10_holds := goodIn_k _ [[14, 0, 22, 0, 0, 0, 0]] (by rfl) (by decide +kernel)
set_option maxRecDepth 20000 in
theorem gyX11_whence_X10_holds : GoodIn wyX11_whence (wsV RX11 345 RX10 yX10_holds wsX10_holds) := goodIn_app (goodIn_k _ [[10, 0, 0, 0]] (by rfl) (gw_V _ _ _ _)) ggyX11_whence_X10_holds
set_option maxRecDepth 20000 in
theorem ggyX11_whence_X11_need : GoodIn wyX11_whence wyX11_need := goodIn_ca (goodIn_k _ [[18, 0, 0]] (by rfl) (by decide +kernel)) (goodIn_sub (fun _ h => List.mem_cons_of_mem _ (List.mem_append_right _ h)) (by decide +kernel))
set_option maxRecDepth 20000 in
theorem gyX11_whence_X11_need : GoodIn wyX11_whence (va_wsS RX11 168 yX11_need wyX11_need) := goodIn_app (goodIn_k _ [[16, 0], [5]] (by rfl) (gw_S _ _ _ _)) ggyX11_whence_X11_need
set_option maxRecDepth 20000 in
theorem ggyX11_whence_X10_parentOf : GoodIn wyX11_whence wsX10_parentOf := goodIn_k _ [[24], [15, 22, 0, 0, 0, 0]] (by rfl) (by decide +kernel)
set_option maxRecDepth 20000 in
theorem gyX11_whence_X10_parentOf : GoodIn wyX11_whence (wsV RX11 348 RX10 yX10_parentOf wsX10_parentOf) := goodIn_app (goodIn_k _ [[21, 0, 0], [13]] (by rfl) (gw_V _ _ _ _)) ggyX11_whence_X10_parentOf
set_option maxRecDepth 20000 in
theorem ggyX11_life_X11_within : GoodIn wyX11_life wsX11_within := goodIn_k _ [[5]] (by rfl) (by decide +kernel)
set_option maxRecDepth 20000 in
theorem gyX11_life_X11_within : GoodIn wyX11_life (va_wsS RX11 96 yX11_within wsX11_within) := goodIn_app (goodIn_k _ [[2, 0, 0]] (by rfl) (gw_S _ _ _ _)) ggyX11_life_X11_within
set_option maxRecDepth 20000 in
theorem ggyX11_life_X11_need : GoodIn wyX11_life wyX11_need := goodIn_ca (goodIn_k _ [[8, 0, 0]] (by rfl) (by decide +kernel)) (goodIn_sub (fun _ h => List.mem_cons_of_mem _ (List.mem_append_right _ h)) (by decide +kernel))
set_option maxRecDepth 20000 in
theorem gyX11_life_X11_need : GoodIn wyX11_life (va_wsS RX11 168 yX11_need wyX11_need) := goodIn_app (goodIn_k _ [[6, 0], [4]] (by rfl) (gw_S _ _ _ _)) ggyX11_life_X11_need
set_option maxRecDepth 20000 in
theorem ggyX11_life_X7_tellLife : GoodIn wyX11_life wsX7_tellLife := goodIn_k _ [[15, 0, 0, 13, 0, 0, 0, 0, 0]] (by rfl) (by decide +kernel)
set_option maxRecDepth 20000 in
theorem gyX11_life_X7_tellLife : GoodIn wyX11_life (wsV RX11 351 RX7 yX7_tellLife wsX7_tellLife) := goodIn_app (goodIn_k _ [[11, 0, 0, 0]] (by rfl) (gw_V _ _ _ _)) ggyX11_life_X7_tellLife
set_option maxRecDepth 20000 in
theorem ggyX11_fate_X11_within : GoodIn wyX11_fate wsX11_within := goodIn_k _ [[5]] (by rfl) (by decide +kernel)
set_option maxRecDepth 20000 in
theorem gyX11_fate_X11_within : GoodIn wyX11_fate (va_wsS RX11 96 yX11_within wsX11_within) := goodIn_app (goodIn_k _ [[2, 0, 0]] (by rfl) (gw_S _ _ _ _)) ggyX11_fate_X11_within
set_option maxRecDepth 20000 in
theorem ggyX11_fate_X11_need : GoodIn wyX11_fate wyX11_need := goodIn_ca (goodIn_k _ [[8, 0, 0]] (by rfl) (by decide +kernel)) (goodIn_sub (fun _ h => List.mem_cons_of_mem _ (List.mem_append_right _ h)) (by decide +kernel))
set_option maxRecDepth 20000 in
theorem gyX11_fate_X11_need : GoodIn wyX11_fate (va_wsS RX11 168 yX11_need wyX11_need) := goodIn_app (goodIn_k _ [[6, 0], [4]] (by rfl) (gw_S _ _ _ _)) ggyX11_fate_X11_need
set_option maxRecDepth 20000 in
theorem ggyX11_fate_X7_tellFate : GoodIn wyX11_fate wsX7_tellFate := goodIn_k _ [[15, 0, 13, 0, 0, 0, 0, 0]] (by rfl) (by decide +kernel)
set_option maxRecDepth 20000 in
theorem gyX11_fate_X7_tellFate : GoodIn wyX11_fate (wsV RX11 354 RX7 yX7_tellFate wsX7_tellFate) := goodIn_app (goodIn_k _ [[11, 0, 0, 0]] (by rfl) (gw_V _ _ _ _)) ggyX11_fate_X7_tellFate
set_option maxRecDepth 20000 in
theorem ggyX11_fates_X11_within : GoodIn wyX11_fates wsX11_within := goodIn_k _ [[6]] (by rfl) (by decide +kernel)
set_option maxRecDepth 20000 in
theorem gyX11_fates_X11_within : GoodIn wyX11_fates (va_wsS RX11 96 yX11_within wsX11_within) := goodIn_app (goodIn_k _ [[3, 0, 0]] (by rfl) (gw_S _ _ _ _)) ggyX11_fates_X11_within
set_option maxRecDepth 20000 in
theorem ggyX11_fates_X11_need : GoodIn wyX11_fates wyX11_need := goodIn_ca (goodIn_k _ [[9, 0, 0]] (by rfl) (by decide +kernel)) (goodIn_sub (fun _ h => List.mem_cons_of_mem _ (List.mem_append_right _ h)) (by decide +kernel))
set_option maxRecDepth 20000 in
theorem gyX11_fates_X11_need : GoodIn wyX11_fates (va_wsS RX11 168 yX11_need wyX11_need) := goodIn_app (goodIn_k _ [[7, 0], [5]] (by rfl) (gw_S _ _ _ _)) ggyX11_fates_X11_need
set_option maxRecDepth 20000 in
theorem ggyX11_fates_X7_howManyToldByLot : GoodIn wyX11_fates wsX7_howManyToldByLot := goodIn_k _ [[16, 0, 0, 0, 0, 0], [15, 6, 0, 0, 0, 0, 0, 0, 0, 0, 0, 39, 0, 0, 0, 0, 0, 0, 0]] (by rfl) (by decide +kernel)
set_option maxRecDepth 20000 in
theorem gyX11_fates_X7_howManyToldByLot : GoodIn wyX11_fates (wsV RX11 358 RX7 yX7_howManyToldByLot wsX7_howManyToldByLot) := goodIn_app (goodIn_k _ [[12, 0, 0, 0]] (by rfl) (gw_V _ _ _ _)) ggyX11_fates_X7_howManyToldByLot
set_option maxRecDepth 20000 in
theorem ggyX11_fates_X7_chanceOfFates : GoodIn wyX11_fates wsX7_chanceOfFates := goodIn_k _ [[35], [17, 18], [18, 0, 0, 0], [15, 6, 0, 0, 0, 0, 0, 0, 0, 0, 0, 5], [13, 0, 1, 21, 0, 0, 0, 0, 0, 0, 0, 0, 0, 0, 0, 0, 0, 0, 0, 0, 0, 0, 0, 13, 0, 0, 0, 0, 0, 0, 0]] (by rfl) (by decide +kernel)
set_option maxRecDepth 20000 in
theorem gyX11_fates_X7_chanceOfFates : GoodIn wyX11_fates (wsV RX11 361 RX7 yX7_chanceOfFates wsX7_chanceOfFates) := goodIn_app (goodIn_k _ [[32, 0, 0], [15]] (by rfl) (gw_V _ _ _ _)) ggyX11_fates_X7_chanceOfFates
set_option maxRecDepth 20000 in
theorem ggyX11_hits_X11_within : GoodIn wyX11_hits wsX11_within := goodIn_k _ [[5]] (by rfl) (by decide +kernel)
set_option maxRecDepth 20000 in
theorem gyX11_hits_X11_within : GoodIn wyX11_hits (va_wsS RX11 96 yX11_within wsX11_within) := goodIn_app (goodIn_k _ [[2, 0, 0]] (by rfl) (gw_S _ _ _ _)) ggyX11_hits_X11_within
set_option maxRecDepth 20000 in
theorem ggyX11_hits_X11_need : GoodIn wyX11_hits wyX11_need := goodIn_ca (goodIn_k _ [[8, 0, 0]] (by rfl) (by decide +kernel)) (goodIn_sub (fun _ h => List.mem_cons_of_mem _ (List.mem_append_right _ h)) (by decide +kernel))
set_option maxRecDepth 20000 in
theorem gyX11_hits_X11_need : GoodIn wyX11_hits (va_wsS RX11 168 yX11_need wyX11_need) := goodIn_app (goodIn_k _ [[6, 0], [4]] (by rfl) (gw_S _ _ _ _)) ggyX11_hits_X11_need
set_option maxRecDepth 20000 in
theorem ggyX11_hits_X7_howManyHits : GoodIn wyX11_hits wsX7_howManyHits := goodIn_k _ [[15, 0, 0, 0, 0, 0, 0], [14, 7, 0, 0, 0, 0, 0, 0, 0, 0, 39, 0, 0, 0, 0, 0]] (by rfl) (by decide +kernel)
set_option maxRecDepth 20000 in
theorem gyX11_hits_X7_howManyHits : GoodIn wyX11_hits (wsV RX11 364 RX7 yX7_howManyHits wsX7_howManyHits) := goodIn_app (goodIn_k _ [[11, 0, 0, 0]] (by rfl) (gw_V _ _ _ _)) ggyX11_hits_X7_howManyHits
set_option maxRecDepth 20000 in
theorem ggyX11_hits_X7_chanceOfLives : GoodIn wyX11_hits wsX7_chanceOfLives := goodIn_k _ [[34], [16, 18], [17, 0, 0, 0, 0], [14, 7, 0, 0, 0, 0, 0, 0, 0, 0, 5], [12, 0, 1, 21, 0, 0, 0, 0, 0, 0, 0, 0, 0, 0, 0, 0, 0, 0, 0, 0, 0, 0, 0, 13, 0, 0, 0, 0, 0]] (by rfl) (by decide +kernel)
set_option maxRecDepth 20000 in
theorem gyX11_hits_X7_chanceOfLives : GoodIn wyX11_hits (wsV RX11 367 RX7 yX7_chanceOfLives wsX7_chanceOfLives) := goodIn_app (goodIn_k _ [[31, 0, 0], [14]] (by rfl) (gw_V _ _ _ _)) ggyX11_hits_X7_chanceOfLives
set_option maxRecDepth 20000 in
theorem ggyX11_numberOf_X11_isBook : GoodIn wyX11_numberOf wsX11_isBook := goodIn_k _ [[4, 0, 0], [3, 3]] (by rfl) (by decide +kernel)
set_option maxRecDepth 20000 in
theorem gyX11_numberOf_X11_isBook : GoodIn wyX11_numberOf (va_wsS RX11 250 yX11_isBook wsX11_isBook) := goodIn_app (goodIn_k _ [[1, 0, 0]] (by rfl) (gw_S _ _ _ _)) ggyX11_numberOf_X11_isBook
set_option maxRecDepth 20000 in
theorem ggyX11_numberOf_X11_within : GoodIn wyX11_numberOf wsX11_within := goodIn_k _ [[7]] (by rfl) (by decide +kernel)
set_option maxRecDepth 20000 in
theorem gyX11_numberOf_X11_within : GoodIn wyX11_numberOf (va_wsS RX11 96 yX11_within wsX11_within) := goodIn_app (goodIn_k _ [[5, 0], [3]] (by rfl) (gw_S _ _ _ _)) ggyX11_numberOf_X11_within
set_option maxRecDepth 20000 in
theorem ggyX11_numberOf_X11_need : GoodIn wyX11_numberOf wyX11_need := goodIn_ca (goodIn_k _ [[10, 0, 0]] (by rfl) (by decide +kernel)) (goodIn_sub (fun _ h => List.mem_cons_of_mem _ (List.mem_append_right _ h)) (by decide +kernel))
set_option maxRecDepth 20000 in
theorem gyX11_numberOf_X11_need : GoodIn wyX11_numberOf (va_wsS RX11 168 yX11_need wyX11_need) := goodIn_app (goodIn_k _ [[8, 0], [3]] (by rfl) (gw_S _ _ _ _)) ggyX11_numberOf_X11_need
set_option maxRecDepth 20000 in
theorem ggyL_wheel_X11_wheel : GoodIn wyL_wheel wyX11_wheel := goodIn_ca (goodIn_ca (goodIn_k _ [[7, 0, 0, 0, 0, 0, 0], [6, 7, 0, 0, 0, 0, 0, 0, 0, 0, 0, 0, 0, 0, 0, 0, 0, 0, 0, 0, 0, 0, 0, 0, 0, 0, 0, 0, 0, 0, 0, 0, 0, 0, 0, 0, 0, 0, 0, 0, 0, 0, 0, 0, 0, 0, 0, 0, 0, 0, 0, 0, 0, 0, 0, 0, 0, 0, 0, 0, 0, 0, 0, 0, 0, 0, 0, 0, 0, 0, 0, 0, 0, 0, 0, 0, 0, 0, 0, 0, 0, 0, 0, 0, 0, 0, 0, 0, 0, 0, 0, 0, 0, 0, 0, 0, 0, 0, 0, 0, 0, 0, 0, 0, 0, 0, 0, 0, 0, 0, 0, 0, 0, 0, 0, 0, 0, 0, 0, 0, 0, 0, 0, 0, 0, 0, 0, 0, 0, 0, 0, 0, 0, 0, 0, 0, 0, 0, 0, 0, 0, 0, 0, 0, 0, 0, 0, 0, 0, 0, 0, 0, 0, 0, 0, 0, 0, 0, 0, 0, 0, 0, 0, 0, 0, 0, 0, 0, 0, 0, 0, 0, 0, 0, 0, 0, 0, 0, 0, 0, 0, 0, 0, 0, 0, 0, 0, 0, 0, 0, 0, 0, 0, 0, 0]] (by rfl) (by decide +kernel)) (goodIn_sub (fun _ h => List.mem_cons_of_mem _ (List.mem_append_left _ (List.mem_append_right _ h))) (by decide +kernel))) (goodIn_sub (fun _ h => List.mem_cons_of_mem _ (List.mem_append_right _ h)) (by decide +kernel))
set_option maxRecDepth 20000 in
theorem gyL_wheel_X11_wheel : GoodIn wyL_wheel (wsV RL 15 RX11 yX11_wheel wyX11_wheel) := goodIn_app (goodIn_k _ [[3, 0, 0, 0]] (by rfl) (gw_V _ _ _ _)) ggyL_wheel_X11_wheel
set_option maxRecDepth 20000 in
theorem ggyL_count_X11_count : GoodIn wyL_count wyX11_count := goodIn_ca (goodIn_k _ [[6, 0, 0, 0, 0, 0, 0, 0, 0, 0, 0, 0, 0, 0, 0, 0, 0, 0, 0, 0, 0, 0, 0, 0, 0, 0, 0, 0, 0, 0, 0, 0, 0, 0, 0, 0, 0, 0, 0, 0, 0, 0, 0, 0, 0, 0, 0, 0, 0, 0, 0, 0, 0, 0, 0, 0, 0, 0, 0, 0, 0, 0, 0, 0, 0, 0, 0, 0, 0, 0, 0, 0, 0, 0, 0, 0, 0, 0, 0, 0, 0, 0, 0]] (by rfl) (by decide +kernel)) (goodIn_sub (fun _ h => List.mem_cons_of_mem _ (List.mem_append_right _ h)) (by decide +kernel))
set_option maxRecDepth 20000 in
theorem gyL_count_X11_count : GoodIn wyL_count (wsV RL 21 RX11 yX11_count wyX11_count) := goodIn_app (goodIn_k _ [[2, 0, 0, 0]] (by rfl) (gw_V _ _ _ _)) ggyL_count_X11_count
set_option maxRecDepth 20000 in
theorem ggyL_place_X11_place : GoodIn wyL_place wyX11_place := goodIn_ca (goodIn_k _ [[6, 0, 0, 0], [5, 4, 0, 0, 0, 0, 0, 0, 0, 0, 0, 0, 0, 0, 0, 0, 0, 0, 0, 0, 0, 0, 0, 0, 0, 0, 0, 0, 0, 0, 0, 0, 0, 0, 0, 0, 0, 0, 0, 0, 0, 0, 0, 0, 0, 0, 0, 0, 0, 0, 0, 0, 0, 0, 0, 0, 0]] (by rfl) (by decide +kernel)) (goodIn_sub (fun _ h => List.mem_cons_of_mem _ (List.mem_append_right _ h)) (by decide +kernel))
set_option maxRecDepth 20000 in
theorem gyL_place_X11_place : GoodIn wyL_place (wsV RL 24 RX11 yX11_place wyX11_place) := goodIn_app (goodIn_k _ [[2, 0, 0, 0]] (by rfl) (gw_V _ _ _ _)) ggyL_place_X11_place
set_option maxRecDepth 20000 in
theorem ggyL_entry_X11_entry : GoodIn wyL_entry wyX11_entry := goodIn_ca (goodIn_k _ [[6, 0, 0, 0], [5, 4, 0, 0, 0, 0, 0, 0, 0, 0, 0, 0, 0, 0, 0, 0, 0, 0, 0, 0, 0, 0, 0, 0, 0, 0, 0, 0, 0, 0, 0, 0, 0, 0]] (by rfl) (by decide +kernel)) (goodIn_sub (fun _ h => List.mem_cons_of_mem _ (List.mem_append_right _ h)) (by decide +kernel))
set_option maxRecDepth 20000 in
theorem gyL_entry_X11_entry : GoodIn wyL_entry (wsV RL 27 RX11 yX11_entry wyX11_entry) := goodIn_app (goodIn_k _ [[2, 0, 0, 0]] (by rfl) (gw_V _ _ _ _)) ggyL_entry_X11_entry
set_option maxRecDepth 20000 in
theorem ggyL_cost_X11_cost : GoodIn wyL_cost wyX11_cost := goodIn_ca (goodIn_k _ [[6, 0, 0, 0, 0], [5, 5, 0, 0, 0, 0, 0, 0, 0, 0, 0, 0, 0, 0, 0, 0, 0, 0, 0, 0, 0, 0, 0, 0, 0, 0, 0, 0, 0, 0, 0, 0, 0, 0, 0, 0, 0, 0, 0, 0, 0, 0, 0, 0, 0, 0, 0, 0, 0, 0, 0, 0, 0, 0, 0, 0, 0, 0, 0, 0, 0, 0, 0, 0, 0, 0, 0, 0, 0, 0, 0, 0, 0, 0, 0, 0, 0, 0, 0, 0, 0, 0, 0, 0, 0, 0, 0, 0, 0, 0, 0, 0, 0, 0, 0, 0]] (by rfl) (by decide +kernel)) (goodIn_sub (fun _ h => List.mem_cons_of_mem _ (List.mem_append_right _ h)) (by decide +kernel))
set_option maxRecDepth 20000 in
theorem gyL_cost_X11_cost : GoodIn wyL_cost (wsV RL 30 RX11 yX11_cost wyX11_cost) := goodIn_app (goodIn_k _ [[2, 0, 0, 0]] (by rfl) (gw_V _ _ _ _)) ggyL_cost_X11_cost
set_option maxRecDepth 20000 in
theorem ggyL_best_X11_best : GoodIn wyL_best wyX11_best := goodIn_ca (goodIn_ca (goodIn_k _ [[7, 0, 0, 0, 0, 0, 0], [6, 7, 0, 0, 0, 0, 0, 0, 0, 0, 0, 0, 0, 0, 0, 0, 0, 0, 0, 0, 0, 0, 0, 0, 0, 0, 0, 0, 0, 0, 0, 0, 0, 0, 0, 0, 0, 0, 0, 0, 0, 0, 0, 0, 0, 0, 0, 0, 0, 0, 0, 0, 0, 0, 0, 0, 0, 0, 0, 0, 0, 0, 0, 0, 0, 0, 0, 0, 0, 0, 0, 0, 0, 0, 0, 0, 0, 0, 0, 0, 0, 0, 0, 0, 0, 0, 0, 0, 0, 0, 0, 0, 0, 0, 0, 0, 0, 0, 0, 0, 0, 0, 0, 0, 0, 0, 0, 0, 0, 0, 0, 0, 0, 0, 0, 0, 0, 0, 0, 0, 0, 0, 0, 0, 0, 0, 0, 0, 0, 0, 0, 0, 0, 0, 0]] (by rfl) (by decide +kernel)) (goodIn_sub (fun _ h => List.mem_cons_of_mem _ (List.mem_append_left _ (List.mem_append_right _ h))) (by decide +kernel))) (goodIn_sub (fun _ h => List.mem_cons_of_mem _ (List.mem_append_right _ h)) (by decide +kernel))
set_option maxRecDepth 20000 in
theorem gyL_best_X11_best : GoodIn wyL_best (wsV RL 34 RX11 yX11_best wyX11_best) := goodIn_app (goodIn_k _ [[3, 0, 0, 0]] (by rfl) (gw_V _ _ _ _)) ggyL_best_X11_best
set_option maxRecDepth 20000 in
theorem ggyL_day_X11_day : GoodIn wyL_day wyX11_day := goodIn_ca (goodIn_k _ [[6, 0, 0, 0, 0, 0], [5, 6, 0, 0, 0, 0, 0, 0, 0, 0, 0, 0, 0, 0, 0, 0, 0, 0, 0, 0, 0, 0, 0, 0, 0, 0, 0, 0, 0, 0, 0, 0, 0, 0, 0, 0, 0, 0, 0, 0, 0, 0, 0]] (by rfl) (by decide +kernel)) (goodIn_sub (fun _ h => List.mem_cons_of_mem _ (List.mem_append_right _ h)) (by decide +kernel))
set_option maxRecDepth 20000 in
theorem gyL_day_X11_day : GoodIn wyL_day (wsV RL 38 RX11 yX11_day wyX11_day) := goodIn_app (goodIn_k _ [[2, 0, 0, 0]] (by rfl) (gw_V _ _ _ _)) ggyL_day_X11_day
set_option maxRecDepth 20000 in
theorem ggyL_whose_X11_whose : GoodIn wyL_whose wyX11_whose := goodIn_ca (goodIn_ca (goodIn_k _ [[7, 0, 0, 0, 0, 0, 0], [6, 7, 0, 0, 0, 0, 0, 0, 0, 0, 0, 0, 0, 0, 0, 0, 0, 0, 0, 0, 0, 0, 0, 0, 0, 0, 0, 0, 0, 0, 0, 0, 0, 0, 0, 0, 0, 0, 0, 0, 0, 0, 0, 0, 0, 0, 0, 0, 0, 0, 0, 0, 0, 0, 0, 0, 0, 0, 0, 0, 0, 0, 0, 0, 0, 0, 0, 0, 0, 0, 0, 0, 0, 0, 0, 0, 0, 0, 0, 0, 0, 0, 0, 0, 0, 0, 0, 0, 0, 0, 0, 0, 0, 0, 0, 0, 0, 0, 0, 0, 0, 0, 0, 0, 0, 0, 0, 0, 0, 0, 0, 0, 0, 0, 0, 0, 0, 0, 0, 0, 0, 0, 0, 0, 0, 0, 0, 0, 0, 0, 0, 0, 0, 0, 0]] (by rfl) (by decide +kernel)) (goodIn_sub (fun _ h => List.mem_cons_of_mem _ (List.mem_append_left _ (List.mem_append_right _ h))) (by decide +kernel))) (goodIn_sub (fun _ h => List.mem_cons_of_mem _ (List.mem_append_right _ h)) (by decide +kernel))
set_option maxRecDepth 20000 in
theorem gyL_whose_X11_whose : GoodIn wyL_whose (wsV RL 41 RX11 yX11_whose wyX11_whose) := goodIn_app (goodIn_k _ [[3, 0, 0, 0]] (by rfl) (gw_V _ _ _ _)) ggyL_whose_X11_whose
set_option maxRecDepth 20000 in
theorem ggyL_mixed_X11_mixed : GoodIn wyL_mixed wyX11_mixed := goodIn_ca (goodIn_ca (goodIn_k _ [[7, 0, 0, 0, 0], [6, 5, 0, 0, 0, 0, 0, 0, 0, 0, 0, 0, 0, 0, 0, 0, 0, 0, 0, 0, 0, 0, 0, 0, 0, 0, 0, 0, 0, 0, 0, 0, 0, 0, 0, 0, 0, 0, 0, 0, 0, 0, 0, 0, 0, 0, 0, 0, 0, 0, 0, 0, 0, 0, 0, 0, 0, 0, 0, 0, 0, 0, 0, 0, 0, 0, 0, 0, 0, 0, 0, 0, 0, 0, 0, 0, 0, 0, 0, 0, 0, 0, 0, 0, 0, 0, 0, 0, 0, 0, 0]] (by rfl) (by decide +kernel)) (goodIn_sub (fun _ h => List.mem_cons_of_mem _ (List.mem_append_left _ (List.mem_append_right _ h))) (by decide +kernel))) (goodIn_sub (fun _ h => List.mem_cons_of_mem _ (List.mem_append_right _ h)) (by decide +kernel))
set_option maxRecDepth 20000 in
theorem gyL_mixed_X11_mixed : GoodIn wyL_mixed (wsV RL 44 RX11 yX11_mixed wyX11_mixed) := goodIn_app (goodIn_k _ [[3, 0, 0, 0]] (by rfl) (gw_V _ _ _ _)) ggyL_mixed_X11_mixed
set_option maxRecDepth 20000 in
theorem ggyL_climb_X11_climb : GoodIn wyL_climb wyX11_climb := goodIn_ca (goodIn_k _ [[6, 0, 0, 0, 0, 0], [5, 6, 0, 0, 0, 0, 0, 0, 0, 0, 0, 0, 0, 0, 0, 0, 0, 0, 0, 0, 0, 0, 0, 0, 0, 0, 0, 0, 0, 0, 0, 0, 0, 0, 0, 0, 0, 0]] (by rfl) (by decide +kernel)) (goodIn_sub (fun _ h => List.mem_cons_of_mem _ (List.mem_append_right _ h)) (by decide +kernel))
set_option maxRecDepth 20000 in
theorem gyL_climb_X11_climb : GoodIn wyL_climb (wsV RL 47 RX11 yX11_climb wyX11_climb) := goodIn_app (goodIn_k _ [[2, 0, 0, 0]] (by rfl) (gw_V _ _ _ _)) ggyL_climb_X11_climb
set_option maxRecDepth 20000 in
theorem ggyL_rise_X11_rise : GoodIn wyL_rise wyX11_rise := goodIn_ca (goodIn_k _ [[6, 0, 0, 0, 0, 0], [5, 6, 0, 0, 0, 0, 0, 0, 0, 0, 0, 0, 0, 0, 0, 0, 0, 0, 0, 0, 0, 0, 0, 0, 0, 0, 0, 0, 0, 0, 0, 0, 0, 0, 0, 0, 0, 0, 0, 0, 0, 0, 0, 0, 0, 0, 0]] (by rfl) (by decide +kernel)) (goodIn_sub (fun _ h => List.mem_cons_of_mem _ (List.mem_append_right _ h)) (by decide +kernel))
set_option maxRecDepth 20000 in
theorem gyL_rise_X11_rise : GoodIn wyL_rise (wsV RL 51 RX11 yX11_rise wyX11_rise) := goodIn_app (goodIn_k _ [[2, 0, 0, 0]] (by rfl) (gw_V _ _ _ _)) ggyL_rise_X11_rise
set_option maxRecDepth 20000 in
theorem ggyL_middle_X11_middle : GoodIn wyL_middle wyX11_middle := goodIn_ca (goodIn_k _ [[6, 0, 0, 0, 0, 0], [5, 6, 0, 0, 0, 0, 0, 0, 0, 0, 0, 0, 0, 0, 0, 0, 0, 0, 0, 0, 0, 0, 0, 0, 0, 0, 0, 0, 0, 0, 0, 0, 0, 0, 0, 0, 0, 0, 0, 0, 0, 0, 0, 0, 0, 0, 0, 0, 0, 0, 0, 0]] (by rfl) (by decide +kernel)) (goodIn_sub (fun _ h => List.mem_cons_of_mem _ (List.mem_append_right _ h)) (by decide +kernel))
set_option maxRecDepth 20000 in
theorem gyL_middle_X11_middle : GoodIn wyL_middle (wsV RL 54 RX11 yX11_middle wyX11_middle) := goodIn_app (goodIn_k _ [[2, 0, 0, 0]] (by rfl) (gw_V _ _ _ _)) ggyL_middle_X11_middle
set_option maxRecDepth 20000 in
theorem ggyL_hour_X11_hour : GoodIn wyL_hour wyX11_hour := goodIn_ca (goodIn_k _ [[6, 0, 0, 0, 0, 0], [5, 6, 0, 0, 0, 0, 0, 0, 0, 0, 0, 0, 0, 0, 0, 0, 0, 0, 0, 0, 0, 0, 0, 0, 0, 0, 0, 0, 0, 0, 0, 0, 0, 0, 0, 0, 0, 0, 0, 0, 0, 0, 0, 0, 0, 0, 0, 0, 0, 0, 0, 0, 0, 0, 0, 0, 0, 0, 0, 0, 0, 0, 0, 0, 0, 0, 0, 0, 0, 0]] (by rfl) (by decide +kernel)) (goodIn_sub (fun _ h => List.mem_cons_of_mem _ (List.mem_append_right _ h)) (by decide +kernel))
set_option maxRecDepth 20000 in
theorem gyL_hour_X11_hour : GoodIn wyL_hour (wsV RL 57 RX11 yX11_hour wyX11_hour) := goodIn_app (goodIn_k _ [[2, 0, 0, 0]] (by rfl) (gw_V _ _ _ _)) ggyL_hour_X11_hour
set_option maxRecDepth 20000 in
theorem ggyL_houseOf_X11_houseOf : GoodIn wyL_houseOf wyX11_houseOf := goodIn_ca (goodIn_k _ [[6, 0, 0, 0, 0], [5, 5, 0, 0, 0, 0, 0, 0, 0, 0, 0, 0, 0, 0, 0, 0, 0, 0, 0, 0, 0, 0, 0, 0, 0, 0, 0, 0, 0, 0, 0, 0, 0, 0, 0, 0, 0, 0, 0, 0, 0, 0, 0, 0, 0, 0, 0, 0, 0, 0, 0, 0, 0, 0, 0, 0, 0, 0, 0, 0, 0, 0, 0, 0, 0]] (by rfl) (by decide +kernel)) (goodIn_sub (fun _ h => List.mem_cons_of_mem _ (List.mem_append_right _ h)) (by decide +kernel))
set_option maxRecDepth 20000 in
theorem gyL_houseOf_X11_houseOf : GoodIn wyL_houseOf (wsV RL 60 RX11 yX11_houseOf wyX11_houseOf) := goodIn_app (goodIn_k _ [[2, 0, 0, 0]] (by rfl) (gw_V _ _ _ _)) ggyL_houseOf_X11_houseOf
set_option maxRecDepth 20000 in
theorem ggyL_agree_X11_agree : GoodIn wyL_agree wyX11_agree := goodIn_ca (goodIn_k _ [[6, 0, 0, 0, 0, 0], [5, 6, 0, 0, 0, 0, 0, 0, 0, 0, 0, 0, 0, 0, 0, 0, 0, 0, 0, 0, 0, 0, 0, 0, 0, 0, 0, 0, 0, 0, 0, 0, 0, 0, 0, 0, 0, 0, 0, 0, 0, 0, 0, 0, 0, 0, 0, 0, 0, 0, 0, 0, 0, 0, 0, 0, 0, 0, 0, 0, 0, 0, 0, 0, 0, 0, 0, 0, 0, 0, 0, 0, 0, 0, 0, 0, 0, 0, 0, 0, 0, 0, 0, 0, 0, 0, 0, 0]] (by rfl) (by decide +kernel)) (goodIn_sub (fun _ h => List.mem_cons_of_mem _ (List.mem_append_right _ h)) (by decide +kernel))
set_option maxRecDepth 20000 in
theorem gyL_agree_X11_agree : GoodIn wyL_agree (wsV RL 63 RX11 yX11_agree wyX11_agree) := goodIn_app (goodIn_k _ [[2, 0, 0, 0]] (by rfl) (gw_V _ _ _ _)) ggyL_agree_X11_agree
set_option maxRecDepth 20000 in
theorem ggyL_lot_X11_lot : GoodIn wyL_lot wyX11_lot := goodIn_ca (goodIn_k _ [[6, 0, 0, 0, 0, 0], [5, 6, 0, 0, 0, 0, 0, 0, 0, 0, 0, 0, 0, 0, 0, 0, 0, 0, 0, 0, 0, 0, 0, 0, 0, 0, 0, 0, 0, 0, 0, 0, 0, 0, 0, 0, 0, 0, 0, 0, 0, 0, 0, 0, 0, 0, 0, 0, 0, 0, 0, 0, 0, 0, 0, 0, 0, 0, 0, 0, 0, 0, 0, 0, 0]] (by rfl) (by decide +kernel)) (goodIn_sub (fun _ h => List.mem_cons_of_mem _ (List.mem_append_right _ h)) (by decide +kernel))
set_option maxRecDepth 20000 in
theorem gyL_lot_X11_lot : GoodIn wyL_lot (wsV RL 66 RX11 yX11_lot wyX11_lot) := goodIn_app (goodIn_k _ [[2, 0, 0, 0]] (by rfl) (gw_V _ _ _ _)) ggyL_lot_X11_lot
set_option maxRecDepth 20000 in
theorem ggyL_price_X11_price : GoodIn wyL_price wyX11_price := goodIn_ca (goodIn_k _ [[6, 0, 0, 0, 0, 0], [5, 6, 0, 0, 0, 0, 0, 0, 0, 0, 0, 0, 0, 0, 0, 0, 0, 0, 0, 0, 0, 0, 0, 0, 0, 0, 0, 0, 0, 0, 0, 0, 0, 0, 0, 0, 0, 0, 0, 0, 0, 0, 0, 0, 0, 0, 0, 0, 0, 0, 0, 0, 0, 0, 0, 0, 0, 0, 0, 0]] (by rfl) (by decide +kernel)) (goodIn_sub (fun _ h => List.mem_cons_of_mem _ (List.mem_append_right _ h)) (by decide +kernel))
set_option maxRecDepth 20000 in
theorem gyL_price_X11_price : GoodIn wyL_price (wsV RL 69 RX11 yX11_price wyX11_price) := goodIn_app (goodIn_k _ [[2, 0, 0, 0]] (by rfl) (gw_V _ _ _ _)) ggyL_price_X11_price
set_option maxRecDepth 20000 in
theorem ggyL_seek_X11_seek : GoodIn wyL_seek wyX11_seek := goodIn_ca (goodIn_k _ [[6, 0, 0, 0], [5, 4, 0, 0, 0, 0, 0, 0, 0, 0, 0, 0, 0, 0, 0, 0, 0, 0, 0, 0, 0, 0, 0, 0, 0, 0, 0, 0, 0, 0, 0, 0, 0, 0, 0, 0, 0, 0, 0, 0, 0, 0, 0, 0, 0, 0, 0, 0, 0, 0]] (by rfl) (by decide +kernel)) (goodIn_sub (fun _ h => List.mem_cons_of_mem _ (List.mem_append_right _ h)) (by decide +kernel))
set_option maxRecDepth 20000 in
theorem gyL_seek_X11_seek : GoodIn wyL_seek (wsV RL 72 RX11 yX11_seek wyX11_seek) := goodIn_app (goodIn_k _ [[2, 0, 0, 0]] (by rfl) (gw_V _ _ _ _)) ggyL_seek_X11_seek
set_option maxRecDepth 20000 in
theorem ggyL_on_X11_on : GoodIn wyL_on wyX11_on := goodIn_ca (goodIn_ca (goodIn_k _ [[7, 0, 0, 0, 0, 0, 0, 0], [6, 8, 0, 0, 0, 0, 0, 0, 0, 0, 0, 0, 0, 0, 0, 0, 0, 0, 0, 0, 0, 0, 0, 0, 0, 0, 0, 0, 0, 0, 0, 0, 0, 0, 0, 0, 0, 0, 0, 0, 0, 0, 0, 0, 0, 0, 0, 0, 0, 0, 0, 0, 0, 0, 0, 0, 0, 0, 0, 0, 0, 0, 0, 0, 0, 0, 0, 0, 0, 0, 0, 0, 0, 0, 0, 0, 0, 0, 0, 0, 0, 0, 0, 0, 0, 0, 0, 0, 0, 0, 0, 0, 0, 0, 0, 0, 0, 0, 0, 0, 0, 0, 0, 0, 0, 0, 0, 0, 0, 0, 0, 0, 0, 0, 0, 0]] (by rfl) (by decide +kernel)) (goodIn_sub (fun _ h => List.mem_cons_of_mem _ (List.mem_append_left _ (List.mem_append_right _ h))) (by decide +kernel))) (goodIn_sub (fun _ h => List.mem_cons_of_mem _ (List.mem_append_right _ h)) (by decide +kernel))
set_option maxRecDepth 20000 in
theorem gyL_on_X11_on : GoodIn wyL_on (wsV RL 76 RX11 yX11_on wyX11_on) := goodIn_app (goodIn_k _ [[3, 0, 0, 0]] (by rfl) (gw_V _ _ _ _)) ggyL_on_X11_on
set_option maxRecDepth 20000 in
theorem ggyL_held_X11_held : GoodIn wyL_held wyX11_held := goodIn_ca (goodIn_k _ [[6, 0, 0, 0, 0, 0, 0, 0, 0], [5, 9, 0, 0, 0, 0, 0, 0, 0, 0, 0, 0, 0, 0, 0, 0, 0, 0, 0, 0, 0, 0, 0, 0, 0, 0, 0, 0, 0, 0, 0, 0, 0, 0]] (by rfl) (by decide +kernel)) (goodIn_sub (fun _ h => List.mem_cons_of_mem _ (List.mem_append_right _ h)) (by decide +kernel))
set_option maxRecDepth 20000 in
theorem gyL_held_X11_held : GoodIn wyL_held (wsV RL 79 RX11 yX11_held wyX11_held) := goodIn_app (goodIn_k _ [[2, 0, 0, 0]] (by rfl) (gw_V _ _ _ _)) ggyL_held_X11_held
set_option maxRecDepth 20000 in
theorem ggyL_misread_X11_misread : GoodIn wyL_misread wyX11_misread := goodIn_ca (goodIn_k _ [[6, 0, 0, 0, 0, 0], [5, 6, 0, 0, 0, 0, 0, 0, 0, 0, 0, 0, 0, 0, 0, 0, 0, 0, 0, 0, 0, 0, 0, 0, 0, 0, 0, 0, 0, 0, 0, 0, 0, 0, 0, 0, 0, 0, 0, 0, 0, 0, 0, 0, 0, 0, 0, 0, 0, 0, 0, 0, 0, 0, 0, 0, 0, 0, 0, 0, 0, 0, 0, 0, 0, 0, 0, 0, 0, 0, 0, 0, 0, 0, 0, 0, 0, 0, 0, 0, 0, 0, 0, 0, 0, 0, 0]] (by rfl) (by decide +kernel)) (goodIn_sub (fun _ h => List.mem_cons_of_mem _ (List.mem_append_right _ h)) (by decide +kernel))
set_option maxRecDepth 20000 in
theorem gyL_misread_X11_misread : GoodIn wyL_misread (wsV RL 82 RX11 yX11_misread wyX11_misread) := goodIn_app (goodIn_k _ [[2, 0, 0, 0]] (by rfl) (gw_V _ _ _ _)) ggyL_misread_X11_misread
set_option maxRecDepth 20000 in
theorem ggyL_errors_X11_errors : GoodIn wyL_errors wyX11_errors := goodIn_ca (goodIn_k _ [[6, 0, 0, 0, 0, 0], [5, 6, 0, 0, 0, 0, 0, 0, 0, 0, 0, 0, 0, 0, 0, 0, 0, 0, 0, 0, 0, 0, 0, 0, 0, 0, 0, 0, 0, 0, 0, 0, 0, 0, 0, 0, 0, 0, 0, 0, 0, 0, 0, 0, 0, 0, 0, 0, 0, 0, 0, 0, 0, 0, 0, 0, 0, 0, 0, 0, 0, 0, 0, 0, 0, 0, 0, 0, 0, 0, 0, 0, 0, 0, 0, 0, 0, 0, 0, 0, 0, 0, 0, 0, 0, 0, 0, 0, 0, 0, 0, 0, 0, 0, 0, 0, 0, 0, 0, 0, 0, 0, 0, 0, 0, 0, 0, 0, 0, 0, 0, 0, 0, 0, 0, 0, 0]] (by rfl) (by decide +kernel)) (goodIn_sub (fun _ h => List.mem_cons_of_mem _ (List.mem_append_right _ h)) (by decide +kernel))
set_option maxRecDepth 20000 in
theorem gyL_errors_X11_errors : GoodIn wyL_errors (wsV RL 85 RX11 yX11_errors wyX11_errors) := goodIn_app (goodIn_k _ [[2, 0, 0, 0]] (by rfl) (gw_V _ _ _ _)) ggyL_errors_X11_errors
set_option maxRecDepth 20000 in
theorem ggyL_possible_X11_possible : GoodIn wyL_possible wyX11_possible := goodIn_ca (goodIn_k _ [[6, 0, 0, 0], [5, 4, 0, 0, 0, 0, 0, 0, 0, 0, 0, 0, 0, 0, 0, 0, 0, 0, 0, 0, 0, 0, 0, 0, 0, 0, 0, 0, 0, 0, 0, 0, 0, 0, 0, 0, 0, 0, 0, 0, 0, 0, 0, 0, 0, 0, 0, 0, 0, 0, 0, 0, 0, 0, 0, 0, 0, 0, 0, 0, 0, 0, 0, 0, 0, 0, 0, 0, 0, 0, 0, 0, 0, 0, 0, 0, 0, 0, 0, 0, 0, 0, 0, 0, 0, 0, 0, 0, 0, 0, 0, 0, 0, 0, 0, 0, 0, 0]] (by rfl) (by decide +kernel)) (goodIn_sub (fun _ h => List.mem_cons_of_mem _ (List.mem_append_right _ h)) (by decide +kernel))
set_option maxRecDepth 20000 in
theorem gyL_possible_X11_possible : GoodIn wyL_possible (wsV RL 88 RX11 yX11_possible wyX11_possible) := goodIn_app (goodIn_k _ [[2, 0, 0, 0]] (by rfl) (gw_V _ _ _ _)) ggyL_possible_X11_possible
set_option maxRecDepth 20000 in
theorem ggyL_slips_X11_slips : GoodIn wyL_slips wyX11_slips := goodIn_ca (goodIn_k _ [[6, 0, 0, 0, 0, 0, 0, 0], [5, 8, 0, 0, 0, 0, 0, 0, 0, 0, 0, 0, 0, 0, 0, 0, 0, 0, 0, 0, 0, 0, 0, 0, 0, 0, 0, 0, 0, 0, 0, 0, 0, 0, 0, 0, 0, 0, 0, 0, 0, 0, 0, 0, 0, 0, 0, 0, 0, 0, 0, 0, 0, 0, 0, 0, 0, 0, 0, 0, 0, 0, 0, 0]] (by rfl) (by decide +kernel)) (goodIn_sub (fun _ h => List.mem_cons_of_mem _ (List.mem_append_right _ h)) (by decide +kernel))
set_option maxRecDepth 20000 in
theorem gyL_slips_X11_slips : GoodIn wyL_slips (wsV RL 91 RX11 yX11_slips wyX11_slips) := goodIn_app (goodIn_k _ [[2, 0, 0, 0]] (by rfl) (gw_V _ _ _ _)) ggyL_slips_X11_slips
set_option maxRecDepth 20000 in
theorem ggyL_handed_X11_handed : GoodIn wyL_handed wyX11_handed := goodIn_ca (goodIn_k _ [[6, 0, 0, 0], [5, 4, 0, 0, 0, 0, 0, 0, 0, 0, 0, 0, 0, 0, 0, 0, 0, 0, 0, 0, 0, 0, 0, 0, 0, 0, 0, 0, 0, 0, 0]] (by rfl) (by decide +kernel)) (goodIn_sub (fun _ h => List.mem_cons_of_mem _ (List.mem_append_right _ h)) (by decide +kernel))
set_option maxRecDepth 20000 in
theorem gyL_handed_X11_handed : GoodIn wyL_handed (wsV RL 94 RX11 yX11_handed wyX11_handed) := goodIn_app (goodIn_k _ [[2, 0, 0, 0]] (by rfl) (gw_V _ _ _ _)) ggyL_handed_X11_handed
set_option maxRecDepth 20000 in
theorem ggyL_leaf_X11_leaf : GoodIn wyL_leaf wyX11_leaf := goodIn_ca (goodIn_k _ [[6, 0, 0, 0], [5, 4, 0, 0, 0, 0, 0, 0, 0, 0, 0, 0, 0, 0, 0, 0, 0, 0, 0, 0, 0, 0, 0, 0, 0, 0, 0, 0, 0, 0, 0, 0, 0, 0, 0, 0, 0, 0]] (by rfl) (by decide +kernel)) (goodIn_sub (fun _ h => List.mem_cons_of_mem _ (List.mem_append_right _ h)) (by decide +kernel))
set_option maxRecDepth 20000 in
theorem gyL_leaf_X11_leaf : GoodIn wyL_leaf (wsV RL 97 RX11 yX11_leaf wyX11_leaf) := goodIn_app (goodIn_k _ [[2, 0, 0, 0]] (by rfl) (gw_V _ _ _ _)) ggyL_leaf_X11_leaf
set_option maxRecDepth 20000 in
theorem ggyL_order_X11_order : GoodIn wyL_order wyX11_order := goodIn_ca (goodIn_k _ [[6, 0, 0, 0], [5, 4, 0, 0, 0, 0, 0, 0, 0, 0, 0, 0, 0, 0, 0, 0, 0, 0, 0, 0, 0, 0, 0, 0, 0, 0, 0, 0, 0, 0, 0, 0, 0, 0, 0, 0, 0, 0, 0, 0, 0, 0, 0, 0, 0, 0, 0, 0, 0, 0, 0, 0]] (by rfl) (by decide +kernel)) (goodIn_sub (fun _ h => List.mem_cons_of_mem _ (List.mem_append_right _ h)) (by decide +kernel))
set_option maxRecDepth 20000 in
theorem gyL_order_X11_order : GoodIn wyL_order (wsV RL 100 RX11 yX11_order wyX11_order) := goodIn_app (goodIn_k _ [[2, 0, 0, 0]] (by rfl) (gw_V _ _ _ _)) ggyL_order_X11_order
set_option maxRecDepth 20000 in
theorem ggyL_same_X11_same : GoodIn wyL_same wyX11_same := goodIn_ca (goodIn_k _ [[6, 0, 0, 0, 0, 0], [5, 6, 0, 0, 0, 0, 0, 0, 0, 0, 0, 0, 0, 0, 0, 0, 0, 0, 0, 0, 0, 0, 0, 0, 0, 0, 0, 0, 0, 0, 0, 0, 0, 0, 0, 0, 0, 0, 0, 0, 0, 0, 0, 0, 0, 0, 0, 0, 0, 0, 0, 0, 0, 0, 0, 0, 0]] (by rfl) (by decide +kernel)) (goodIn_sub (fun _ h => List.mem_cons_of_mem _ (List.mem_append_right _ h)) (by decide +kernel))
set_option maxRecDepth 20000 in
theorem gyL_same_X11_same : GoodIn wyL_same (wsV RL 103 RX11 yX11_same wyX11_same) := goodIn_app (goodIn_k _ [[2, 0, 0, 0]] (by rfl) (gw_V _ _ _ _)) ggyL_same_X11_same
set_option maxRecDepth 20000 in
theorem ggyL_births_X11_births : GoodIn wyL_births wyX11_births := goodIn_ca (goodIn_k _ [[6, 0, 0, 0, 0, 0, 0], [5, 7, 0, 0, 0, 0, 0, 0, 0, 0, 0, 0, 0, 0, 0, 0, 0, 0, 0, 0, 0, 0, 0, 0, 0, 0, 0, 0, 0, 0, 0, 0, 0, 0, 0, 0, 0, 0, 0, 0, 0, 0, 0, 0, 0, 0, 0, 0, 0, 0, 0, 0, 0, 0, 0, 0, 0, 0, 0, 0, 0, 0, 0, 0, 0, 0, 0, 0, 0, 0, 0, 0, 0, 0, 0, 0, 0, 0, 0, 0, 0, 0, 0, 0]] (by rfl) (by decide +kernel)) (goodIn_sub (fun _ h => List.mem_cons_of_mem _ (List.mem_append_right _ h)) (by decide +kernel))
set_option maxRecDepth 20000 in
theorem gyL_births_X11_births : GoodIn wyL_births (wsV RL 107 RX11 yX11_births wyX11_births) := goodIn_app (goodIn_k _ [[2, 0, 0, 0]] (by rfl) (gw_V _ _ _ _)) ggyL_births_X11_births
set_option maxRecDepth 20000 in
theorem ggyL_whence_X11_whence : GoodIn wyL_whence wyX11_whence := goodIn_ca (goodIn_k _ [[6, 0, 0, 0, 0], [5, 5, 0, 0, 0, 0, 0, 0, 0, 0, 0, 0, 0, 0, 0, 0, 0, 0, 0, 0, 0, 0, 0, 0, 0, 0, 0, 0, 0, 0, 0, 0, 0, 0, 0, 0, 0, 0]] (by rfl) (by decide +kernel)) (goodIn_sub (fun _ h => List.mem_cons_of_mem _ (List.mem_append_right _ h)) (by decide +kernel))
set_option maxRecDepth 20000 in
theorem gyL_whence_X11_whence : GoodIn wyL_whence (wsV RL 110 RX11 yX11_whence wyX11_whence) := goodIn_app (goodIn_k _ [[2, 0, 0, 0]] (by rfl) (gw_V _ _ _ _)) ggyL_whence_X11_whence
set_option maxRecDepth 20000 in
theorem ggyL_life_X11_life : GoodIn wyL_life wyX11_life := goodIn_ca (goodIn_k _ [[6, 0, 0, 0], [5, 4, 0, 0, 0, 0, 0, 0, 0, 0, 0, 0, 0, 0, 0, 0, 0, 0, 0, 0, 0, 0, 0, 0, 0, 0, 0, 0, 0, 0, 0, 0, 0]] (by rfl) (by decide +kernel)) (goodIn_sub (fun _ h => List.mem_cons_of_mem _ (List.mem_append_right _ h)) (by decide +kernel))
set_option maxRecDepth 20000 in
theorem gyL_life_X11_life : GoodIn wyL_life (wsV RL 113 RX11 yX11_life wyX11_life) := goodIn_app (goodIn_k _ [[2, 0, 0, 0]] (by rfl) (gw_V _ _ _ _)) ggyL_life_X11_life
set_option maxRecDepth 20000 in
theorem ggyL_fate_X11_fate : GoodIn wyL_fate wyX11_fate := goodIn_ca (goodIn_k _ [[6, 0, 0, 0], [5, 4, 0, 0, 0, 0, 0, 0, 0, 0, 0, 0, 0, 0, 0, 0, 0, 0, 0, 0, 0, 0, 0, 0, 0, 0, 0, 0, 0, 0, 0, 0]] (by rfl) (by decide +kernel)) (goodIn_sub (fun _ h => List.mem_cons_of_mem _ (List.mem_append_right _ h)) (by decide +kernel))
set_option maxRecDepth 20000 in
theorem gyL_fate_X11_fate : GoodIn wyL_fate (wsV RL 116 RX11 yX11_fate wyX11_fate) := goodIn_app (goodIn_k _ [[2, 0, 0, 0]] (by rfl) (gw_V _ _ _ _)) ggyL_fate_X11_fate
set_option maxRecDepth 20000 in
theorem ggyL_fates_X11_fates : GoodIn wyL_fates wyX11_fates := goodIn_ca (goodIn_k _ [[6, 0, 0, 0, 0], [5, 5, 0, 0, 0, 0, 0, 0, 0, 0, 0, 0, 0, 0, 0, 0, 0, 0, 0, 0, 0, 0, 0, 0, 0, 0, 0, 0, 0, 0, 0, 0, 0, 0, 0, 0, 0, 0, 0, 0, 0, 0, 0, 0, 0, 0, 0, 0, 0, 0, 0, 0, 0, 0, 0, 0, 0, 0, 0, 0, 0, 0, 0, 0, 0, 0, 0, 0, 0, 0, 0, 0, 0, 0]] (by rfl) (by decide +kernel)) (goodIn_sub (fun _ h => List.mem_cons_of_mem _ (List.mem_append_right _ h)) (by decide +kernel))
set_option maxRecDepth 20000 in
theorem gyL_fates_X11_fates : GoodIn wyL_fates (wsV RL 120 RX11 yX11_fates wyX11_fates) := goodIn_app (goodIn_k _ [[2, 0, 0, 0]] (by rfl) (gw_V _ _ _ _)) ggyL_fates_X11_fates
set_option maxRecDepth 20000 in
theorem ggyL_hits_X11_hits : GoodIn wyL_hits wyX11_hits := goodIn_ca (goodIn_k _ [[6, 0, 0, 0], [5, 4, 0, 0, 0, 0, 0, 0, 0, 0, 0, 0, 0, 0, 0, 0, 0, 0, 0, 0, 0, 0, 0, 0, 0, 0, 0, 0, 0, 0, 0, 0, 0, 0, 0, 0, 0, 0, 0, 0, 0, 0, 0, 0, 0, 0, 0, 0, 0, 0, 0, 0, 0, 0, 0, 0, 0, 0, 0, 0, 0, 0, 0, 0, 0, 0, 0, 0, 0, 0, 0, 0]] (by rfl) (by decide +kernel)) (goodIn_sub (fun _ h => List.mem_cons_of_mem _ (List.mem_append_right _ h)) (by decide +kernel))
set_option maxRecDepth 20000 in
theorem gyL_hits_X11_hits : GoodIn wyL_hits (wsV RL 123 RX11 yX11_hits wyX11_hits) := goodIn_app (goodIn_k _ [[2, 0, 0, 0]] (by rfl) (gw_V _ _ _ _)) ggyL_hits_X11_hits
