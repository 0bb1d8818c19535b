set_option maxRecDepth 100000 in
theorem ggyL_law_X11_init : GoodIn wyL_law wsX11_init := goodIn_sub in_wsX11_init (by decide +kernel)
theorem gyL_law_X11_init : GoodIn wyL_law (wsX11_init) := ggyL_law_X11_init
set_option maxRecDepth 100000 in
theorem ggyL_law_X12_init : GoodIn wyL_law wsX12_init := goodIn_sub in_wsX12_init (by decide +kernel)
theorem gyL_law_X12_init : GoodIn wyL_law (wsX12_init) := ggyL_law_X12_init
set_option maxRecDepth 100000 in
theorem ggyL_law_X11_feed : GoodIn wyL_law wsX11_feed := goodIn_sub in_wsX11_feed (by decide +kernel)
set_option maxRecDepth 100000 in
theorem gyL_law_X11_feed : GoodIn wyL_law (wsV RL 130 RX11 yX11_feed wsX11_feed) := goodIn_app (goodIn_sub (List.forall_mem_cons.mpr ⟨wm_178, (List.forall_mem_cons.mpr ⟨wm_177, (List.forall_mem_cons.mpr ⟨wm_176, (List.forall_mem_cons.mpr ⟨wm_175, (fun _ h => absurd h List.not_mem_nil)⟩)⟩)⟩)⟩) (by decide +kernel)) ggyL_law_X11_feed
set_option maxRecDepth 100000 in
theorem ggyL_law_X12_feed : GoodIn wyL_law wsX12_feed := goodIn_sub in_wsX12_feed (by decide +kernel)
set_option maxRecDepth 100000 in
theorem gyL_law_X12_feed : GoodIn wyL_law (wsV RL 133 RX12 yX12_feed wsX12_feed) := goodIn_app (goodIn_sub (List.forall_mem_cons.mpr ⟨wm_189, (List.forall_mem_cons.mpr ⟨wm_188, (List.forall_mem_cons.mpr ⟨wm_187, (List.forall_mem_cons.mpr ⟨wm_181, (fun _ h => absurd h List.not_mem_nil)⟩)⟩)⟩)⟩) (by decide +kernel)) ggyL_law_X12_feed
set_option maxRecDepth 100000 in
theorem ggyL_law_L_house : GoodIn wyL_law wsL_house := goodIn_sub in_wsL_house (by decide +kernel)
set_option maxRecDepth 100000 in
theorem gyL_law_L_house : GoodIn wyL_law (va_wsS RL 134 yL_house wsL_house) := goodIn_app (goodIn_sub (List.forall_mem_cons.mpr ⟨wm_384, (List.forall_mem_cons.mpr ⟨wm_383, (List.forall_mem_cons.mpr ⟨wm_382, (fun _ h => absurd h List.not_mem_nil)⟩)⟩)⟩) (by decide +kernel)) ggyL_law_L_house
set_option maxRecDepth 100000 in
theorem ggyL_law_X12_house : GoodIn wyL_law wsX12_house := goodIn_sub in_wsX12_house (by decide +kernel)
set_option maxRecDepth 100000 in
theorem gyL_law_X12_house : GoodIn wyL_law (wsV RL 139 RX12 yX12_house wsX12_house) := goodIn_app (goodIn_sub (List.forall_mem_cons.mpr ⟨wm_471, (List.forall_mem_cons.mpr ⟨wm_470, (List.forall_mem_cons.mpr ⟨wm_469, (List.forall_mem_cons.mpr ⟨wm_181, (fun _ h => absurd h List.not_mem_nil)⟩)⟩)⟩)⟩) (by decide +kernel)) ggyL_law_X12_house
set_option maxRecDepth 100000 in
theorem ggyL_law_L_wheel : GoodIn wyL_law wyL_wheel := goodIn_sub in_wyL_wheel (by decide +kernel)
set_option maxRecDepth 100000 in
theorem gyL_law_L_wheel : GoodIn wyL_law (va_wsS RL 140 yL_wheel wyL_wheel) := goodIn_app (goodIn_sub (List.forall_mem_cons.mpr ⟨wm_524, (List.forall_mem_cons.mpr ⟨wm_523, (List.forall_mem_cons.mpr ⟨wm_382, (fun _ h => absurd h List.not_mem_nil)⟩)⟩)⟩) (by decide +kernel)) ggyL_law_L_wheel
set_option maxRecDepth 100000 in
theorem ggyL_law_X12_wheel : GoodIn wyL_law wsX12_wheel := goodIn_sub in_wsX12_wheel (by decide +kernel)
set_option maxRecDepth 100000 in
theorem gyL_law_X12_wheel : GoodIn wyL_law (wsV RL 143 RX12 yX12_wheel wsX12_wheel) := goodIn_app (goodIn_sub (List.forall_mem_cons.mpr ⟨wm_536, (List.forall_mem_cons.mpr ⟨wm_535, (List.forall_mem_cons.mpr ⟨wm_534, (List.forall_mem_cons.mpr ⟨wm_181, (fun _ h => absurd h List.not_mem_nil)⟩)⟩)⟩)⟩) (by decide +kernel)) ggyL_law_X12_wheel
set_option maxRecDepth 100000 in
theorem ggyL_law_X11_fault : GoodIn wyL_law wsX11_fault := goodIn_sub in_wsX11_fault (by decide +kernel)
set_option maxRecDepth 100000 in
theorem gyL_law_X11_fault : GoodIn wyL_law (wsV RL 144 RX11 yX11_fault wsX11_fault) := goodIn_app (goodIn_sub (List.forall_mem_cons.mpr ⟨wm_541, (List.forall_mem_cons.mpr ⟨wm_540, (List.forall_mem_cons.mpr ⟨wm_539, (List.forall_mem_cons.mpr ⟨wm_175, (fun _ h => absurd h List.not_mem_nil)⟩)⟩)⟩)⟩) (by decide +kernel)) ggyL_law_X11_fault
set_option maxRecDepth 100000 in
theorem ggyL_law_X12_fault : GoodIn wyL_law wsX12_fault := goodIn_sub in_wsX12_fault (by decide +kernel)
set_option maxRecDepth 100000 in
theorem gyL_law_X12_fault : GoodIn wyL_law (wsV RL 148 RX12 yX12_fault wsX12_fault) := goodIn_app (goodIn_sub (List.forall_mem_cons.mpr ⟨wm_545, (List.forall_mem_cons.mpr ⟨wm_544, (List.forall_mem_cons.mpr ⟨wm_543, (List.forall_mem_cons.mpr ⟨wm_181, (fun _ h => absurd h List.not_mem_nil)⟩)⟩)⟩)⟩) (by decide +kernel)) ggyL_law_X12_fault
set_option maxRecDepth 100000 in
theorem ggyL_law_L_count : GoodIn wyL_law wyL_count := goodIn_sub in_wyL_count (by decide +kernel)
set_option maxRecDepth 100000 in
theorem gyL_law_L_count : GoodIn wyL_law (va_wsS RL 149 yL_count wyL_count) := goodIn_app (goodIn_sub (List.forall_mem_cons.mpr ⟨wm_580, (List.forall_mem_cons.mpr ⟨wm_579, (List.forall_mem_cons.mpr ⟨wm_382, (fun _ h => absurd h List.not_mem_nil)⟩)⟩)⟩) (by decide +kernel)) ggyL_law_L_count
set_option maxRecDepth 100000 in
theorem ggyL_law_X12_count : GoodIn wyL_law wsX12_count := goodIn_sub in_wsX12_count (by decide +kernel)
set_option maxRecDepth 100000 in
theorem gyL_law_X12_count : GoodIn wyL_law (wsV RL 151 RX12 yX12_count wsX12_count) := goodIn_app (goodIn_sub (List.forall_mem_cons.mpr ⟨wm_595, (List.forall_mem_cons.mpr ⟨wm_594, (List.forall_mem_cons.mpr ⟨wm_593, (List.forall_mem_cons.mpr ⟨wm_181, (fun _ h => absurd h List.not_mem_nil)⟩)⟩)⟩)⟩) (by decide +kernel)) ggyL_law_X12_count
set_option maxRecDepth 100000 in
theorem ggyL_law_L_place : GoodIn wyL_law wyL_place := goodIn_sub in_wyL_place (by decide +kernel)
set_option maxRecDepth 100000 in
theorem gyL_law_L_place : GoodIn wyL_law (va_wsS RL 152 yL_place wyL_place) := goodIn_app (goodIn_sub (List.forall_mem_cons.mpr ⟨wm_627, (List.forall_mem_cons.mpr ⟨wm_626, (List.forall_mem_cons.mpr ⟨wm_382, (fun _ h => absurd h List.not_mem_nil)⟩)⟩)⟩) (by decide +kernel)) ggyL_law_L_place
set_option maxRecDepth 100000 in
theorem ggyL_law_X12_place : GoodIn wyL_law wsX12_place := goodIn_sub in_wsX12_place (by decide +kernel)
set_option maxRecDepth 100000 in
theorem gyL_law_X12_place : GoodIn wyL_law (wsV RL 154 RX12 yX12_place wsX12_place) := goodIn_app (goodIn_sub (List.forall_mem_cons.mpr ⟨wm_641, (List.forall_mem_cons.mpr ⟨wm_640, (List.forall_mem_cons.mpr ⟨wm_639, (List.forall_mem_cons.mpr ⟨wm_181, (fun _ h => absurd h List.not_mem_nil)⟩)⟩)⟩)⟩) (by decide +kernel)) ggyL_law_X12_place
set_option maxRecDepth 100000 in
theorem ggyL_law_L_entry : GoodIn wyL_law wyL_entry := goodIn_sub in_wyL_entry (by decide +kernel)
set_option maxRecDepth 100000 in
theorem gyL_law_L_entry : GoodIn wyL_law (va_wsS RL 155 yL_entry wyL_entry) := goodIn_app (goodIn_sub (List.forall_mem_cons.mpr ⟨wm_649, (List.forall_mem_cons.mpr ⟨wm_648, (List.forall_mem_cons.mpr ⟨wm_382, (fun _ h => absurd h List.not_mem_nil)⟩)⟩)⟩) (by decide +kernel)) ggyL_law_L_entry
set_option maxRecDepth 100000 in
theorem ggyL_law_X12_entry : GoodIn wyL_law wsX12_entry := goodIn_sub in_wsX12_entry (by decide +kernel)
set_option maxRecDepth 100000 in
theorem gyL_law_X12_entry : GoodIn wyL_law (wsV RL 157 RX12 yX12_entry wsX12_entry) := goodIn_app (goodIn_sub (List.forall_mem_cons.mpr ⟨wm_653, (List.forall_mem_cons.mpr ⟨wm_652, (List.forall_mem_cons.mpr ⟨wm_651, (List.forall_mem_cons.mpr ⟨wm_181, (fun _ h => absurd h List.not_mem_nil)⟩)⟩)⟩)⟩) (by decide +kernel)) ggyL_law_X12_entry
set_option maxRecDepth 100000 in
theorem ggyL_law_L_cost : GoodIn wyL_law wyL_cost := goodIn_sub in_wyL_cost (by decide +kernel)
set_option maxRecDepth 100000 in
theorem gyL_law_L_cost : GoodIn wyL_law (va_wsS RL 158 yL_cost wyL_cost) := goodIn_app (goodIn_sub (List.forall_mem_cons.mpr ⟨wm_682, (List.forall_mem_cons.mpr ⟨wm_681, (List.forall_mem_cons.mpr ⟨wm_382, (fun _ h => absurd h List.not_mem_nil)⟩)⟩)⟩) (by decide +kernel)) ggyL_law_L_cost
set_option maxRecDepth 100000 in
theorem ggyL_law_X12_cost : GoodIn wyL_law wsX12_cost := goodIn_sub in_wsX12_cost (by decide +kernel)
set_option maxRecDepth 100000 in
theorem gyL_law_X12_cost : GoodIn wyL_law (wsV RL 161 RX12 yX12_cost wsX12_cost) := goodIn_app (goodIn_sub (List.forall_mem_cons.mpr ⟨wm_702, (List.forall_mem_cons.mpr ⟨wm_701, (List.forall_mem_cons.mpr ⟨wm_700, (List.forall_mem_cons.mpr ⟨wm_181, (fun _ h => absurd h List.not_mem_nil)⟩)⟩)⟩)⟩) (by decide +kernel)) ggyL_law_X12_cost
set_option maxRecDepth 100000 in
theorem ggyL_law_L_best : GoodIn wyL_law wyL_best := goodIn_sub in_wyL_best (by decide +kernel)
set_option maxRecDepth 100000 in
theorem gyL_law_L_best : GoodIn wyL_law (va_wsS RL 162 yL_best wyL_best) := goodIn_app (goodIn_sub (List.forall_mem_cons.mpr ⟨wm_735, (List.forall_mem_cons.mpr ⟨wm_734, (List.forall_mem_cons.mpr ⟨wm_382, (fun _ h => absurd h List.not_mem_nil)⟩)⟩)⟩) (by decide +kernel)) ggyL_law_L_best
set_option maxRecDepth 100000 in
theorem ggyL_law_X12_best : GoodIn wyL_law wsX12_best := goodIn_sub in_wsX12_best (by decide +kernel)
set_option maxRecDepth 100000 in
theorem gyL_law_X12_best : GoodIn wyL_law (wsV RL 165 RX12 yX12_best wsX12_best) := goodIn_app (goodIn_sub (List.forall_mem_cons.mpr ⟨wm_744, (List.forall_mem_cons.mpr ⟨wm_743, (List.forall_mem_cons.mpr ⟨wm_742, (List.forall_mem_cons.mpr ⟨wm_181, (fun _ h => absurd h List.not_mem_nil)⟩)⟩)⟩)⟩) (by decide +kernel)) ggyL_law_X12_best
set_option maxRecDepth 100000 in
theorem ggyL_law_L_day : GoodIn wyL_law wyL_day := goodIn_sub in_wyL_day (by decide +kernel)
set_option maxRecDepth 100000 in
theorem gyL_law_L_day : GoodIn wyL_law (va_wsS RL 166 yL_day wyL_day) := goodIn_app (goodIn_sub (List.forall_mem_cons.mpr ⟨wm_762, (List.forall_mem_cons.mpr ⟨wm_761, (List.forall_mem_cons.mpr ⟨wm_382, (fun _ h => absurd h List.not_mem_nil)⟩)⟩)⟩) (by decide +kernel)) ggyL_law_L_day
set_option maxRecDepth 100000 in
theorem ggyL_law_X12_day : GoodIn wyL_law wsX12_day := goodIn_sub in_wsX12_day (by decide +kernel)
set_option maxRecDepth 100000 in
theorem gyL_law_X12_day : GoodIn wyL_law (wsV RL 168 RX12 yX12_day wsX12_day) := goodIn_app (goodIn_sub (List.forall_mem_cons.mpr ⟨wm_766, (List.forall_mem_cons.mpr ⟨wm_765, (List.forall_mem_cons.mpr ⟨wm_764, (List.forall_mem_cons.mpr ⟨wm_181, (fun _ h => absurd h List.not_mem_nil)⟩)⟩)⟩)⟩) (by decide +kernel)) ggyL_law_X12_day
set_option maxRecDepth 100000 in
theorem ggyL_law_L_whose : GoodIn wyL_law wyL_whose := goodIn_sub in_wyL_whose (by decide +kernel)
set_option maxRecDepth 100000 in
theorem gyL_law_L_whose : GoodIn wyL_law (va_wsS RL 169 yL_whose wyL_whose) := goodIn_app (goodIn_sub (List.forall_mem_cons.mpr ⟨wm_773, (List.forall_mem_cons.mpr ⟨wm_772, (List.forall_mem_cons.mpr ⟨wm_382, (fun _ h => absurd h List.not_mem_nil)⟩)⟩)⟩) (by decide +kernel)) ggyL_law_L_whose
set_option maxRecDepth 100000 in
theorem ggyL_law_X12_whose : GoodIn wyL_law wsX12_whose := goodIn_sub in_wsX12_whose (by decide +kernel)
set_option maxRecDepth 100000 in
theorem gyL_law_X12_whose : GoodIn wyL_law (wsV RL 171 RX12 yX12_whose wsX12_whose) := goodIn_app (goodIn_sub (List.forall_mem_cons.mpr ⟨wm_777, (List.forall_mem_cons.mpr ⟨wm_776, (List.forall_mem_cons.mpr ⟨wm_775, (List.forall_mem_cons.mpr ⟨wm_181, (fun _ h => absurd h List.not_mem_nil)⟩)⟩)⟩)⟩) (by decide +kernel)) ggyL_law_X12_whose
set_option maxRecDepth 100000 in
theorem ggyL_law_L_mixed : GoodIn wyL_law wyL_mixed := goodIn_sub in_wyL_mixed (by decide +kernel)
set_option maxRecDepth 100000 in
theorem gyL_law_L_mixed : GoodIn wyL_law (va_wsS RL 172 yL_mixed wyL_mixed) := goodIn_app (goodIn_sub (List.forall_mem_cons.mpr ⟨wm_790, (List.forall_mem_cons.mpr ⟨wm_789, (List.forall_mem_cons.mpr ⟨wm_382, (fun _ h => absurd h List.not_mem_nil)⟩)⟩)⟩) (by decide +kernel)) ggyL_law_L_mixed
set_option maxRecDepth 100000 in
theorem ggyL_law_X12_mixed : GoodIn wyL_law wsX12_mixed := goodIn_sub in_wsX12_mixed (by decide +kernel)
set_option maxRecDepth 100000 in
theorem gyL_law_X12_mixed : GoodIn wyL_law (wsV RL 174 RX12 yX12_mixed wsX12_mixed) := goodIn_app (goodIn_sub (List.forall_mem_cons.mpr ⟨wm_798, (List.forall_mem_cons.mpr ⟨wm_797, (List.forall_mem_cons.mpr ⟨wm_796, (List.forall_mem_cons.mpr ⟨wm_181, (fun _ h => absurd h List.not_mem_nil)⟩)⟩)⟩)⟩) (by decide +kernel)) ggyL_law_X12_mixed
set_option maxRecDepth 100000 in
theorem ggyL_law_L_climb : GoodIn wyL_law wyL_climb := goodIn_sub in_wyL_climb (by decide +kernel)
set_option maxRecDepth 100000 in
theorem gyL_law_L_climb : GoodIn wyL_law (va_wsS RL 175 yL_climb wyL_climb) := goodIn_app (goodIn_sub (List.forall_mem_cons.mpr ⟨wm_813, (List.forall_mem_cons.mpr ⟨wm_812, (List.forall_mem_cons.mpr ⟨wm_382, (fun _ h => absurd h List.not_mem_nil)⟩)⟩)⟩) (by decide +kernel)) ggyL_law_L_climb
set_option maxRecDepth 100000 in
theorem ggyL_law_X12_climb : GoodIn wyL_law wsX12_climb := goodIn_sub in_wsX12_climb (by decide +kernel)
set_option maxRecDepth 100000 in
theorem gyL_law_X12_climb : GoodIn wyL_law (wsV RL 178 RX12 yX12_climb wsX12_climb) := goodIn_app (goodIn_sub (List.forall_mem_cons.mpr ⟨wm_825, (List.forall_mem_cons.mpr ⟨wm_824, (List.forall_mem_cons.mpr ⟨wm_823, (List.forall_mem_cons.mpr ⟨wm_181, (fun _ h => absurd h List.not_mem_nil)⟩)⟩)⟩)⟩) (by decide +kernel)) ggyL_law_X12_climb
set_option maxRecDepth 100000 in
theorem ggyL_law_L_rise : GoodIn wyL_law wyL_rise := goodIn_sub in_wyL_rise (by decide +kernel)
set_option maxRecDepth 100000 in
theorem gyL_law_L_rise : GoodIn wyL_law (va_wsS RL 179 yL_rise wyL_rise) := goodIn_app (goodIn_sub (List.forall_mem_cons.mpr ⟨wm_842, (List.forall_mem_cons.mpr ⟨wm_841, (List.forall_mem_cons.mpr ⟨wm_382, (fun _ h => absurd h List.not_mem_nil)⟩)⟩)⟩) (by decide +kernel)) ggyL_law_L_rise
set_option maxRecDepth 100000 in
theorem ggyL_law_X12_rise : GoodIn wyL_law wsX12_rise := goodIn_sub in_wsX12_rise (by decide +kernel)
set_option maxRecDepth 100000 in
theorem gyL_law_X12_rise : GoodIn wyL_law (wsV RL 181 RX12 yX12_rise wsX12_rise) := goodIn_app (goodIn_sub (List.forall_mem_cons.mpr ⟨wm_855, (List.forall_mem_cons.mpr ⟨wm_854, (List.forall_mem_cons.mpr ⟨wm_853, (List.forall_mem_cons.mpr ⟨wm_181, (fun _ h => absurd h List.not_mem_nil)⟩)⟩)⟩)⟩) (by decide +kernel)) ggyL_law_X12_rise
set_option maxRecDepth 100000 in
theorem ggyL_law_L_middle : GoodIn wyL_law wyL_middle := goodIn_sub in_wyL_middle (by decide +kernel)
set_option maxRecDepth 100000 in
theorem gyL_law_L_middle : GoodIn wyL_law (va_wsS RL 182 yL_middle wyL_middle) := goodIn_app (goodIn_sub (List.forall_mem_cons.mpr ⟨wm_870, (List.forall_mem_cons.mpr ⟨wm_869, (List.forall_mem_cons.mpr ⟨wm_382, (fun _ h => absurd h List.not_mem_nil)⟩)⟩)⟩) (by decide +kernel)) ggyL_law_L_middle
set_option maxRecDepth 100000 in
theorem ggyL_law_X12_middle : GoodIn wyL_law wsX12_middle := goodIn_sub in_wsX12_middle (by decide +kernel)
set_option maxRecDepth 100000 in
theorem gyL_law_X12_middle : GoodIn wyL_law (wsV RL 184 RX12 yX12_middle wsX12_middle) := goodIn_app (goodIn_sub (List.forall_mem_cons.mpr ⟨wm_879, (List.forall_mem_cons.mpr ⟨wm_878, (List.forall_mem_cons.mpr ⟨wm_877, (List.forall_mem_cons.mpr ⟨wm_181, (fun _ h => absurd h List.not_mem_nil)⟩)⟩)⟩)⟩) (by decide +kernel)) ggyL_law_X12_middle
set_option maxRecDepth 100000 in
theorem ggyL_law_L_hour : GoodIn wyL_law wyL_hour := goodIn_sub in_wyL_hour (by decide +kernel)
set_option maxRecDepth 100000 in
theorem gyL_law_L_hour : GoodIn wyL_law (va_wsS RL 185 yL_hour wyL_hour) := goodIn_app (goodIn_sub (List.forall_mem_cons.mpr ⟨wm_899, (List.forall_mem_cons.mpr ⟨wm_898, (List.forall_mem_cons.mpr ⟨wm_382, (fun _ h => absurd h List.not_mem_nil)⟩)⟩)⟩) (by decide +kernel)) ggyL_law_L_hour
set_option maxRecDepth 100000 in
theorem ggyL_law_X12_hour : GoodIn wyL_law wsX12_hour := goodIn_sub in_wsX12_hour (by decide +kernel)
set_option maxRecDepth 100000 in
theorem gyL_law_X12_hour : GoodIn wyL_law (wsV RL 187 RX12 yX12_hour wsX12_hour) := goodIn_app (goodIn_sub (List.forall_mem_cons.mpr ⟨wm_907, (List.forall_mem_cons.mpr ⟨wm_906, (List.forall_mem_cons.mpr ⟨wm_905, (List.forall_mem_cons.mpr ⟨wm_181, (fun _ h => absurd h List.not_mem_nil)⟩)⟩)⟩)⟩) (by decide +kernel)) ggyL_law_X12_hour
set_option maxRecDepth 100000 in
theorem ggyL_law_L_houseOf : GoodIn wyL_law wyL_houseOf := goodIn_sub in_wyL_houseOf (by decide +kernel)
set_option maxRecDepth 100000 in
theorem gyL_law_L_houseOf : GoodIn wyL_law (va_wsS RL 188 yL_houseOf wyL_houseOf) := goodIn_app (goodIn_sub (List.forall_mem_cons.mpr ⟨wm_927, (List.forall_mem_cons.mpr ⟨wm_926, (List.forall_mem_cons.mpr ⟨wm_382, (fun _ h => absurd h List.not_mem_nil)⟩)⟩)⟩) (by decide +kernel)) ggyL_law_L_houseOf
set_option maxRecDepth 100000 in
theorem ggyL_law_X12_houseOf : GoodIn wyL_law wsX12_houseOf := goodIn_sub in_wsX12_houseOf (by decide +kernel)
set_option maxRecDepth 100000 in
theorem gyL_law_X12_houseOf : GoodIn wyL_law (wsV RL 190 RX12 yX12_houseOf wsX12_houseOf) := goodIn_app (goodIn_sub (List.forall_mem_cons.mpr ⟨wm_939, (List.forall_mem_cons.mpr ⟨wm_938, (List.forall_mem_cons.mpr ⟨wm_937, (List.forall_mem_cons.mpr ⟨wm_181, (fun _ h => absurd h List.not_mem_nil)⟩)⟩)⟩)⟩) (by decide +kernel)) ggyL_law_X12_houseOf
set_option maxRecDepth 100000 in
theorem ggyL_law_L_agree : GoodIn wyL_law wyL_agree := goodIn_sub in_wyL_agree (by decide +kernel)
set_option maxRecDepth 100000 in
theorem gyL_law_L_agree : GoodIn wyL_law (va_wsS RL 191 yL_agree wyL_agree) := goodIn_app (goodIn_sub (List.forall_mem_cons.mpr ⟨wm_955, (List.forall_mem_cons.mpr ⟨wm_954, (List.forall_mem_cons.mpr ⟨wm_382, (fun _ h => absurd h List.not_mem_nil)⟩)⟩)⟩) (by decide +kernel)) ggyL_law_L_agree
set_option maxRecDepth 100000 in
theorem ggyL_law_X12_agree : GoodIn wyL_law wsX12_agree := goodIn_sub in_wsX12_agree (by decide +kernel)
set_option maxRecDepth 100000 in
theorem gyL_law_X12_agree : GoodIn wyL_law (wsV RL 193 RX12 yX12_agree wsX12_agree) := goodIn_app (goodIn_sub (List.forall_mem_cons.mpr ⟨wm_963, (List.forall_mem_cons.mpr ⟨wm_962, (List.forall_mem_cons.mpr ⟨wm_961, (List.forall_mem_cons.mpr ⟨wm_181, (fun _ h => absurd h List.not_mem_nil)⟩)⟩)⟩)⟩) (by decide +kernel)) ggyL_law_X12_agree
set_option maxRecDepth 100000 in
theorem ggyL_law_L_lot : GoodIn wyL_law wyL_lot := goodIn_sub in_wyL_lot (by decide +kernel)
set_option maxRecDepth 100000 in
theorem gyL_law_L_lot : GoodIn wyL_law (va_wsS RL 194 yL_lot wyL_lot) := goodIn_app (goodIn_sub (List.forall_mem_cons.mpr ⟨wm_976, (List.forall_mem_cons.mpr ⟨wm_975, (List.forall_mem_cons.mpr ⟨wm_382, (fun _ h => absurd h List.not_mem_nil)⟩)⟩)⟩) (by decide +kernel)) ggyL_law_L_lot
set_option maxRecDepth 100000 in
theorem ggyL_law_X12_lot : GoodIn wyL_law wsX12_lot := goodIn_sub in_wsX12_lot (by decide +kernel)
set_option maxRecDepth 100000 in
theorem gyL_law_X12_lot : GoodIn wyL_law (wsV RL 196 RX12 yX12_lot wsX12_lot) := goodIn_app (goodIn_sub (List.forall_mem_cons.mpr ⟨wm_980, (List.forall_mem_cons.mpr ⟨wm_979, (List.forall_mem_cons.mpr ⟨wm_978, (List.forall_mem_cons.mpr ⟨wm_181, (fun _ h => absurd h List.not_mem_nil)⟩)⟩)⟩)⟩) (by decide +kernel)) ggyL_law_X12_lot
set_option maxRecDepth 100000 in
theorem ggyL_law_L_price : GoodIn wyL_law wyL_price := goodIn_sub in_wyL_price (by decide +kernel)
set_option maxRecDepth 100000 in
theorem gyL_law_L_price : GoodIn wyL_law (va_wsS RL 197 yL_price wyL_price) := goodIn_app (goodIn_sub (List.forall_mem_cons.mpr ⟨wm_995, (List.forall_mem_cons.mpr ⟨wm_994, (List.forall_mem_cons.mpr ⟨wm_382, (fun _ h => absurd h List.not_mem_nil)⟩)⟩)⟩) (by decide +kernel)) ggyL_law_L_price
set_option maxRecDepth 100000 in
theorem ggyL_law_X12_price : GoodIn wyL_law wsX12_price := goodIn_sub in_wsX12_price (by decide +kernel)
set_option maxRecDepth 100000 in
theorem gyL_law_X12_price : GoodIn wyL_law (wsV RL 199 RX12 yX12_price wsX12_price) := goodIn_app (goodIn_sub (List.forall_mem_cons.mpr ⟨wm_1011, (List.forall_mem_cons.mpr ⟨wm_1010, (List.forall_mem_cons.mpr ⟨wm_1009, (List.forall_mem_cons.mpr ⟨wm_181, (fun _ h => absurd h List.not_mem_nil)⟩)⟩)⟩)⟩) (by decide +kernel)) ggyL_law_X12_price
set_option maxRecDepth 100000 in
theorem ggyL_law_L_seek : GoodIn wyL_law wyL_seek := goodIn_sub in_wyL_seek (by decide +kernel)
set_option maxRecDepth 100000 in
theorem gyL_law_L_seek : GoodIn wyL_law (va_wsS RL 200 yL_seek wyL_seek) := goodIn_app (goodIn_sub (List.forall_mem_cons.mpr ⟨wm_1018, (List.forall_mem_cons.mpr ⟨wm_1017, (List.forall_mem_cons.mpr ⟨wm_382, (fun _ h => absurd h List.not_mem_nil)⟩)⟩)⟩) (by decide +kernel)) ggyL_law_L_seek
set_option maxRecDepth 100000 in
theorem ggyL_law_X12_seek : GoodIn wyL_law wsX12_seek := goodIn_sub in_wsX12_seek (by decide +kernel)
set_option maxRecDepth 100000 in
theorem gyL_law_X12_seek : GoodIn wyL_law (wsV RL 203 RX12 yX12_seek wsX12_seek) := goodIn_app (goodIn_sub (List.forall_mem_cons.mpr ⟨wm_1023, (List.forall_mem_cons.mpr ⟨wm_1022, (List.forall_mem_cons.mpr ⟨wm_1021, (List.forall_mem_cons.mpr ⟨wm_181, (fun _ h => absurd h List.not_mem_nil)⟩)⟩)⟩)⟩) (by decide +kernel)) ggyL_law_X12_seek
set_option maxRecDepth 100000 in
theorem ggyL_law_L_on : GoodIn wyL_law wyL_on := goodIn_sub in_wyL_on (by decide +kernel)
set_option maxRecDepth 100000 in
theorem gyL_law_L_on : GoodIn wyL_law (va_wsS RL 204 yL_on wyL_on) := goodIn_app (goodIn_sub (List.forall_mem_cons.mpr ⟨wm_1030, (List.forall_mem_cons.mpr ⟨wm_1029, (List.forall_mem_cons.mpr ⟨wm_382, (fun _ h => absurd h List.not_mem_nil)⟩)⟩)⟩) (by decide +kernel)) ggyL_law_L_on
set_option maxRecDepth 100000 in
theorem ggyL_law_X12_on : GoodIn wyL_law wsX12_on := goodIn_sub in_wsX12_on (by decide +kernel)
set_option maxRecDepth 100000 in
theorem gyL_law_X12_on : GoodIn wyL_law (wsV RL 206 RX12 yX12_on wsX12_on) := goodIn_app (goodIn_sub (List.forall_mem_cons.mpr ⟨wm_1034, (List.forall_mem_cons.mpr ⟨wm_1033, (List.forall_mem_cons.mpr ⟨wm_1032, (List.forall_mem_cons.mpr ⟨wm_181, (fun _ h => absurd h List.not_mem_nil)⟩)⟩)⟩)⟩) (by decide +kernel)) ggyL_law_X12_on
set_option maxRecDepth 100000 in
theorem ggyL_law_L_held : GoodIn wyL_law wyL_held := goodIn_sub in_wyL_held (by decide +kernel)
set_option maxRecDepth 100000 in
theorem gyL_law_L_held : GoodIn wyL_law (va_wsS RL 207 yL_held wyL_held) := goodIn_app (goodIn_sub (List.forall_mem_cons.mpr ⟨wm_1043, (List.forall_mem_cons.mpr ⟨wm_1042, (List.forall_mem_cons.mpr ⟨wm_382, (fun _ h => absurd h List.not_mem_nil)⟩)⟩)⟩) (by decide +kernel)) ggyL_law_L_held
set_option maxRecDepth 100000 in
theorem ggyL_law_X12_held : GoodIn wyL_law wsX12_held := goodIn_sub in_wsX12_held (by decide +kernel)
set_option maxRecDepth 100000 in
theorem gyL_law_X12_held : GoodIn wyL_law (wsV RL 209 RX12 yX12_held wsX12_held) := goodIn_app (goodIn_sub (List.forall_mem_cons.mpr ⟨wm_1047, (List.forall_mem_cons.mpr ⟨wm_1046, (List.forall_mem_cons.mpr ⟨wm_1045, (List.forall_mem_cons.mpr ⟨wm_181, (fun _ h => absurd h List.not_mem_nil)⟩)⟩)⟩)⟩) (by decide +kernel)) ggyL_law_X12_held
set_option maxRecDepth 100000 in
theorem ggyL_law_X11_image : GoodIn wyL_law wsX11_image := goodIn_sub in_wsX11_image (by decide +kernel)
set_option maxRecDepth 100000 in
theorem gyL_law_X11_image : GoodIn wyL_law (wsV RL 210 RX11 yX11_image wsX11_image) := goodIn_app (goodIn_sub (List.forall_mem_cons.mpr ⟨wm_1056, (List.forall_mem_cons.mpr ⟨wm_1055, (List.forall_mem_cons.mpr ⟨wm_1054, (List.forall_mem_cons.mpr ⟨wm_175, (fun _ h => absurd h List.not_mem_nil)⟩)⟩)⟩)⟩) (by decide +kernel)) ggyL_law_X11_image
set_option maxRecDepth 100000 in
theorem ggyL_law_X12_image : GoodIn wyL_law wsX12_image := goodIn_sub in_wsX12_image (by decide +kernel)
set_option maxRecDepth 100000 in
theorem gyL_law_X12_image : GoodIn wyL_law (wsV RL 214 RX12 yX12_image wsX12_image) := goodIn_app (goodIn_sub (List.forall_mem_cons.mpr ⟨wm_1061, (List.forall_mem_cons.mpr ⟨wm_1060, (List.forall_mem_cons.mpr ⟨wm_1059, (List.forall_mem_cons.mpr ⟨wm_181, (fun _ h => absurd h List.not_mem_nil)⟩)⟩)⟩)⟩) (by decide +kernel)) ggyL_law_X12_image
set_option maxRecDepth 100000 in
theorem ggyL_law_X11_restore : GoodIn wyL_law wsX11_restore := goodIn_sub in_wsX11_restore (by decide +kernel)
set_option maxRecDepth 100000 in
theorem gyL_law_X11_restore : GoodIn wyL_law (wsV RL 215 RX11 yX11_restore wsX11_restore) := goodIn_app (goodIn_sub (List.forall_mem_cons.mpr ⟨wm_1065, (List.forall_mem_cons.mpr ⟨wm_1064, (List.forall_mem_cons.mpr ⟨wm_1063, (List.forall_mem_cons.mpr ⟨wm_175, (fun _ h => absurd h List.not_mem_nil)⟩)⟩)⟩)⟩) (by decide +kernel)) ggyL_law_X11_restore
set_option maxRecDepth 100000 in
theorem ggyL_law_X12_restore : GoodIn wyL_law wsX12_restore := goodIn_sub in_wsX12_restore (by decide +kernel)
set_option maxRecDepth 100000 in
theorem gyL_law_X12_restore : GoodIn wyL_law (wsV RL 218 RX12 yX12_restore wsX12_restore) := goodIn_app (goodIn_sub (List.forall_mem_cons.mpr ⟨wm_1069, (List.forall_mem_cons.mpr ⟨wm_1068, (List.forall_mem_cons.mpr ⟨wm_1067, (List.forall_mem_cons.mpr ⟨wm_181, (fun _ h => absurd h List.not_mem_nil)⟩)⟩)⟩)⟩) (by decide +kernel)) ggyL_law_X12_restore
set_option maxRecDepth 100000 in
theorem ggyL_law_L_misread : GoodIn wyL_law wyL_misread := goodIn_sub in_wyL_misread (by decide +kernel)
set_option maxRecDepth 100000 in
theorem gyL_law_L_misread : GoodIn wyL_law (va_wsS RL 219 yL_misread wyL_misread) := goodIn_app (goodIn_sub (List.forall_mem_cons.mpr ⟨wm_1078, (List.forall_mem_cons.mpr ⟨wm_1077, (List.forall_mem_cons.mpr ⟨wm_382, (fun _ h => absurd h List.not_mem_nil)⟩)⟩)⟩) (by decide +kernel)) ggyL_law_L_misread
set_option maxRecDepth 100000 in
theorem ggyL_law_X12_misread : GoodIn wyL_law wsX12_misread := goodIn_sub in_wsX12_misread (by decide +kernel)
set_option maxRecDepth 100000 in
theorem gyL_law_X12_misread : GoodIn wyL_law (wsV RL 221 RX12 yX12_misread wsX12_misread) := goodIn_app (goodIn_sub (List.forall_mem_cons.mpr ⟨wm_1082, (List.forall_mem_cons.mpr ⟨wm_1081, (List.forall_mem_cons.mpr ⟨wm_1080, (List.forall_mem_cons.mpr ⟨wm_181, (fun _ h => absurd h List.not_mem_nil)⟩)⟩)⟩)⟩) (by decide +kernel)) ggyL_law_X12_misread
set_option maxRecDepth 100000 in
theorem ggyL_law_L_errors : GoodIn wyL_law wyL_errors := goodIn_sub in_wyL_errors (by decide +kernel)
set_option maxRecDepth 100000 in
theorem gyL_law_L_errors : GoodIn wyL_law (va_wsS RL 222 yL_errors wyL_errors) := goodIn_app (goodIn_sub (List.forall_mem_cons.mpr ⟨wm_1125, (List.forall_mem_cons.mpr ⟨wm_1124, (List.forall_mem_cons.mpr ⟨wm_382, (fun _ h => absurd h List.not_mem_nil)⟩)⟩)⟩) (by decide +kernel)) ggyL_law_L_errors
set_option maxRecDepth 100000 in
theorem ggyL_law_X12_errors : GoodIn wyL_law wsX12_errors := goodIn_sub in_wsX12_errors (by decide +kernel)
set_option maxRecDepth 100000 in
theorem gyL_law_X12_errors : GoodIn wyL_law (wsV RL 224 RX12 yX12_errors wsX12_errors) := goodIn_app (goodIn_sub (List.forall_mem_cons.mpr ⟨wm_1129, (List.forall_mem_cons.mpr ⟨wm_1128, (List.forall_mem_cons.mpr ⟨wm_1127, (List.forall_mem_cons.mpr ⟨wm_181, (fun _ h => absurd h List.not_mem_nil)⟩)⟩)⟩)⟩) (by decide +kernel)) ggyL_law_X12_errors
set_option maxRecDepth 100000 in
theorem ggyL_law_L_possible : GoodIn wyL_law wyL_possible := goodIn_sub in_wyL_possible (by decide +kernel)
set_option maxRecDepth 100000 in
theorem gyL_law_L_possible : GoodIn wyL_law (va_wsS RL 225 yL_possible wyL_possible) := goodIn_app (goodIn_sub (List.forall_mem_cons.mpr ⟨wm_1148, (List.forall_mem_cons.mpr ⟨wm_1147, (List.forall_mem_cons.mpr ⟨wm_382, (fun _ h => absurd h List.not_mem_nil)⟩)⟩)⟩) (by decide +kernel)) ggyL_law_L_possible
set_option maxRecDepth 100000 in
theorem ggyL_law_X12_possible : GoodIn wyL_law wsX12_possible := goodIn_sub in_wsX12_possible (by decide +kernel)
set_option maxRecDepth 100000 in
theorem gyL_law_X12_possible : GoodIn wyL_law (wsV RL 227 RX12 yX12_possible wsX12_possible) := goodIn_app (goodIn_sub (List.forall_mem_cons.mpr ⟨wm_1156, (List.forall_mem_cons.mpr ⟨wm_1155, (List.forall_mem_cons.mpr ⟨wm_1154, (List.forall_mem_cons.mpr ⟨wm_181, (fun _ h => absurd h List.not_mem_nil)⟩)⟩)⟩)⟩) (by decide +kernel)) ggyL_law_X12_possible
set_option maxRecDepth 100000 in
theorem ggyL_law_L_slips : GoodIn wyL_law wyL_slips := goodIn_sub in_wyL_slips (by decide +kernel)
set_option maxRecDepth 100000 in
theorem gyL_law_L_slips : GoodIn wyL_law (va_wsS RL 228 yL_slips wyL_slips) := goodIn_app (goodIn_sub (List.forall_mem_cons.mpr ⟨wm_1176, (List.forall_mem_cons.mpr ⟨wm_1175, (List.forall_mem_cons.mpr ⟨wm_382, (fun _ h => absurd h List.not_mem_nil)⟩)⟩)⟩) (by decide +kernel)) ggyL_law_L_slips
set_option maxRecDepth 100000 in
theorem ggyL_law_X12_slips : GoodIn wyL_law wsX12_slips := goodIn_sub in_wsX12_slips (by decide +kernel)
set_option maxRecDepth 100000 in
theorem gyL_law_X12_slips : GoodIn wyL_law (wsV RL 230 RX12 yX12_slips wsX12_slips) := goodIn_app (goodIn_sub (List.forall_mem_cons.mpr ⟨wm_1181, (List.forall_mem_cons.mpr ⟨wm_1180, (List.forall_mem_cons.mpr ⟨wm_1179, (List.forall_mem_cons.mpr ⟨wm_181, (fun _ h => absurd h List.not_mem_nil)⟩)⟩)⟩)⟩) (by decide +kernel)) ggyL_law_X12_slips
set_option maxRecDepth 100000 in
theorem ggyL_law_L_handed : GoodIn wyL_law wyL_handed := goodIn_sub in_wyL_handed (by decide +kernel)
set_option maxRecDepth 100000 in
theorem gyL_law_L_handed : GoodIn wyL_law (va_wsS RL 231 yL_handed wyL_handed) := goodIn_app (goodIn_sub (List.forall_mem_cons.mpr ⟨wm_1192, (List.forall_mem_cons.mpr ⟨wm_1191, (List.forall_mem_cons.mpr ⟨wm_382, (fun _ h => absurd h List.not_mem_nil)⟩)⟩)⟩) (by decide +kernel)) ggyL_law_L_handed
set_option maxRecDepth 100000 in
theorem ggyL_law_X12_handed : GoodIn wyL_law wsX12_handed := goodIn_sub in_wsX12_handed (by decide +kernel)
set_option maxRecDepth 100000 in
theorem gyL_law_X12_handed : GoodIn wyL_law (wsV RL 233 RX12 yX12_handed wsX12_handed) := goodIn_app (goodIn_sub (List.forall_mem_cons.mpr ⟨wm_1196, (List.forall_mem_cons.mpr ⟨wm_1195, (List.forall_mem_cons.mpr ⟨wm_1194, (List.forall_mem_cons.mpr ⟨wm_181, (fun _ h => absurd h List.not_mem_nil)⟩)⟩)⟩)⟩) (by decide +kernel)) ggyL_law_X12_handed
set_option maxRecDepth 100000 in
theorem ggyL_law_L_leaf : GoodIn wyL_law wyL_leaf := goodIn_sub in_wyL_leaf (by decide +kernel)
set_option maxRecDepth 100000 in
theorem gyL_law_L_leaf : GoodIn wyL_law (va_wsS RL 234 yL_leaf wyL_leaf) := goodIn_app (goodIn_sub (List.forall_mem_cons.mpr ⟨wm_1211, (List.forall_mem_cons.mpr ⟨wm_1210, (List.forall_mem_cons.mpr ⟨wm_382, (fun _ h => absurd h List.not_mem_nil)⟩)⟩)⟩) (by decide +kernel)) ggyL_law_L_leaf
set_option maxRecDepth 100000 in
theorem ggyL_law_X12_leaf : GoodIn wyL_law wsX12_leaf := goodIn_sub in_wsX12_leaf (by decide +kernel)
set_option maxRecDepth 100000 in
theorem gyL_law_X12_leaf : GoodIn wyL_law (wsV RL 236 RX12 yX12_leaf wsX12_leaf) := goodIn_app (goodIn_sub (List.forall_mem_cons.mpr ⟨wm_1219, (List.forall_mem_cons.mpr ⟨wm_1218, (List.forall_mem_cons.mpr ⟨wm_1217, (List.forall_mem_cons.mpr ⟨wm_181, (fun _ h => absurd h List.not_mem_nil)⟩)⟩)⟩)⟩) (by decide +kernel)) ggyL_law_X12_leaf
set_option maxRecDepth 100000 in
theorem ggyL_law_X12_thrown : GoodIn wyL_law wsX12_thrown := goodIn_sub in_wsX12_thrown (by decide +kernel)
set_option maxRecDepth 100000 in
theorem gyL_law_X12_thrown : GoodIn wyL_law (wsV RL 237 RX12 yX12_thrown wsX12_thrown) := goodIn_app (goodIn_sub (List.forall_mem_cons.mpr ⟨wm_1223, (List.forall_mem_cons.mpr ⟨wm_1222, (List.forall_mem_cons.mpr ⟨wm_1221, (List.forall_mem_cons.mpr ⟨wm_181, (fun _ h => absurd h List.not_mem_nil)⟩)⟩)⟩)⟩) (by decide +kernel)) ggyL_law_X12_thrown
set_option maxRecDepth 100000 in
theorem ggyL_law_L_order : GoodIn wyL_law wyL_order := goodIn_sub in_wyL_order (by decide +kernel)
set_option maxRecDepth 100000 in
theorem gyL_law_L_order : GoodIn wyL_law (va_wsS RL 240 yL_order wyL_order) := goodIn_app (goodIn_sub (List.forall_mem_cons.mpr ⟨wm_1243, (List.forall_mem_cons.mpr ⟨wm_1242, (List.forall_mem_cons.mpr ⟨wm_382, (fun _ h => absurd h List.not_mem_nil)⟩)⟩)⟩) (by decide +kernel)) ggyL_law_L_order
set_option maxRecDepth 100000 in
theorem ggyL_law_X12_order : GoodIn wyL_law wsX12_order := goodIn_sub in_wsX12_order (by decide +kernel)
set_option maxRecDepth 100000 in
theorem gyL_law_X12_order : GoodIn wyL_law (wsV RL 242 RX12 yX12_order wsX12_order) := goodIn_app (goodIn_sub (List.forall_mem_cons.mpr ⟨wm_1247, (List.forall_mem_cons.mpr ⟨wm_1246, (List.forall_mem_cons.mpr ⟨wm_1245, (List.forall_mem_cons.mpr ⟨wm_181, (fun _ h => absurd h List.not_mem_nil)⟩)⟩)⟩)⟩) (by decide +kernel)) ggyL_law_X12_order
set_option maxRecDepth 100000 in
theorem ggyL_law_L_same : GoodIn wyL_law wyL_same := goodIn_sub in_wyL_same (by decide +kernel)
set_option maxRecDepth 100000 in
theorem gyL_law_L_same : GoodIn wyL_law (va_wsS RL 243 yL_same wyL_same) := goodIn_app (goodIn_sub (List.forall_mem_cons.mpr ⟨wm_1262, (List.forall_mem_cons.mpr ⟨wm_1261, (List.forall_mem_cons.mpr ⟨wm_382, (fun _ h => absurd h List.not_mem_nil)⟩)⟩)⟩) (by decide +kernel)) ggyL_law_L_same
set_option maxRecDepth 100000 in
theorem ggyL_law_X12_same : GoodIn wyL_law wsX12_same := goodIn_sub in_wsX12_same (by decide +kernel)
set_option maxRecDepth 100000 in
theorem gyL_law_X12_same : GoodIn wyL_law (wsV RL 245 RX12 yX12_same wsX12_same) := goodIn_app (goodIn_sub (List.forall_mem_cons.mpr ⟨wm_1274, (List.forall_mem_cons.mpr ⟨wm_1273, (List.forall_mem_cons.mpr ⟨wm_1272, (List.forall_mem_cons.mpr ⟨wm_181, (fun _ h => absurd h List.not_mem_nil)⟩)⟩)⟩)⟩) (by decide +kernel)) ggyL_law_X12_same
set_option maxRecDepth 100000 in
theorem ggyL_law_L_births : GoodIn wyL_law wyL_births := goodIn_sub in_wyL_births (by decide +kernel)
set_option maxRecDepth 100000 in
theorem gyL_law_L_births : GoodIn wyL_law (va_wsS RL 246 yL_births wyL_births) := goodIn_app (goodIn_sub (List.forall_mem_cons.mpr ⟨wm_1300, (List.forall_mem_cons.mpr ⟨wm_1299, (List.forall_mem_cons.mpr ⟨wm_382, (fun _ h => absurd h List.not_mem_nil)⟩)⟩)⟩) (by decide +kernel)) ggyL_law_L_births
set_option maxRecDepth 100000 in
theorem ggyL_law_X12_births : GoodIn wyL_law wsX12_births := goodIn_sub in_wsX12_births (by decide +kernel)
set_option maxRecDepth 100000 in
theorem gyL_law_X12_births : GoodIn wyL_law (wsV RL 248 RX12 yX12_births wsX12_births) := goodIn_app (goodIn_sub (List.forall_mem_cons.mpr ⟨wm_1304, (List.forall_mem_cons.mpr ⟨wm_1303, (List.forall_mem_cons.mpr ⟨wm_1302, (List.forall_mem_cons.mpr ⟨wm_181, (fun _ h => absurd h List.not_mem_nil)⟩)⟩)⟩)⟩) (by decide +kernel)) ggyL_law_X12_births
set_option maxRecDepth 100000 in
theorem ggyL_law_X11_tree : GoodIn wyL_law wsX11_tree := goodIn_sub in_wsX11_tree (by decide +kernel)
set_option maxRecDepth 100000 in
theorem gyL_law_X11_tree : GoodIn wyL_law (wsV RL 249 RX11 yX11_tree wsX11_tree) := goodIn_app (goodIn_sub (List.forall_mem_cons.mpr ⟨wm_1337, (List.forall_mem_cons.mpr ⟨wm_1336, (List.forall_mem_cons.mpr ⟨wm_1335, (List.forall_mem_cons.mpr ⟨wm_175, (fun _ h => absurd h List.not_mem_nil)⟩)⟩)⟩)⟩) (by decide +kernel)) ggyL_law_X11_tree
set_option maxRecDepth 100000 in
theorem ggyL_law_X12_tree : GoodIn wyL_law wsX12_tree := goodIn_sub in_wsX12_tree (by decide +kernel)
set_option maxRecDepth 100000 in
theorem gyL_law_X12_tree : GoodIn wyL_law (wsV RL 252 RX12 yX12_tree wsX12_tree) := goodIn_app (goodIn_sub (List.forall_mem_cons.mpr ⟨wm_1349, (List.forall_mem_cons.mpr ⟨wm_1348, (List.forall_mem_cons.mpr ⟨wm_1347, (List.forall_mem_cons.mpr ⟨wm_181, (fun _ h => absurd h List.not_mem_nil)⟩)⟩)⟩)⟩) (by decide +kernel)) ggyL_law_X12_tree
set_option maxRecDepth 100000 in
theorem ggyL_law_L_whence : GoodIn wyL_law wyL_whence := goodIn_sub in_wyL_whence (by decide +kernel)
set_option maxRecDepth 100000 in
theorem gyL_law_L_whence : GoodIn wyL_law (va_wsS RL 253 yL_whence wyL_whence) := goodIn_app (goodIn_sub (List.forall_mem_cons.mpr ⟨wm_1364, (List.forall_mem_cons.mpr ⟨wm_1363, (List.forall_mem_cons.mpr ⟨wm_382, (fun _ h => absurd h List.not_mem_nil)⟩)⟩)⟩) (by decide +kernel)) ggyL_law_L_whence
set_option maxRecDepth 100000 in
theorem ggyL_law_X12_whence : GoodIn wyL_law wsX12_whence := goodIn_sub in_wsX12_whence (by decide +kernel)
set_option maxRecDepth 100000 in
theorem gyL_law_X12_whence : GoodIn wyL_law (wsV RL 255 RX12 yX12_whence wsX12_whence) := goodIn_app (goodIn_sub (List.forall_mem_cons.mpr ⟨wm_1368, (List.forall_mem_cons.mpr ⟨wm_1367, (List.forall_mem_cons.mpr ⟨wm_1366, (List.forall_mem_cons.mpr ⟨wm_181, (fun _ h => absurd h List.not_mem_nil)⟩)⟩)⟩)⟩) (by decide +kernel)) ggyL_law_X12_whence
set_option maxRecDepth 100000 in
theorem ggyL_law_L_life : GoodIn wyL_law wyL_life := goodIn_sub in_wyL_life (by decide +kernel)
set_option maxRecDepth 100000 in
theorem gyL_law_L_life : GoodIn wyL_law (va_wsS RL 256 yL_life wyL_life) := goodIn_app (goodIn_sub (List.forall_mem_cons.mpr ⟨wm_1379, (List.forall_mem_cons.mpr ⟨wm_1378, (List.forall_mem_cons.mpr ⟨wm_382, (fun _ h => absurd h List.not_mem_nil)⟩)⟩)⟩) (by decide +kernel)) ggyL_law_L_life
set_option maxRecDepth 100000 in
theorem ggyL_law_X12_life : GoodIn wyL_law wsX12_life := goodIn_sub in_wsX12_life (by decide +kernel)
set_option maxRecDepth 100000 in
theorem gyL_law_X12_life : GoodIn wyL_law (wsV RL 258 RX12 yX12_life wsX12_life) := goodIn_app (goodIn_sub (List.forall_mem_cons.mpr ⟨wm_1383, (List.forall_mem_cons.mpr ⟨wm_1382, (List.forall_mem_cons.mpr ⟨wm_1381, (List.forall_mem_cons.mpr ⟨wm_181, (fun _ h => absurd h List.not_mem_nil)⟩)⟩)⟩)⟩) (by decide +kernel)) ggyL_law_X12_life
set_option maxRecDepth 100000 in
theorem ggyL_law_L_fate : GoodIn wyL_law wyL_fate := goodIn_sub in_wyL_fate (by decide +kernel)
set_option maxRecDepth 100000 in
theorem gyL_law_L_fate : GoodIn wyL_law (va_wsS RL 259 yL_fate wyL_fate) := goodIn_app (goodIn_sub (List.forall_mem_cons.mpr ⟨wm_1394, (List.forall_mem_cons.mpr ⟨wm_1393, (List.forall_mem_cons.mpr ⟨wm_382, (fun _ h => absurd h List.not_mem_nil)⟩)⟩)⟩) (by decide +kernel)) ggyL_law_L_fate
set_option maxRecDepth 100000 in
theorem ggyL_law_X12_fate : GoodIn wyL_law wsX12_fate := goodIn_sub in_wsX12_fate (by decide +kernel)
set_option maxRecDepth 100000 in
theorem gyL_law_X12_fate : GoodIn wyL_law (wsV RL 261 RX12 yX12_fate wsX12_fate) := goodIn_app (goodIn_sub (List.forall_mem_cons.mpr ⟨wm_1398, (List.forall_mem_cons.mpr ⟨wm_1397, (List.forall_mem_cons.mpr ⟨wm_1396, (List.forall_mem_cons.mpr ⟨wm_181, (fun _ h => absurd h List.not_mem_nil)⟩)⟩)⟩)⟩) (by decide +kernel)) ggyL_law_X12_fate
set_option maxRecDepth 100000 in
theorem ggyL_law_L_fates : GoodIn wyL_law wyL_fates := goodIn_sub in_wyL_fates (by decide +kernel)
set_option maxRecDepth 100000 in
theorem gyL_law_L_fates : GoodIn wyL_law (va_wsS RL 262 yL_fates wyL_fates) := goodIn_app (goodIn_sub (List.forall_mem_cons.mpr ⟨wm_1427, (List.forall_mem_cons.mpr ⟨wm_1426, (List.forall_mem_cons.mpr ⟨wm_382, (fun _ h => absurd h List.not_mem_nil)⟩)⟩)⟩) (by decide +kernel)) ggyL_law_L_fates
set_option maxRecDepth 100000 in
theorem ggyL_law_X12_fates : GoodIn wyL_law wsX12_fates := goodIn_sub in_wsX12_fates (by decide +kernel)
set_option maxRecDepth 100000 in
theorem gyL_law_X12_fates : GoodIn wyL_law (wsV RL 264 RX12 yX12_fates wsX12_fates) := goodIn_app (goodIn_sub (List.forall_mem_cons.mpr ⟨wm_1456, (List.forall_mem_cons.mpr ⟨wm_1455, (List.forall_mem_cons.mpr ⟨wm_1454, (List.forall_mem_cons.mpr ⟨wm_181, (fun _ h => absurd h List.not_mem_nil)⟩)⟩)⟩)⟩) (by decide +kernel)) ggyL_law_X12_fates
set_option maxRecDepth 100000 in
theorem ggyL_law_L_hits : GoodIn wyL_law wyL_hits := goodIn_sub in_wyL_hits (by decide +kernel)
set_option maxRecDepth 100000 in
theorem gyL_law_L_hits : GoodIn wyL_law (va_wsS RL 265 yL_hits wyL_hits) := goodIn_app (goodIn_sub (List.forall_mem_cons.mpr ⟨wm_1477, (List.forall_mem_cons.mpr ⟨wm_1476, (List.forall_mem_cons.mpr ⟨wm_382, (fun _ h => absurd h List.not_mem_nil)⟩)⟩)⟩) (by decide +kernel)) ggyL_law_L_hits
set_option maxRecDepth 100000 in
theorem ggyL_law_X12_hits : GoodIn wyL_law wsX12_hits := goodIn_sub in_wsX12_hits (by decide +kernel)
set_option maxRecDepth 100000 in
theorem gyL_law_X12_hits : GoodIn wyL_law (wsV RL 267 RX12 yX12_hits wsX12_hits) := goodIn_app (goodIn_sub (List.forall_mem_cons.mpr ⟨wm_1481, (List.forall_mem_cons.mpr ⟨wm_1480, (List.forall_mem_cons.mpr ⟨wm_1479, (List.forall_mem_cons.mpr ⟨wm_181, (fun _ h => absurd h List.not_mem_nil)⟩)⟩)⟩)⟩) (by decide +kernel)) ggyL_law_X12_hits
