theorem dX7_layNext_78 : decode cX7_layNext 78 = .ok (.iaload, 1) := dc_46 (dc_nn (k := 36) aX7_layNext_42 rfl)
theorem dX7_layNext_79 : decode cX7_layNext 79 = .ok (.aload_n 0, 1) := dc_42 (dc_nn (k := 37) aX7_layNext_42 rfl)
theorem dX7_layNext_80 : decode cX7_layNext 80 = .ok (.getfield 28, 3) := dc_180 (a0 := 0) (b0 := 28) (dc_nn (k := 38) aX7_layNext_42 rfl)
theorem dX7_layNext_83 : decode cX7_layNext 83 = .ok (.bipush 9, 2) := dc_16 (a0 := 9) aX7_layNext_83 (by decide)
theorem dX7_layNext_85 : decode cX7_layNext 85 = .ok (.iload_n 1, 1) := dc_27 (dc_nn (k := 2) aX7_layNext_83 rfl)
theorem dX7_layNext_86 : decode cX7_layNext 86 = .ok (.imul, 1) := dc_104 (dc_nn (k := 3) aX7_layNext_83 rfl)
theorem dX7_layNext_87 : decode cX7_layNext 87 = .ok (.iload 7, 2) := dc_21 (a0 := 7) (dc_nn (k := 4) aX7_layNext_83 rfl)
theorem dX7_layNext_89 : decode cX7_layNext 89 = .ok (.iadd, 1) := dc_96 (dc_nn (k := 6) aX7_layNext_83 rfl)
theorem dX7_layNext_90 : decode cX7_layNext 90 = .ok (.iaload, 1) := dc_46 (dc_nn (k := 7) aX7_layNext_83 rfl)
theorem dX7_layNext_91 : decode cX7_layNext 91 = .ok (.iadd, 1) := dc_96 (dc_nn (k := 8) aX7_layNext_83 rfl)
theorem dX7_layNext_92 : decode cX7_layNext 92 = .ok (.iastore, 1) := dc_79 (dc_nn (k := 9) aX7_layNext_83 rfl)
theorem dX7_layNext_93 : decode cX7_layNext 93 = .ok (.iinc 7 1, 3) := dc_132 (a0 := 7) (a1 := 1) (dc_nn (k := 10) aX7_layNext_83 rfl) (by decide)
theorem dX7_layNext_96 : decode cX7_layNext 96 = .ok (.goto (-40), 3) := dc_167 (a0 := 255) (b0 := 216) (dc_nn (k := 13) aX7_layNext_83 rfl) (by decide)
theorem dX7_layNext_99 : decode cX7_layNext 99 = .ok (.iinc 4 1, 3) := dc_132 (a0 := 4) (a1 := 1) (dc_nn (k := 16) aX7_layNext_83 rfl) (by decide)
theorem dX7_layNext_102 : decode cX7_layNext 102 = .ok (.goto (-94), 3) := dc_167 (a0 := 255) (b0 := 162) (dc_nn (k := 19) aX7_layNext_83 rfl) (by decide)
theorem dX7_layNext_105 : decode cX7_layNext 105 = .ok (.return_, 1) := dc_177 (dc_nn (k := 22) aX7_layNext_83 rfl)
noncomputable def sX8_init_0 : List Nat := 42 :: 183 :: 0 :: 3 :: 42 :: 16 :: 20 :: 188 :: 10 :: 181 :: 0 :: 11 :: 177 :: []
theorem aX8_init_0 : dc_at cX8_init 0 sX8_init_0 := dc_base (by decide +kernel)
theorem dX8_init_0 : decode cX8_init 0 = .ok (.aload_n 0, 1) := dc_42 aX8_init_0
theorem dX8_init_1 : decode cX8_init 1 = .ok (.invokespecial 3, 3) := dc_183 (a0 := 0) (b0 := 3) (dc_nn (k := 1) aX8_init_0 rfl)
theorem dX8_init_4 : decode cX8_init 4 = .ok (.aload_n 0, 1) := dc_42 (dc_nn (k := 4) aX8_init_0 rfl)
theorem dX8_init_5 : decode cX8_init 5 = .ok (.bipush 20, 2) := dc_16 (a0 := 20) (dc_nn (k := 5) aX8_init_0 rfl) (by decide)
theorem dX8_init_7 : decode cX8_init 7 = .ok (.newarray .int, 2) := dc_188_10 (dc_nn (k := 7) aX8_init_0 rfl)
theorem dX8_init_9 : decode cX8_init 9 = .ok (.putfield 11, 3) := dc_181 (a0 := 0) (b0 := 11) (dc_nn (k := 9) aX8_init_0 rfl)
theorem dX8_init_12 : decode cX8_init 12 = .ok (.return_, 1) := dc_177 (dc_nn (k := 12) aX8_init_0 rfl)
noncomputable def sX8_begin_0 : List Nat := 42 :: 4 :: 181 :: 0 :: 15 :: 42 :: 27 :: 181 :: 0 :: 19 :: 42 :: 28 :: 181 :: 0 :: 23 :: 42 :: 29 :: 181 :: 0 :: 26 :: 42 :: 17 :: 3 :: 232 :: 181 :: 0 :: 31 :: 42 :: 3 :: 181 :: 0 :: 34 :: 42 :: 2 :: 181 :: 0 :: 37 :: 177 :: []
theorem aX8_begin_0 : dc_at cX8_begin 0 sX8_begin_0 := dc_base (by decide +kernel)
theorem dX8_begin_0 : decode cX8_begin 0 = .ok (.aload_n 0, 1) := dc_42 aX8_begin_0
theorem dX8_begin_1 : decode cX8_begin 1 = .ok (.iconst 1, 1) := dc_4 (dc_nn (k := 1) aX8_begin_0 rfl)
theorem dX8_begin_2 : decode cX8_begin 2 = .ok (.putfield 15, 3) := dc_181 (a0 := 0) (b0 := 15) (dc_nn (k := 2) aX8_begin_0 rfl)
theorem dX8_begin_5 : decode cX8_begin 5 = .ok (.aload_n 0, 1) := dc_42 (dc_nn (k := 5) aX8_begin_0 rfl)
theorem dX8_begin_6 : decode cX8_begin 6 = .ok (.iload_n 1, 1) := dc_27 (dc_nn (k := 6) aX8_begin_0 rfl)
theorem dX8_begin_7 : decode cX8_begin 7 = .ok (.putfield 19, 3) := dc_181 (a0 := 0) (b0 := 19) (dc_nn (k := 7) aX8_begin_0 rfl)
theorem dX8_begin_10 : decode cX8_begin 10 = .ok (.aload_n 0, 1) := dc_42 (dc_nn (k := 10) aX8_begin_0 rfl)
theorem dX8_begin_11 : decode cX8_begin 11 = .ok (.iload_n 2, 1) := dc_28 (dc_nn (k := 11) aX8_begin_0 rfl)
theorem dX8_begin_12 : decode cX8_begin 12 = .ok (.putfield 23, 3) := dc_181 (a0 := 0) (b0 := 23) (dc_nn (k := 12) aX8_begin_0 rfl)
theorem dX8_begin_15 : decode cX8_begin 15 = .ok (.aload_n 0, 1) := dc_42 (dc_nn (k := 15) aX8_begin_0 rfl)
theorem dX8_begin_16 : decode cX8_begin 16 = .ok (.iload_n 3, 1) := dc_29 (dc_nn (k := 16) aX8_begin_0 rfl)
theorem dX8_begin_17 : decode cX8_begin 17 = .ok (.putfield 26, 3) := dc_181 (a0 := 0) (b0 := 26) (dc_nn (k := 17) aX8_begin_0 rfl)
theorem dX8_begin_20 : decode cX8_begin 20 = .ok (.aload_n 0, 1) := dc_42 (dc_nn (k := 20) aX8_begin_0 rfl)
theorem dX8_begin_21 : decode cX8_begin 21 = .ok (.sipush 1000, 3) := dc_17 (a0 := 3) (b0 := 232) (dc_nn (k := 21) aX8_begin_0 rfl) (by decide)
theorem dX8_begin_24 : decode cX8_begin 24 = .ok (.putfield 31, 3) := dc_181 (a0 := 0) (b0 := 31) (dc_nn (k := 24) aX8_begin_0 rfl)
theorem dX8_begin_27 : decode cX8_begin 27 = .ok (.aload_n 0, 1) := dc_42 (dc_nn (k := 27) aX8_begin_0 rfl)
theorem dX8_begin_28 : decode cX8_begin 28 = .ok (.iconst 0, 1) := dc_3 (dc_nn (k := 28) aX8_begin_0 rfl)
theorem dX8_begin_29 : decode cX8_begin 29 = .ok (.putfield 34, 3) := dc_181 (a0 := 0) (b0 := 34) (dc_nn (k := 29) aX8_begin_0 rfl)
theorem dX8_begin_32 : decode cX8_begin 32 = .ok (.aload_n 0, 1) := dc_42 (dc_nn (k := 32) aX8_begin_0 rfl)
theorem dX8_begin_33 : decode cX8_begin 33 = .ok (.iconst (-1), 1) := dc_2 (dc_nn (k := 33) aX8_begin_0 rfl)
theorem dX8_begin_34 : decode cX8_begin 34 = .ok (.putfield 37, 3) := dc_181 (a0 := 0) (b0 := 37) (dc_nn (k := 34) aX8_begin_0 rfl)
theorem dX8_begin_37 : decode cX8_begin 37 = .ok (.return_, 1) := dc_177 (dc_nn (k := 37) aX8_begin_0 rfl)
noncomputable def sX8_copyFrom_40 : List Nat := 42 :: 43 :: 180 :: 0 :: 34 :: 181 :: 0 :: 34 :: 42 :: 43 :: 180 :: 0 :: 37 :: 181 :: 0 :: 37 :: 43 :: 180 :: 0 :: 11 :: 3 :: 42 :: 180 :: 0 :: 11 :: 3 :: 16 :: 20 :: 184 :: 0 :: 40 :: 177 :: []
noncomputable def sX8_copyFrom_0 : List Nat := 42 :: 43 :: 180 :: 0 :: 15 :: 181 :: 0 :: 15 :: 42 :: 43 :: 180 :: 0 :: 19 :: 181 :: 0 :: 19 :: 42 :: 43 :: 180 :: 0 :: 23 :: 181 :: 0 :: 23 :: 42 :: 43 :: 180 :: 0 :: 26 :: 181 :: 0 :: 26 :: 42 :: 43 :: 180 :: 0 :: 31 :: 181 :: 0 :: 31 :: sX8_copyFrom_40
theorem aX8_copyFrom_0 : dc_at cX8_copyFrom 0 sX8_copyFrom_0 := dc_base (by decide +kernel)
theorem aX8_copyFrom_40 : dc_at cX8_copyFrom 40 sX8_copyFrom_40 := dc_nn (k := 40) aX8_copyFrom_0 rfl
theorem dX8_copyFrom_0 : decode cX8_copyFrom 0 = .ok (.aload_n 0, 1) := dc_42 aX8_copyFrom_0
theorem dX8_copyFrom_1 : decode cX8_copyFrom 1 = .ok (.aload_n 1, 1) := dc_43 (dc_nn (k := 1) aX8_copyFrom_0 rfl)
theorem dX8_copyFrom_2 : decode cX8_copyFrom 2 = .ok (.getfield 15, 3) := dc_180 (a0 := 0) (b0 := 15) (dc_nn (k := 2) aX8_copyFrom_0 rfl)
theorem dX8_copyFrom_5 : decode cX8_copyFrom 5 = .ok (.putfield 15, 3) := dc_181 (a0 := 0) (b0 := 15) (dc_nn (k := 5) aX8_copyFrom_0 rfl)
theorem dX8_copyFrom_8 : decode cX8_copyFrom 8 = .ok (.aload_n 0, 1) := dc_42 (dc_nn (k := 8) aX8_copyFrom_0 rfl)
theorem dX8_copyFrom_9 : decode cX8_copyFrom 9 = .ok (.aload_n 1, 1) := dc_43 (dc_nn (k := 9) aX8_copyFrom_0 rfl)
theorem dX8_copyFrom_10 : decode cX8_copyFrom 10 = .ok (.getfield 19, 3) := dc_180 (a0 := 0) (b0 := 19) (dc_nn (k := 10) aX8_copyFrom_0 rfl)
theorem dX8_copyFrom_13 : decode cX8_copyFrom 13 = .ok (.putfield 19, 3) := dc_181 (a0 := 0) (b0 := 19) (dc_nn (k := 13) aX8_copyFrom_0 rfl)
theorem dX8_copyFrom_16 : decode cX8_copyFrom 16 = .ok (.aload_n 0, 1) := dc_42 (dc_nn (k := 16) aX8_copyFrom_0 rfl)
theorem dX8_copyFrom_17 : decode cX8_copyFrom 17 = .ok (.aload_n 1, 1) := dc_43 (dc_nn (k := 17) aX8_copyFrom_0 rfl)
theorem dX8_copyFrom_18 : decode cX8_copyFrom 18 = .ok (.getfield 23, 3) := dc_180 (a0 := 0) (b0 := 23) (dc_nn (k := 18) aX8_copyFrom_0 rfl)
theorem dX8_copyFrom_21 : decode cX8_copyFrom 21 = .ok (.putfield 23, 3) := dc_181 (a0 := 0) (b0 := 23) (dc_nn (k := 21) aX8_copyFrom_0 rfl)
theorem dX8_copyFrom_24 : decode cX8_copyFrom 24 = .ok (.aload_n 0, 1) := dc_42 (dc_nn (k := 24) aX8_copyFrom_0 rfl)
theorem dX8_copyFrom_25 : decode cX8_copyFrom 25 = .ok (.aload_n 1, 1) := dc_43 (dc_nn (k := 25) aX8_copyFrom_0 rfl)
theorem dX8_copyFrom_26 : decode cX8_copyFrom 26 = .ok (.getfield 26, 3) := dc_180 (a0 := 0) (b0 := 26) (dc_nn (k := 26) aX8_copyFrom_0 rfl)
theorem dX8_copyFrom_29 : decode cX8_copyFrom 29 = .ok (.putfield 26, 3) := dc_181 (a0 := 0) (b0 := 26) (dc_nn (k := 29) aX8_copyFrom_0 rfl)
theorem dX8_copyFrom_32 : decode cX8_copyFrom 32 = .ok (.aload_n 0, 1) := dc_42 (dc_nn (k := 32) aX8_copyFrom_0 rfl)
theorem dX8_copyFrom_33 : decode cX8_copyFrom 33 = .ok (.aload_n 1, 1) := dc_43 (dc_nn (k := 33) aX8_copyFrom_0 rfl)
theorem dX8_copyFrom_34 : decode cX8_copyFrom 34 = .ok (.getfield 31, 3) := dc_180 (a0 := 0) (b0 := 31) (dc_nn (k := 34) aX8_copyFrom_0 rfl)
theorem dX8_copyFrom_37 : decode cX8_copyFrom 37 = .ok (.putfield 31, 3) := dc_181 (a0 := 0) (b0 := 31) (dc_nn (k := 37) aX8_copyFrom_0 rfl)
theorem dX8_copyFrom_40 : decode cX8_copyFrom 40 = .ok (.aload_n 0, 1) := dc_42 aX8_copyFrom_40
theorem dX8_copyFrom_41 : decode cX8_copyFrom 41 = .ok (.aload_n 1, 1) := dc_43 (dc_nn (k := 1) aX8_copyFrom_40 rfl)
theorem dX8_copyFrom_42 : decode cX8_copyFrom 42 = .ok (.getfield 34, 3) := dc_180 (a0 := 0) (b0 := 34) (dc_nn (k := 2) aX8_copyFrom_40 rfl)
theorem dX8_copyFrom_45 : decode cX8_copyFrom 45 = .ok (.putfield 34, 3) := dc_181 (a0 := 0) (b0 := 34) (dc_nn (k := 5) aX8_copyFrom_40 rfl)
theorem dX8_copyFrom_48 : decode cX8_copyFrom 48 = .ok (.aload_n 0, 1) := dc_42 (dc_nn (k := 8) aX8_copyFrom_40 rfl)
theorem dX8_copyFrom_49 : decode cX8_copyFrom 49 = .ok (.aload_n 1, 1) := dc_43 (dc_nn (k := 9) aX8_copyFrom_40 rfl)
theorem dX8_copyFrom_50 : decode cX8_copyFrom 50 = .ok (.getfield 37, 3) := dc_180 (a0 := 0) (b0 := 37) (dc_nn (k := 10) aX8_copyFrom_40 rfl)
theorem dX8_copyFrom_53 : decode cX8_copyFrom 53 = .ok (.putfield 37, 3) := dc_181 (a0 := 0) (b0 := 37) (dc_nn (k := 13) aX8_copyFrom_40 rfl)
theorem dX8_copyFrom_56 : decode cX8_copyFrom 56 = .ok (.aload_n 1, 1) := dc_43 (dc_nn (k := 16) aX8_copyFrom_40 rfl)
theorem dX8_copyFrom_57 : decode cX8_copyFrom 57 = .ok (.getfield 11, 3) := dc_180 (a0 := 0) (b0 := 11) (dc_nn (k := 17) aX8_copyFrom_40 rfl)
theorem dX8_copyFrom_60 : decode cX8_copyFrom 60 = .ok (.iconst 0, 1) := dc_3 (dc_nn (k := 20) aX8_copyFrom_40 rfl)
theorem dX8_copyFrom_61 : decode cX8_copyFrom 61 = .ok (.aload_n 0, 1) := dc_42 (dc_nn (k := 21) aX8_copyFrom_40 rfl)
theorem dX8_copyFrom_62 : decode cX8_copyFrom 62 = .ok (.getfield 11, 3) := dc_180 (a0 := 0) (b0 := 11) (dc_nn (k := 22) aX8_copyFrom_40 rfl)
theorem dX8_copyFrom_65 : decode cX8_copyFrom 65 = .ok (.iconst 0, 1) := dc_3 (dc_nn (k := 25) aX8_copyFrom_40 rfl)
theorem dX8_copyFrom_66 : decode cX8_copyFrom 66 = .ok (.bipush 20, 2) := dc_16 (a0 := 20) (dc_nn (k := 26) aX8_copyFrom_40 rfl) (by decide)
theorem dX8_copyFrom_68 : decode cX8_copyFrom 68 = .ok (.invokestatic 40, 3) := dc_184 (a0 := 0) (b0 := 40) (dc_nn (k := 28) aX8_copyFrom_40 rfl)
theorem dX8_copyFrom_71 : decode cX8_copyFrom 71 = .ok (.return_, 1) := dc_177 (dc_nn (k := 31) aX8_copyFrom_40 rfl)
set_option maxRecDepth 20000 in
theorem ggX8_goOn_X3_costOn : GoodIn wsX8_goOn wsX3_costOn := goodIn_k _ [[9, 0, 0, 0, 0, 0, 0, 0, 0, 0, 0, 0, 0, 0, 0, 0, 0, 0, 0, 0, 0, 0, 0, 0, 0, 0, 0, 0, 0, 0, 0, 0, 0, 0, 0, 0, 0, 0, 0, 0, 0, 0, 0, 0, 0, 0, 0, 0, 0, 0, 0, 0, 0, 16, 0, 0, 0, 0, 0, 0, 0, 0, 0]] (by rfl) (by decide +kernel)
set_option maxRecDepth 20000 in
theorem gX8_goOn_X3_costOn : GoodIn wsX8_goOn (va_wsS RX8 47 yX3_costOn wsX3_costOn) := goodIn_app (goodIn_k _ [[6, 0, 0]] (by rfl) (gw_S _ _ _ _)) ggX8_goOn_X3_costOn
set_option maxRecDepth 20000 in
theorem ggX8_goOn_X8_lookAt : GoodIn wsX8_goOn wsX8_lookAt := goodIn_k _ [[66], [5, 61, 0], [1, 67, 0, 0, 0, 0, 0, 0, 0, 0]] (by rfl) (by decide +kernel)
set_option maxRecDepth 20000 in
theorem gX8_goOn_X8_lookAt : GoodIn wsX8_goOn (wsV RX8 51 RX8 yX8_lookAt wsX8_lookAt) := goodIn_app (goodIn_k _ [[62, 0, 0, 0]] (by rfl) (gw_V _ _ _ _)) ggX8_goOn_X8_lookAt
noncomputable def sX8_goOn_40 : List Nat := 182 :: 0 :: 51 :: 42 :: 89 :: 180 :: 0 :: 26 :: 4 :: 96 :: 181 :: 0 :: 26 :: 132 :: 4 :: 1 :: 167 :: 255 :: 203 :: 21 :: 4 :: 172 :: []
noncomputable def sX8_goOn_0 : List Nat := 3 :: 54 :: 4 :: 21 :: 4 :: 29 :: 162 :: 0 :: 53 :: 42 :: 180 :: 0 :: 26 :: 18 :: 46 :: 163 :: 0 :: 44 :: 42 :: 43 :: 44 :: 42 :: 180 :: 0 :: 19 :: 42 :: 180 :: 0 :: 23 :: 42 :: 180 :: 0 :: 26 :: 42 :: 180 :: 0 :: 31 :: 184 :: 0 :: 47 :: sX8_goOn_40
theorem aX8_goOn_0 : dc_at cX8_goOn 0 sX8_goOn_0 := dc_base (by decide +kernel)
theorem aX8_goOn_40 : dc_at cX8_goOn 40 sX8_goOn_40 := dc_nn (k := 40) aX8_goOn_0 rfl
theorem dX8_goOn_0 : decode cX8_goOn 0 = .ok (.iconst 0, 1) := dc_3 aX8_goOn_0
theorem dX8_goOn_1 : decode cX8_goOn 1 = .ok (.istore 4, 2) := dc_54 (a0 := 4) (dc_nn (k := 1) aX8_goOn_0 rfl)
theorem dX8_goOn_3 : decode cX8_goOn 3 = .ok (.iload 4, 2) := dc_21 (a0 := 4) (dc_nn (k := 3) aX8_goOn_0 rfl)
theorem dX8_goOn_5 : decode cX8_goOn 5 = .ok (.iload_n 3, 1) := dc_29 (dc_nn (k := 5) aX8_goOn_0 rfl)
theorem dX8_goOn_6 : decode cX8_goOn 6 = .ok (.if_icmp .ge 53, 3) := dc_162 (a0 := 0) (b0 := 53) (dc_nn (k := 6) aX8_goOn_0 rfl) (by decide)
theorem dX8_goOn_9 : decode cX8_goOn 9 = .ok (.aload_n 0, 1) := dc_42 (dc_nn (k := 9) aX8_goOn_0 rfl)
theorem dX8_goOn_10 : decode cX8_goOn 10 = .ok (.getfield 26, 3) := dc_180 (a0 := 0) (b0 := 26) (dc_nn (k := 10) aX8_goOn_0 rfl)
theorem dX8_goOn_13 : decode cX8_goOn 13 = .ok (.ldc 46, 2) := dc_18 (a0 := 46) (dc_nn (k := 13) aX8_goOn_0 rfl)
theorem dX8_goOn_15 : decode cX8_goOn 15 = .ok (.if_icmp .gt 44, 3) := dc_163 (a0 := 0) (b0 := 44) (dc_nn (k := 15) aX8_goOn_0 rfl) (by decide)
theorem dX8_goOn_18 : decode cX8_goOn 18 = .ok (.aload_n 0, 1) := dc_42 (dc_nn (k := 18) aX8_goOn_0 rfl)
theorem dX8_goOn_19 : decode cX8_goOn 19 = .ok (.aload_n 1, 1) := dc_43 (dc_nn (k := 19) aX8_goOn_0 rfl)
theorem dX8_goOn_20 : decode cX8_goOn 20 = .ok (.aload_n 2, 1) := dc_44 (dc_nn (k := 20) aX8_goOn_0 rfl)
theorem dX8_goOn_21 : decode cX8_goOn 21 = .ok (.aload_n 0, 1) := dc_42 (dc_nn (k := 21) aX8_goOn_0 rfl)
theorem dX8_goOn_22 : decode cX8_goOn 22 = .ok (.getfield 19, 3) := dc_180 (a0 := 0) (b0 := 19) (dc_nn (k := 22) aX8_goOn_0 rfl)
theorem dX8_goOn_25 : decode cX8_goOn 25 = .ok (.aload_n 0, 1) := dc_42 (dc_nn (k := 25) aX8_goOn_0 rfl)
theorem dX8_goOn_26 : decode cX8_goOn 26 = .ok (.getfield 23, 3) := dc_180 (a0 := 0) (b0 := 23) (dc_nn (k := 26) aX8_goOn_0 rfl)
theorem dX8_goOn_29 : decode cX8_goOn 29 = .ok (.aload_n 0, 1) := dc_42 (dc_nn (k := 29) aX8_goOn_0 rfl)
theorem dX8_goOn_30 : decode cX8_goOn 30 = .ok (.getfield 26, 3) := dc_180 (a0 := 0) (b0 := 26) (dc_nn (k := 30) aX8_goOn_0 rfl)
theorem dX8_goOn_33 : decode cX8_goOn 33 = .ok (.aload_n 0, 1) := dc_42 (dc_nn (k := 33) aX8_goOn_0 rfl)
theorem dX8_goOn_34 : decode cX8_goOn 34 = .ok (.getfield 31, 3) := dc_180 (a0 := 0) (b0 := 31) (dc_nn (k := 34) aX8_goOn_0 rfl)
theorem dX8_goOn_37 : decode cX8_goOn 37 = .ok (.invokestatic 47, 3) := dc_184 (a0 := 0) (b0 := 47) (dc_nn (k := 37) aX8_goOn_0 rfl)
theorem dX8_goOn_40 : decode cX8_goOn 40 = .ok (.invokevirtual 51, 3) := dc_182 (a0 := 0) (b0 := 51) aX8_goOn_40
theorem dX8_goOn_43 : decode cX8_goOn 43 = .ok (.aload_n 0, 1) := dc_42 (dc_nn (k := 3) aX8_goOn_40 rfl)
theorem dX8_goOn_44 : decode cX8_goOn 44 = .ok (.dup, 1) := dc_89 (dc_nn (k := 4) aX8_goOn_40 rfl)
theorem dX8_goOn_45 : decode cX8_goOn 45 = .ok (.getfield 26, 3) := dc_180 (a0 := 0) (b0 := 26) (dc_nn (k := 5) aX8_goOn_40 rfl)
theorem dX8_goOn_48 : decode cX8_goOn 48 = .ok (.iconst 1, 1) := dc_4 (dc_nn (k := 8) aX8_goOn_40 rfl)
theorem dX8_goOn_49 : decode cX8_goOn 49 = .ok (.iadd, 1) := dc_96 (dc_nn (k := 9) aX8_goOn_40 rfl)
theorem dX8_goOn_50 : decode cX8_goOn 50 = .ok (.putfield 26, 3) := dc_181 (a0 := 0) (b0 := 26) (dc_nn (k := 10) aX8_goOn_40 rfl)
theorem dX8_goOn_53 : decode cX8_goOn 53 = .ok (.iinc 4 1, 3) := dc_132 (a0 := 4) (a1 := 1) (dc_nn (k := 13) aX8_goOn_40 rfl) (by decide)
theorem dX8_goOn_56 : decode cX8_goOn 56 = .ok (.goto (-53), 3) := dc_167 (a0 := 255) (b0 := 203) (dc_nn (k := 16) aX8_goOn_40 rfl) (by decide)
theorem dX8_goOn_59 : decode cX8_goOn 59 = .ok (.iload 4, 2) := dc_21 (a0 := 4) (dc_nn (k := 19) aX8_goOn_40 rfl)
theorem dX8_goOn_61 : decode cX8_goOn 61 = .ok (.ireturn, 1) := dc_172 (dc_nn (k := 21) aX8_goOn_40 rfl)
noncomputable def sX8_lookAt_40 : List Nat := 42 :: 180 :: 0 :: 34 :: 42 :: 180 :: 0 :: 26 :: 79 :: 42 :: 89 :: 180 :: 0 :: 34 :: 4 :: 96 :: 181 :: 0 :: 34 :: 42 :: 42 :: 180 :: 0 :: 26 :: 181 :: 0 :: 37 :: 177 :: []
noncomputable def sX8_lookAt_0 : List Nat := 27 :: 42 :: 180 :: 0 :: 31 :: 164 :: 0 :: 4 :: 177 :: 27 :: 42 :: 180 :: 0 :: 31 :: 162 :: 0 :: 13 :: 42 :: 27 :: 181 :: 0 :: 31 :: 42 :: 3 :: 181 :: 0 :: 34 :: 42 :: 180 :: 0 :: 34 :: 16 :: 20 :: 162 :: 0 :: 16 :: 42 :: 180 :: 0 :: 11 :: sX8_lookAt_40
theorem aX8_lookAt_0 : dc_at cX8_lookAt 0 sX8_lookAt_0 := dc_base (by decide +kernel)
theorem aX8_lookAt_40 : dc_at cX8_lookAt 40 sX8_lookAt_40 := dc_nn (k := 40) aX8_lookAt_0 rfl
theorem dX8_lookAt_0 : decode cX8_lookAt 0 = .ok (.iload_n 1, 1) := dc_27 aX8_lookAt_0
theorem dX8_lookAt_1 : decode cX8_lookAt 1 = .ok (.aload_n 0, 1) := dc_42 (dc_nn (k := 1) aX8_lookAt_0 rfl)
theorem dX8_lookAt_2 : decode cX8_lookAt 2 = .ok (.getfield 31, 3) := dc_180 (a0 := 0) (b0 := 31) (dc_nn (k := 2) aX8_lookAt_0 rfl)
theorem dX8_lookAt_5 : decode cX8_lookAt 5 = .ok (.if_icmp .le 4, 3) := dc_164 (a0 := 0) (b0 := 4) (dc_nn (k := 5) aX8_lookAt_0 rfl) (by decide)
theorem dX8_lookAt_8 : decode cX8_lookAt 8 = .ok (.return_, 1) := dc_177 (dc_nn (k := 8) aX8_lookAt_0 rfl)
theorem dX8_lookAt_9 : decode cX8_lookAt 9 = .ok (.iload_n 1, 1) := dc_27 (dc_nn (k := 9) aX8_lookAt_0 rfl)
theorem dX8_lookAt_10 : decode cX8_lookAt 10 = .ok (.aload_n 0, 1) := dc_42 (dc_nn (k := 10) aX8_lookAt_0 rfl)
theorem dX8_lookAt_11 : decode cX8_lookAt 11 = .ok (.getfield 31, 3) := dc_180 (a0 := 0) (b0 := 31) (dc_nn (k := 11) aX8_lookAt_0 rfl)
theorem dX8_lookAt_14 : decode cX8_lookAt 14 = .ok (.if_icmp .ge 13, 3) := dc_162 (a0 := 0) (b0 := 13) (dc_nn (k := 14) aX8_lookAt_0 rfl) (by decide)
theorem dX8_lookAt_17 : decode cX8_lookAt 17 = .ok (.aload_n 0, 1) := dc_42 (dc_nn (k := 17) aX8_lookAt_0 rfl)
theorem dX8_lookAt_18 : decode cX8_lookAt 18 = .ok (.iload_n 1, 1) := dc_27 (dc_nn (k := 18) aX8_lookAt_0 rfl)
theorem dX8_lookAt_19 : decode cX8_lookAt 19 = .ok (.putfield 31, 3) := dc_181 (a0 := 0) (b0 := 31) (dc_nn (k := 19) aX8_lookAt_0 rfl)
theorem dX8_lookAt_22 : decode cX8_lookAt 22 = .ok (.aload_n 0, 1) := dc_42 (dc_nn (k := 22) aX8_lookAt_0 rfl)
theorem dX8_lookAt_23 : decode cX8_lookAt 23 = .ok (.iconst 0, 1) := dc_3 (dc_nn (k := 23) aX8_lookAt_0 rfl)
theorem dX8_lookAt_24 : decode cX8_lookAt 24 = .ok (.putfield 34, 3) := dc_181 (a0 := 0) (b0 := 34) (dc_nn (k := 24) aX8_lookAt_0 rfl)
theorem dX8_lookAt_27 : decode cX8_lookAt 27 = .ok (.aload_n 0, 1) := dc_42 (dc_nn (k := 27) aX8_lookAt_0 rfl)
theorem dX8_lookAt_28 : decode cX8_lookAt 28 = .ok (.getfield 34, 3) := dc_180 (a0 := 0) (b0 := 34) (dc_nn (k := 28) aX8_lookAt_0 rfl)
theorem dX8_lookAt_31 : decode cX8_lookAt 31 = .ok (.bipush 20, 2) := dc_16 (a0 := 20) (dc_nn (k := 31) aX8_lookAt_0 rfl) (by decide)
theorem dX8_lookAt_33 : decode cX8_lookAt 33 = .ok (.if_icmp .ge 16, 3) := dc_162 (a0 := 0) (b0 := 16) (dc_nn (k := 33) aX8_lookAt_0 rfl) (by decide)
theorem dX8_lookAt_36 : decode cX8_lookAt 36 = .ok (.aload_n 0, 1) := dc_42 (dc_nn (k := 36) aX8_lookAt_0 rfl)
theorem dX8_lookAt_37 : decode cX8_lookAt 37 = .ok (.getfield 11, 3) := dc_180 (a0 := 0) (b0 := 11) (dc_nn (k := 37) aX8_lookAt_0 rfl)
theorem dX8_lookAt_40 : decode cX8_lookAt 40 = .ok (.aload_n 0, 1) := dc_42 aX8_lookAt_40
theorem dX8_lookAt_41 : decode cX8_lookAt 41 = .ok (.getfield 34, 3) := dc_180 (a0 := 0) (b0 := 34) (dc_nn (k := 1) aX8_lookAt_40 rfl)
theorem dX8_lookAt_44 : decode cX8_lookAt 44 = .ok (.aload_n 0, 1) := dc_42 (dc_nn (k := 4) aX8_lookAt_40 rfl)
theorem dX8_lookAt_45 : decode cX8_lookAt 45 = .ok (.getfield 26, 3) := dc_180 (a0 := 0) (b0 := 26) (dc_nn (k := 5) aX8_lookAt_40 rfl)
theorem dX8_lookAt_48 : decode cX8_lookAt 48 = .ok (.iastore, 1) := dc_79 (dc_nn (k := 8) aX8_lookAt_40 rfl)
theorem dX8_lookAt_49 : decode cX8_lookAt 49 = .ok (.aload_n 0, 1) := dc_42 (dc_nn (k := 9) aX8_lookAt_40 rfl)
theorem dX8_lookAt_50 : decode cX8_lookAt 50 = .ok (.dup, 1) := dc_89 (dc_nn (k := 10) aX8_lookAt_40 rfl)
theorem dX8_lookAt_51 : decode cX8_lookAt 51 = .ok (.getfield 34, 3) := dc_180 (a0 := 0) (b0 := 34) (dc_nn (k := 11) aX8_lookAt_40 rfl)
theorem dX8_lookAt_54 : decode cX8_lookAt 54 = .ok (.iconst 1, 1) := dc_4 (dc_nn (k := 14) aX8_lookAt_40 rfl)
theorem dX8_lookAt_55 : decode cX8_lookAt 55 = .ok (.iadd, 1) := dc_96 (dc_nn (k := 15) aX8_lookAt_40 rfl)
theorem dX8_lookAt_56 : decode cX8_lookAt 56 = .ok (.putfield 34, 3) := dc_181 (a0 := 0) (b0 := 34) (dc_nn (k := 16) aX8_lookAt_40 rfl)
theorem dX8_lookAt_59 : decode cX8_lookAt 59 = .ok (.aload_n 0, 1) := dc_42 (dc_nn (k := 19) aX8_lookAt_40 rfl)
theorem dX8_lookAt_60 : decode cX8_lookAt 60 = .ok (.aload_n 0, 1) := dc_42 (dc_nn (k := 20) aX8_lookAt_40 rfl)
theorem dX8_lookAt_61 : decode cX8_lookAt 61 = .ok (.getfield 26, 3) := dc_180 (a0 := 0) (b0 := 26) (dc_nn (k := 21) aX8_lookAt_40 rfl)
theorem dX8_lookAt_64 : decode cX8_lookAt 64 = .ok (.putfield 37, 3) := dc_181 (a0 := 0) (b0 := 37) (dc_nn (k := 24) aX8_lookAt_40 rfl)
theorem dX8_lookAt_67 : decode cX8_lookAt 67 = .ok (.return_, 1) := dc_177 (dc_nn (k := 27) aX8_lookAt_40 rfl)
noncomputable def sX8_howManyKept_0 : List Nat := 42 :: 180 :: 0 :: 34 :: 16 :: 20 :: 184 :: 0 :: 55 :: 172 :: []
theorem aX8_howManyKept_0 : dc_at cX8_howManyKept 0 sX8_howManyKept_0 := dc_base (by decide +kernel)
theorem dX8_howManyKept_0 : decode cX8_howManyKept 0 = .ok (.aload_n 0, 1) := dc_42 aX8_howManyKept_0
theorem dX8_howManyKept_1 : decode cX8_howManyKept 1 = .ok (.getfield 34, 3) := dc_180 (a0 := 0) (b0 := 34) (dc_nn (k := 1) aX8_howManyKept_0 rfl)
theorem dX8_howManyKept_4 : decode cX8_howManyKept 4 = .ok (.bipush 20, 2) := dc_16 (a0 := 20) (dc_nn (k := 4) aX8_howManyKept_0 rfl) (by decide)
theorem dX8_howManyKept_6 : decode cX8_howManyKept 6 = .ok (.invokestatic 55, 3) := dc_184 (a0 := 0) (b0 := 55) (dc_nn (k := 6) aX8_howManyKept_0 rfl)
theorem dX8_howManyKept_9 : decode cX8_howManyKept 9 = .ok (.ireturn, 1) := dc_172 (dc_nn (k := 9) aX8_howManyKept_0 rfl)
noncomputable def sX8_keptDay_0 : List Nat := 27 :: 155 :: 0 :: 18 :: 27 :: 16 :: 20 :: 162 :: 0 :: 12 :: 42 :: 180 :: 0 :: 11 :: 27 :: 46 :: 167 :: 0 :: 4 :: 2 :: 172 :: []
theorem aX8_keptDay_0 : dc_at cX8_keptDay 0 sX8_keptDay_0 := dc_base (by decide +kernel)
theorem dX8_keptDay_0 : decode cX8_keptDay 0 = .ok (.iload_n 1, 1) := dc_27 aX8_keptDay_0
theorem dX8_keptDay_1 : decode cX8_keptDay 1 = .ok (.ifCond .lt 18, 3) := dc_155 (a0 := 0) (b0 := 18) (dc_nn (k := 1) aX8_keptDay_0 rfl) (by decide)
theorem dX8_keptDay_4 : decode cX8_keptDay 4 = .ok (.iload_n 1, 1) := dc_27 (dc_nn (k := 4) aX8_keptDay_0 rfl)
theorem dX8_keptDay_5 : decode cX8_keptDay 5 = .ok (.bipush 20, 2) := dc_16 (a0 := 20) (dc_nn (k := 5) aX8_keptDay_0 rfl) (by decide)
theorem dX8_keptDay_7 : decode cX8_keptDay 7 = .ok (.if_icmp .ge 12, 3) := dc_162 (a0 := 0) (b0 := 12) (dc_nn (k := 7) aX8_keptDay_0 rfl) (by decide)
theorem dX8_keptDay_10 : decode cX8_keptDay 10 = .ok (.aload_n 0, 1) := dc_42 (dc_nn (k := 10) aX8_keptDay_0 rfl)
theorem dX8_keptDay_11 : decode cX8_keptDay 11 = .ok (.getfield 11, 3) := dc_180 (a0 := 0) (b0 := 11) (dc_nn (k := 11) aX8_keptDay_0 rfl)
theorem dX8_keptDay_14 : decode cX8_keptDay 14 = .ok (.iload_n 1, 1) := dc_27 (dc_nn (k := 14) aX8_keptDay_0 rfl)
theorem dX8_keptDay_15 : decode cX8_keptDay 15 = .ok (.iaload, 1) := dc_46 (dc_nn (k := 15) aX8_keptDay_0 rfl)
theorem dX8_keptDay_16 : decode cX8_keptDay 16 = .ok (.goto 4, 3) := dc_167 (a0 := 0) (b0 := 4) (dc_nn (k := 16) aX8_keptDay_0 rfl) (by decide)
theorem dX8_keptDay_19 : decode cX8_keptDay 19 = .ok (.iconst (-1), 1) := dc_2 (dc_nn (k := 19) aX8_keptDay_0 rfl)
theorem dX8_keptDay_20 : decode cX8_keptDay 20 = .ok (.ireturn, 1) := dc_172 (dc_nn (k := 20) aX8_keptDay_0 rfl)
noncomputable def sX9_init_0 : List Nat := 42 :: 183 :: 0 :: 3 :: 42 :: 17 :: 2 :: 88 :: 188 :: 8 :: 181 :: 0 :: 11 :: 42 :: 2 :: 181 :: 0 :: 15 :: 177 :: []
theorem aX9_init_0 : dc_at cX9_init 0 sX9_init_0 := dc_base (by decide +kernel)
theorem dX9_init_0 : decode cX9_init 0 = .ok (.aload_n 0, 1) := dc_42 aX9_init_0
theorem dX9_init_1 : decode cX9_init 1 = .ok (.invokespecial 3, 3) := dc_183 (a0 := 0) (b0 := 3) (dc_nn (k := 1) aX9_init_0 rfl)
theorem dX9_init_4 : decode cX9_init 4 = .ok (.aload_n 0, 1) := dc_42 (dc_nn (k := 4) aX9_init_0 rfl)
theorem dX9_init_5 : decode cX9_init 5 = .ok (.sipush 600, 3) := dc_17 (a0 := 2) (b0 := 88) (dc_nn (k := 5) aX9_init_0 rfl) (by decide)
theorem dX9_init_8 : decode cX9_init 8 = .ok (.newarray .byte, 2) := dc_188_8 (dc_nn (k := 8) aX9_init_0 rfl)
theorem dX9_init_10 : decode cX9_init 10 = .ok (.putfield 11, 3) := dc_181 (a0 := 0) (b0 := 11) (dc_nn (k := 10) aX9_init_0 rfl)
theorem dX9_init_13 : decode cX9_init 13 = .ok (.aload_n 0, 1) := dc_42 (dc_nn (k := 13) aX9_init_0 rfl)
theorem dX9_init_14 : decode cX9_init 14 = .ok (.iconst (-1), 1) := dc_2 (dc_nn (k := 14) aX9_init_0 rfl)
theorem dX9_init_15 : decode cX9_init 15 = .ok (.putfield 15, 3) := dc_181 (a0 := 0) (b0 := 15) (dc_nn (k := 15) aX9_init_0 rfl)
theorem dX9_init_18 : decode cX9_init 18 = .ok (.return_, 1) := dc_177 (dc_nn (k := 18) aX9_init_0 rfl)
noncomputable def sX9_hasRoom_0 : List Nat := 42 :: 180 :: 0 :: 19 :: 17 :: 2 :: 68 :: 163 :: 0 :: 7 :: 4 :: 167 :: 0 :: 4 :: 3 :: 172 :: []
theorem aX9_hasRoom_0 : dc_at cX9_hasRoom 0 sX9_hasRoom_0 := dc_base (by decide +kernel)
theorem dX9_hasRoom_0 : decode cX9_hasRoom 0 = .ok (.aload_n 0, 1) := dc_42 aX9_hasRoom_0
theorem dX9_hasRoom_1 : decode cX9_hasRoom 1 = .ok (.getfield 19, 3) := dc_180 (a0 := 0) (b0 := 19) (dc_nn (k := 1) aX9_hasRoom_0 rfl)
theorem dX9_hasRoom_4 : decode cX9_hasRoom 4 = .ok (.sipush 580, 3) := dc_17 (a0 := 2) (b0 := 68) (dc_nn (k := 4) aX9_hasRoom_0 rfl) (by decide)
theorem dX9_hasRoom_7 : decode cX9_hasRoom 7 = .ok (.if_icmp .gt 7, 3) := dc_163 (a0 := 0) (b0 := 7) (dc_nn (k := 7) aX9_hasRoom_0 rfl) (by decide)
theorem dX9_hasRoom_10 : decode cX9_hasRoom 10 = .ok (.iconst 1, 1) := dc_4 (dc_nn (k := 10) aX9_hasRoom_0 rfl)
theorem dX9_hasRoom_11 : decode cX9_hasRoom 11 = .ok (.goto 4, 3) := dc_167 (a0 := 0) (b0 := 4) (dc_nn (k := 11) aX9_hasRoom_0 rfl) (by decide)
theorem dX9_hasRoom_14 : decode cX9_hasRoom 14 = .ok (.iconst 0, 1) := dc_3 (dc_nn (k := 14) aX9_hasRoom_0 rfl)
theorem dX9_hasRoom_15 : decode cX9_hasRoom 15 = .ok (.ireturn, 1) := dc_172 (dc_nn (k := 15) aX9_hasRoom_0 rfl)
noncomputable def sX9_put_40 : List Nat := 132 :: 2 :: 248 :: 167 :: 255 :: 216 :: 177 :: []
noncomputable def sX9_put_0 : List Nat := 16 :: 24 :: 61 :: 28 :: 155 :: 0 :: 42 :: 42 :: 180 :: 0 :: 19 :: 17 :: 2 :: 88 :: 162 :: 0 :: 32 :: 42 :: 180 :: 0 :: 11 :: 42 :: 180 :: 0 :: 19 :: 27 :: 28 :: 122 :: 145 :: 84 :: 42 :: 89 :: 180 :: 0 :: 19 :: 4 :: 96 :: 181 :: 0 :: 19 :: sX9_put_40
theorem aX9_put_0 : dc_at cX9_put 0 sX9_put_0 := dc_base (by decide +kernel)
theorem aX9_put_40 : dc_at cX9_put 40 sX9_put_40 := dc_nn (k := 40) aX9_put_0 rfl
theorem dX9_put_0 : decode cX9_put 0 = .ok (.bipush 24, 2) := dc_16 (a0 := 24) aX9_put_0 (by decide)
theorem dX9_put_2 : decode cX9_put 2 = .ok (.istore_n 2, 1) := dc_61 (dc_nn (k := 2) aX9_put_0 rfl)
theorem dX9_put_3 : decode cX9_put 3 = .ok (.iload_n 2, 1) := dc_28 (dc_nn (k := 3) aX9_put_0 rfl)
theorem dX9_put_4 : decode cX9_put 4 = .ok (.ifCond .lt 42, 3) := dc_155 (a0 := 0) (b0 := 42) (dc_nn (k := 4) aX9_put_0 rfl) (by decide)
theorem dX9_put_7 : decode cX9_put 7 = .ok (.aload_n 0, 1) := dc_42 (dc_nn (k := 7) aX9_put_0 rfl)
theorem dX9_put_8 : decode cX9_put 8 = .ok (.getfield 19, 3) := dc_180 (a0 := 0) (b0 := 19) (dc_nn (k := 8) aX9_put_0 rfl)
theorem dX9_put_11 : decode cX9_put 11 = .ok (.sipush 600, 3) := dc_17 (a0 := 2) (b0 := 88) (dc_nn (k := 11) aX9_put_0 rfl) (by decide)
theorem dX9_put_14 : decode cX9_put 14 = .ok (.if_icmp .ge 32, 3) := dc_162 (a0 := 0) (b0 := 32) (dc_nn (k := 14) aX9_put_0 rfl) (by decide)
theorem dX9_put_17 : decode cX9_put 17 = .ok (.aload_n 0, 1) := dc_42 (dc_nn (k := 17) aX9_put_0 rfl)
theorem dX9_put_18 : decode cX9_put 18 = .ok (.getfield 11, 3) := dc_180 (a0 := 0) (b0 := 11) (dc_nn (k := 18) aX9_put_0 rfl)
theorem dX9_put_21 : decode cX9_put 21 = .ok (.aload_n 0, 1) := dc_42 (dc_nn (k := 21) aX9_put_0 rfl)
theorem dX9_put_22 : decode cX9_put 22 = .ok (.getfield 19, 3) := dc_180 (a0 := 0) (b0 := 19) (dc_nn (k := 22) aX9_put_0 rfl)
theorem dX9_put_25 : decode cX9_put 25 = .ok (.iload_n 1, 1) := dc_27 (dc_nn (k := 25) aX9_put_0 rfl)
theorem dX9_put_26 : decode cX9_put 26 = .ok (.iload_n 2, 1) := dc_28 (dc_nn (k := 26) aX9_put_0 rfl)
theorem dX9_put_27 : decode cX9_put 27 = .ok (.ishr, 1) := dc_122 (dc_nn (k := 27) aX9_put_0 rfl)
theorem dX9_put_28 : decode cX9_put 28 = .ok (.i2b, 1) := dc_145 (dc_nn (k := 28) aX9_put_0 rfl)
theorem dX9_put_29 : decode cX9_put 29 = .ok (.bastore, 1) := dc_84 (dc_nn (k := 29) aX9_put_0 rfl)
theorem dX9_put_30 : decode cX9_put 30 = .ok (.aload_n 0, 1) := dc_42 (dc_nn (k := 30) aX9_put_0 rfl)
theorem dX9_put_31 : decode cX9_put 31 = .ok (.dup, 1) := dc_89 (dc_nn (k := 31) aX9_put_0 rfl)
theorem dX9_put_32 : decode cX9_put 32 = .ok (.getfield 19, 3) := dc_180 (a0 := 0) (b0 := 19) (dc_nn (k := 32) aX9_put_0 rfl)
theorem dX9_put_35 : decode cX9_put 35 = .ok (.iconst 1, 1) := dc_4 (dc_nn (k := 35) aX9_put_0 rfl)
theorem dX9_put_36 : decode cX9_put 36 = .ok (.iadd, 1) := dc_96 (dc_nn (k := 36) aX9_put_0 rfl)
theorem dX9_put_37 : decode cX9_put 37 = .ok (.putfield 19, 3) := dc_181 (a0 := 0) (b0 := 19) (dc_nn (k := 37) aX9_put_0 rfl)
theorem dX9_put_40 : decode cX9_put 40 = .ok (.iinc 2 (-8), 3) := dc_132 (a0 := 2) (a1 := 248) aX9_put_40 (by decide)
theorem dX9_put_43 : decode cX9_put 43 = .ok (.goto (-40), 3) := dc_167 (a0 := 255) (b0 := 216) (dc_nn (k := 3) aX9_put_40 rfl) (by decide)
theorem dX9_put_46 : decode cX9_put 46 = .ok (.return_, 1) := dc_177 (dc_nn (k := 6) aX9_put_40 rfl)
set_option maxRecDepth 20000 in
theorem ggX9_begin_X9_step : GoodIn wsX9_begin wsX9_step := goodIn_k _ [[14], [7], [6, 8, 0, 0, 0, 0, 0], [13, 7, 0, 0, 0, 0, 0, 0, 0, 0, 0, 0, 0, 0, 0, 0, 0, 0]] (by rfl) (by decide +kernel)
set_option maxRecDepth 20000 in
theorem gX9_begin_X9_step : GoodIn wsX9_begin (wsV RX9 37 RX9 yX9_step wsX9_step) := goodIn_app (goodIn_k _ [[10, 0, 0, 0]] (by rfl) (gw_V _ _ _ _)) ggX9_begin_X9_step
noncomputable def sX9_begin_0 : List Nat := 42 :: 27 :: 42 :: 180 :: 0 :: 19 :: 184 :: 0 :: 22 :: 181 :: 0 :: 28 :: 42 :: 3 :: 181 :: 0 :: 19 :: 42 :: 3 :: 181 :: 0 :: 31 :: 42 :: 3 :: 181 :: 0 :: 34 :: 42 :: 2 :: 181 :: 0 :: 15 :: 42 :: 182 :: 0 :: 37 :: 177 :: []
theorem aX9_begin_0 : dc_at cX9_begin 0 sX9_begin_0 := dc_base (by decide +kernel)
theorem dX9_begin_0 : decode cX9_begin 0 = .ok (.aload_n 0, 1) := dc_42 aX9_begin_0
theorem dX9_begin_1 : decode cX9_begin 1 = .ok (.iload_n 1, 1) := dc_27 (dc_nn (k := 1) aX9_begin_0 rfl)
theorem dX9_begin_2 : decode cX9_begin 2 = .ok (.aload_n 0, 1) := dc_42 (dc_nn (k := 2) aX9_begin_0 rfl)
theorem dX9_begin_3 : decode cX9_begin 3 = .ok (.getfield 19, 3) := dc_180 (a0 := 0) (b0 := 19) (dc_nn (k := 3) aX9_begin_0 rfl)
theorem dX9_begin_6 : decode cX9_begin 6 = .ok (.invokestatic 22, 3) := dc_184 (a0 := 0) (b0 := 22) (dc_nn (k := 6) aX9_begin_0 rfl)
theorem dX9_begin_9 : decode cX9_begin 9 = .ok (.putfield 28, 3) := dc_181 (a0 := 0) (b0 := 28) (dc_nn (k := 9) aX9_begin_0 rfl)
theorem dX9_begin_12 : decode cX9_begin 12 = .ok (.aload_n 0, 1) := dc_42 (dc_nn (k := 12) aX9_begin_0 rfl)
theorem dX9_begin_13 : decode cX9_begin 13 = .ok (.iconst 0, 1) := dc_3 (dc_nn (k := 13) aX9_begin_0 rfl)
theorem dX9_begin_14 : decode cX9_begin 14 = .ok (.putfield 19, 3) := dc_181 (a0 := 0) (b0 := 19) (dc_nn (k := 14) aX9_begin_0 rfl)
theorem dX9_begin_17 : decode cX9_begin 17 = .ok (.aload_n 0, 1) := dc_42 (dc_nn (k := 17) aX9_begin_0 rfl)
theorem dX9_begin_18 : decode cX9_begin 18 = .ok (.iconst 0, 1) := dc_3 (dc_nn (k := 18) aX9_begin_0 rfl)
theorem dX9_begin_19 : decode cX9_begin 19 = .ok (.putfield 31, 3) := dc_181 (a0 := 0) (b0 := 31) (dc_nn (k := 19) aX9_begin_0 rfl)
theorem dX9_begin_22 : decode cX9_begin 22 = .ok (.aload_n 0, 1) := dc_42 (dc_nn (k := 22) aX9_begin_0 rfl)
theorem dX9_begin_23 : decode cX9_begin 23 = .ok (.iconst 0, 1) := dc_3 (dc_nn (k := 23) aX9_begin_0 rfl)
theorem dX9_begin_24 : decode cX9_begin 24 = .ok (.putfield 34, 3) := dc_181 (a0 := 0) (b0 := 34) (dc_nn (k := 24) aX9_begin_0 rfl)
theorem dX9_begin_27 : decode cX9_begin 27 = .ok (.aload_n 0, 1) := dc_42 (dc_nn (k := 27) aX9_begin_0 rfl)
theorem dX9_begin_28 : decode cX9_begin 28 = .ok (.iconst (-1), 1) := dc_2 (dc_nn (k := 28) aX9_begin_0 rfl)
theorem dX9_begin_29 : decode cX9_begin 29 = .ok (.putfield 15, 3) := dc_181 (a0 := 0) (b0 := 15) (dc_nn (k := 29) aX9_begin_0 rfl)
theorem dX9_begin_32 : decode cX9_begin 32 = .ok (.aload_n 0, 1) := dc_42 (dc_nn (k := 32) aX9_begin_0 rfl)
theorem dX9_begin_33 : decode cX9_begin 33 = .ok (.invokevirtual 37, 3) := dc_182 (a0 := 0) (b0 := 37) (dc_nn (k := 33) aX9_begin_0 rfl)
theorem dX9_begin_36 : decode cX9_begin 36 = .ok (.return_, 1) := dc_177 (dc_nn (k := 36) aX9_begin_0 rfl)
noncomputable def sX9_isAtEnd_0 : List Nat := 42 :: 180 :: 0 :: 40 :: 154 :: 0 :: 7 :: 4 :: 167 :: 0 :: 4 :: 3 :: 172 :: []
theorem aX9_isAtEnd_0 : dc_at cX9_isAtEnd 0 sX9_isAtEnd_0 := dc_base (by decide +kernel)
theorem dX9_isAtEnd_0 : decode cX9_isAtEnd 0 = .ok (.aload_n 0, 1) := dc_42 aX9_isAtEnd_0
theorem dX9_isAtEnd_1 : decode cX9_isAtEnd 1 = .ok (.getfield 40, 3) := dc_180 (a0 := 0) (b0 := 40) (dc_nn (k := 1) aX9_isAtEnd_0 rfl)
theorem dX9_isAtEnd_4 : decode cX9_isAtEnd 4 = .ok (.ifCond .ne 7, 3) := dc_154 (a0 := 0) (b0 := 7) (dc_nn (k := 4) aX9_isAtEnd_0 rfl) (by decide)
theorem dX9_isAtEnd_7 : decode cX9_isAtEnd 7 = .ok (.iconst 1, 1) := dc_4 (dc_nn (k := 7) aX9_isAtEnd_0 rfl)
theorem dX9_isAtEnd_8 : decode cX9_isAtEnd 8 = .ok (.goto 4, 3) := dc_167 (a0 := 0) (b0 := 4) (dc_nn (k := 8) aX9_isAtEnd_0 rfl) (by decide)
theorem dX9_isAtEnd_11 : decode cX9_isAtEnd 11 = .ok (.iconst 0, 1) := dc_3 (dc_nn (k := 11) aX9_isAtEnd_0 rfl)
theorem dX9_isAtEnd_12 : decode cX9_isAtEnd 12 = .ok (.ireturn, 1) := dc_172 (dc_nn (k := 12) aX9_isAtEnd_0 rfl)
set_option maxRecDepth 20000 in
theorem ggX9_step_X9_isBlank : GoodIn wsX9_step wsX9_isBlank := goodIn_k _ [[10]] (by rfl) (by decide +kernel)
set_option maxRecDepth 20000 in
theorem gX9_step_X9_isBlank : GoodIn wsX9_step (va_wsS RX9 43 yX9_isBlank wsX9_isBlank) := goodIn_app (goodIn_k _ [[7, 0, 0]] (by rfl) (gw_S _ _ _ _)) ggX9_step_X9_isBlank
set_option maxRecDepth 20000 in
theorem ggX9_step_X9_isLetter : GoodIn wsX9_step wsX9_isLetter := goodIn_k _ [[13]] (by rfl) (by decide +kernel)
set_option maxRecDepth 20000 in
theorem gX9_step_X9_isLetter : GoodIn wsX9_step (va_wsS RX9 50 yX9_isLetter wsX9_isLetter) := goodIn_app (goodIn_k _ [[11, 0], [9]] (by rfl) (gw_S _ _ _ _)) ggX9_step_X9_isLetter
set_option maxRecDepth 20000 in
theorem ggX9_step_X9_isDigit : GoodIn wsX9_step wsX9_isDigit := goodIn_k _ [[16]] (by rfl) (by decide +kernel)
set_option maxRecDepth 20000 in
theorem gX9_step_X9_isDigit : GoodIn wsX9_step (va_wsS RX9 53 yX9_isDigit wsX9_isDigit) := goodIn_app (goodIn_k _ [[14, 0], [9]] (by rfl) (gw_S _ _ _ _)) ggX9_step_X9_isDigit
noncomputable def sX9_step_243 : List Nat := 51 :: 16 :: 59 :: 160 :: 0 :: 7 :: 6 :: 167 :: 0 :: 4 :: 7 :: 181 :: 0 :: 40 :: 42 :: 89 :: 180 :: 0 :: 31 :: 4 :: 96 :: 181 :: 0 :: 31 :: 177 :: []
noncomputable def sX9_step_202 : List Nat := 42 :: 180 :: 0 :: 31 :: 51 :: 96 :: 16 :: 48 :: 100 :: 167 :: 0 :: 7 :: 42 :: 180 :: 0 :: 56 :: 181 :: 0 :: 56 :: 42 :: 89 :: 180 :: 0 :: 31 :: 4 :: 96 :: 181 :: 0 :: 31 :: 167 :: 255 :: 175 :: 42 :: 42 :: 180 :: 0 :: 11 :: 42 :: 180 :: 0 :: 31 :: sX9_step_243
noncomputable def sX9_step_162 : List Nat := 180 :: 0 :: 11 :: 42 :: 180 :: 0 :: 31 :: 51 :: 184 :: 0 :: 53 :: 153 :: 0 :: 94 :: 42 :: 42 :: 180 :: 0 :: 31 :: 42 :: 180 :: 0 :: 47 :: 100 :: 16 :: 7 :: 162 :: 0 :: 26 :: 16 :: 10 :: 42 :: 180 :: 0 :: 56 :: 104 :: 42 :: 180 :: 0 :: 11 :: sX9_step_202
noncomputable def sX9_step_122 : List Nat := 167 :: 255 :: 220 :: 42 :: 180 :: 0 :: 11 :: 42 :: 180 :: 0 :: 31 :: 51 :: 184 :: 0 :: 53 :: 153 :: 0 :: 97 :: 42 :: 5 :: 181 :: 0 :: 40 :: 42 :: 3 :: 181 :: 0 :: 56 :: 42 :: 180 :: 0 :: 31 :: 42 :: 180 :: 0 :: 28 :: 162 :: 0 :: 109 :: 42 :: sX9_step_162
noncomputable def sX9_step_81 : List Nat := 42 :: 4 :: 181 :: 0 :: 40 :: 42 :: 180 :: 0 :: 31 :: 42 :: 180 :: 0 :: 28 :: 162 :: 0 :: 173 :: 42 :: 180 :: 0 :: 11 :: 42 :: 180 :: 0 :: 31 :: 51 :: 184 :: 0 :: 50 :: 153 :: 0 :: 158 :: 42 :: 89 :: 180 :: 0 :: 31 :: 4 :: 96 :: 181 :: 0 :: 31 :: sX9_step_122
noncomputable def sX9_step_40 : List Nat := 42 :: 180 :: 0 :: 31 :: 181 :: 0 :: 47 :: 42 :: 180 :: 0 :: 31 :: 42 :: 180 :: 0 :: 28 :: 161 :: 0 :: 11 :: 42 :: 3 :: 181 :: 0 :: 40 :: 167 :: 0 :: 204 :: 42 :: 180 :: 0 :: 11 :: 42 :: 180 :: 0 :: 31 :: 51 :: 184 :: 0 :: 50 :: 153 :: 0 :: 47 :: sX9_step_81
noncomputable def sX9_step_0 : List Nat := 42 :: 180 :: 0 :: 31 :: 42 :: 180 :: 0 :: 28 :: 162 :: 0 :: 31 :: 42 :: 180 :: 0 :: 11 :: 42 :: 180 :: 0 :: 31 :: 51 :: 184 :: 0 :: 43 :: 153 :: 0 :: 16 :: 42 :: 89 :: 180 :: 0 :: 31 :: 4 :: 96 :: 181 :: 0 :: 31 :: 167 :: 255 :: 220 :: 42 :: sX9_step_40
theorem aX9_step_0 : dc_at cX9_step 0 sX9_step_0 := dc_base (by decide +kernel)
theorem aX9_step_40 : dc_at cX9_step 40 sX9_step_40 := dc_nn (k := 40) aX9_step_0 rfl
theorem aX9_step_81 : dc_at cX9_step 81 sX9_step_81 := dc_nn (k := 41) aX9_step_40 rfl
theorem aX9_step_122 : dc_at cX9_step 122 sX9_step_122 := dc_nn (k := 41) aX9_step_81 rfl
theorem aX9_step_162 : dc_at cX9_step 162 sX9_step_162 := dc_nn (k := 40) aX9_step_122 rfl
theorem aX9_step_202 : dc_at cX9_step 202 sX9_step_202 := dc_nn (k := 40) aX9_step_162 rfl
theorem aX9_step_243 : dc_at cX9_step 243 sX9_step_243 := dc_nn (k := 41) aX9_step_202 rfl
theorem dX9_step_0 : decode cX9_step 0 = .ok (.aload_n 0, 1) := dc_42 aX9_step_0
theorem dX9_step_1 : decode cX9_step 1 = .ok (.getfield 31, 3) := dc_180 (a0 := 0) (b0 := 31) (dc_nn (k := 1) aX9_step_0 rfl)
theorem dX9_step_4 : decode cX9_step 4 = .ok (.aload_n 0, 1) := dc_42 (dc_nn (k := 4) aX9_step_0 rfl)
theorem dX9_step_5 : decode cX9_step 5 = .ok (.getfield 28, 3) := dc_180 (a0 := 0) (b0 := 28) (dc_nn (k := 5) aX9_step_0 rfl)
theorem dX9_step_8 : decode cX9_step 8 = .ok (.if_icmp .ge 31, 3) := dc_162 (a0 := 0) (b0 := 31) (dc_nn (k := 8) aX9_step_0 rfl) (by decide)
theorem dX9_step_11 : decode cX9_step 11 = .ok (.aload_n 0, 1) := dc_42 (dc_nn (k := 11) aX9_step_0 rfl)
theorem dX9_step_12 : decode cX9_step 12 = .ok (.getfield 11, 3) := dc_180 (a0 := 0) (b0 := 11) (dc_nn (k := 12) aX9_step_0 rfl)
theorem dX9_step_15 : decode cX9_step 15 = .ok (.aload_n 0, 1) := dc_42 (dc_nn (k := 15) aX9_step_0 rfl)
theorem dX9_step_16 : decode cX9_step 16 = .ok (.getfield 31, 3) := dc_180 (a0 := 0) (b0 := 31) (dc_nn (k := 16) aX9_step_0 rfl)
theorem dX9_step_19 : decode cX9_step 19 = .ok (.baload, 1) := dc_51 (dc_nn (k := 19) aX9_step_0 rfl)
theorem dX9_step_20 : decode cX9_step 20 = .ok (.invokestatic 43, 3) := dc_184 (a0 := 0) (b0 := 43) (dc_nn (k := 20) aX9_step_0 rfl)
theorem dX9_step_23 : decode cX9_step 23 = .ok (.ifCond .eq 16, 3) := dc_153 (a0 := 0) (b0 := 16) (dc_nn (k := 23) aX9_step_0 rfl) (by decide)
theorem dX9_step_26 : decode cX9_step 26 = .ok (.aload_n 0, 1) := dc_42 (dc_nn (k := 26) aX9_step_0 rfl)
theorem dX9_step_27 : decode cX9_step 27 = .ok (.dup, 1) := dc_89 (dc_nn (k := 27) aX9_step_0 rfl)
theorem dX9_step_28 : decode cX9_step 28 = .ok (.getfield 31, 3) := dc_180 (a0 := 0) (b0 := 31) (dc_nn (k := 28) aX9_step_0 rfl)
theorem dX9_step_31 : decode cX9_step 31 = .ok (.iconst 1, 1) := dc_4 (dc_nn (k := 31) aX9_step_0 rfl)
theorem dX9_step_32 : decode cX9_step 32 = .ok (.iadd, 1) := dc_96 (dc_nn (k := 32) aX9_step_0 rfl)
theorem dX9_step_33 : decode cX9_step 33 = .ok (.putfield 31, 3) := dc_181 (a0 := 0) (b0 := 31) (dc_nn (k := 33) aX9_step_0 rfl)
theorem dX9_step_36 : decode cX9_step 36 = .ok (.goto (-36), 3) := dc_167 (a0 := 255) (b0 := 220) (dc_nn (k := 36) aX9_step_0 rfl) (by decide)
theorem dX9_step_39 : decode cX9_step 39 = .ok (.aload_n 0, 1) := dc_42 (dc_nn (k := 39) aX9_step_0 rfl)
theorem dX9_step_40 : decode cX9_step 40 = .ok (.aload_n 0, 1) := dc_42 aX9_step_40
theorem dX9_step_41 : decode cX9_step 41 = .ok (.getfield 31, 3) := dc_180 (a0 := 0) (b0 := 31) (dc_nn (k := 1) aX9_step_40 rfl)
theorem dX9_step_44 : decode cX9_step 44 = .ok (.putfield 47, 3) := dc_181 (a0 := 0) (b0 := 47) (dc_nn (k := 4) aX9_step_40 rfl)
theorem dX9_step_47 : decode cX9_step 47 = .ok (.aload_n 0, 1) := dc_42 (dc_nn (k := 7) aX9_step_40 rfl)
theorem dX9_step_48 : decode cX9_step 48 = .ok (.getfield 31, 3) := dc_180 (a0 := 0) (b0 := 31) (dc_nn (k := 8) aX9_step_40 rfl)
theorem dX9_step_51 : decode cX9_step 51 = .ok (.aload_n 0, 1) := dc_42 (dc_nn (k := 11) aX9_step_40 rfl)
theorem dX9_step_52 : decode cX9_step 52 = .ok (.getfield 28, 3) := dc_180 (a0 := 0) (b0 := 28) (dc_nn (k := 12) aX9_step_40 rfl)
theorem dX9_step_55 : decode cX9_step 55 = .ok (.if_icmp .lt 11, 3) := dc_161 (a0 := 0) (b0 := 11) (dc_nn (k := 15) aX9_step_40 rfl) (by decide)
theorem dX9_step_58 : decode cX9_step 58 = .ok (.aload_n 0, 1) := dc_42 (dc_nn (k := 18) aX9_step_40 rfl)
theorem dX9_step_59 : decode cX9_step 59 = .ok (.iconst 0, 1) := dc_3 (dc_nn (k := 19) aX9_step_40 rfl)
theorem dX9_step_60 : decode cX9_step 60 = .ok (.putfield 40, 3) := dc_181 (a0 := 0) (b0 := 40) (dc_nn (k := 20) aX9_step_40 rfl)
theorem dX9_step_63 : decode cX9_step 63 = .ok (.goto 204, 3) := dc_167 (a0 := 0) (b0 := 204) (dc_nn (k := 23) aX9_step_40 rfl) (by decide)
theorem dX9_step_66 : decode cX9_step 66 = .ok (.aload_n 0, 1) := dc_42 (dc_nn (k := 26) aX9_step_40 rfl)
theorem dX9_step_67 : decode cX9_step 67 = .ok (.getfield 11, 3) := dc_180 (a0 := 0) (b0 := 11) (dc_nn (k := 27) aX9_step_40 rfl)
theorem dX9_step_70 : decode cX9_step 70 = .ok (.aload_n 0, 1) := dc_42 (dc_nn (k := 30) aX9_step_40 rfl)
theorem dX9_step_71 : decode cX9_step 71 = .ok (.getfield 31, 3) := dc_180 (a0 := 0) (b0 := 31) (dc_nn (k := 31) aX9_step_40 rfl)
theorem dX9_step_74 : decode cX9_step 74 = .ok (.baload, 1) := dc_51 (dc_nn (k := 34) aX9_step_40 rfl)
theorem dX9_step_75 : decode cX9_step 75 = .ok (.invokestatic 50, 3) := dc_184 (a0 := 0) (b0 := 50) (dc_nn (k := 35) aX9_step_40 rfl)
theorem dX9_step_78 : decode cX9_step 78 = .ok (.ifCond .eq 47, 3) := dc_153 (a0 := 0) (b0 := 47) (dc_nn (k := 38) aX9_step_40 rfl) (by decide)
theorem dX9_step_81 : decode cX9_step 81 = .ok (.aload_n 0, 1) := dc_42 aX9_step_81
theorem dX9_step_82 : decode cX9_step 82 = .ok (.iconst 1, 1) := dc_4 (dc_nn (k := 1) aX9_step_81 rfl)
theorem dX9_step_83 : decode cX9_step 83 = .ok (.putfield 40, 3) := dc_181 (a0 := 0) (b0 := 40) (dc_nn (k := 2) aX9_step_81 rfl)
theorem dX9_step_86 : decode cX9_step 86 = .ok (.aload_n 0, 1) := dc_42 (dc_nn (k := 5) aX9_step_81 rfl)
theorem dX9_step_87 : decode cX9_step 87 = .ok (.getfield 31, 3) := dc_180 (a0 := 0) (b0 := 31) (dc_nn (k := 6) aX9_step_81 rfl)
theorem dX9_step_90 : decode cX9_step 90 = .ok (.aload_n 0, 1) := dc_42 (dc_nn (k := 9) aX9_step_81 rfl)
theorem dX9_step_91 : decode cX9_step 91 = .ok (.getfield 28, 3) := dc_180 (a0 := 0) (b0 := 28) (dc_nn (k := 10) aX9_step_81 rfl)
theorem dX9_step_94 : decode cX9_step 94 = .ok (.if_icmp .ge 173, 3) := dc_162 (a0 := 0) (b0 := 173) (dc_nn (k := 13) aX9_step_81 rfl) (by decide)
theorem dX9_step_97 : decode cX9_step 97 = .ok (.aload_n 0, 1) := dc_42 (dc_nn (k := 16) aX9_step_81 rfl)
theorem dX9_step_98 : decode cX9_step 98 = .ok (.getfield 11, 3) := dc_180 (a0 := 0) (b0 := 11) (dc_nn (k := 17) aX9_step_81 rfl)
theorem dX9_step_101 : decode cX9_step 101 = .ok (.aload_n 0, 1) := dc_42 (dc_nn (k := 20) aX9_step_81 rfl)
theorem dX9_step_102 : decode cX9_step 102 = .ok (.getfield 31, 3) := dc_180 (a0 := 0) (b0 := 31) (dc_nn (k := 21) aX9_step_81 rfl)
theorem dX9_step_105 : decode cX9_step 105 = .ok (.baload, 1) := dc_51 (dc_nn (k := 24) aX9_step_81 rfl)
theorem dX9_step_106 : decode cX9_step 106 = .ok (.invokestatic 50, 3) := dc_184 (a0 := 0) (b0 := 50) (dc_nn (k := 25) aX9_step_81 rfl)
theorem dX9_step_109 : decode cX9_step 109 = .ok (.ifCond .eq 158, 3) := dc_153 (a0 := 0) (b0 := 158) (dc_nn (k := 28) aX9_step_81 rfl) (by decide)
theorem dX9_step_112 : decode cX9_step 112 = .ok (.aload_n 0, 1) := dc_42 (dc_nn (k := 31) aX9_step_81 rfl)
theorem dX9_step_113 : decode cX9_step 113 = .ok (.dup, 1) := dc_89 (dc_nn (k := 32) aX9_step_81 rfl)
theorem dX9_step_114 : decode cX9_step 114 = .ok (.getfield 31, 3) := dc_180 (a0 := 0) (b0 := 31) (dc_nn (k := 33) aX9_step_81 rfl)
theorem dX9_step_117 : decode cX9_step 117 = .ok (.iconst 1, 1) := dc_4 (dc_nn (k := 36) aX9_step_81 rfl)
theorem dX9_step_118 : decode cX9_step 118 = .ok (.iadd, 1) := dc_96 (dc_nn (k := 37) aX9_step_81 rfl)
theorem dX9_step_119 : decode cX9_step 119 = .ok (.putfield 31, 3) := dc_181 (a0 := 0) (b0 := 31) (dc_nn (k := 38) aX9_step_81 rfl)
theorem dX9_step_122 : decode cX9_step 122 = .ok (.goto (-36), 3) := dc_167 (a0 := 255) (b0 := 220) aX9_step_122 (by decide)
theorem dX9_step_125 : decode cX9_step 125 = .ok (.aload_n 0, 1) := dc_42 (dc_nn (k := 3) aX9_step_122 rfl)
theorem dX9_step_126 : decode cX9_step 126 = .ok (.getfield 11, 3) := dc_180 (a0 := 0) (b0 := 11) (dc_nn (k := 4) aX9_step_122 rfl)
theorem dX9_step_129 : decode cX9_step 129 = .ok (.aload_n 0, 1) := dc_42 (dc_nn (k := 7) aX9_step_122 rfl)
theorem dX9_step_130 : decode cX9_step 130 = .ok (.getfield 31, 3) := dc_180 (a0 := 0) (b0 := 31) (dc_nn (k := 8) aX9_step_122 rfl)
theorem dX9_step_133 : decode cX9_step 133 = .ok (.baload, 1) := dc_51 (dc_nn (k := 11) aX9_step_122 rfl)
theorem dX9_step_134 : decode cX9_step 134 = .ok (.invokestatic 53, 3) := dc_184 (a0 := 0) (b0 := 53) (dc_nn (k := 12) aX9_step_122 rfl)
theorem dX9_step_137 : decode cX9_step 137 = .ok (.ifCond .eq 97, 3) := dc_153 (a0 := 0) (b0 := 97) (dc_nn (k := 15) aX9_step_122 rfl) (by decide)
theorem dX9_step_140 : decode cX9_step 140 = .ok (.aload_n 0, 1) := dc_42 (dc_nn (k := 18) aX9_step_122 rfl)
theorem dX9_step_141 : decode cX9_step 141 = .ok (.iconst 2, 1) := dc_5 (dc_nn (k := 19) aX9_step_122 rfl)
theorem dX9_step_142 : decode cX9_step 142 = .ok (.putfield 40, 3) := dc_181 (a0 := 0) (b0 := 40) (dc_nn (k := 20) aX9_step_122 rfl)
theorem dX9_step_145 : decode cX9_step 145 = .ok (.aload_n 0, 1) := dc_42 (dc_nn (k := 23) aX9_step_122 rfl)
theorem dX9_step_146 : decode cX9_step 146 = .ok (.iconst 0, 1) := dc_3 (dc_nn (k := 24) aX9_step_122 rfl)
theorem dX9_step_147 : decode cX9_step 147 = .ok (.putfield 56, 3) := dc_181 (a0 := 0) (b0 := 56) (dc_nn (k := 25) aX9_step_122 rfl)
theorem dX9_step_150 : decode cX9_step 150 = .ok (.aload_n 0, 1) := dc_42 (dc_nn (k := 28) aX9_step_122 rfl)
theorem dX9_step_151 : decode cX9_step 151 = .ok (.getfield 31, 3) := dc_180 (a0 := 0) (b0 := 31) (dc_nn (k := 29) aX9_step_122 rfl)
theorem dX9_step_154 : decode cX9_step 154 = .ok (.aload_n 0, 1) := dc_42 (dc_nn (k := 32) aX9_step_122 rfl)
theorem dX9_step_155 : decode cX9_step 155 = .ok (.getfield 28, 3) := dc_180 (a0 := 0) (b0 := 28) (dc_nn (k := 33) aX9_step_122 rfl)
theorem dX9_step_158 : decode cX9_step 158 = .ok (.if_icmp .ge 109, 3) := dc_162 (a0 := 0) (b0 := 109) (dc_nn (k := 36) aX9_step_122 rfl) (by decide)
theorem dX9_step_161 : decode cX9_step 161 = .ok (.aload_n 0, 1) := dc_42 (dc_nn (k := 39) aX9_step_122 rfl)
theorem dX9_step_162 : decode cX9_step 162 = .ok (.getfield 11, 3) := dc_180 (a0 := 0) (b0 := 11) aX9_step_162
theorem dX9_step_165 : decode cX9_step 165 = .ok (.aload_n 0, 1) := dc_42 (dc_nn (k := 3) aX9_step_162 rfl)
theorem dX9_step_166 : decode cX9_step 166 = .ok (.getfield 31, 3) := dc_180 (a0 := 0) (b0 := 31) (dc_nn (k := 4) aX9_step_162 rfl)
theorem dX9_step_169 : decode cX9_step 169 = .ok (.baload, 1) := dc_51 (dc_nn (k := 7) aX9_step_162 rfl)
theorem dX9_step_170 : decode cX9_step 170 = .ok (.invokestatic 53, 3) := dc_184 (a0 := 0) (b0 := 53) (dc_nn (k := 8) aX9_step_162 rfl)
theorem dX9_step_173 : decode cX9_step 173 = .ok (.ifCond .eq 94, 3) := dc_153 (a0 := 0) (b0 := 94) (dc_nn (k := 11) aX9_step_162 rfl) (by decide)
theorem dX9_step_176 : decode cX9_step 176 = .ok (.aload_n 0, 1) := dc_42 (dc_nn (k := 14) aX9_step_162 rfl)
theorem dX9_step_177 : decode cX9_step 177 = .ok (.aload_n 0, 1) := dc_42 (dc_nn (k := 15) aX9_step_162 rfl)
theorem dX9_step_178 : decode cX9_step 178 = .ok (.getfield 31, 3) := dc_180 (a0 := 0) (b0 := 31) (dc_nn (k := 16) aX9_step_162 rfl)
theorem dX9_step_181 : decode cX9_step 181 = .ok (.aload_n 0, 1) := dc_42 (dc_nn (k := 19) aX9_step_162 rfl)
theorem dX9_step_182 : decode cX9_step 182 = .ok (.getfield 47, 3) := dc_180 (a0 := 0) (b0 := 47) (dc_nn (k := 20) aX9_step_162 rfl)
theorem dX9_step_185 : decode cX9_step 185 = .ok (.isub, 1) := dc_100 (dc_nn (k := 23) aX9_step_162 rfl)
theorem dX9_step_186 : decode cX9_step 186 = .ok (.bipush 7, 2) := dc_16 (a0 := 7) (dc_nn (k := 24) aX9_step_162 rfl) (by decide)
theorem dX9_step_188 : decode cX9_step 188 = .ok (.if_icmp .ge 26, 3) := dc_162 (a0 := 0) (b0 := 26) (dc_nn (k := 26) aX9_step_162 rfl) (by decide)
theorem dX9_step_191 : decode cX9_step 191 = .ok (.bipush 10, 2) := dc_16 (a0 := 10) (dc_nn (k := 29) aX9_step_162 rfl) (by decide)
theorem dX9_step_193 : decode cX9_step 193 = .ok (.aload_n 0, 1) := dc_42 (dc_nn (k := 31) aX9_step_162 rfl)
theorem dX9_step_194 : decode cX9_step 194 = .ok (.getfield 56, 3) := dc_180 (a0 := 0) (b0 := 56) (dc_nn (k := 32) aX9_step_162 rfl)
theorem dX9_step_197 : decode cX9_step 197 = .ok (.imul, 1) := dc_104 (dc_nn (k := 35) aX9_step_162 rfl)
theorem dX9_step_198 : decode cX9_step 198 = .ok (.aload_n 0, 1) := dc_42 (dc_nn (k := 36) aX9_step_162 rfl)
theorem dX9_step_199 : decode cX9_step 199 = .ok (.getfield 11, 3) := dc_180 (a0 := 0) (b0 := 11) (dc_nn (k := 37) aX9_step_162 rfl)
theorem dX9_step_202 : decode cX9_step 202 = .ok (.aload_n 0, 1) := dc_42 aX9_step_202
theorem dX9_step_203 : decode cX9_step 203 = .ok (.getfield 31, 3) := dc_180 (a0 := 0) (b0 := 31) (dc_nn (k := 1) aX9_step_202 rfl)
theorem dX9_step_206 : decode cX9_step 206 = .ok (.baload, 1) := dc_51 (dc_nn (k := 4) aX9_step_202 rfl)
theorem dX9_step_207 : decode cX9_step 207 = .ok (.iadd, 1) := dc_96 (dc_nn (k := 5) aX9_step_202 rfl)
theorem dX9_step_208 : decode cX9_step 208 = .ok (.bipush 48, 2) := dc_16 (a0 := 48) (dc_nn (k := 6) aX9_step_202 rfl) (by decide)
theorem dX9_step_210 : decode cX9_step 210 = .ok (.isub, 1) := dc_100 (dc_nn (k := 8) aX9_step_202 rfl)
theorem dX9_step_211 : decode cX9_step 211 = .ok (.goto 7, 3) := dc_167 (a0 := 0) (b0 := 7) (dc_nn (k := 9) aX9_step_202 rfl) (by decide)
theorem dX9_step_214 : decode cX9_step 214 = .ok (.aload_n 0, 1) := dc_42 (dc_nn (k := 12) aX9_step_202 rfl)
theorem dX9_step_215 : decode cX9_step 215 = .ok (.getfield 56, 3) := dc_180 (a0 := 0) (b0 := 56) (dc_nn (k := 13) aX9_step_202 rfl)
theorem dX9_step_218 : decode cX9_step 218 = .ok (.putfield 56, 3) := dc_181 (a0 := 0) (b0 := 56) (dc_nn (k := 16) aX9_step_202 rfl)
theorem dX9_step_221 : decode cX9_step 221 = .ok (.aload_n 0, 1) := dc_42 (dc_nn (k := 19) aX9_step_202 rfl)
theorem dX9_step_222 : decode cX9_step 222 = .ok (.dup, 1) := dc_89 (dc_nn (k := 20) aX9_step_202 rfl)
theorem dX9_step_223 : decode cX9_step 223 = .ok (.getfield 31, 3) := dc_180 (a0 := 0) (b0 := 31) (dc_nn (k := 21) aX9_step_202 rfl)
theorem dX9_step_226 : decode cX9_step 226 = .ok (.iconst 1, 1) := dc_4 (dc_nn (k := 24) aX9_step_202 rfl)
theorem dX9_step_227 : decode cX9_step 227 = .ok (.iadd, 1) := dc_96 (dc_nn (k := 25) aX9_step_202 rfl)
theorem dX9_step_228 : decode cX9_step 228 = .ok (.putfield 31, 3) := dc_181 (a0 := 0) (b0 := 31) (dc_nn (k := 26) aX9_step_202 rfl)
theorem dX9_step_231 : decode cX9_step 231 = .ok (.goto (-81), 3) := dc_167 (a0 := 255) (b0 := 175) (dc_nn (k := 29) aX9_step_202 rfl) (by decide)
theorem dX9_step_234 : decode cX9_step 234 = .ok (.aload_n 0, 1) := dc_42 (dc_nn (k := 32) aX9_step_202 rfl)
theorem dX9_step_235 : decode cX9_step 235 = .ok (.aload_n 0, 1) := dc_42 (dc_nn (k := 33) aX9_step_202 rfl)
theorem dX9_step_236 : decode cX9_step 236 = .ok (.getfield 11, 3) := dc_180 (a0 := 0) (b0 := 11) (dc_nn (k := 34) aX9_step_202 rfl)
theorem dX9_step_239 : decode cX9_step 239 = .ok (.aload_n 0, 1) := dc_42 (dc_nn (k := 37) aX9_step_202 rfl)
theorem dX9_step_240 : decode cX9_step 240 = .ok (.getfield 31, 3) := dc_180 (a0 := 0) (b0 := 31) (dc_nn (k := 38) aX9_step_202 rfl)
theorem dX9_step_243 : decode cX9_step 243 = .ok (.baload, 1) := dc_51 aX9_step_243
theorem dX9_step_244 : decode cX9_step 244 = .ok (.bipush 59, 2) := dc_16 (a0 := 59) (dc_nn (k := 1) aX9_step_243 rfl) (by decide)
theorem dX9_step_246 : decode cX9_step 246 = .ok (.if_icmp .ne 7, 3) := dc_160 (a0 := 0) (b0 := 7) (dc_nn (k := 3) aX9_step_243 rfl) (by decide)
theorem dX9_step_249 : decode cX9_step 249 = .ok (.iconst 3, 1) := dc_6 (dc_nn (k := 6) aX9_step_243 rfl)
theorem dX9_step_250 : decode cX9_step 250 = .ok (.goto 4, 3) := dc_167 (a0 := 0) (b0 := 4) (dc_nn (k := 7) aX9_step_243 rfl) (by decide)
theorem dX9_step_253 : decode cX9_step 253 = .ok (.iconst 4, 1) := dc_7 (dc_nn (k := 10) aX9_step_243 rfl)
theorem dX9_step_254 : decode cX9_step 254 = .ok (.putfield 40, 3) := dc_181 (a0 := 0) (b0 := 40) (dc_nn (k := 11) aX9_step_243 rfl)
theorem dX9_step_257 : decode cX9_step 257 = .ok (.aload_n 0, 1) := dc_42 (dc_nn (k := 14) aX9_step_243 rfl)
theorem dX9_step_258 : decode cX9_step 258 = .ok (.dup, 1) := dc_89 (dc_nn (k := 15) aX9_step_243 rfl)
theorem dX9_step_259 : decode cX9_step 259 = .ok (.getfield 31, 3) := dc_180 (a0 := 0) (b0 := 31) (dc_nn (k := 16) aX9_step_243 rfl)
theorem dX9_step_262 : decode cX9_step 262 = .ok (.iconst 1, 1) := dc_4 (dc_nn (k := 19) aX9_step_243 rfl)
theorem dX9_step_263 : decode cX9_step 263 = .ok (.iadd, 1) := dc_96 (dc_nn (k := 20) aX9_step_243 rfl)
theorem dX9_step_264 : decode cX9_step 264 = .ok (.putfield 31, 3) := dc_181 (a0 := 0) (b0 := 31) (dc_nn (k := 21) aX9_step_243 rfl)
theorem dX9_step_267 : decode cX9_step 267 = .ok (.return_, 1) := dc_177 (dc_nn (k := 24) aX9_step_243 rfl)
noncomputable def sX9_isBlank_0 : List Nat := 26 :: 16 :: 32 :: 159 :: 0 :: 9 :: 26 :: 16 :: 10 :: 160 :: 0 :: 7 :: 4 :: 167 :: 0 :: 4 :: 3 :: 172 :: []
theorem aX9_isBlank_0 : dc_at cX9_isBlank 0 sX9_isBlank_0 := dc_base (by decide +kernel)
theorem dX9_isBlank_0 : decode cX9_isBlank 0 = .ok (.iload_n 0, 1) := dc_26 aX9_isBlank_0
theorem dX9_isBlank_1 : decode cX9_isBlank 1 = .ok (.bipush 32, 2) := dc_16 (a0 := 32) (dc_nn (k := 1) aX9_isBlank_0 rfl) (by decide)
theorem dX9_isBlank_3 : decode cX9_isBlank 3 = .ok (.if_icmp .eq 9, 3) := dc_159 (a0 := 0) (b0 := 9) (dc_nn (k := 3) aX9_isBlank_0 rfl) (by decide)
theorem dX9_isBlank_6 : decode cX9_isBlank 6 = .ok (.iload_n 0, 1) := dc_26 (dc_nn (k := 6) aX9_isBlank_0 rfl)
theorem dX9_isBlank_7 : decode cX9_isBlank 7 = .ok (.bipush 10, 2) := dc_16 (a0 := 10) (dc_nn (k := 7) aX9_isBlank_0 rfl) (by decide)
theorem dX9_isBlank_9 : decode cX9_isBlank 9 = .ok (.if_icmp .ne 7, 3) := dc_160 (a0 := 0) (b0 := 7) (dc_nn (k := 9) aX9_isBlank_0 rfl) (by decide)
theorem dX9_isBlank_12 : decode cX9_isBlank 12 = .ok (.iconst 1, 1) := dc_4 (dc_nn (k := 12) aX9_isBlank_0 rfl)
theorem dX9_isBlank_13 : decode cX9_isBlank 13 = .ok (.goto 4, 3) := dc_167 (a0 := 0) (b0 := 4) (dc_nn (k := 13) aX9_isBlank_0 rfl) (by decide)
theorem dX9_isBlank_16 : decode cX9_isBlank 16 = .ok (.iconst 0, 1) := dc_3 (dc_nn (k := 16) aX9_isBlank_0 rfl)
theorem dX9_isBlank_17 : decode cX9_isBlank 17 = .ok (.ireturn, 1) := dc_172 (dc_nn (k := 17) aX9_isBlank_0 rfl)
noncomputable def sX9_isLetter_0 : List Nat := 26 :: 16 :: 97 :: 161 :: 0 :: 13 :: 26 :: 16 :: 122 :: 163 :: 0 :: 7 :: 4 :: 167 :: 0 :: 4 :: 3 :: 172 :: []
theorem aX9_isLetter_0 : dc_at cX9_isLetter 0 sX9_isLetter_0 := dc_base (by decide +kernel)
theorem dX9_isLetter_0 : decode cX9_isLetter 0 = .ok (.iload_n 0, 1) := dc_26 aX9_isLetter_0
theorem dX9_isLetter_1 : decode cX9_isLetter 1 = .ok (.bipush 97, 2) := dc_16 (a0 := 97) (dc_nn (k := 1) aX9_isLetter_0 rfl) (by decide)
theorem dX9_isLetter_3 : decode cX9_isLetter 3 = .ok (.if_icmp .lt 13, 3) := dc_161 (a0 := 0) (b0 := 13) (dc_nn (k := 3) aX9_isLetter_0 rfl) (by decide)
theorem dX9_isLetter_6 : decode cX9_isLetter 6 = .ok (.iload_n 0, 1) := dc_26 (dc_nn (k := 6) aX9_isLetter_0 rfl)
theorem dX9_isLetter_7 : decode cX9_isLetter 7 = .ok (.bipush 122, 2) := dc_16 (a0 := 122) (dc_nn (k := 7) aX9_isLetter_0 rfl) (by decide)
theorem dX9_isLetter_9 : decode cX9_isLetter 9 = .ok (.if_icmp .gt 7, 3) := dc_163 (a0 := 0) (b0 := 7) (dc_nn (k := 9) aX9_isLetter_0 rfl) (by decide)
theorem dX9_isLetter_12 : decode cX9_isLetter 12 = .ok (.iconst 1, 1) := dc_4 (dc_nn (k := 12) aX9_isLetter_0 rfl)
theorem dX9_isLetter_13 : decode cX9_isLetter 13 = .ok (.goto 4, 3) := dc_167 (a0 := 0) (b0 := 4) (dc_nn (k := 13) aX9_isLetter_0 rfl) (by decide)
theorem dX9_isLetter_16 : decode cX9_isLetter 16 = .ok (.iconst 0, 1) := dc_3 (dc_nn (k := 16) aX9_isLetter_0 rfl)
theorem dX9_isLetter_17 : decode cX9_isLetter 17 = .ok (.ireturn, 1) := dc_172 (dc_nn (k := 17) aX9_isLetter_0 rfl)
noncomputable def sX9_isDigit_0 : List Nat := 26 :: 16 :: 48 :: 161 :: 0 :: 13 :: 26 :: 16 :: 57 :: 163 :: 0 :: 7 :: 4 :: 167 :: 0 :: 4 :: 3 :: 172 :: []
theorem aX9_isDigit_0 : dc_at cX9_isDigit 0 sX9_isDigit_0 := dc_base (by decide +kernel)
theorem dX9_isDigit_0 : decode cX9_isDigit 0 = .ok (.iload_n 0, 1) := dc_26 aX9_isDigit_0
theorem dX9_isDigit_1 : decode cX9_isDigit 1 = .ok (.bipush 48, 2) := dc_16 (a0 := 48) (dc_nn (k := 1) aX9_isDigit_0 rfl) (by decide)
theorem dX9_isDigit_3 : decode cX9_isDigit 3 = .ok (.if_icmp .lt 13, 3) := dc_161 (a0 := 0) (b0 := 13) (dc_nn (k := 3) aX9_isDigit_0 rfl) (by decide)
theorem dX9_isDigit_6 : decode cX9_isDigit 6 = .ok (.iload_n 0, 1) := dc_26 (dc_nn (k := 6) aX9_isDigit_0 rfl)
theorem dX9_isDigit_7 : decode cX9_isDigit 7 = .ok (.bipush 57, 2) := dc_16 (a0 := 57) (dc_nn (k := 7) aX9_isDigit_0 rfl) (by decide)
theorem dX9_isDigit_9 : decode cX9_isDigit 9 = .ok (.if_icmp .gt 7, 3) := dc_163 (a0 := 0) (b0 := 7) (dc_nn (k := 9) aX9_isDigit_0 rfl) (by decide)
theorem dX9_isDigit_12 : decode cX9_isDigit 12 = .ok (.iconst 1, 1) := dc_4 (dc_nn (k := 12) aX9_isDigit_0 rfl)
theorem dX9_isDigit_13 : decode cX9_isDigit 13 = .ok (.goto 4, 3) := dc_167 (a0 := 0) (b0 := 4) (dc_nn (k := 13) aX9_isDigit_0 rfl) (by decide)
theorem dX9_isDigit_16 : decode cX9_isDigit 16 = .ok (.iconst 0, 1) := dc_3 (dc_nn (k := 16) aX9_isDigit_0 rfl)
theorem dX9_isDigit_17 : decode cX9_isDigit 17 = .ok (.ireturn, 1) := dc_172 (dc_nn (k := 17) aX9_isDigit_0 rfl)
set_option maxRecDepth 20000 in
theorem ggX9_isWord_J0_length_8abf5 : GoodIn wsX9_isWord wsJ0_length_8abf5 := goodIn_k _ [[9, 0, 0, 0, 0], [8, 5, 0, 0]] (by rfl) (by decide +kernel)
set_option maxRecDepth 20000 in
theorem gX9_isWord_J0_length_8abf5 : GoodIn wsX9_isWord (wsV RX9 59 RJ0 yJ0_length_8abf5 wsJ0_length_8abf5) := goodIn_app (goodIn_k _ [[5, 0, 0, 0]] (by rfl) (gw_V _ _ _ _)) ggX9_isWord_J0_length_8abf5
set_option maxRecDepth 20000 in
theorem ggX9_isWord_J0_charAt_5068e : GoodIn wsX9_isWord wsJ0_charAt_5068e := goodIn_k _ [[20], [10, 10, 0, 0], [8, 15], [15, 0, 8, 0, 0, 0, 0, 0, 0, 0, 0, 0, 0, 0, 0, 0, 0, 0, 0, 0, 0, 0, 0, 0, 0, 0, 0, 0, 0, 0, 0]] (by rfl) (by decide +kernel)
set_option maxRecDepth 20000 in
theorem gX9_isWord_J0_charAt_5068e : GoodIn wsX9_isWord (wsV RX9 64 RJ0 yJ0_charAt_5068e wsJ0_charAt_5068e) := goodIn_app (goodIn_k _ [[17, 0, 0], [8]] (by rfl) (gw_V _ _ _ _)) ggX9_isWord_J0_charAt_5068e
noncomputable def sX9_isWord_40 : List Nat := 42 :: 180 :: 0 :: 47 :: 28 :: 96 :: 51 :: 43 :: 28 :: 182 :: 0 :: 64 :: 159 :: 0 :: 5 :: 3 :: 172 :: 132 :: 2 :: 1 :: 167 :: 255 :: 224 :: 4 :: 172 :: []
noncomputable def sX9_isWord_0 : List Nat := 42 :: 180 :: 0 :: 40 :: 4 :: 160 :: 0 :: 19 :: 42 :: 180 :: 0 :: 31 :: 42 :: 180 :: 0 :: 47 :: 100 :: 43 :: 182 :: 0 :: 59 :: 159 :: 0 :: 5 :: 3 :: 172 :: 3 :: 61 :: 28 :: 43 :: 182 :: 0 :: 59 :: 162 :: 0 :: 30 :: 42 :: 180 :: 0 :: 11 :: sX9_isWord_40
theorem aX9_isWord_0 : dc_at cX9_isWord 0 sX9_isWord_0 := dc_base (by decide +kernel)
theorem aX9_isWord_40 : dc_at cX9_isWord 40 sX9_isWord_40 := dc_nn (k := 40) aX9_isWord_0 rfl
theorem dX9_isWord_0 : decode cX9_isWord 0 = .ok (.aload_n 0, 1) := dc_42 aX9_isWord_0
theorem dX9_isWord_1 : decode cX9_isWord 1 = .ok (.getfield 40, 3) := dc_180 (a0 := 0) (b0 := 40) (dc_nn (k := 1) aX9_isWord_0 rfl)
theorem dX9_isWord_4 : decode cX9_isWord 4 = .ok (.iconst 1, 1) := dc_4 (dc_nn (k := 4) aX9_isWord_0 rfl)
theorem dX9_isWord_5 : decode cX9_isWord 5 = .ok (.if_icmp .ne 19, 3) := dc_160 (a0 := 0) (b0 := 19) (dc_nn (k := 5) aX9_isWord_0 rfl) (by decide)
theorem dX9_isWord_8 : decode cX9_isWord 8 = .ok (.aload_n 0, 1) := dc_42 (dc_nn (k := 8) aX9_isWord_0 rfl)
theorem dX9_isWord_9 : decode cX9_isWord 9 = .ok (.getfield 31, 3) := dc_180 (a0 := 0) (b0 := 31) (dc_nn (k := 9) aX9_isWord_0 rfl)
theorem dX9_isWord_12 : decode cX9_isWord 12 = .ok (.aload_n 0, 1) := dc_42 (dc_nn (k := 12) aX9_isWord_0 rfl)
theorem dX9_isWord_13 : decode cX9_isWord 13 = .ok (.getfield 47, 3) := dc_180 (a0 := 0) (b0 := 47) (dc_nn (k := 13) aX9_isWord_0 rfl)
theorem dX9_isWord_16 : decode cX9_isWord 16 = .ok (.isub, 1) := dc_100 (dc_nn (k := 16) aX9_isWord_0 rfl)
theorem dX9_isWord_17 : decode cX9_isWord 17 = .ok (.aload_n 1, 1) := dc_43 (dc_nn (k := 17) aX9_isWord_0 rfl)
theorem dX9_isWord_18 : decode cX9_isWord 18 = .ok (.invokevirtual 59, 3) := dc_182 (a0 := 0) (b0 := 59) (dc_nn (k := 18) aX9_isWord_0 rfl)
theorem dX9_isWord_21 : decode cX9_isWord 21 = .ok (.if_icmp .eq 5, 3) := dc_159 (a0 := 0) (b0 := 5) (dc_nn (k := 21) aX9_isWord_0 rfl) (by decide)
theorem dX9_isWord_24 : decode cX9_isWord 24 = .ok (.iconst 0, 1) := dc_3 (dc_nn (k := 24) aX9_isWord_0 rfl)
theorem dX9_isWord_25 : decode cX9_isWord 25 = .ok (.ireturn, 1) := dc_172 (dc_nn (k := 25) aX9_isWord_0 rfl)
theorem dX9_isWord_26 : decode cX9_isWord 26 = .ok (.iconst 0, 1) := dc_3 (dc_nn (k := 26) aX9_isWord_0 rfl)
theorem dX9_isWord_27 : decode cX9_isWord 27 = .ok (.istore_n 2, 1) := dc_61 (dc_nn (k := 27) aX9_isWord_0 rfl)
theorem dX9_isWord_28 : decode cX9_isWord 28 = .ok (.iload_n 2, 1) := dc_28 (dc_nn (k := 28) aX9_isWord_0 rfl)
theorem dX9_isWord_29 : decode cX9_isWord 29 = .ok (.aload_n 1, 1) := dc_43 (dc_nn (k := 29) aX9_isWord_0 rfl)
theorem dX9_isWord_30 : decode cX9_isWord 30 = .ok (.invokevirtual 59, 3) := dc_182 (a0 := 0) (b0 := 59) (dc_nn (k := 30) aX9_isWord_0 rfl)
theorem dX9_isWord_33 : decode cX9_isWord 33 = .ok (.if_icmp .ge 30, 3) := dc_162 (a0 := 0) (b0 := 30) (dc_nn (k := 33) aX9_isWord_0 rfl) (by decide)
theorem dX9_isWord_36 : decode cX9_isWord 36 = .ok (.aload_n 0, 1) := dc_42 (dc_nn (k := 36) aX9_isWord_0 rfl)
theorem dX9_isWord_37 : decode cX9_isWord 37 = .ok (.getfield 11, 3) := dc_180 (a0 := 0) (b0 := 11) (dc_nn (k := 37) aX9_isWord_0 rfl)
theorem dX9_isWord_40 : decode cX9_isWord 40 = .ok (.aload_n 0, 1) := dc_42 aX9_isWord_40
theorem dX9_isWord_41 : decode cX9_isWord 41 = .ok (.getfield 47, 3) := dc_180 (a0 := 0) (b0 := 47) (dc_nn (k := 1) aX9_isWord_40 rfl)
theorem dX9_isWord_44 : decode cX9_isWord 44 = .ok (.iload_n 2, 1) := dc_28 (dc_nn (k := 4) aX9_isWord_40 rfl)
theorem dX9_isWord_45 : decode cX9_isWord 45 = .ok (.iadd, 1) := dc_96 (dc_nn (k := 5) aX9_isWord_40 rfl)
theorem dX9_isWord_46 : decode cX9_isWord 46 = .ok (.baload, 1) := dc_51 (dc_nn (k := 6) aX9_isWord_40 rfl)
theorem dX9_isWord_47 : decode cX9_isWord 47 = .ok (.aload_n 1, 1) := dc_43 (dc_nn (k := 7) aX9_isWord_40 rfl)
theorem dX9_isWord_48 : decode cX9_isWord 48 = .ok (.iload_n 2, 1) := dc_28 (dc_nn (k := 8) aX9_isWord_40 rfl)
theorem dX9_isWord_49 : decode cX9_isWord 49 = .ok (.invokevirtual 64, 3) := dc_182 (a0 := 0) (b0 := 64) (dc_nn (k := 9) aX9_isWord_40 rfl)
theorem dX9_isWord_52 : decode cX9_isWord 52 = .ok (.if_icmp .eq 5, 3) := dc_159 (a0 := 0) (b0 := 5) (dc_nn (k := 12) aX9_isWord_40 rfl) (by decide)
theorem dX9_isWord_55 : decode cX9_isWord 55 = .ok (.iconst 0, 1) := dc_3 (dc_nn (k := 15) aX9_isWord_40 rfl)
theorem dX9_isWord_56 : decode cX9_isWord 56 = .ok (.ireturn, 1) := dc_172 (dc_nn (k := 16) aX9_isWord_40 rfl)
theorem dX9_isWord_57 : decode cX9_isWord 57 = .ok (.iinc 2 1, 3) := dc_132 (a0 := 2) (a1 := 1) (dc_nn (k := 17) aX9_isWord_40 rfl) (by decide)
theorem dX9_isWord_60 : decode cX9_isWord 60 = .ok (.goto (-32), 3) := dc_167 (a0 := 255) (b0 := 224) (dc_nn (k := 20) aX9_isWord_40 rfl) (by decide)
theorem dX9_isWord_63 : decode cX9_isWord 63 = .ok (.iconst 1, 1) := dc_4 (dc_nn (k := 23) aX9_isWord_40 rfl)
theorem dX9_isWord_64 : decode cX9_isWord 64 = .ok (.ireturn, 1) := dc_172 (dc_nn (k := 24) aX9_isWord_40 rfl)
set_option maxRecDepth 20000 in
theorem ggX9_namedOf_X9_nameOf : GoodIn wsX9_namedOf wsX9_nameOf := goodIn_k _ [[4]] (by rfl) (by decide +kernel)
set_option maxRecDepth 20000 in
theorem gX9_namedOf_X9_nameOf : GoodIn wsX9_namedOf (va_wsS RX9 68 yX9_nameOf wsX9_nameOf) := goodIn_app (goodIn_k _ [[1, 0, 0]] (by rfl) (gw_S _ _ _ _)) ggX9_namedOf_X9_nameOf
set_option maxRecDepth 20000 in
theorem ggX9_namedOf_X9_isWord : GoodIn wsX9_namedOf wsX9_isWord := goodIn_k _ [[8, 0, 0, 0, 0, 0, 0, 0, 0, 0, 0, 0, 0, 0, 0, 0, 0, 0, 0, 0, 0, 0, 0, 0, 0, 0, 0, 0, 0, 0, 0, 0, 0, 0, 0, 0, 0, 0, 0, 0, 0, 0, 0, 0, 0, 0, 0, 0, 0, 0, 0, 0, 0, 0, 0, 0, 0, 0, 0, 0, 0, 0, 0, 0]] (by rfl) (by decide +kernel)
set_option maxRecDepth 20000 in
theorem gX9_namedOf_X9_isWord : GoodIn wsX9_namedOf (wsV RX9 72 RX9 yX9_isWord wsX9_isWord) := goodIn_app (goodIn_k _ [[5, 0, 0], [3]] (by rfl) (gw_V _ _ _ _)) ggX9_namedOf_X9_isWord
noncomputable def sX9_namedOf_0 : List Nat := 3 :: 61 :: 28 :: 27 :: 162 :: 0 :: 22 :: 42 :: 28 :: 184 :: 0 :: 68 :: 182 :: 0 :: 72 :: 153 :: 0 :: 5 :: 28 :: 172 :: 132 :: 2 :: 1 :: 167 :: 255 :: 235 :: 2 :: 172 :: []
theorem aX9_namedOf_0 : dc_at cX9_namedOf 0 sX9_namedOf_0 := dc_base (by decide +kernel)
theorem dX9_namedOf_0 : decode cX9_namedOf 0 = .ok (.iconst 0, 1) := dc_3 aX9_namedOf_0
theorem dX9_namedOf_1 : decode cX9_namedOf 1 = .ok (.istore_n 2, 1) := dc_61 (dc_nn (k := 1) aX9_namedOf_0 rfl)
theorem dX9_namedOf_2 : decode cX9_namedOf 2 = .ok (.iload_n 2, 1) := dc_28 (dc_nn (k := 2) aX9_namedOf_0 rfl)
theorem dX9_namedOf_3 : decode cX9_namedOf 3 = .ok (.iload_n 1, 1) := dc_27 (dc_nn (k := 3) aX9_namedOf_0 rfl)
theorem dX9_namedOf_4 : decode cX9_namedOf 4 = .ok (.if_icmp .ge 22, 3) := dc_162 (a0 := 0) (b0 := 22) (dc_nn (k := 4) aX9_namedOf_0 rfl) (by decide)
theorem dX9_namedOf_7 : decode cX9_namedOf 7 = .ok (.aload_n 0, 1) := dc_42 (dc_nn (k := 7) aX9_namedOf_0 rfl)
theorem dX9_namedOf_8 : decode cX9_namedOf 8 = .ok (.iload_n 2, 1) := dc_28 (dc_nn (k := 8) aX9_namedOf_0 rfl)
theorem dX9_namedOf_9 : decode cX9_namedOf 9 = .ok (.invokestatic 68, 3) := dc_184 (a0 := 0) (b0 := 68) (dc_nn (k := 9) aX9_namedOf_0 rfl)
theorem dX9_namedOf_12 : decode cX9_namedOf 12 = .ok (.invokevirtual 72, 3) := dc_182 (a0 := 0) (b0 := 72) (dc_nn (k := 12) aX9_namedOf_0 rfl)
theorem dX9_namedOf_15 : decode cX9_namedOf 15 = .ok (.ifCond .eq 5, 3) := dc_153 (a0 := 0) (b0 := 5) (dc_nn (k := 15) aX9_namedOf_0 rfl) (by decide)
theorem dX9_namedOf_18 : decode cX9_namedOf 18 = .ok (.iload_n 2, 1) := dc_28 (dc_nn (k := 18) aX9_namedOf_0 rfl)
theorem dX9_namedOf_19 : decode cX9_namedOf 19 = .ok (.ireturn, 1) := dc_172 (dc_nn (k := 19) aX9_namedOf_0 rfl)
theorem dX9_namedOf_20 : decode cX9_namedOf 20 = .ok (.iinc 2 1, 3) := dc_132 (a0 := 2) (a1 := 1) (dc_nn (k := 20) aX9_namedOf_0 rfl) (by decide)
theorem dX9_namedOf_23 : decode cX9_namedOf 23 = .ok (.goto (-21), 3) := dc_167 (a0 := 255) (b0 := 235) (dc_nn (k := 23) aX9_namedOf_0 rfl) (by decide)
theorem dX9_namedOf_26 : decode cX9_namedOf 26 = .ok (.iconst (-1), 1) := dc_2 (dc_nn (k := 26) aX9_namedOf_0 rfl)
theorem dX9_namedOf_27 : decode cX9_namedOf 27 = .ok (.ireturn, 1) := dc_172 (dc_nn (k := 27) aX9_namedOf_0 rfl)
noncomputable def sX9_nameOf_48 : List Nat := 18 :: 76 :: 176 :: 18 :: 78 :: 176 :: 18 :: 80 :: 176 :: 18 :: 82 :: 176 :: 18 :: 84 :: 176 :: 18 :: 86 :: 176 :: 18 :: 88 :: 176 :: 18 :: 90 :: 176 :: 18 :: 92 :: 176 :: []
noncomputable def sX9_nameOf_0 : List Nat := 26 :: 170 :: 0 :: 0 :: 0 :: 0 :: 0 :: 71 :: 0 :: 0 :: 0 :: 0 :: 0 :: 0 :: 0 :: 7 :: 0 :: 0 :: 0 :: 47 :: 0 :: 0 :: 0 :: 50 :: 0 :: 0 :: 0 :: 53 :: 0 :: 0 :: 0 :: 56 :: 0 :: 0 :: 0 :: 59 :: 0 :: 0 :: 0 :: 62 :: 0 :: 0 :: 0 :: 65 :: 0 :: 0 :: 0 :: 68 :: sX9_nameOf_48
theorem aX9_nameOf_0 : dc_at cX9_nameOf 0 sX9_nameOf_0 := dc_base (by decide +kernel)
theorem aX9_nameOf_48 : dc_at cX9_nameOf 48 sX9_nameOf_48 := dc_nn (k := 48) aX9_nameOf_0 rfl
theorem dX9_nameOf_0 : decode cX9_nameOf 0 = .ok (.iload_n 0, 1) := dc_26 aX9_nameOf_0
theorem dX9_nameOf_1 : decode cX9_nameOf 1 = .ok (.tableswitch 71 0 7 #[47, 50, 53, 56, 59, 62, 65, 68], 47) := by decide +kernel
theorem dX9_nameOf_48 : decode cX9_nameOf 48 = .ok (.ldc 76, 2) := dc_18 (a0 := 76) aX9_nameOf_48
theorem dX9_nameOf_50 : decode cX9_nameOf 50 = .ok (.areturn, 1) := dc_176 (dc_nn (k := 2) aX9_nameOf_48 rfl)
theorem dX9_nameOf_51 : decode cX9_nameOf 51 = .ok (.ldc 78, 2) := dc_18 (a0 := 78) (dc_nn (k := 3) aX9_nameOf_48 rfl)
theorem dX9_nameOf_53 : decode cX9_nameOf 53 = .ok (.areturn, 1) := dc_176 (dc_nn (k := 5) aX9_nameOf_48 rfl)
theorem dX9_nameOf_54 : decode cX9_nameOf 54 = .ok (.ldc 80, 2) := dc_18 (a0 := 80) (dc_nn (k := 6) aX9_nameOf_48 rfl)
theorem dX9_nameOf_56 : decode cX9_nameOf 56 = .ok (.areturn, 1) := dc_176 (dc_nn (k := 8) aX9_nameOf_48 rfl)
theorem dX9_nameOf_57 : decode cX9_nameOf 57 = .ok (.ldc 82, 2) := dc_18 (a0 := 82) (dc_nn (k := 9) aX9_nameOf_48 rfl)
theorem dX9_nameOf_59 : decode cX9_nameOf 59 = .ok (.areturn, 1) := dc_176 (dc_nn (k := 11) aX9_nameOf_48 rfl)
theorem dX9_nameOf_60 : decode cX9_nameOf 60 = .ok (.ldc 84, 2) := dc_18 (a0 := 84) (dc_nn (k := 12) aX9_nameOf_48 rfl)
theorem dX9_nameOf_62 : decode cX9_nameOf 62 = .ok (.areturn, 1) := dc_176 (dc_nn (k := 14) aX9_nameOf_48 rfl)
theorem dX9_nameOf_63 : decode cX9_nameOf 63 = .ok (.ldc 86, 2) := dc_18 (a0 := 86) (dc_nn (k := 15) aX9_nameOf_48 rfl)
theorem dX9_nameOf_65 : decode cX9_nameOf 65 = .ok (.areturn, 1) := dc_176 (dc_nn (k := 17) aX9_nameOf_48 rfl)
theorem dX9_nameOf_66 : decode cX9_nameOf 66 = .ok (.ldc 88, 2) := dc_18 (a0 := 88) (dc_nn (k := 18) aX9_nameOf_48 rfl)
theorem dX9_nameOf_68 : decode cX9_nameOf 68 = .ok (.areturn, 1) := dc_176 (dc_nn (k := 20) aX9_nameOf_48 rfl)
theorem dX9_nameOf_69 : decode cX9_nameOf 69 = .ok (.ldc 90, 2) := dc_18 (a0 := 90) (dc_nn (k := 21) aX9_nameOf_48 rfl)
theorem dX9_nameOf_71 : decode cX9_nameOf 71 = .ok (.areturn, 1) := dc_176 (dc_nn (k := 23) aX9_nameOf_48 rfl)
theorem dX9_nameOf_72 : decode cX9_nameOf 72 = .ok (.ldc 92, 2) := dc_18 (a0 := 92) (dc_nn (k := 24) aX9_nameOf_48 rfl)
theorem dX9_nameOf_74 : decode cX9_nameOf 74 = .ok (.areturn, 1) := dc_176 (dc_nn (k := 26) aX9_nameOf_48 rfl)
noncomputable def sX9_refuse_0 : List Nat := 42 :: 27 :: 181 :: 0 :: 34 :: 42 :: 42 :: 180 :: 0 :: 47 :: 181 :: 0 :: 15 :: 3 :: 172 :: []
theorem aX9_refuse_0 : dc_at cX9_refuse 0 sX9_refuse_0 := dc_base (by decide +kernel)
theorem dX9_refuse_0 : decode cX9_refuse 0 = .ok (.aload_n 0, 1) := dc_42 aX9_refuse_0
theorem dX9_refuse_1 : decode cX9_refuse 1 = .ok (.iload_n 1, 1) := dc_27 (dc_nn (k := 1) aX9_refuse_0 rfl)
theorem dX9_refuse_2 : decode cX9_refuse 2 = .ok (.putfield 34, 3) := dc_181 (a0 := 0) (b0 := 34) (dc_nn (k := 2) aX9_refuse_0 rfl)
theorem dX9_refuse_5 : decode cX9_refuse 5 = .ok (.aload_n 0, 1) := dc_42 (dc_nn (k := 5) aX9_refuse_0 rfl)
theorem dX9_refuse_6 : decode cX9_refuse 6 = .ok (.aload_n 0, 1) := dc_42 (dc_nn (k := 6) aX9_refuse_0 rfl)
theorem dX9_refuse_7 : decode cX9_refuse 7 = .ok (.getfield 47, 3) := dc_180 (a0 := 0) (b0 := 47) (dc_nn (k := 7) aX9_refuse_0 rfl)
theorem dX9_refuse_10 : decode cX9_refuse 10 = .ok (.putfield 15, 3) := dc_181 (a0 := 0) (b0 := 15) (dc_nn (k := 10) aX9_refuse_0 rfl)
theorem dX9_refuse_13 : decode cX9_refuse 13 = .ok (.iconst 0, 1) := dc_3 (dc_nn (k := 13) aX9_refuse_0 rfl)
theorem dX9_refuse_14 : decode cX9_refuse 14 = .ok (.ireturn, 1) := dc_172 (dc_nn (k := 14) aX9_refuse_0 rfl)
set_option maxRecDepth 20000 in
theorem ggX9_takeWord_X9_isWord : GoodIn wsX9_takeWord wsX9_isWord := goodIn_k _ [[5, 0, 0, 0, 0, 0, 0, 0, 0, 0, 0, 0, 0, 0, 0, 0, 0, 0, 0, 0, 0, 0, 0, 0, 0, 0, 0, 0, 0, 0, 0, 0, 0, 0, 0, 0, 0, 0, 0, 0, 0, 0, 0, 0, 0, 0, 0, 0, 0, 0, 0, 0, 0, 0, 21, 0, 0, 0, 0, 0, 0, 0, 0, 0]] (by rfl) (by decide +kernel)
set_option maxRecDepth 20000 in
theorem gX9_takeWord_X9_isWord : GoodIn wsX9_takeWord (wsV RX9 72 RX9 yX9_isWord wsX9_isWord) := goodIn_app (goodIn_k _ [[1, 0, 0, 0]] (by rfl) (gw_V _ _ _ _)) ggX9_takeWord_X9_isWord
set_option maxRecDepth 20000 in
theorem ggX9_takeWord_X9_refuse : GoodIn wsX9_takeWord wsX9_refuse := goodIn_k _ [[62, 0], [8, 55, 15, 0, 0, 0, 0, 0, 0, 0, 0, 0]] (by rfl) (by decide +kernel)
set_option maxRecDepth 20000 in
theorem gX9_takeWord_X9_refuse : GoodIn wsX9_takeWord (wsV RX9 94 RX9 yX9_refuse wsX9_refuse) := goodIn_app (goodIn_k _ [[59, 0, 0], [4]] (by rfl) (gw_V _ _ _ _)) ggX9_takeWord_X9_refuse
set_option maxRecDepth 20000 in
theorem ggX9_takeWord_X9_step : GoodIn wsX9_takeWord wsX9_step := goodIn_k _ [[68], [7, 61], [9], [8], [6, 63, 0, 0], [4, 68, 0, 0, 0, 0, 0, 0, 0, 0, 0, 0, 0, 0, 0, 0, 0, 0]] (by rfl) (by decide +kernel)
set_option maxRecDepth 20000 in
theorem gX9_takeWord_X9_step : GoodIn wsX9_takeWord (wsV RX9 37 RX9 yX9_step wsX9_step) := goodIn_app (goodIn_k _ [[65, 0, 0], [4]] (by rfl) (gw_V _ _ _ _)) ggX9_takeWord_X9_step
noncomputable def sX9_takeWord_0 : List Nat := 42 :: 43 :: 182 :: 0 :: 72 :: 154 :: 0 :: 9 :: 42 :: 4 :: 182 :: 0 :: 94 :: 172 :: 42 :: 182 :: 0 :: 37 :: 4 :: 172 :: []
theorem aX9_takeWord_0 : dc_at cX9_takeWord 0 sX9_takeWord_0 := dc_base (by decide +kernel)
theorem dX9_takeWord_0 : decode cX9_takeWord 0 = .ok (.aload_n 0, 1) := dc_42 aX9_takeWord_0
theorem dX9_takeWord_1 : decode cX9_takeWord 1 = .ok (.aload_n 1, 1) := dc_43 (dc_nn (k := 1) aX9_takeWord_0 rfl)
theorem dX9_takeWord_2 : decode cX9_takeWord 2 = .ok (.invokevirtual 72, 3) := dc_182 (a0 := 0) (b0 := 72) (dc_nn (k := 2) aX9_takeWord_0 rfl)
theorem dX9_takeWord_5 : decode cX9_takeWord 5 = .ok (.ifCond .ne 9, 3) := dc_154 (a0 := 0) (b0 := 9) (dc_nn (k := 5) aX9_takeWord_0 rfl) (by decide)
theorem dX9_takeWord_8 : decode cX9_takeWord 8 = .ok (.aload_n 0, 1) := dc_42 (dc_nn (k := 8) aX9_takeWord_0 rfl)
theorem dX9_takeWord_9 : decode cX9_takeWord 9 = .ok (.iconst 1, 1) := dc_4 (dc_nn (k := 9) aX9_takeWord_0 rfl)
theorem dX9_takeWord_10 : decode cX9_takeWord 10 = .ok (.invokevirtual 94, 3) := dc_182 (a0 := 0) (b0 := 94) (dc_nn (k := 10) aX9_takeWord_0 rfl)
theorem dX9_takeWord_13 : decode cX9_takeWord 13 = .ok (.ireturn, 1) := dc_172 (dc_nn (k := 13) aX9_takeWord_0 rfl)
theorem dX9_takeWord_14 : decode cX9_takeWord 14 = .ok (.aload_n 0, 1) := dc_42 (dc_nn (k := 14) aX9_takeWord_0 rfl)
theorem dX9_takeWord_15 : decode cX9_takeWord 15 = .ok (.invokevirtual 37, 3) := dc_182 (a0 := 0) (b0 := 37) (dc_nn (k := 15) aX9_takeWord_0 rfl)
theorem dX9_takeWord_18 : decode cX9_takeWord 18 = .ok (.iconst 1, 1) := dc_4 (dc_nn (k := 18) aX9_takeWord_0 rfl)
theorem dX9_takeWord_19 : decode cX9_takeWord 19 = .ok (.ireturn, 1) := dc_172 (dc_nn (k := 19) aX9_takeWord_0 rfl)
set_option maxRecDepth 20000 in
theorem ggX9_takeStop_X9_refuse : GoodIn wsX9_takeStop wsX9_refuse := goodIn_k _ [[6, 0, 0, 0, 17, 0, 0, 0, 0, 0, 0, 0, 0, 0]] (by rfl) (by decide +kernel)
set_option maxRecDepth 20000 in
theorem gX9_takeStop_X9_refuse : GoodIn wsX9_takeStop (wsV RX9 94 RX9 yX9_refuse wsX9_refuse) := goodIn_app (goodIn_k _ [[2, 0, 0, 0]] (by rfl) (gw_V _ _ _ _)) ggX9_takeStop_X9_refuse
set_option maxRecDepth 20000 in
theorem ggX9_takeStop_X9_step : GoodIn wsX9_takeStop wsX9_step := goodIn_k _ [[13, 0, 0, 0], [8], [1, 15, 0, 0], [5, 14, 0, 0, 0, 0, 0, 0, 0, 0, 0, 0, 0, 0, 0, 0, 0, 0]] (by rfl) (by decide +kernel)
set_option maxRecDepth 20000 in
theorem gX9_takeStop_X9_step : GoodIn wsX9_takeStop (wsV RX9 37 RX9 yX9_step wsX9_step) := goodIn_app (goodIn_k _ [[10, 0, 0], [5]] (by rfl) (gw_V _ _ _ _)) ggX9_takeStop_X9_step
noncomputable def sX9_takeStop_0 : List Nat := 42 :: 180 :: 0 :: 40 :: 6 :: 159 :: 0 :: 9 :: 42 :: 4 :: 182 :: 0 :: 94 :: 172 :: 42 :: 182 :: 0 :: 37 :: 4 :: 172 :: []
theorem aX9_takeStop_0 : dc_at cX9_takeStop 0 sX9_takeStop_0 := dc_base (by decide +kernel)
theorem dX9_takeStop_0 : decode cX9_takeStop 0 = .ok (.aload_n 0, 1) := dc_42 aX9_takeStop_0
theorem dX9_takeStop_1 : decode cX9_takeStop 1 = .ok (.getfield 40, 3) := dc_180 (a0 := 0) (b0 := 40) (dc_nn (k := 1) aX9_takeStop_0 rfl)
theorem dX9_takeStop_4 : decode cX9_takeStop 4 = .ok (.iconst 3, 1) := dc_6 (dc_nn (k := 4) aX9_takeStop_0 rfl)
theorem dX9_takeStop_5 : decode cX9_takeStop 5 = .ok (.if_icmp .eq 9, 3) := dc_159 (a0 := 0) (b0 := 9) (dc_nn (k := 5) aX9_takeStop_0 rfl) (by decide)
theorem dX9_takeStop_8 : decode cX9_takeStop 8 = .ok (.aload_n 0, 1) := dc_42 (dc_nn (k := 8) aX9_takeStop_0 rfl)
theorem dX9_takeStop_9 : decode cX9_takeStop 9 = .ok (.iconst 1, 1) := dc_4 (dc_nn (k := 9) aX9_takeStop_0 rfl)
theorem dX9_takeStop_10 : decode cX9_takeStop 10 = .ok (.invokevirtual 94, 3) := dc_182 (a0 := 0) (b0 := 94) (dc_nn (k := 10) aX9_takeStop_0 rfl)
theorem dX9_takeStop_13 : decode cX9_takeStop 13 = .ok (.ireturn, 1) := dc_172 (dc_nn (k := 13) aX9_takeStop_0 rfl)
theorem dX9_takeStop_14 : decode cX9_takeStop 14 = .ok (.aload_n 0, 1) := dc_42 (dc_nn (k := 14) aX9_takeStop_0 rfl)
theorem dX9_takeStop_15 : decode cX9_takeStop 15 = .ok (.invokevirtual 37, 3) := dc_182 (a0 := 0) (b0 := 37) (dc_nn (k := 15) aX9_takeStop_0 rfl)
theorem dX9_takeStop_18 : decode cX9_takeStop 18 = .ok (.iconst 1, 1) := dc_4 (dc_nn (k := 18) aX9_takeStop_0 rfl)
theorem dX9_takeStop_19 : decode cX9_takeStop 19 = .ok (.ireturn, 1) := dc_172 (dc_nn (k := 19) aX9_takeStop_0 rfl)
set_option maxRecDepth 20000 in
theorem ggX9_holdsNumber_X9_refuse : GoodIn wsX9_holdsNumber wsX9_refuse := goodIn_k _ [[10, 0], [3, 8, 0, 0, 0, 0, 0, 0, 0, 0, 0, 0]] (by rfl) (by decide +kernel)
set_option maxRecDepth 20000 in
theorem gX9_holdsNumber_X9_refuse : GoodIn wsX9_holdsNumber (wsV RX9 94 RX9 yX9_refuse wsX9_refuse) := goodIn_app (goodIn_k _ [[6, 0, 0, 0]] (by rfl) (gw_V _ _ _ _)) ggX9_holdsNumber_X9_refuse
noncomputable def sX9_holdsNumber_40 : List Nat := 28 :: 164 :: 0 :: 9 :: 42 :: 5 :: 182 :: 0 :: 94 :: 172 :: 42 :: 42 :: 180 :: 0 :: 56 :: 181 :: 0 :: 97 :: 4 :: 172 :: []
noncomputable def sX9_holdsNumber_0 : List Nat := 42 :: 180 :: 0 :: 40 :: 5 :: 159 :: 0 :: 9 :: 42 :: 4 :: 182 :: 0 :: 94 :: 172 :: 42 :: 180 :: 0 :: 31 :: 42 :: 180 :: 0 :: 47 :: 100 :: 16 :: 7 :: 163 :: 0 :: 19 :: 42 :: 180 :: 0 :: 56 :: 27 :: 161 :: 0 :: 11 :: 42 :: 180 :: 0 :: 56 :: sX9_holdsNumber_40
theorem aX9_holdsNumber_0 : dc_at cX9_holdsNumber 0 sX9_holdsNumber_0 := dc_base (by decide +kernel)
theorem aX9_holdsNumber_40 : dc_at cX9_holdsNumber 40 sX9_holdsNumber_40 := dc_nn (k := 40) aX9_holdsNumber_0 rfl
theorem dX9_holdsNumber_0 : decode cX9_holdsNumber 0 = .ok (.aload_n 0, 1) := dc_42 aX9_holdsNumber_0
theorem dX9_holdsNumber_1 : decode cX9_holdsNumber 1 = .ok (.getfield 40, 3) := dc_180 (a0 := 0) (b0 := 40) (dc_nn (k := 1) aX9_holdsNumber_0 rfl)
theorem dX9_holdsNumber_4 : decode cX9_holdsNumber 4 = .ok (.iconst 2, 1) := dc_5 (dc_nn (k := 4) aX9_holdsNumber_0 rfl)
theorem dX9_holdsNumber_5 : decode cX9_holdsNumber 5 = .ok (.if_icmp .eq 9, 3) := dc_159 (a0 := 0) (b0 := 9) (dc_nn (k := 5) aX9_holdsNumber_0 rfl) (by decide)
theorem dX9_holdsNumber_8 : decode cX9_holdsNumber 8 = .ok (.aload_n 0, 1) := dc_42 (dc_nn (k := 8) aX9_holdsNumber_0 rfl)
theorem dX9_holdsNumber_9 : decode cX9_holdsNumber 9 = .ok (.iconst 1, 1) := dc_4 (dc_nn (k := 9) aX9_holdsNumber_0 rfl)
theorem dX9_holdsNumber_10 : decode cX9_holdsNumber 10 = .ok (.invokevirtual 94, 3) := dc_182 (a0 := 0) (b0 := 94) (dc_nn (k := 10) aX9_holdsNumber_0 rfl)
theorem dX9_holdsNumber_13 : decode cX9_holdsNumber 13 = .ok (.ireturn, 1) := dc_172 (dc_nn (k := 13) aX9_holdsNumber_0 rfl)
theorem dX9_holdsNumber_14 : decode cX9_holdsNumber 14 = .ok (.aload_n 0, 1) := dc_42 (dc_nn (k := 14) aX9_holdsNumber_0 rfl)
theorem dX9_holdsNumber_15 : decode cX9_holdsNumber 15 = .ok (.getfield 31, 3) := dc_180 (a0 := 0) (b0 := 31) (dc_nn (k := 15) aX9_holdsNumber_0 rfl)
theorem dX9_holdsNumber_18 : decode cX9_holdsNumber 18 = .ok (.aload_n 0, 1) := dc_42 (dc_nn (k := 18) aX9_holdsNumber_0 rfl)
theorem dX9_holdsNumber_19 : decode cX9_holdsNumber 19 = .ok (.getfield 47, 3) := dc_180 (a0 := 0) (b0 := 47) (dc_nn (k := 19) aX9_holdsNumber_0 rfl)
theorem dX9_holdsNumber_22 : decode cX9_holdsNumber 22 = .ok (.isub, 1) := dc_100 (dc_nn (k := 22) aX9_holdsNumber_0 rfl)
theorem dX9_holdsNumber_23 : decode cX9_holdsNumber 23 = .ok (.bipush 7, 2) := dc_16 (a0 := 7) (dc_nn (k := 23) aX9_holdsNumber_0 rfl) (by decide)
theorem dX9_holdsNumber_25 : decode cX9_holdsNumber 25 = .ok (.if_icmp .gt 19, 3) := dc_163 (a0 := 0) (b0 := 19) (dc_nn (k := 25) aX9_holdsNumber_0 rfl) (by decide)
theorem dX9_holdsNumber_28 : decode cX9_holdsNumber 28 = .ok (.aload_n 0, 1) := dc_42 (dc_nn (k := 28) aX9_holdsNumber_0 rfl)
theorem dX9_holdsNumber_29 : decode cX9_holdsNumber 29 = .ok (.getfield 56, 3) := dc_180 (a0 := 0) (b0 := 56) (dc_nn (k := 29) aX9_holdsNumber_0 rfl)
theorem dX9_holdsNumber_32 : decode cX9_holdsNumber 32 = .ok (.iload_n 1, 1) := dc_27 (dc_nn (k := 32) aX9_holdsNumber_0 rfl)
theorem dX9_holdsNumber_33 : decode cX9_holdsNumber 33 = .ok (.if_icmp .lt 11, 3) := dc_161 (a0 := 0) (b0 := 11) (dc_nn (k := 33) aX9_holdsNumber_0 rfl) (by decide)
theorem dX9_holdsNumber_36 : decode cX9_holdsNumber 36 = .ok (.aload_n 0, 1) := dc_42 (dc_nn (k := 36) aX9_holdsNumber_0 rfl)
theorem dX9_holdsNumber_37 : decode cX9_holdsNumber 37 = .ok (.getfield 56, 3) := dc_180 (a0 := 0) (b0 := 56) (dc_nn (k := 37) aX9_holdsNumber_0 rfl)
theorem dX9_holdsNumber_40 : decode cX9_holdsNumber 40 = .ok (.iload_n 2, 1) := dc_28 aX9_holdsNumber_40
theorem dX9_holdsNumber_41 : decode cX9_holdsNumber 41 = .ok (.if_icmp .le 9, 3) := dc_164 (a0 := 0) (b0 := 9) (dc_nn (k := 1) aX9_holdsNumber_40 rfl) (by decide)
theorem dX9_holdsNumber_44 : decode cX9_holdsNumber 44 = .ok (.aload_n 0, 1) := dc_42 (dc_nn (k := 4) aX9_holdsNumber_40 rfl)
theorem dX9_holdsNumber_45 : decode cX9_holdsNumber 45 = .ok (.iconst 2, 1) := dc_5 (dc_nn (k := 5) aX9_holdsNumber_40 rfl)
theorem dX9_holdsNumber_46 : decode cX9_holdsNumber 46 = .ok (.invokevirtual 94, 3) := dc_182 (a0 := 0) (b0 := 94) (dc_nn (k := 6) aX9_holdsNumber_40 rfl)
theorem dX9_holdsNumber_49 : decode cX9_holdsNumber 49 = .ok (.ireturn, 1) := dc_172 (dc_nn (k := 9) aX9_holdsNumber_40 rfl)
theorem dX9_holdsNumber_50 : decode cX9_holdsNumber 50 = .ok (.aload_n 0, 1) := dc_42 (dc_nn (k := 10) aX9_holdsNumber_40 rfl)
theorem dX9_holdsNumber_51 : decode cX9_holdsNumber 51 = .ok (.aload_n 0, 1) := dc_42 (dc_nn (k := 11) aX9_holdsNumber_40 rfl)
theorem dX9_holdsNumber_52 : decode cX9_holdsNumber 52 = .ok (.getfield 56, 3) := dc_180 (a0 := 0) (b0 := 56) (dc_nn (k := 12) aX9_holdsNumber_40 rfl)
theorem dX9_holdsNumber_55 : decode cX9_holdsNumber 55 = .ok (.putfield 97, 3) := dc_181 (a0 := 0) (b0 := 97) (dc_nn (k := 15) aX9_holdsNumber_40 rfl)
theorem dX9_holdsNumber_58 : decode cX9_holdsNumber 58 = .ok (.iconst 1, 1) := dc_4 (dc_nn (k := 18) aX9_holdsNumber_40 rfl)
theorem dX9_holdsNumber_59 : decode cX9_holdsNumber 59 = .ok (.ireturn, 1) := dc_172 (dc_nn (k := 19) aX9_holdsNumber_40 rfl)
set_option maxRecDepth 20000 in
theorem ggX9_takeNumber_X9_holdsNumber : GoodIn wsX9_takeNumber wsX9_holdsNumber := goodIn_k _ [[5, 0, 0, 0, 0, 0, 0, 0, 0], [4, 9, 0, 0, 15, 0, 0, 0, 0, 0, 0, 0, 0, 0]] (by rfl) (by decide +kernel)
set_option maxRecDepth 20000 in
theorem gX9_takeNumber_X9_holdsNumber : GoodIn wsX9_takeNumber (wsV RX9 100 RX9 yX9_holdsNumber wsX9_holdsNumber) := goodIn_app (goodIn_k _ [[1, 0, 0, 0]] (by rfl) (gw_V _ _ _ _)) ggX9_takeNumber_X9_holdsNumber
set_option maxRecDepth 20000 in
theorem ggX9_takeNumber_X9_step : GoodIn wsX9_takeNumber wsX9_step := goodIn_k _ [[20], [7, 13, 0], [8], [6, 2, 13, 0], [4, 20, 0, 0, 0, 0, 0, 0, 0, 0, 0, 0, 0, 0, 0, 0, 0, 0]] (by rfl) (by decide +kernel)
set_option maxRecDepth 20000 in
theorem gX9_takeNumber_X9_step : GoodIn wsX9_takeNumber (wsV RX9 37 RX9 yX9_step wsX9_step) := goodIn_app (goodIn_k _ [[17, 0, 0], [4]] (by rfl) (gw_V _ _ _ _)) ggX9_takeNumber_X9_step
noncomputable def sX9_takeNumber_0 : List Nat := 42 :: 27 :: 28 :: 182 :: 0 :: 100 :: 154 :: 0 :: 5 :: 3 :: 172 :: 42 :: 182 :: 0 :: 37 :: 4 :: 172 :: []
theorem aX9_takeNumber_0 : dc_at cX9_takeNumber 0 sX9_takeNumber_0 := dc_base (by decide +kernel)
theorem dX9_takeNumber_0 : decode cX9_takeNumber 0 = .ok (.aload_n 0, 1) := dc_42 aX9_takeNumber_0
theorem dX9_takeNumber_1 : decode cX9_takeNumber 1 = .ok (.iload_n 1, 1) := dc_27 (dc_nn (k := 1) aX9_takeNumber_0 rfl)
theorem dX9_takeNumber_2 : decode cX9_takeNumber 2 = .ok (.iload_n 2, 1) := dc_28 (dc_nn (k := 2) aX9_takeNumber_0 rfl)
theorem dX9_takeNumber_3 : decode cX9_takeNumber 3 = .ok (.invokevirtual 100, 3) := dc_182 (a0 := 0) (b0 := 100) (dc_nn (k := 3) aX9_takeNumber_0 rfl)
theorem dX9_takeNumber_6 : decode cX9_takeNumber 6 = .ok (.ifCond .ne 5, 3) := dc_154 (a0 := 0) (b0 := 5) (dc_nn (k := 6) aX9_takeNumber_0 rfl) (by decide)
theorem dX9_takeNumber_9 : decode cX9_takeNumber 9 = .ok (.iconst 0, 1) := dc_3 (dc_nn (k := 9) aX9_takeNumber_0 rfl)
theorem dX9_takeNumber_10 : decode cX9_takeNumber 10 = .ok (.ireturn, 1) := dc_172 (dc_nn (k := 10) aX9_takeNumber_0 rfl)
theorem dX9_takeNumber_11 : decode cX9_takeNumber 11 = .ok (.aload_n 0, 1) := dc_42 (dc_nn (k := 11) aX9_takeNumber_0 rfl)
theorem dX9_takeNumber_12 : decode cX9_takeNumber 12 = .ok (.invokevirtual 37, 3) := dc_182 (a0 := 0) (b0 := 37) (dc_nn (k := 12) aX9_takeNumber_0 rfl)
theorem dX9_takeNumber_15 : decode cX9_takeNumber 15 = .ok (.iconst 1, 1) := dc_4 (dc_nn (k := 15) aX9_takeNumber_0 rfl)
theorem dX9_takeNumber_16 : decode cX9_takeNumber 16 = .ok (.ireturn, 1) := dc_172 (dc_nn (k := 16) aX9_takeNumber_0 rfl)
noncomputable def sX10_init_0 : List Nat := 42 :: 183 :: 0 :: 3 :: 42 :: 16 :: 36 :: 188 :: 10 :: 181 :: 0 :: 9 :: 42 :: 16 :: 6 :: 188 :: 10 :: 181 :: 0 :: 15 :: 42 :: 16 :: 6 :: 188 :: 10 :: 181 :: 0 :: 18 :: 177 :: []
theorem aX10_init_0 : dc_at cX10_init 0 sX10_init_0 := dc_base (by decide +kernel)
theorem dX10_init_0 : decode cX10_init 0 = .ok (.aload_n 0, 1) := dc_42 aX10_init_0
theorem dX10_init_1 : decode cX10_init 1 = .ok (.invokespecial 3, 3) := dc_183 (a0 := 0) (b0 := 3) (dc_nn (k := 1) aX10_init_0 rfl)
theorem dX10_init_4 : decode cX10_init 4 = .ok (.aload_n 0, 1) := dc_42 (dc_nn (k := 4) aX10_init_0 rfl)
theorem dX10_init_5 : decode cX10_init 5 = .ok (.bipush 36, 2) := dc_16 (a0 := 36) (dc_nn (k := 5) aX10_init_0 rfl) (by decide)
theorem dX10_init_7 : decode cX10_init 7 = .ok (.newarray .int, 2) := dc_188_10 (dc_nn (k := 7) aX10_init_0 rfl)
theorem dX10_init_9 : decode cX10_init 9 = .ok (.putfield 9, 3) := dc_181 (a0 := 0) (b0 := 9) (dc_nn (k := 9) aX10_init_0 rfl)
theorem dX10_init_12 : decode cX10_init 12 = .ok (.aload_n 0, 1) := dc_42 (dc_nn (k := 12) aX10_init_0 rfl)
theorem dX10_init_13 : decode cX10_init 13 = .ok (.bipush 6, 2) := dc_16 (a0 := 6) (dc_nn (k := 13) aX10_init_0 rfl) (by decide)
theorem dX10_init_15 : decode cX10_init 15 = .ok (.newarray .int, 2) := dc_188_10 (dc_nn (k := 15) aX10_init_0 rfl)
theorem dX10_init_17 : decode cX10_init 17 = .ok (.putfield 15, 3) := dc_181 (a0 := 0) (b0 := 15) (dc_nn (k := 17) aX10_init_0 rfl)
theorem dX10_init_20 : decode cX10_init 20 = .ok (.aload_n 0, 1) := dc_42 (dc_nn (k := 20) aX10_init_0 rfl)
theorem dX10_init_21 : decode cX10_init 21 = .ok (.bipush 6, 2) := dc_16 (a0 := 6) (dc_nn (k := 21) aX10_init_0 rfl) (by decide)
theorem dX10_init_23 : decode cX10_init 23 = .ok (.newarray .int, 2) := dc_188_10 (dc_nn (k := 23) aX10_init_0 rfl)
theorem dX10_init_25 : decode cX10_init 25 = .ok (.putfield 18, 3) := dc_181 (a0 := 0) (b0 := 18) (dc_nn (k := 25) aX10_init_0 rfl)
theorem dX10_init_28 : decode cX10_init 28 = .ok (.return_, 1) := dc_177 (dc_nn (k := 28) aX10_init_0 rfl)
set_option maxRecDepth 20000 in
theorem ggX10_priceOf_X1_degreeOf : GoodIn wsX10_priceOf wsX1_degreeOf := goodIn_k _ [[5, 0, 18, 0]] (by rfl) (by decide +kernel)
set_option maxRecDepth 20000 in
theorem gX10_priceOf_X1_degreeOf : GoodIn wsX10_priceOf (wsV RX10 21 RX1 yX1_degreeOf wsX1_degreeOf) := goodIn_app (goodIn_k _ [[1, 0, 0, 0]] (by rfl) (gw_V _ _ _ _)) ggX10_priceOf_X1_degreeOf
set_option maxRecDepth 20000 in
theorem ggX10_priceOf_X10_priceOfEntry : GoodIn wsX10_priceOf wsX10_priceOfEntry := goodIn_k _ [[10, 0, 0, 0, 0, 0, 0, 0, 0, 0, 0, 0, 0, 0, 0, 2, 0]] (by rfl) (by decide +kernel)
set_option maxRecDepth 20000 in
theorem gX10_priceOf_X10_priceOfEntry : GoodIn wsX10_priceOf (va_wsS RX10 27 yX10_priceOfEntry wsX10_priceOfEntry) := goodIn_app (goodIn_k _ [[7, 0, 0]] (by rfl) (gw_S _ _ _ _)) ggX10_priceOf_X10_priceOfEntry
noncomputable def sX10_priceOf_82 : List Nat := 172 :: []
noncomputable def sX10_priceOf_41 : List Nat := 29 :: 104 :: 21 :: 5 :: 96 :: 21 :: 6 :: 182 :: 0 :: 21 :: 54 :: 8 :: 21 :: 4 :: 42 :: 21 :: 6 :: 21 :: 7 :: 21 :: 8 :: 184 :: 0 :: 27 :: 96 :: 54 :: 4 :: 132 :: 6 :: 1 :: 167 :: 255 :: 201 :: 132 :: 5 :: 1 :: 167 :: 255 :: 185 :: 21 :: 4 :: sX10_priceOf_82
noncomputable def sX10_priceOf_0 : List Nat := 3 :: 54 :: 4 :: 3 :: 54 :: 5 :: 21 :: 5 :: 16 :: 20 :: 162 :: 0 :: 70 :: 3 :: 54 :: 6 :: 21 :: 6 :: 16 :: 22 :: 162 :: 0 :: 54 :: 43 :: 16 :: 20 :: 28 :: 104 :: 21 :: 5 :: 96 :: 21 :: 6 :: 182 :: 0 :: 21 :: 54 :: 7 :: 43 :: 16 :: 20 :: sX10_priceOf_41
theorem aX10_priceOf_0 : dc_at cX10_priceOf 0 sX10_priceOf_0 := dc_base (by decide +kernel)
theorem aX10_priceOf_41 : dc_at cX10_priceOf 41 sX10_priceOf_41 := dc_nn (k := 41) aX10_priceOf_0 rfl
theorem aX10_priceOf_82 : dc_at cX10_priceOf 82 sX10_priceOf_82 := dc_nn (k := 41) aX10_priceOf_41 rfl
theorem dX10_priceOf_0 : decode cX10_priceOf 0 = .ok (.iconst 0, 1) := dc_3 aX10_priceOf_0
theorem dX10_priceOf_1 : decode cX10_priceOf 1 = .ok (.istore 4, 2) := dc_54 (a0 := 4) (dc_nn (k := 1) aX10_priceOf_0 rfl)
theorem dX10_priceOf_3 : decode cX10_priceOf 3 = .ok (.iconst 0, 1) := dc_3 (dc_nn (k := 3) aX10_priceOf_0 rfl)
theorem dX10_priceOf_4 : decode cX10_priceOf 4 = .ok (.istore 5, 2) := dc_54 (a0 := 5) (dc_nn (k := 4) aX10_priceOf_0 rfl)
theorem dX10_priceOf_6 : decode cX10_priceOf 6 = .ok (.iload 5, 2) := dc_21 (a0 := 5) (dc_nn (k := 6) aX10_priceOf_0 rfl)
theorem dX10_priceOf_8 : decode cX10_priceOf 8 = .ok (.bipush 20, 2) := dc_16 (a0 := 20) (dc_nn (k := 8) aX10_priceOf_0 rfl) (by decide)
theorem dX10_priceOf_10 : decode cX10_priceOf 10 = .ok (.if_icmp .ge 70, 3) := dc_162 (a0 := 0) (b0 := 70) (dc_nn (k := 10) aX10_priceOf_0 rfl) (by decide)
theorem dX10_priceOf_13 : decode cX10_priceOf 13 = .ok (.iconst 0, 1) := dc_3 (dc_nn (k := 13) aX10_priceOf_0 rfl)
theorem dX10_priceOf_14 : decode cX10_priceOf 14 = .ok (.istore 6, 2) := dc_54 (a0 := 6) (dc_nn (k := 14) aX10_priceOf_0 rfl)
theorem dX10_priceOf_16 : decode cX10_priceOf 16 = .ok (.iload 6, 2) := dc_21 (a0 := 6) (dc_nn (k := 16) aX10_priceOf_0 rfl)
theorem dX10_priceOf_18 : decode cX10_priceOf 18 = .ok (.bipush 22, 2) := dc_16 (a0 := 22) (dc_nn (k := 18) aX10_priceOf_0 rfl) (by decide)
theorem dX10_priceOf_20 : decode cX10_priceOf 20 = .ok (.if_icmp .ge 54, 3) := dc_162 (a0 := 0) (b0 := 54) (dc_nn (k := 20) aX10_priceOf_0 rfl) (by decide)
theorem dX10_priceOf_23 : decode cX10_priceOf 23 = .ok (.aload_n 1, 1) := dc_43 (dc_nn (k := 23) aX10_priceOf_0 rfl)
theorem dX10_priceOf_24 : decode cX10_priceOf 24 = .ok (.bipush 20, 2) := dc_16 (a0 := 20) (dc_nn (k := 24) aX10_priceOf_0 rfl) (by decide)
theorem dX10_priceOf_26 : decode cX10_priceOf 26 = .ok (.iload_n 2, 1) := dc_28 (dc_nn (k := 26) aX10_priceOf_0 rfl)
theorem dX10_priceOf_27 : decode cX10_priceOf 27 = .ok (.imul, 1) := dc_104 (dc_nn (k := 27) aX10_priceOf_0 rfl)
theorem dX10_priceOf_28 : decode cX10_priceOf 28 = .ok (.iload 5, 2) := dc_21 (a0 := 5) (dc_nn (k := 28) aX10_priceOf_0 rfl)
theorem dX10_priceOf_30 : decode cX10_priceOf 30 = .ok (.iadd, 1) := dc_96 (dc_nn (k := 30) aX10_priceOf_0 rfl)
theorem dX10_priceOf_31 : decode cX10_priceOf 31 = .ok (.iload 6, 2) := dc_21 (a0 := 6) (dc_nn (k := 31) aX10_priceOf_0 rfl)
theorem dX10_priceOf_33 : decode cX10_priceOf 33 = .ok (.invokevirtual 21, 3) := dc_182 (a0 := 0) (b0 := 21) (dc_nn (k := 33) aX10_priceOf_0 rfl)
theorem dX10_priceOf_36 : decode cX10_priceOf 36 = .ok (.istore 7, 2) := dc_54 (a0 := 7) (dc_nn (k := 36) aX10_priceOf_0 rfl)
theorem dX10_priceOf_38 : decode cX10_priceOf 38 = .ok (.aload_n 1, 1) := dc_43 (dc_nn (k := 38) aX10_priceOf_0 rfl)
theorem dX10_priceOf_39 : decode cX10_priceOf 39 = .ok (.bipush 20, 2) := dc_16 (a0 := 20) (dc_nn (k := 39) aX10_priceOf_0 rfl) (by decide)
theorem dX10_priceOf_41 : decode cX10_priceOf 41 = .ok (.iload_n 3, 1) := dc_29 aX10_priceOf_41
theorem dX10_priceOf_42 : decode cX10_priceOf 42 = .ok (.imul, 1) := dc_104 (dc_nn (k := 1) aX10_priceOf_41 rfl)
theorem dX10_priceOf_43 : decode cX10_priceOf 43 = .ok (.iload 5, 2) := dc_21 (a0 := 5) (dc_nn (k := 2) aX10_priceOf_41 rfl)
theorem dX10_priceOf_45 : decode cX10_priceOf 45 = .ok (.iadd, 1) := dc_96 (dc_nn (k := 4) aX10_priceOf_41 rfl)
theorem dX10_priceOf_46 : decode cX10_priceOf 46 = .ok (.iload 6, 2) := dc_21 (a0 := 6) (dc_nn (k := 5) aX10_priceOf_41 rfl)
theorem dX10_priceOf_48 : decode cX10_priceOf 48 = .ok (.invokevirtual 21, 3) := dc_182 (a0 := 0) (b0 := 21) (dc_nn (k := 7) aX10_priceOf_41 rfl)
theorem dX10_priceOf_51 : decode cX10_priceOf 51 = .ok (.istore 8, 2) := dc_54 (a0 := 8) (dc_nn (k := 10) aX10_priceOf_41 rfl)
theorem dX10_priceOf_53 : decode cX10_priceOf 53 = .ok (.iload 4, 2) := dc_21 (a0 := 4) (dc_nn (k := 12) aX10_priceOf_41 rfl)
theorem dX10_priceOf_55 : decode cX10_priceOf 55 = .ok (.aload_n 0, 1) := dc_42 (dc_nn (k := 14) aX10_priceOf_41 rfl)
theorem dX10_priceOf_56 : decode cX10_priceOf 56 = .ok (.iload 6, 2) := dc_21 (a0 := 6) (dc_nn (k := 15) aX10_priceOf_41 rfl)
theorem dX10_priceOf_58 : decode cX10_priceOf 58 = .ok (.iload 7, 2) := dc_21 (a0 := 7) (dc_nn (k := 17) aX10_priceOf_41 rfl)
theorem dX10_priceOf_60 : decode cX10_priceOf 60 = .ok (.iload 8, 2) := dc_21 (a0 := 8) (dc_nn (k := 19) aX10_priceOf_41 rfl)
theorem dX10_priceOf_62 : decode cX10_priceOf 62 = .ok (.invokestatic 27, 3) := dc_184 (a0 := 0) (b0 := 27) (dc_nn (k := 21) aX10_priceOf_41 rfl)
theorem dX10_priceOf_65 : decode cX10_priceOf 65 = .ok (.iadd, 1) := dc_96 (dc_nn (k := 24) aX10_priceOf_41 rfl)
theorem dX10_priceOf_66 : decode cX10_priceOf 66 = .ok (.istore 4, 2) := dc_54 (a0 := 4) (dc_nn (k := 25) aX10_priceOf_41 rfl)
theorem dX10_priceOf_68 : decode cX10_priceOf 68 = .ok (.iinc 6 1, 3) := dc_132 (a0 := 6) (a1 := 1) (dc_nn (k := 27) aX10_priceOf_41 rfl) (by decide)
theorem dX10_priceOf_71 : decode cX10_priceOf 71 = .ok (.goto (-55), 3) := dc_167 (a0 := 255) (b0 := 201) (dc_nn (k := 30) aX10_priceOf_41 rfl) (by decide)
theorem dX10_priceOf_74 : decode cX10_priceOf 74 = .ok (.iinc 5 1, 3) := dc_132 (a0 := 5) (a1 := 1) (dc_nn (k := 33) aX10_priceOf_41 rfl) (by decide)
theorem dX10_priceOf_77 : decode cX10_priceOf 77 = .ok (.goto (-71), 3) := dc_167 (a0 := 255) (b0 := 185) (dc_nn (k := 36) aX10_priceOf_41 rfl) (by decide)
theorem dX10_priceOf_80 : decode cX10_priceOf 80 = .ok (.iload 4, 2) := dc_21 (a0 := 4) (dc_nn (k := 39) aX10_priceOf_41 rfl)
theorem dX10_priceOf_82 : decode cX10_priceOf 82 = .ok (.ireturn, 1) := dc_172 aX10_priceOf_82
set_option maxRecDepth 20000 in
theorem ggX10_priceOfEntry_X4_costBeside : GoodIn wsX10_priceOfEntry wsX4_costBeside := goodIn_k _ [[5, 0, 0, 0], [4, 4, 0, 0, 0, 0, 0, 0, 0]] (by rfl) (by decide +kernel)
set_option maxRecDepth 20000 in
theorem gX10_priceOfEntry_X4_costBeside : GoodIn wsX10_priceOfEntry (wsV RX10 31 RX4 yX4_costBeside wsX4_costBeside) := goodIn_app (goodIn_k _ [[1, 0, 0, 0]] (by rfl) (gw_V _ _ _ _)) ggX10_priceOfEntry_X4_costBeside
noncomputable def sX10_priceOfEntry_41 : List Nat := 6 :: 172 :: []
noncomputable def sX10_priceOfEntry_0 : List Nat := 28 :: 29 :: 160 :: 0 :: 5 :: 3 :: 172 :: 29 :: 2 :: 160 :: 0 :: 5 :: 4 :: 172 :: 28 :: 2 :: 160 :: 0 :: 5 :: 7 :: 172 :: 27 :: 16 :: 21 :: 159 :: 0 :: 17 :: 42 :: 29 :: 28 :: 182 :: 0 :: 31 :: 4 :: 160 :: 0 :: 7 :: 4 :: 167 :: 0 :: 4 :: sX10_priceOfEntry_41
theorem aX10_priceOfEntry_0 : dc_at cX10_priceOfEntry 0 sX10_priceOfEntry_0 := dc_base (by decide +kernel)
theorem aX10_priceOfEntry_41 : dc_at cX10_priceOfEntry 41 sX10_priceOfEntry_41 := dc_nn (k := 41) aX10_priceOfEntry_0 rfl
theorem dX10_priceOfEntry_0 : decode cX10_priceOfEntry 0 = .ok (.iload_n 2, 1) := dc_28 aX10_priceOfEntry_0
theorem dX10_priceOfEntry_1 : decode cX10_priceOfEntry 1 = .ok (.iload_n 3, 1) := dc_29 (dc_nn (k := 1) aX10_priceOfEntry_0 rfl)
theorem dX10_priceOfEntry_2 : decode cX10_priceOfEntry 2 = .ok (.if_icmp .ne 5, 3) := dc_160 (a0 := 0) (b0 := 5) (dc_nn (k := 2) aX10_priceOfEntry_0 rfl) (by decide)
theorem dX10_priceOfEntry_5 : decode cX10_priceOfEntry 5 = .ok (.iconst 0, 1) := dc_3 (dc_nn (k := 5) aX10_priceOfEntry_0 rfl)
theorem dX10_priceOfEntry_6 : decode cX10_priceOfEntry 6 = .ok (.ireturn, 1) := dc_172 (dc_nn (k := 6) aX10_priceOfEntry_0 rfl)
theorem dX10_priceOfEntry_7 : decode cX10_priceOfEntry 7 = .ok (.iload_n 3, 1) := dc_29 (dc_nn (k := 7) aX10_priceOfEntry_0 rfl)
theorem dX10_priceOfEntry_8 : decode cX10_priceOfEntry 8 = .ok (.iconst (-1), 1) := dc_2 (dc_nn (k := 8) aX10_priceOfEntry_0 rfl)
theorem dX10_priceOfEntry_9 : decode cX10_priceOfEntry 9 = .ok (.if_icmp .ne 5, 3) := dc_160 (a0 := 0) (b0 := 5) (dc_nn (k := 9) aX10_priceOfEntry_0 rfl) (by decide)
theorem dX10_priceOfEntry_12 : decode cX10_priceOfEntry 12 = .ok (.iconst 1, 1) := dc_4 (dc_nn (k := 12) aX10_priceOfEntry_0 rfl)
theorem dX10_priceOfEntry_13 : decode cX10_priceOfEntry 13 = .ok (.ireturn, 1) := dc_172 (dc_nn (k := 13) aX10_priceOfEntry_0 rfl)
theorem dX10_priceOfEntry_14 : decode cX10_priceOfEntry 14 = .ok (.iload_n 2, 1) := dc_28 (dc_nn (k := 14) aX10_priceOfEntry_0 rfl)
theorem dX10_priceOfEntry_15 : decode cX10_priceOfEntry 15 = .ok (.iconst (-1), 1) := dc_2 (dc_nn (k := 15) aX10_priceOfEntry_0 rfl)
theorem dX10_priceOfEntry_16 : decode cX10_priceOfEntry 16 = .ok (.if_icmp .ne 5, 3) := dc_160 (a0 := 0) (b0 := 5) (dc_nn (k := 16) aX10_priceOfEntry_0 rfl) (by decide)
theorem dX10_priceOfEntry_19 : decode cX10_priceOfEntry 19 = .ok (.iconst 4, 1) := dc_7 (dc_nn (k := 19) aX10_priceOfEntry_0 rfl)
theorem dX10_priceOfEntry_20 : decode cX10_priceOfEntry 20 = .ok (.ireturn, 1) := dc_172 (dc_nn (k := 20) aX10_priceOfEntry_0 rfl)
theorem dX10_priceOfEntry_21 : decode cX10_priceOfEntry 21 = .ok (.iload_n 1, 1) := dc_27 (dc_nn (k := 21) aX10_priceOfEntry_0 rfl)
theorem dX10_priceOfEntry_22 : decode cX10_priceOfEntry 22 = .ok (.bipush 21, 2) := dc_16 (a0 := 21) (dc_nn (k := 22) aX10_priceOfEntry_0 rfl) (by decide)
theorem dX10_priceOfEntry_24 : decode cX10_priceOfEntry 24 = .ok (.if_icmp .eq 17, 3) := dc_159 (a0 := 0) (b0 := 17) (dc_nn (k := 24) aX10_priceOfEntry_0 rfl) (by decide)
theorem dX10_priceOfEntry_27 : decode cX10_priceOfEntry 27 = .ok (.aload_n 0, 1) := dc_42 (dc_nn (k := 27) aX10_priceOfEntry_0 rfl)
theorem dX10_priceOfEntry_28 : decode cX10_priceOfEntry 28 = .ok (.iload_n 3, 1) := dc_29 (dc_nn (k := 28) aX10_priceOfEntry_0 rfl)
theorem dX10_priceOfEntry_29 : decode cX10_priceOfEntry 29 = .ok (.iload_n 2, 1) := dc_28 (dc_nn (k := 29) aX10_priceOfEntry_0 rfl)
theorem dX10_priceOfEntry_30 : decode cX10_priceOfEntry 30 = .ok (.invokevirtual 31, 3) := dc_182 (a0 := 0) (b0 := 31) (dc_nn (k := 30) aX10_priceOfEntry_0 rfl)
theorem dX10_priceOfEntry_33 : decode cX10_priceOfEntry 33 = .ok (.iconst 1, 1) := dc_4 (dc_nn (k := 33) aX10_priceOfEntry_0 rfl)
theorem dX10_priceOfEntry_34 : decode cX10_priceOfEntry 34 = .ok (.if_icmp .ne 7, 3) := dc_160 (a0 := 0) (b0 := 7) (dc_nn (k := 34) aX10_priceOfEntry_0 rfl) (by decide)
theorem dX10_priceOfEntry_37 : decode cX10_priceOfEntry 37 = .ok (.iconst 1, 1) := dc_4 (dc_nn (k := 37) aX10_priceOfEntry_0 rfl)
theorem dX10_priceOfEntry_38 : decode cX10_priceOfEntry 38 = .ok (.goto 4, 3) := dc_167 (a0 := 0) (b0 := 4) (dc_nn (k := 38) aX10_priceOfEntry_0 rfl) (by decide)
theorem dX10_priceOfEntry_41 : decode cX10_priceOfEntry 41 = .ok (.iconst 3, 1) := dc_6 aX10_priceOfEntry_41
theorem dX10_priceOfEntry_42 : decode cX10_priceOfEntry 42 = .ok (.ireturn, 1) := dc_172 (dc_nn (k := 1) aX10_priceOfEntry_41 rfl)
set_option maxRecDepth 20000 in
theorem ggX10_setBooks_X1_bookTells : GoodIn wsX10_setBooks wsX1_bookTells := goodIn_k _ [[6, 0, 0, 0], [5, 4, 0, 0, 0, 0, 0, 5, 0]] (by rfl) (by decide +kernel)
set_option maxRecDepth 20000 in
theorem gX10_setBooks_X1_bookTells : GoodIn wsX10_setBooks (wsV RX10 36 RX1 yX1_bookTells wsX1_bookTells) := goodIn_app (goodIn_k _ [[2, 0, 0, 0]] (by rfl) (gw_V _ _ _ _)) ggX10_setBooks_X1_bookTells
noncomputable def sX10_setBooks_40 : List Nat := 46 :: 16 :: 253 :: 160 :: 0 :: 7 :: 4 :: 167 :: 0 :: 4 :: 3 :: 61 :: 132 :: 3 :: 1 :: 167 :: 255 :: 205 :: 28 :: 172 :: []
noncomputable def sX10_setBooks_0 : List Nat := 3 :: 61 :: 3 :: 62 :: 29 :: 16 :: 6 :: 162 :: 0 :: 51 :: 42 :: 180 :: 0 :: 15 :: 29 :: 43 :: 29 :: 182 :: 0 :: 36 :: 153 :: 0 :: 8 :: 16 :: 253 :: 167 :: 0 :: 5 :: 16 :: 254 :: 79 :: 28 :: 154 :: 0 :: 14 :: 42 :: 180 :: 0 :: 15 :: 29 :: sX10_setBooks_40
theorem aX10_setBooks_0 : dc_at cX10_setBooks 0 sX10_setBooks_0 := dc_base (by decide +kernel)
theorem aX10_setBooks_40 : dc_at cX10_setBooks 40 sX10_setBooks_40 := dc_nn (k := 40) aX10_setBooks_0 rfl
theorem dX10_setBooks_0 : decode cX10_setBooks 0 = .ok (.iconst 0, 1) := dc_3 aX10_setBooks_0
theorem dX10_setBooks_1 : decode cX10_setBooks 1 = .ok (.istore_n 2, 1) := dc_61 (dc_nn (k := 1) aX10_setBooks_0 rfl)
theorem dX10_setBooks_2 : decode cX10_setBooks 2 = .ok (.iconst 0, 1) := dc_3 (dc_nn (k := 2) aX10_setBooks_0 rfl)
theorem dX10_setBooks_3 : decode cX10_setBooks 3 = .ok (.istore_n 3, 1) := dc_62 (dc_nn (k := 3) aX10_setBooks_0 rfl)
theorem dX10_setBooks_4 : decode cX10_setBooks 4 = .ok (.iload_n 3, 1) := dc_29 (dc_nn (k := 4) aX10_setBooks_0 rfl)
theorem dX10_setBooks_5 : decode cX10_setBooks 5 = .ok (.bipush 6, 2) := dc_16 (a0 := 6) (dc_nn (k := 5) aX10_setBooks_0 rfl) (by decide)
theorem dX10_setBooks_7 : decode cX10_setBooks 7 = .ok (.if_icmp .ge 51, 3) := dc_162 (a0 := 0) (b0 := 51) (dc_nn (k := 7) aX10_setBooks_0 rfl) (by decide)
theorem dX10_setBooks_10 : decode cX10_setBooks 10 = .ok (.aload_n 0, 1) := dc_42 (dc_nn (k := 10) aX10_setBooks_0 rfl)
theorem dX10_setBooks_11 : decode cX10_setBooks 11 = .ok (.getfield 15, 3) := dc_180 (a0 := 0) (b0 := 15) (dc_nn (k := 11) aX10_setBooks_0 rfl)
theorem dX10_setBooks_14 : decode cX10_setBooks 14 = .ok (.iload_n 3, 1) := dc_29 (dc_nn (k := 14) aX10_setBooks_0 rfl)
theorem dX10_setBooks_15 : decode cX10_setBooks 15 = .ok (.aload_n 1, 1) := dc_43 (dc_nn (k := 15) aX10_setBooks_0 rfl)
theorem dX10_setBooks_16 : decode cX10_setBooks 16 = .ok (.iload_n 3, 1) := dc_29 (dc_nn (k := 16) aX10_setBooks_0 rfl)
theorem dX10_setBooks_17 : decode cX10_setBooks 17 = .ok (.invokevirtual 36, 3) := dc_182 (a0 := 0) (b0 := 36) (dc_nn (k := 17) aX10_setBooks_0 rfl)
theorem dX10_setBooks_20 : decode cX10_setBooks 20 = .ok (.ifCond .eq 8, 3) := dc_153 (a0 := 0) (b0 := 8) (dc_nn (k := 20) aX10_setBooks_0 rfl) (by decide)
theorem dX10_setBooks_23 : decode cX10_setBooks 23 = .ok (.bipush (-3), 2) := dc_16 (a0 := 253) (dc_nn (k := 23) aX10_setBooks_0 rfl) (by decide)
theorem dX10_setBooks_25 : decode cX10_setBooks 25 = .ok (.goto 5, 3) := dc_167 (a0 := 0) (b0 := 5) (dc_nn (k := 25) aX10_setBooks_0 rfl) (by decide)
theorem dX10_setBooks_28 : decode cX10_setBooks 28 = .ok (.bipush (-2), 2) := dc_16 (a0 := 254) (dc_nn (k := 28) aX10_setBooks_0 rfl) (by decide)
theorem dX10_setBooks_30 : decode cX10_setBooks 30 = .ok (.iastore, 1) := dc_79 (dc_nn (k := 30) aX10_setBooks_0 rfl)
theorem dX10_setBooks_31 : decode cX10_setBooks 31 = .ok (.iload_n 2, 1) := dc_28 (dc_nn (k := 31) aX10_setBooks_0 rfl)
theorem dX10_setBooks_32 : decode cX10_setBooks 32 = .ok (.ifCond .ne 14, 3) := dc_154 (a0 := 0) (b0 := 14) (dc_nn (k := 32) aX10_setBooks_0 rfl) (by decide)
theorem dX10_setBooks_35 : decode cX10_setBooks 35 = .ok (.aload_n 0, 1) := dc_42 (dc_nn (k := 35) aX10_setBooks_0 rfl)
theorem dX10_setBooks_36 : decode cX10_setBooks 36 = .ok (.getfield 15, 3) := dc_180 (a0 := 0) (b0 := 15) (dc_nn (k := 36) aX10_setBooks_0 rfl)
theorem dX10_setBooks_39 : decode cX10_setBooks 39 = .ok (.iload_n 3, 1) := dc_29 (dc_nn (k := 39) aX10_setBooks_0 rfl)
theorem dX10_setBooks_40 : decode cX10_setBooks 40 = .ok (.iaload, 1) := dc_46 aX10_setBooks_40
theorem dX10_setBooks_41 : decode cX10_setBooks 41 = .ok (.bipush (-3), 2) := dc_16 (a0 := 253) (dc_nn (k := 1) aX10_setBooks_40 rfl) (by decide)
theorem dX10_setBooks_43 : decode cX10_setBooks 43 = .ok (.if_icmp .ne 7, 3) := dc_160 (a0 := 0) (b0 := 7) (dc_nn (k := 3) aX10_setBooks_40 rfl) (by decide)
theorem dX10_setBooks_46 : decode cX10_setBooks 46 = .ok (.iconst 1, 1) := dc_4 (dc_nn (k := 6) aX10_setBooks_40 rfl)
theorem dX10_setBooks_47 : decode cX10_setBooks 47 = .ok (.goto 4, 3) := dc_167 (a0 := 0) (b0 := 4) (dc_nn (k := 7) aX10_setBooks_40 rfl) (by decide)
theorem dX10_setBooks_50 : decode cX10_setBooks 50 = .ok (.iconst 0, 1) := dc_3 (dc_nn (k := 10) aX10_setBooks_40 rfl)
theorem dX10_setBooks_51 : decode cX10_setBooks 51 = .ok (.istore_n 2, 1) := dc_61 (dc_nn (k := 11) aX10_setBooks_40 rfl)
theorem dX10_setBooks_52 : decode cX10_setBooks 52 = .ok (.iinc 3 1, 3) := dc_132 (a0 := 3) (a1 := 1) (dc_nn (k := 12) aX10_setBooks_40 rfl) (by decide)
theorem dX10_setBooks_55 : decode cX10_setBooks 55 = .ok (.goto (-51), 3) := dc_167 (a0 := 255) (b0 := 205) (dc_nn (k := 15) aX10_setBooks_40 rfl) (by decide)
theorem dX10_setBooks_58 : decode cX10_setBooks 58 = .ok (.iload_n 2, 1) := dc_28 (dc_nn (k := 18) aX10_setBooks_40 rfl)
theorem dX10_setBooks_59 : decode cX10_setBooks 59 = .ok (.ireturn, 1) := dc_172 (dc_nn (k := 19) aX10_setBooks_40 rfl)
set_option maxRecDepth 20000 in
theorem ggX10_setPrices_X10_priceOf : GoodIn wsX10_setPrices wsX10_priceOf := goodIn_k _ [[6, 0, 0, 0, 0, 0, 0, 0, 0], [5, 9, 0, 0, 0, 0, 0, 0, 0, 0, 0, 0, 0, 0, 0, 0, 5, 0, 0, 0]] (by rfl) (by decide +kernel)
set_option maxRecDepth 20000 in
theorem gX10_setPrices_X10_priceOf : GoodIn wsX10_setPrices (va_wsS RX10 40 yX10_priceOf wsX10_priceOf) := goodIn_app (goodIn_k _ [[3, 0, 0]] (by rfl) (gw_S _ _ _ _)) ggX10_setPrices_X10_priceOf
noncomputable def sX10_setPrices_83 : List Nat := 132 :: 3 :: 1 :: 167 :: 255 :: 172 :: 177 :: []
noncomputable def sX10_setPrices_41 : List Nat := 4 :: 167 :: 0 :: 4 :: 3 :: 54 :: 5 :: 42 :: 180 :: 0 :: 9 :: 16 :: 6 :: 29 :: 104 :: 21 :: 4 :: 96 :: 21 :: 5 :: 153 :: 0 :: 14 :: 43 :: 44 :: 29 :: 21 :: 4 :: 184 :: 0 :: 40 :: 167 :: 0 :: 4 :: 3 :: 79 :: 132 :: 4 :: 1 :: 167 :: 255 :: 187 :: sX10_setPrices_83
noncomputable def sX10_setPrices_0 : List Nat := 3 :: 62 :: 29 :: 16 :: 6 :: 162 :: 0 :: 84 :: 3 :: 54 :: 4 :: 21 :: 4 :: 16 :: 6 :: 162 :: 0 :: 68 :: 42 :: 180 :: 0 :: 15 :: 29 :: 46 :: 16 :: 253 :: 160 :: 0 :: 19 :: 42 :: 180 :: 0 :: 15 :: 21 :: 4 :: 46 :: 16 :: 253 :: 160 :: 0 :: 7 :: sX10_setPrices_41
theorem aX10_setPrices_0 : dc_at cX10_setPrices 0 sX10_setPrices_0 := dc_base (by decide +kernel)
theorem aX10_setPrices_41 : dc_at cX10_setPrices 41 sX10_setPrices_41 := dc_nn (k := 41) aX10_setPrices_0 rfl
theorem aX10_setPrices_83 : dc_at cX10_setPrices 83 sX10_setPrices_83 := dc_nn (k := 42) aX10_setPrices_41 rfl
theorem dX10_setPrices_0 : decode cX10_setPrices 0 = .ok (.iconst 0, 1) := dc_3 aX10_setPrices_0
theorem dX10_setPrices_1 : decode cX10_setPrices 1 = .ok (.istore_n 3, 1) := dc_62 (dc_nn (k := 1) aX10_setPrices_0 rfl)
theorem dX10_setPrices_2 : decode cX10_setPrices 2 = .ok (.iload_n 3, 1) := dc_29 (dc_nn (k := 2) aX10_setPrices_0 rfl)
theorem dX10_setPrices_3 : decode cX10_setPrices 3 = .ok (.bipush 6, 2) := dc_16 (a0 := 6) (dc_nn (k := 3) aX10_setPrices_0 rfl) (by decide)
theorem dX10_setPrices_5 : decode cX10_setPrices 5 = .ok (.if_icmp .ge 84, 3) := dc_162 (a0 := 0) (b0 := 84) (dc_nn (k := 5) aX10_setPrices_0 rfl) (by decide)
theorem dX10_setPrices_8 : decode cX10_setPrices 8 = .ok (.iconst 0, 1) := dc_3 (dc_nn (k := 8) aX10_setPrices_0 rfl)
theorem dX10_setPrices_9 : decode cX10_setPrices 9 = .ok (.istore 4, 2) := dc_54 (a0 := 4) (dc_nn (k := 9) aX10_setPrices_0 rfl)
theorem dX10_setPrices_11 : decode cX10_setPrices 11 = .ok (.iload 4, 2) := dc_21 (a0 := 4) (dc_nn (k := 11) aX10_setPrices_0 rfl)
theorem dX10_setPrices_13 : decode cX10_setPrices 13 = .ok (.bipush 6, 2) := dc_16 (a0 := 6) (dc_nn (k := 13) aX10_setPrices_0 rfl) (by decide)
theorem dX10_setPrices_15 : decode cX10_setPrices 15 = .ok (.if_icmp .ge 68, 3) := dc_162 (a0 := 0) (b0 := 68) (dc_nn (k := 15) aX10_setPrices_0 rfl) (by decide)
theorem dX10_setPrices_18 : decode cX10_setPrices 18 = .ok (.aload_n 0, 1) := dc_42 (dc_nn (k := 18) aX10_setPrices_0 rfl)
theorem dX10_setPrices_19 : decode cX10_setPrices 19 = .ok (.getfield 15, 3) := dc_180 (a0 := 0) (b0 := 15) (dc_nn (k := 19) aX10_setPrices_0 rfl)
theorem dX10_setPrices_22 : decode cX10_setPrices 22 = .ok (.iload_n 3, 1) := dc_29 (dc_nn (k := 22) aX10_setPrices_0 rfl)
theorem dX10_setPrices_23 : decode cX10_setPrices 23 = .ok (.iaload, 1) := dc_46 (dc_nn (k := 23) aX10_setPrices_0 rfl)
theorem dX10_setPrices_24 : decode cX10_setPrices 24 = .ok (.bipush (-3), 2) := dc_16 (a0 := 253) (dc_nn (k := 24) aX10_setPrices_0 rfl) (by decide)
theorem dX10_setPrices_26 : decode cX10_setPrices 26 = .ok (.if_icmp .ne 19, 3) := dc_160 (a0 := 0) (b0 := 19) (dc_nn (k := 26) aX10_setPrices_0 rfl) (by decide)
theorem dX10_setPrices_29 : decode cX10_setPrices 29 = .ok (.aload_n 0, 1) := dc_42 (dc_nn (k := 29) aX10_setPrices_0 rfl)
theorem dX10_setPrices_30 : decode cX10_setPrices 30 = .ok (.getfield 15, 3) := dc_180 (a0 := 0) (b0 := 15) (dc_nn (k := 30) aX10_setPrices_0 rfl)
theorem dX10_setPrices_33 : decode cX10_setPrices 33 = .ok (.iload 4, 2) := dc_21 (a0 := 4) (dc_nn (k := 33) aX10_setPrices_0 rfl)
theorem dX10_setPrices_35 : decode cX10_setPrices 35 = .ok (.iaload, 1) := dc_46 (dc_nn (k := 35) aX10_setPrices_0 rfl)
theorem dX10_setPrices_36 : decode cX10_setPrices 36 = .ok (.bipush (-3), 2) := dc_16 (a0 := 253) (dc_nn (k := 36) aX10_setPrices_0 rfl) (by decide)
theorem dX10_setPrices_38 : decode cX10_setPrices 38 = .ok (.if_icmp .ne 7, 3) := dc_160 (a0 := 0) (b0 := 7) (dc_nn (k := 38) aX10_setPrices_0 rfl) (by decide)
theorem dX10_setPrices_41 : decode cX10_setPrices 41 = .ok (.iconst 1, 1) := dc_4 aX10_setPrices_41
theorem dX10_setPrices_42 : decode cX10_setPrices 42 = .ok (.goto 4, 3) := dc_167 (a0 := 0) (b0 := 4) (dc_nn (k := 1) aX10_setPrices_41 rfl) (by decide)
theorem dX10_setPrices_45 : decode cX10_setPrices 45 = .ok (.iconst 0, 1) := dc_3 (dc_nn (k := 4) aX10_setPrices_41 rfl)
theorem dX10_setPrices_46 : decode cX10_setPrices 46 = .ok (.istore 5, 2) := dc_54 (a0 := 5) (dc_nn (k := 5) aX10_setPrices_41 rfl)
theorem dX10_setPrices_48 : decode cX10_setPrices 48 = .ok (.aload_n 0, 1) := dc_42 (dc_nn (k := 7) aX10_setPrices_41 rfl)
theorem dX10_setPrices_49 : decode cX10_setPrices 49 = .ok (.getfield 9, 3) := dc_180 (a0 := 0) (b0 := 9) (dc_nn (k := 8) aX10_setPrices_41 rfl)
theorem dX10_setPrices_52 : decode cX10_setPrices 52 = .ok (.bipush 6, 2) := dc_16 (a0 := 6) (dc_nn (k := 11) aX10_setPrices_41 rfl) (by decide)
theorem dX10_setPrices_54 : decode cX10_setPrices 54 = .ok (.iload_n 3, 1) := dc_29 (dc_nn (k := 13) aX10_setPrices_41 rfl)
theorem dX10_setPrices_55 : decode cX10_setPrices 55 = .ok (.imul, 1) := dc_104 (dc_nn (k := 14) aX10_setPrices_41 rfl)
theorem dX10_setPrices_56 : decode cX10_setPrices 56 = .ok (.iload 4, 2) := dc_21 (a0 := 4) (dc_nn (k := 15) aX10_setPrices_41 rfl)
theorem dX10_setPrices_58 : decode cX10_setPrices 58 = .ok (.iadd, 1) := dc_96 (dc_nn (k := 17) aX10_setPrices_41 rfl)
theorem dX10_setPrices_59 : decode cX10_setPrices 59 = .ok (.iload 5, 2) := dc_21 (a0 := 5) (dc_nn (k := 18) aX10_setPrices_41 rfl)
theorem dX10_setPrices_61 : decode cX10_setPrices 61 = .ok (.ifCond .eq 14, 3) := dc_153 (a0 := 0) (b0 := 14) (dc_nn (k := 20) aX10_setPrices_41 rfl) (by decide)
theorem dX10_setPrices_64 : decode cX10_setPrices 64 = .ok (.aload_n 1, 1) := dc_43 (dc_nn (k := 23) aX10_setPrices_41 rfl)
theorem dX10_setPrices_65 : decode cX10_setPrices 65 = .ok (.aload_n 2, 1) := dc_44 (dc_nn (k := 24) aX10_setPrices_41 rfl)
theorem dX10_setPrices_66 : decode cX10_setPrices 66 = .ok (.iload_n 3, 1) := dc_29 (dc_nn (k := 25) aX10_setPrices_41 rfl)
theorem dX10_setPrices_67 : decode cX10_setPrices 67 = .ok (.iload 4, 2) := dc_21 (a0 := 4) (dc_nn (k := 26) aX10_setPrices_41 rfl)
theorem dX10_setPrices_69 : decode cX10_setPrices 69 = .ok (.invokestatic 40, 3) := dc_184 (a0 := 0) (b0 := 40) (dc_nn (k := 28) aX10_setPrices_41 rfl)
theorem dX10_setPrices_72 : decode cX10_setPrices 72 = .ok (.goto 4, 3) := dc_167 (a0 := 0) (b0 := 4) (dc_nn (k := 31) aX10_setPrices_41 rfl) (by decide)
theorem dX10_setPrices_75 : decode cX10_setPrices 75 = .ok (.iconst 0, 1) := dc_3 (dc_nn (k := 34) aX10_setPrices_41 rfl)
theorem dX10_setPrices_76 : decode cX10_setPrices 76 = .ok (.iastore, 1) := dc_79 (dc_nn (k := 35) aX10_setPrices_41 rfl)
theorem dX10_setPrices_77 : decode cX10_setPrices 77 = .ok (.iinc 4 1, 3) := dc_132 (a0 := 4) (a1 := 1) (dc_nn (k := 36) aX10_setPrices_41 rfl) (by decide)
theorem dX10_setPrices_80 : decode cX10_setPrices 80 = .ok (.goto (-69), 3) := dc_167 (a0 := 255) (b0 := 187) (dc_nn (k := 39) aX10_setPrices_41 rfl) (by decide)
theorem dX10_setPrices_83 : decode cX10_setPrices 83 = .ok (.iinc 3 1, 3) := dc_132 (a0 := 3) (a1 := 1) aX10_setPrices_83 (by decide)
theorem dX10_setPrices_86 : decode cX10_setPrices 86 = .ok (.goto (-84), 3) := dc_167 (a0 := 255) (b0 := 172) (dc_nn (k := 3) aX10_setPrices_83 rfl) (by decide)
theorem dX10_setPrices_89 : decode cX10_setPrices 89 = .ok (.return_, 1) := dc_177 (dc_nn (k := 6) aX10_setPrices_83 rfl)
set_option maxRecDepth 20000 in
theorem ggX10_grow_X10_choose : GoodIn wsX10_grow wsX10_choose := goodIn_k _ [[8], [2, 6, 0, 0, 0, 0, 0, 0], [4, 0, 0, 0, 8, 0, 0, 0, 0, 0, 0, 0, 0]] (by rfl) (by decide +kernel)
set_option maxRecDepth 20000 in
theorem gX10_grow_X10_choose : GoodIn wsX10_grow (wsV RX10 49 RX10 yX10_choose wsX10_choose) := goodIn_app (goodIn_k _ [[4, 0, 0, 0]] (by rfl) (gw_V _ _ _ _)) ggX10_grow_X10_choose
noncomputable def sX10_grow_0 : List Nat := 42 :: 18 :: 44 :: 181 :: 0 :: 45 :: 42 :: 3 :: 3 :: 3 :: 182 :: 0 :: 49 :: 42 :: 4 :: 181 :: 0 :: 53 :: 42 :: 180 :: 0 :: 45 :: 172 :: []
theorem aX10_grow_0 : dc_at cX10_grow 0 sX10_grow_0 := dc_base (by decide +kernel)
theorem dX10_grow_0 : decode cX10_grow 0 = .ok (.aload_n 0, 1) := dc_42 aX10_grow_0
theorem dX10_grow_1 : decode cX10_grow 1 = .ok (.ldc 44, 2) := dc_18 (a0 := 44) (dc_nn (k := 1) aX10_grow_0 rfl)
theorem dX10_grow_3 : decode cX10_grow 3 = .ok (.putfield 45, 3) := dc_181 (a0 := 0) (b0 := 45) (dc_nn (k := 3) aX10_grow_0 rfl)
theorem dX10_grow_6 : decode cX10_grow 6 = .ok (.aload_n 0, 1) := dc_42 (dc_nn (k := 6) aX10_grow_0 rfl)
theorem dX10_grow_7 : decode cX10_grow 7 = .ok (.iconst 0, 1) := dc_3 (dc_nn (k := 7) aX10_grow_0 rfl)
theorem dX10_grow_8 : decode cX10_grow 8 = .ok (.iconst 0, 1) := dc_3 (dc_nn (k := 8) aX10_grow_0 rfl)
theorem dX10_grow_9 : decode cX10_grow 9 = .ok (.iconst 0, 1) := dc_3 (dc_nn (k := 9) aX10_grow_0 rfl)
theorem dX10_grow_10 : decode cX10_grow 10 = .ok (.invokevirtual 49, 3) := dc_182 (a0 := 0) (b0 := 49) (dc_nn (k := 10) aX10_grow_0 rfl)
theorem dX10_grow_13 : decode cX10_grow 13 = .ok (.aload_n 0, 1) := dc_42 (dc_nn (k := 13) aX10_grow_0 rfl)
theorem dX10_grow_14 : decode cX10_grow 14 = .ok (.iconst 1, 1) := dc_4 (dc_nn (k := 14) aX10_grow_0 rfl)
theorem dX10_grow_15 : decode cX10_grow 15 = .ok (.putfield 53, 3) := dc_181 (a0 := 0) (b0 := 53) (dc_nn (k := 15) aX10_grow_0 rfl)
theorem dX10_grow_18 : decode cX10_grow 18 = .ok (.aload_n 0, 1) := dc_42 (dc_nn (k := 18) aX10_grow_0 rfl)
theorem dX10_grow_19 : decode cX10_grow 19 = .ok (.getfield 45, 3) := dc_180 (a0 := 0) (b0 := 45) (dc_nn (k := 19) aX10_grow_0 rfl)
theorem dX10_grow_22 : decode cX10_grow 22 = .ok (.ireturn, 1) := dc_172 (dc_nn (k := 22) aX10_grow_0 rfl)
set_option maxRecDepth 20000 in
theorem ggX10_choose_X10_choose : GoodIn wsX10_choose wsX10_choose := goodIn_k _ [[0, 0, 0, 0, 0, 0, 0, 0, 0, 0, 0, 0, 0, 0, 0, 0, 0, 0, 0, 0, 0, 0]] (by rfl) (by decide +kernel)
set_option maxRecDepth 20000 in
theorem gX10_choose_X10_choose : GoodIn wsX10_choose (wsV RX10 49 RX10 yX10_choose wsX10_choose) := goodIn_app (goodIn_k _ [[9, 0, 0, 0]] (by rfl) (gw_V _ _ _ _)) ggX10_choose_X10_choose
set_option maxRecDepth 20000 in
theorem ggX10_choose_X10_comesFrom : GoodIn wsX10_choose wsX10_comesFrom := goodIn_k _ [[16], [2, 14, 0, 0, 0, 0]] (by rfl) (by decide +kernel)
set_option maxRecDepth 20000 in
theorem gX10_choose_X10_comesFrom : GoodIn wsX10_choose (wsV RX10 63 RX10 yX10_comesFrom wsX10_comesFrom) := goodIn_app (goodIn_k _ [[13, 0, 0], [12]] (by rfl) (gw_V _ _ _ _)) ggX10_choose_X10_comesFrom
noncomputable def sX10_choose_161 : List Nat := 177 :: []
noncomputable def sX10_choose_121 : List Nat := 27 :: 21 :: 4 :: 79 :: 42 :: 27 :: 4 :: 96 :: 28 :: 42 :: 180 :: 0 :: 9 :: 16 :: 6 :: 21 :: 4 :: 104 :: 27 :: 96 :: 46 :: 96 :: 29 :: 182 :: 0 :: 49 :: 132 :: 4 :: 1 :: 167 :: 255 :: 186 :: 42 :: 180 :: 0 :: 15 :: 27 :: 16 :: 253 :: 79 :: sX10_choose_161
noncomputable def sX10_choose_80 : List Nat := 21 :: 4 :: 16 :: 6 :: 162 :: 0 :: 69 :: 42 :: 180 :: 0 :: 15 :: 27 :: 16 :: 253 :: 79 :: 42 :: 180 :: 0 :: 15 :: 21 :: 4 :: 46 :: 16 :: 254 :: 159 :: 0 :: 43 :: 42 :: 21 :: 4 :: 27 :: 182 :: 0 :: 63 :: 154 :: 0 :: 33 :: 42 :: 180 :: 0 :: 15 :: sX10_choose_121
noncomputable def sX10_choose_40 : List Nat := 27 :: 46 :: 16 :: 254 :: 160 :: 0 :: 13 :: 42 :: 27 :: 4 :: 96 :: 28 :: 29 :: 182 :: 0 :: 49 :: 177 :: 29 :: 154 :: 0 :: 19 :: 42 :: 180 :: 0 :: 15 :: 27 :: 2 :: 79 :: 42 :: 27 :: 4 :: 96 :: 28 :: 4 :: 182 :: 0 :: 49 :: 3 :: 54 :: 4 :: sX10_choose_80
noncomputable def sX10_choose_0 : List Nat := 28 :: 42 :: 180 :: 0 :: 45 :: 161 :: 0 :: 4 :: 177 :: 27 :: 16 :: 6 :: 161 :: 0 :: 24 :: 42 :: 28 :: 181 :: 0 :: 45 :: 42 :: 180 :: 0 :: 15 :: 3 :: 42 :: 180 :: 0 :: 18 :: 3 :: 16 :: 6 :: 184 :: 0 :: 57 :: 177 :: 42 :: 180 :: 0 :: 15 :: sX10_choose_40
theorem aX10_choose_0 : dc_at cX10_choose 0 sX10_choose_0 := dc_base (by decide +kernel)
theorem aX10_choose_40 : dc_at cX10_choose 40 sX10_choose_40 := dc_nn (k := 40) aX10_choose_0 rfl
theorem aX10_choose_80 : dc_at cX10_choose 80 sX10_choose_80 := dc_nn (k := 40) aX10_choose_40 rfl
theorem aX10_choose_121 : dc_at cX10_choose 121 sX10_choose_121 := dc_nn (k := 41) aX10_choose_80 rfl
theorem aX10_choose_161 : dc_at cX10_choose 161 sX10_choose_161 := dc_nn (k := 40) aX10_choose_121 rfl
theorem dX10_choose_0 : decode cX10_choose 0 = .ok (.iload_n 2, 1) := dc_28 aX10_choose_0
theorem dX10_choose_1 : decode cX10_choose 1 = .ok (.aload_n 0, 1) := dc_42 (dc_nn (k := 1) aX10_choose_0 rfl)
theorem dX10_choose_2 : decode cX10_choose 2 = .ok (.getfield 45, 3) := dc_180 (a0 := 0) (b0 := 45) (dc_nn (k := 2) aX10_choose_0 rfl)
theorem dX10_choose_5 : decode cX10_choose 5 = .ok (.if_icmp .lt 4, 3) := dc_161 (a0 := 0) (b0 := 4) (dc_nn (k := 5) aX10_choose_0 rfl) (by decide)
theorem dX10_choose_8 : decode cX10_choose 8 = .ok (.return_, 1) := dc_177 (dc_nn (k := 8) aX10_choose_0 rfl)
theorem dX10_choose_9 : decode cX10_choose 9 = .ok (.iload_n 1, 1) := dc_27 (dc_nn (k := 9) aX10_choose_0 rfl)
theorem dX10_choose_10 : decode cX10_choose 10 = .ok (.bipush 6, 2) := dc_16 (a0 := 6) (dc_nn (k := 10) aX10_choose_0 rfl) (by decide)
theorem dX10_choose_12 : decode cX10_choose 12 = .ok (.if_icmp .lt 24, 3) := dc_161 (a0 := 0) (b0 := 24) (dc_nn (k := 12) aX10_choose_0 rfl) (by decide)
theorem dX10_choose_15 : decode cX10_choose 15 = .ok (.aload_n 0, 1) := dc_42 (dc_nn (k := 15) aX10_choose_0 rfl)
theorem dX10_choose_16 : decode cX10_choose 16 = .ok (.iload_n 2, 1) := dc_28 (dc_nn (k := 16) aX10_choose_0 rfl)
theorem dX10_choose_17 : decode cX10_choose 17 = .ok (.putfield 45, 3) := dc_181 (a0 := 0) (b0 := 45) (dc_nn (k := 17) aX10_choose_0 rfl)
theorem dX10_choose_20 : decode cX10_choose 20 = .ok (.aload_n 0, 1) := dc_42 (dc_nn (k := 20) aX10_choose_0 rfl)
theorem dX10_choose_21 : decode cX10_choose 21 = .ok (.getfield 15, 3) := dc_180 (a0 := 0) (b0 := 15) (dc_nn (k := 21) aX10_choose_0 rfl)
theorem dX10_choose_24 : decode cX10_choose 24 = .ok (.iconst 0, 1) := dc_3 (dc_nn (k := 24) aX10_choose_0 rfl)
theorem dX10_choose_25 : decode cX10_choose 25 = .ok (.aload_n 0, 1) := dc_42 (dc_nn (k := 25) aX10_choose_0 rfl)
theorem dX10_choose_26 : decode cX10_choose 26 = .ok (.getfield 18, 3) := dc_180 (a0 := 0) (b0 := 18) (dc_nn (k := 26) aX10_choose_0 rfl)
theorem dX10_choose_29 : decode cX10_choose 29 = .ok (.iconst 0, 1) := dc_3 (dc_nn (k := 29) aX10_choose_0 rfl)
theorem dX10_choose_30 : decode cX10_choose 30 = .ok (.bipush 6, 2) := dc_16 (a0 := 6) (dc_nn (k := 30) aX10_choose_0 rfl) (by decide)
theorem dX10_choose_32 : decode cX10_choose 32 = .ok (.invokestatic 57, 3) := dc_184 (a0 := 0) (b0 := 57) (dc_nn (k := 32) aX10_choose_0 rfl)
theorem dX10_choose_35 : decode cX10_choose 35 = .ok (.return_, 1) := dc_177 (dc_nn (k := 35) aX10_choose_0 rfl)
theorem dX10_choose_36 : decode cX10_choose 36 = .ok (.aload_n 0, 1) := dc_42 (dc_nn (k := 36) aX10_choose_0 rfl)
theorem dX10_choose_37 : decode cX10_choose 37 = .ok (.getfield 15, 3) := dc_180 (a0 := 0) (b0 := 15) (dc_nn (k := 37) aX10_choose_0 rfl)
theorem dX10_choose_40 : decode cX10_choose 40 = .ok (.iload_n 1, 1) := dc_27 aX10_choose_40
theorem dX10_choose_41 : decode cX10_choose 41 = .ok (.iaload, 1) := dc_46 (dc_nn (k := 1) aX10_choose_40 rfl)
theorem dX10_choose_42 : decode cX10_choose 42 = .ok (.bipush (-2), 2) := dc_16 (a0 := 254) (dc_nn (k := 2) aX10_choose_40 rfl) (by decide)
theorem dX10_choose_44 : decode cX10_choose 44 = .ok (.if_icmp .ne 13, 3) := dc_160 (a0 := 0) (b0 := 13) (dc_nn (k := 4) aX10_choose_40 rfl) (by decide)
theorem dX10_choose_47 : decode cX10_choose 47 = .ok (.aload_n 0, 1) := dc_42 (dc_nn (k := 7) aX10_choose_40 rfl)
theorem dX10_choose_48 : decode cX10_choose 48 = .ok (.iload_n 1, 1) := dc_27 (dc_nn (k := 8) aX10_choose_40 rfl)
theorem dX10_choose_49 : decode cX10_choose 49 = .ok (.iconst 1, 1) := dc_4 (dc_nn (k := 9) aX10_choose_40 rfl)
theorem dX10_choose_50 : decode cX10_choose 50 = .ok (.iadd, 1) := dc_96 (dc_nn (k := 10) aX10_choose_40 rfl)
theorem dX10_choose_51 : decode cX10_choose 51 = .ok (.iload_n 2, 1) := dc_28 (dc_nn (k := 11) aX10_choose_40 rfl)
theorem dX10_choose_52 : decode cX10_choose 52 = .ok (.iload_n 3, 1) := dc_29 (dc_nn (k := 12) aX10_choose_40 rfl)
theorem dX10_choose_53 : decode cX10_choose 53 = .ok (.invokevirtual 49, 3) := dc_182 (a0 := 0) (b0 := 49) (dc_nn (k := 13) aX10_choose_40 rfl)
theorem dX10_choose_56 : decode cX10_choose 56 = .ok (.return_, 1) := dc_177 (dc_nn (k := 16) aX10_choose_40 rfl)
theorem dX10_choose_57 : decode cX10_choose 57 = .ok (.iload_n 3, 1) := dc_29 (dc_nn (k := 17) aX10_choose_40 rfl)
theorem dX10_choose_58 : decode cX10_choose 58 = .ok (.ifCond .ne 19, 3) := dc_154 (a0 := 0) (b0 := 19) (dc_nn (k := 18) aX10_choose_40 rfl) (by decide)
theorem dX10_choose_61 : decode cX10_choose 61 = .ok (.aload_n 0, 1) := dc_42 (dc_nn (k := 21) aX10_choose_40 rfl)
theorem dX10_choose_62 : decode cX10_choose 62 = .ok (.getfield 15, 3) := dc_180 (a0 := 0) (b0 := 15) (dc_nn (k := 22) aX10_choose_40 rfl)
theorem dX10_choose_65 : decode cX10_choose 65 = .ok (.iload_n 1, 1) := dc_27 (dc_nn (k := 25) aX10_choose_40 rfl)
theorem dX10_choose_66 : decode cX10_choose 66 = .ok (.iconst (-1), 1) := dc_2 (dc_nn (k := 26) aX10_choose_40 rfl)
theorem dX10_choose_67 : decode cX10_choose 67 = .ok (.iastore, 1) := dc_79 (dc_nn (k := 27) aX10_choose_40 rfl)
theorem dX10_choose_68 : decode cX10_choose 68 = .ok (.aload_n 0, 1) := dc_42 (dc_nn (k := 28) aX10_choose_40 rfl)
theorem dX10_choose_69 : decode cX10_choose 69 = .ok (.iload_n 1, 1) := dc_27 (dc_nn (k := 29) aX10_choose_40 rfl)
theorem dX10_choose_70 : decode cX10_choose 70 = .ok (.iconst 1, 1) := dc_4 (dc_nn (k := 30) aX10_choose_40 rfl)
theorem dX10_choose_71 : decode cX10_choose 71 = .ok (.iadd, 1) := dc_96 (dc_nn (k := 31) aX10_choose_40 rfl)
theorem dX10_choose_72 : decode cX10_choose 72 = .ok (.iload_n 2, 1) := dc_28 (dc_nn (k := 32) aX10_choose_40 rfl)
theorem dX10_choose_73 : decode cX10_choose 73 = .ok (.iconst 1, 1) := dc_4 (dc_nn (k := 33) aX10_choose_40 rfl)
theorem dX10_choose_74 : decode cX10_choose 74 = .ok (.invokevirtual 49, 3) := dc_182 (a0 := 0) (b0 := 49) (dc_nn (k := 34) aX10_choose_40 rfl)
theorem dX10_choose_77 : decode cX10_choose 77 = .ok (.iconst 0, 1) := dc_3 (dc_nn (k := 37) aX10_choose_40 rfl)
theorem dX10_choose_78 : decode cX10_choose 78 = .ok (.istore 4, 2) := dc_54 (a0 := 4) (dc_nn (k := 38) aX10_choose_40 rfl)
theorem dX10_choose_80 : decode cX10_choose 80 = .ok (.iload 4, 2) := dc_21 (a0 := 4) aX10_choose_80
theorem dX10_choose_82 : decode cX10_choose 82 = .ok (.bipush 6, 2) := dc_16 (a0 := 6) (dc_nn (k := 2) aX10_choose_80 rfl) (by decide)
theorem dX10_choose_84 : decode cX10_choose 84 = .ok (.if_icmp .ge 69, 3) := dc_162 (a0 := 0) (b0 := 69) (dc_nn (k := 4) aX10_choose_80 rfl) (by decide)
theorem dX10_choose_87 : decode cX10_choose 87 = .ok (.aload_n 0, 1) := dc_42 (dc_nn (k := 7) aX10_choose_80 rfl)
theorem dX10_choose_88 : decode cX10_choose 88 = .ok (.getfield 15, 3) := dc_180 (a0 := 0) (b0 := 15) (dc_nn (k := 8) aX10_choose_80 rfl)
theorem dX10_choose_91 : decode cX10_choose 91 = .ok (.iload_n 1, 1) := dc_27 (dc_nn (k := 11) aX10_choose_80 rfl)
theorem dX10_choose_92 : decode cX10_choose 92 = .ok (.bipush (-3), 2) := dc_16 (a0 := 253) (dc_nn (k := 12) aX10_choose_80 rfl) (by decide)
theorem dX10_choose_94 : decode cX10_choose 94 = .ok (.iastore, 1) := dc_79 (dc_nn (k := 14) aX10_choose_80 rfl)
theorem dX10_choose_95 : decode cX10_choose 95 = .ok (.aload_n 0, 1) := dc_42 (dc_nn (k := 15) aX10_choose_80 rfl)
theorem dX10_choose_96 : decode cX10_choose 96 = .ok (.getfield 15, 3) := dc_180 (a0 := 0) (b0 := 15) (dc_nn (k := 16) aX10_choose_80 rfl)
theorem dX10_choose_99 : decode cX10_choose 99 = .ok (.iload 4, 2) := dc_21 (a0 := 4) (dc_nn (k := 19) aX10_choose_80 rfl)
theorem dX10_choose_101 : decode cX10_choose 101 = .ok (.iaload, 1) := dc_46 (dc_nn (k := 21) aX10_choose_80 rfl)
theorem dX10_choose_102 : decode cX10_choose 102 = .ok (.bipush (-2), 2) := dc_16 (a0 := 254) (dc_nn (k := 22) aX10_choose_80 rfl) (by decide)
theorem dX10_choose_104 : decode cX10_choose 104 = .ok (.if_icmp .eq 43, 3) := dc_159 (a0 := 0) (b0 := 43) (dc_nn (k := 24) aX10_choose_80 rfl) (by decide)
theorem dX10_choose_107 : decode cX10_choose 107 = .ok (.aload_n 0, 1) := dc_42 (dc_nn (k := 27) aX10_choose_80 rfl)
theorem dX10_choose_108 : decode cX10_choose 108 = .ok (.iload 4, 2) := dc_21 (a0 := 4) (dc_nn (k := 28) aX10_choose_80 rfl)
theorem dX10_choose_110 : decode cX10_choose 110 = .ok (.iload_n 1, 1) := dc_27 (dc_nn (k := 30) aX10_choose_80 rfl)
theorem dX10_choose_111 : decode cX10_choose 111 = .ok (.invokevirtual 63, 3) := dc_182 (a0 := 0) (b0 := 63) (dc_nn (k := 31) aX10_choose_80 rfl)
theorem dX10_choose_114 : decode cX10_choose 114 = .ok (.ifCond .ne 33, 3) := dc_154 (a0 := 0) (b0 := 33) (dc_nn (k := 34) aX10_choose_80 rfl) (by decide)
theorem dX10_choose_117 : decode cX10_choose 117 = .ok (.aload_n 0, 1) := dc_42 (dc_nn (k := 37) aX10_choose_80 rfl)
theorem dX10_choose_118 : decode cX10_choose 118 = .ok (.getfield 15, 3) := dc_180 (a0 := 0) (b0 := 15) (dc_nn (k := 38) aX10_choose_80 rfl)
theorem dX10_choose_121 : decode cX10_choose 121 = .ok (.iload_n 1, 1) := dc_27 aX10_choose_121
theorem dX10_choose_122 : decode cX10_choose 122 = .ok (.iload 4, 2) := dc_21 (a0 := 4) (dc_nn (k := 1) aX10_choose_121 rfl)
theorem dX10_choose_124 : decode cX10_choose 124 = .ok (.iastore, 1) := dc_79 (dc_nn (k := 3) aX10_choose_121 rfl)
theorem dX10_choose_125 : decode cX10_choose 125 = .ok (.aload_n 0, 1) := dc_42 (dc_nn (k := 4) aX10_choose_121 rfl)
theorem dX10_choose_126 : decode cX10_choose 126 = .ok (.iload_n 1, 1) := dc_27 (dc_nn (k := 5) aX10_choose_121 rfl)
theorem dX10_choose_127 : decode cX10_choose 127 = .ok (.iconst 1, 1) := dc_4 (dc_nn (k := 6) aX10_choose_121 rfl)
theorem dX10_choose_128 : decode cX10_choose 128 = .ok (.iadd, 1) := dc_96 (dc_nn (k := 7) aX10_choose_121 rfl)
theorem dX10_choose_129 : decode cX10_choose 129 = .ok (.iload_n 2, 1) := dc_28 (dc_nn (k := 8) aX10_choose_121 rfl)
theorem dX10_choose_130 : decode cX10_choose 130 = .ok (.aload_n 0, 1) := dc_42 (dc_nn (k := 9) aX10_choose_121 rfl)
theorem dX10_choose_131 : decode cX10_choose 131 = .ok (.getfield 9, 3) := dc_180 (a0 := 0) (b0 := 9) (dc_nn (k := 10) aX10_choose_121 rfl)
theorem dX10_choose_134 : decode cX10_choose 134 = .ok (.bipush 6, 2) := dc_16 (a0 := 6) (dc_nn (k := 13) aX10_choose_121 rfl) (by decide)
theorem dX10_choose_136 : decode cX10_choose 136 = .ok (.iload 4, 2) := dc_21 (a0 := 4) (dc_nn (k := 15) aX10_choose_121 rfl)
theorem dX10_choose_138 : decode cX10_choose 138 = .ok (.imul, 1) := dc_104 (dc_nn (k := 17) aX10_choose_121 rfl)
theorem dX10_choose_139 : decode cX10_choose 139 = .ok (.iload_n 1, 1) := dc_27 (dc_nn (k := 18) aX10_choose_121 rfl)
theorem dX10_choose_140 : decode cX10_choose 140 = .ok (.iadd, 1) := dc_96 (dc_nn (k := 19) aX10_choose_121 rfl)
theorem dX10_choose_141 : decode cX10_choose 141 = .ok (.iaload, 1) := dc_46 (dc_nn (k := 20) aX10_choose_121 rfl)
theorem dX10_choose_142 : decode cX10_choose 142 = .ok (.iadd, 1) := dc_96 (dc_nn (k := 21) aX10_choose_121 rfl)
theorem dX10_choose_143 : decode cX10_choose 143 = .ok (.iload_n 3, 1) := dc_29 (dc_nn (k := 22) aX10_choose_121 rfl)
theorem dX10_choose_144 : decode cX10_choose 144 = .ok (.invokevirtual 49, 3) := dc_182 (a0 := 0) (b0 := 49) (dc_nn (k := 23) aX10_choose_121 rfl)
theorem dX10_choose_147 : decode cX10_choose 147 = .ok (.iinc 4 1, 3) := dc_132 (a0 := 4) (a1 := 1) (dc_nn (k := 26) aX10_choose_121 rfl) (by decide)
theorem dX10_choose_150 : decode cX10_choose 150 = .ok (.goto (-70), 3) := dc_167 (a0 := 255) (b0 := 186) (dc_nn (k := 29) aX10_choose_121 rfl) (by decide)
theorem dX10_choose_153 : decode cX10_choose 153 = .ok (.aload_n 0, 1) := dc_42 (dc_nn (k := 32) aX10_choose_121 rfl)
theorem dX10_choose_154 : decode cX10_choose 154 = .ok (.getfield 15, 3) := dc_180 (a0 := 0) (b0 := 15) (dc_nn (k := 33) aX10_choose_121 rfl)
theorem dX10_choose_157 : decode cX10_choose 157 = .ok (.iload_n 1, 1) := dc_27 (dc_nn (k := 36) aX10_choose_121 rfl)
theorem dX10_choose_158 : decode cX10_choose 158 = .ok (.bipush (-3), 2) := dc_16 (a0 := 253) (dc_nn (k := 37) aX10_choose_121 rfl) (by decide)
theorem dX10_choose_160 : decode cX10_choose 160 = .ok (.iastore, 1) := dc_79 (dc_nn (k := 39) aX10_choose_121 rfl)
theorem dX10_choose_161 : decode cX10_choose 161 = .ok (.return_, 1) := dc_177 aX10_choose_161
noncomputable def sX10_comesFrom_0 : List Nat := 27 :: 62 :: 3 :: 54 :: 4 :: 21 :: 4 :: 16 :: 6 :: 162 :: 0 :: 27 :: 29 :: 155 :: 0 :: 23 :: 29 :: 28 :: 160 :: 0 :: 5 :: 4 :: 172 :: 42 :: 180 :: 0 :: 15 :: 29 :: 46 :: 62 :: 132 :: 4 :: 1 :: 167 :: 255 :: 228 :: 3 :: 172 :: []
theorem aX10_comesFrom_0 : dc_at cX10_comesFrom 0 sX10_comesFrom_0 := dc_base (by decide +kernel)
theorem dX10_comesFrom_0 : decode cX10_comesFrom 0 = .ok (.iload_n 1, 1) := dc_27 aX10_comesFrom_0
theorem dX10_comesFrom_1 : decode cX10_comesFrom 1 = .ok (.istore_n 3, 1) := dc_62 (dc_nn (k := 1) aX10_comesFrom_0 rfl)
theorem dX10_comesFrom_2 : decode cX10_comesFrom 2 = .ok (.iconst 0, 1) := dc_3 (dc_nn (k := 2) aX10_comesFrom_0 rfl)
theorem dX10_comesFrom_3 : decode cX10_comesFrom 3 = .ok (.istore 4, 2) := dc_54 (a0 := 4) (dc_nn (k := 3) aX10_comesFrom_0 rfl)
theorem dX10_comesFrom_5 : decode cX10_comesFrom 5 = .ok (.iload 4, 2) := dc_21 (a0 := 4) (dc_nn (k := 5) aX10_comesFrom_0 rfl)
theorem dX10_comesFrom_7 : decode cX10_comesFrom 7 = .ok (.bipush 6, 2) := dc_16 (a0 := 6) (dc_nn (k := 7) aX10_comesFrom_0 rfl) (by decide)
theorem dX10_comesFrom_9 : decode cX10_comesFrom 9 = .ok (.if_icmp .ge 27, 3) := dc_162 (a0 := 0) (b0 := 27) (dc_nn (k := 9) aX10_comesFrom_0 rfl) (by decide)
theorem dX10_comesFrom_12 : decode cX10_comesFrom 12 = .ok (.iload_n 3, 1) := dc_29 (dc_nn (k := 12) aX10_comesFrom_0 rfl)
theorem dX10_comesFrom_13 : decode cX10_comesFrom 13 = .ok (.ifCond .lt 23, 3) := dc_155 (a0 := 0) (b0 := 23) (dc_nn (k := 13) aX10_comesFrom_0 rfl) (by decide)
theorem dX10_comesFrom_16 : decode cX10_comesFrom 16 = .ok (.iload_n 3, 1) := dc_29 (dc_nn (k := 16) aX10_comesFrom_0 rfl)
theorem dX10_comesFrom_17 : decode cX10_comesFrom 17 = .ok (.iload_n 2, 1) := dc_28 (dc_nn (k := 17) aX10_comesFrom_0 rfl)
theorem dX10_comesFrom_18 : decode cX10_comesFrom 18 = .ok (.if_icmp .ne 5, 3) := dc_160 (a0 := 0) (b0 := 5) (dc_nn (k := 18) aX10_comesFrom_0 rfl) (by decide)
theorem dX10_comesFrom_21 : decode cX10_comesFrom 21 = .ok (.iconst 1, 1) := dc_4 (dc_nn (k := 21) aX10_comesFrom_0 rfl)
theorem dX10_comesFrom_22 : decode cX10_comesFrom 22 = .ok (.ireturn, 1) := dc_172 (dc_nn (k := 22) aX10_comesFrom_0 rfl)
theorem dX10_comesFrom_23 : decode cX10_comesFrom 23 = .ok (.aload_n 0, 1) := dc_42 (dc_nn (k := 23) aX10_comesFrom_0 rfl)
theorem dX10_comesFrom_24 : decode cX10_comesFrom 24 = .ok (.getfield 15, 3) := dc_180 (a0 := 0) (b0 := 15) (dc_nn (k := 24) aX10_comesFrom_0 rfl)
theorem dX10_comesFrom_27 : decode cX10_comesFrom 27 = .ok (.iload_n 3, 1) := dc_29 (dc_nn (k := 27) aX10_comesFrom_0 rfl)
theorem dX10_comesFrom_28 : decode cX10_comesFrom 28 = .ok (.iaload, 1) := dc_46 (dc_nn (k := 28) aX10_comesFrom_0 rfl)
theorem dX10_comesFrom_29 : decode cX10_comesFrom 29 = .ok (.istore_n 3, 1) := dc_62 (dc_nn (k := 29) aX10_comesFrom_0 rfl)
theorem dX10_comesFrom_30 : decode cX10_comesFrom 30 = .ok (.iinc 4 1, 3) := dc_132 (a0 := 4) (a1 := 1) (dc_nn (k := 30) aX10_comesFrom_0 rfl) (by decide)
theorem dX10_comesFrom_33 : decode cX10_comesFrom 33 = .ok (.goto (-28), 3) := dc_167 (a0 := 255) (b0 := 228) (dc_nn (k := 33) aX10_comesFrom_0 rfl) (by decide)
theorem dX10_comesFrom_36 : decode cX10_comesFrom 36 = .ok (.iconst 0, 1) := dc_3 (dc_nn (k := 36) aX10_comesFrom_0 rfl)
theorem dX10_comesFrom_37 : decode cX10_comesFrom 37 = .ok (.ireturn, 1) := dc_172 (dc_nn (k := 37) aX10_comesFrom_0 rfl)
noncomputable def sX10_holds_0 : List Nat := 42 :: 180 :: 0 :: 18 :: 27 :: 46 :: 16 :: 254 :: 159 :: 0 :: 7 :: 4 :: 167 :: 0 :: 4 :: 3 :: 172 :: []
theorem aX10_holds_0 : dc_at cX10_holds 0 sX10_holds_0 := dc_base (by decide +kernel)
theorem dX10_holds_0 : decode cX10_holds 0 = .ok (.aload_n 0, 1) := dc_42 aX10_holds_0
theorem dX10_holds_1 : decode cX10_holds 1 = .ok (.getfield 18, 3) := dc_180 (a0 := 0) (b0 := 18) (dc_nn (k := 1) aX10_holds_0 rfl)
theorem dX10_holds_4 : decode cX10_holds 4 = .ok (.iload_n 1, 1) := dc_27 (dc_nn (k := 4) aX10_holds_0 rfl)
theorem dX10_holds_5 : decode cX10_holds 5 = .ok (.iaload, 1) := dc_46 (dc_nn (k := 5) aX10_holds_0 rfl)
theorem dX10_holds_6 : decode cX10_holds 6 = .ok (.bipush (-2), 2) := dc_16 (a0 := 254) (dc_nn (k := 6) aX10_holds_0 rfl) (by decide)
theorem dX10_holds_8 : decode cX10_holds 8 = .ok (.if_icmp .eq 7, 3) := dc_159 (a0 := 0) (b0 := 7) (dc_nn (k := 8) aX10_holds_0 rfl) (by decide)
theorem dX10_holds_11 : decode cX10_holds 11 = .ok (.iconst 1, 1) := dc_4 (dc_nn (k := 11) aX10_holds_0 rfl)
theorem dX10_holds_12 : decode cX10_holds 12 = .ok (.goto 4, 3) := dc_167 (a0 := 0) (b0 := 4) (dc_nn (k := 12) aX10_holds_0 rfl) (by decide)
theorem dX10_holds_15 : decode cX10_holds 15 = .ok (.iconst 0, 1) := dc_3 (dc_nn (k := 15) aX10_holds_0 rfl)
theorem dX10_holds_16 : decode cX10_holds 16 = .ok (.ireturn, 1) := dc_172 (dc_nn (k := 16) aX10_holds_0 rfl)
noncomputable def sX10_parentOf_0 : List Nat := 42 :: 180 :: 0 :: 18 :: 27 :: 46 :: 172 :: []
theorem aX10_parentOf_0 : dc_at cX10_parentOf 0 sX10_parentOf_0 := dc_base (by decide +kernel)
theorem dX10_parentOf_0 : decode cX10_parentOf 0 = .ok (.aload_n 0, 1) := dc_42 aX10_parentOf_0
theorem dX10_parentOf_1 : decode cX10_parentOf 1 = .ok (.getfield 18, 3) := dc_180 (a0 := 0) (b0 := 18) (dc_nn (k := 1) aX10_parentOf_0 rfl)
theorem dX10_parentOf_4 : decode cX10_parentOf 4 = .ok (.iload_n 1, 1) := dc_27 (dc_nn (k := 4) aX10_parentOf_0 rfl)
theorem dX10_parentOf_5 : decode cX10_parentOf 5 = .ok (.iaload, 1) := dc_46 (dc_nn (k := 5) aX10_parentOf_0 rfl)
theorem dX10_parentOf_6 : decode cX10_parentOf 6 = .ok (.ireturn, 1) := dc_172 (dc_nn (k := 6) aX10_parentOf_0 rfl)
set_option maxRecDepth 20000 in
theorem ggX10_howManySlips_X10_slipsOf : GoodIn wsX10_howManySlips wsX10_slipsOf := goodIn_k _ [[6], [1, 5, 0, 0, 0, 0, 0, 0, 0], [5, 9, 0, 0, 0, 0, 0, 0, 0, 0, 0, 0, 0, 0, 0, 0, 0, 0, 0, 0, 0]] (by rfl) (by decide +kernel)
set_option maxRecDepth 20000 in
theorem gX10_howManySlips_X10_slipsOf : GoodIn wsX10_howManySlips (wsV RX10 67 RX10 yX10_slipsOf wsX10_slipsOf) := goodIn_app (goodIn_k _ [[2, 0, 0, 0]] (by rfl) (gw_V _ _ _ _)) ggX10_howManySlips_X10_slipsOf
noncomputable def sX10_howManySlips_42 : List Nat := 167 :: 255 :: 220 :: 21 :: 5 :: 172 :: []
noncomputable def sX10_howManySlips_0 : List Nat := 3 :: 54 :: 5 :: 3 :: 54 :: 6 :: 21 :: 6 :: 16 :: 6 :: 162 :: 0 :: 35 :: 42 :: 180 :: 0 :: 18 :: 21 :: 6 :: 46 :: 155 :: 0 :: 19 :: 21 :: 5 :: 42 :: 43 :: 44 :: 21 :: 6 :: 29 :: 21 :: 4 :: 182 :: 0 :: 67 :: 96 :: 54 :: 5 :: 132 :: 6 :: 1 :: sX10_howManySlips_42
theorem aX10_howManySlips_0 : dc_at cX10_howManySlips 0 sX10_howManySlips_0 := dc_base (by decide +kernel)
theorem aX10_howManySlips_42 : dc_at cX10_howManySlips 42 sX10_howManySlips_42 := dc_nn (k := 42) aX10_howManySlips_0 rfl
theorem dX10_howManySlips_0 : decode cX10_howManySlips 0 = .ok (.iconst 0, 1) := dc_3 aX10_howManySlips_0
theorem dX10_howManySlips_1 : decode cX10_howManySlips 1 = .ok (.istore 5, 2) := dc_54 (a0 := 5) (dc_nn (k := 1) aX10_howManySlips_0 rfl)
theorem dX10_howManySlips_3 : decode cX10_howManySlips 3 = .ok (.iconst 0, 1) := dc_3 (dc_nn (k := 3) aX10_howManySlips_0 rfl)
theorem dX10_howManySlips_4 : decode cX10_howManySlips 4 = .ok (.istore 6, 2) := dc_54 (a0 := 6) (dc_nn (k := 4) aX10_howManySlips_0 rfl)
theorem dX10_howManySlips_6 : decode cX10_howManySlips 6 = .ok (.iload 6, 2) := dc_21 (a0 := 6) (dc_nn (k := 6) aX10_howManySlips_0 rfl)
theorem dX10_howManySlips_8 : decode cX10_howManySlips 8 = .ok (.bipush 6, 2) := dc_16 (a0 := 6) (dc_nn (k := 8) aX10_howManySlips_0 rfl) (by decide)
theorem dX10_howManySlips_10 : decode cX10_howManySlips 10 = .ok (.if_icmp .ge 35, 3) := dc_162 (a0 := 0) (b0 := 35) (dc_nn (k := 10) aX10_howManySlips_0 rfl) (by decide)
theorem dX10_howManySlips_13 : decode cX10_howManySlips 13 = .ok (.aload_n 0, 1) := dc_42 (dc_nn (k := 13) aX10_howManySlips_0 rfl)
theorem dX10_howManySlips_14 : decode cX10_howManySlips 14 = .ok (.getfield 18, 3) := dc_180 (a0 := 0) (b0 := 18) (dc_nn (k := 14) aX10_howManySlips_0 rfl)
theorem dX10_howManySlips_17 : decode cX10_howManySlips 17 = .ok (.iload 6, 2) := dc_21 (a0 := 6) (dc_nn (k := 17) aX10_howManySlips_0 rfl)
theorem dX10_howManySlips_19 : decode cX10_howManySlips 19 = .ok (.iaload, 1) := dc_46 (dc_nn (k := 19) aX10_howManySlips_0 rfl)
theorem dX10_howManySlips_20 : decode cX10_howManySlips 20 = .ok (.ifCond .lt 19, 3) := dc_155 (a0 := 0) (b0 := 19) (dc_nn (k := 20) aX10_howManySlips_0 rfl) (by decide)
theorem dX10_howManySlips_23 : decode cX10_howManySlips 23 = .ok (.iload 5, 2) := dc_21 (a0 := 5) (dc_nn (k := 23) aX10_howManySlips_0 rfl)
theorem dX10_howManySlips_25 : decode cX10_howManySlips 25 = .ok (.aload_n 0, 1) := dc_42 (dc_nn (k := 25) aX10_howManySlips_0 rfl)
theorem dX10_howManySlips_26 : decode cX10_howManySlips 26 = .ok (.aload_n 1, 1) := dc_43 (dc_nn (k := 26) aX10_howManySlips_0 rfl)
theorem dX10_howManySlips_27 : decode cX10_howManySlips 27 = .ok (.aload_n 2, 1) := dc_44 (dc_nn (k := 27) aX10_howManySlips_0 rfl)
theorem dX10_howManySlips_28 : decode cX10_howManySlips 28 = .ok (.iload 6, 2) := dc_21 (a0 := 6) (dc_nn (k := 28) aX10_howManySlips_0 rfl)
theorem dX10_howManySlips_30 : decode cX10_howManySlips 30 = .ok (.iload_n 3, 1) := dc_29 (dc_nn (k := 30) aX10_howManySlips_0 rfl)
theorem dX10_howManySlips_31 : decode cX10_howManySlips 31 = .ok (.iload 4, 2) := dc_21 (a0 := 4) (dc_nn (k := 31) aX10_howManySlips_0 rfl)
theorem dX10_howManySlips_33 : decode cX10_howManySlips 33 = .ok (.invokevirtual 67, 3) := dc_182 (a0 := 0) (b0 := 67) (dc_nn (k := 33) aX10_howManySlips_0 rfl)
theorem dX10_howManySlips_36 : decode cX10_howManySlips 36 = .ok (.iadd, 1) := dc_96 (dc_nn (k := 36) aX10_howManySlips_0 rfl)
theorem dX10_howManySlips_37 : decode cX10_howManySlips 37 = .ok (.istore 5, 2) := dc_54 (a0 := 5) (dc_nn (k := 37) aX10_howManySlips_0 rfl)
theorem dX10_howManySlips_39 : decode cX10_howManySlips 39 = .ok (.iinc 6 1, 3) := dc_132 (a0 := 6) (a1 := 1) (dc_nn (k := 39) aX10_howManySlips_0 rfl) (by decide)
theorem dX10_howManySlips_42 : decode cX10_howManySlips 42 = .ok (.goto (-36), 3) := dc_167 (a0 := 255) (b0 := 220) aX10_howManySlips_42 (by decide)
theorem dX10_howManySlips_45 : decode cX10_howManySlips 45 = .ok (.iload 5, 2) := dc_21 (a0 := 5) (dc_nn (k := 3) aX10_howManySlips_42 rfl)
theorem dX10_howManySlips_47 : decode cX10_howManySlips 47 = .ok (.ireturn, 1) := dc_172 (dc_nn (k := 5) aX10_howManySlips_42 rfl)
set_option maxRecDepth 20000 in
theorem ggX10_slipsOf_X1_degreeOf : GoodIn wsX10_slipsOf wsX1_degreeOf := goodIn_k _ [[6, 0, 19, 0]] (by rfl) (by decide +kernel)
set_option maxRecDepth 20000 in
theorem gX10_slipsOf_X1_degreeOf : GoodIn wsX10_slipsOf (wsV RX10 21 RX1 yX1_degreeOf wsX1_degreeOf) := goodIn_app (goodIn_k _ [[2, 0, 0, 0]] (by rfl) (gw_V _ _ _ _)) ggX10_slipsOf_X1_degreeOf
set_option maxRecDepth 20000 in
theorem ggX10_slipsOf_X10_isSlip : GoodIn wsX10_slipsOf wsX10_isSlip := goodIn_k _ [[11, 0, 0, 0, 0, 0, 0, 0, 0, 0, 0, 7, 0]] (by rfl) (by decide +kernel)
set_option maxRecDepth 20000 in
theorem gX10_slipsOf_X10_isSlip : GoodIn wsX10_slipsOf (va_wsS RX10 71 yX10_isSlip wsX10_isSlip) := goodIn_app (goodIn_k _ [[8, 0, 0]] (by rfl) (gw_S _ _ _ _)) ggX10_slipsOf_X10_isSlip
noncomputable def sX10_slipsOf_82 : List Nat := 153 :: 0 :: 6 :: 132 :: 6 :: 1 :: 132 :: 8 :: 1 :: 167 :: 255 :: 181 :: 132 :: 7 :: 1 :: 167 :: 255 :: 165 :: 21 :: 6 :: 172 :: []
noncomputable def sX10_slipsOf_41 : List Nat := 42 :: 180 :: 0 :: 18 :: 29 :: 46 :: 104 :: 21 :: 7 :: 96 :: 21 :: 8 :: 182 :: 0 :: 21 :: 54 :: 10 :: 21 :: 9 :: 2 :: 159 :: 0 :: 27 :: 21 :: 10 :: 2 :: 159 :: 0 :: 21 :: 43 :: 21 :: 9 :: 21 :: 10 :: 21 :: 4 :: 21 :: 5 :: 184 :: 0 :: 71 :: sX10_slipsOf_82
noncomputable def sX10_slipsOf_0 : List Nat := 3 :: 54 :: 6 :: 3 :: 54 :: 7 :: 21 :: 7 :: 16 :: 20 :: 162 :: 0 :: 90 :: 3 :: 54 :: 8 :: 21 :: 8 :: 16 :: 21 :: 162 :: 0 :: 74 :: 44 :: 16 :: 20 :: 29 :: 104 :: 21 :: 7 :: 96 :: 21 :: 8 :: 182 :: 0 :: 21 :: 54 :: 9 :: 44 :: 16 :: 20 :: sX10_slipsOf_41
theorem aX10_slipsOf_0 : dc_at cX10_slipsOf 0 sX10_slipsOf_0 := dc_base (by decide +kernel)
theorem aX10_slipsOf_41 : dc_at cX10_slipsOf 41 sX10_slipsOf_41 := dc_nn (k := 41) aX10_slipsOf_0 rfl
theorem aX10_slipsOf_82 : dc_at cX10_slipsOf 82 sX10_slipsOf_82 := dc_nn (k := 41) aX10_slipsOf_41 rfl
theorem dX10_slipsOf_0 : decode cX10_slipsOf 0 = .ok (.iconst 0, 1) := dc_3 aX10_slipsOf_0
theorem dX10_slipsOf_1 : decode cX10_slipsOf 1 = .ok (.istore 6, 2) := dc_54 (a0 := 6) (dc_nn (k := 1) aX10_slipsOf_0 rfl)
theorem dX10_slipsOf_3 : decode cX10_slipsOf 3 = .ok (.iconst 0, 1) := dc_3 (dc_nn (k := 3) aX10_slipsOf_0 rfl)
theorem dX10_slipsOf_4 : decode cX10_slipsOf 4 = .ok (.istore 7, 2) := dc_54 (a0 := 7) (dc_nn (k := 4) aX10_slipsOf_0 rfl)
theorem dX10_slipsOf_6 : decode cX10_slipsOf 6 = .ok (.iload 7, 2) := dc_21 (a0 := 7) (dc_nn (k := 6) aX10_slipsOf_0 rfl)
theorem dX10_slipsOf_8 : decode cX10_slipsOf 8 = .ok (.bipush 20, 2) := dc_16 (a0 := 20) (dc_nn (k := 8) aX10_slipsOf_0 rfl) (by decide)
theorem dX10_slipsOf_10 : decode cX10_slipsOf 10 = .ok (.if_icmp .ge 90, 3) := dc_162 (a0 := 0) (b0 := 90) (dc_nn (k := 10) aX10_slipsOf_0 rfl) (by decide)
theorem dX10_slipsOf_13 : decode cX10_slipsOf 13 = .ok (.iconst 0, 1) := dc_3 (dc_nn (k := 13) aX10_slipsOf_0 rfl)
theorem dX10_slipsOf_14 : decode cX10_slipsOf 14 = .ok (.istore 8, 2) := dc_54 (a0 := 8) (dc_nn (k := 14) aX10_slipsOf_0 rfl)
theorem dX10_slipsOf_16 : decode cX10_slipsOf 16 = .ok (.iload 8, 2) := dc_21 (a0 := 8) (dc_nn (k := 16) aX10_slipsOf_0 rfl)
theorem dX10_slipsOf_18 : decode cX10_slipsOf 18 = .ok (.bipush 21, 2) := dc_16 (a0 := 21) (dc_nn (k := 18) aX10_slipsOf_0 rfl) (by decide)
theorem dX10_slipsOf_20 : decode cX10_slipsOf 20 = .ok (.if_icmp .ge 74, 3) := dc_162 (a0 := 0) (b0 := 74) (dc_nn (k := 20) aX10_slipsOf_0 rfl) (by decide)
theorem dX10_slipsOf_23 : decode cX10_slipsOf 23 = .ok (.aload_n 2, 1) := dc_44 (dc_nn (k := 23) aX10_slipsOf_0 rfl)
theorem dX10_slipsOf_24 : decode cX10_slipsOf 24 = .ok (.bipush 20, 2) := dc_16 (a0 := 20) (dc_nn (k := 24) aX10_slipsOf_0 rfl) (by decide)
theorem dX10_slipsOf_26 : decode cX10_slipsOf 26 = .ok (.iload_n 3, 1) := dc_29 (dc_nn (k := 26) aX10_slipsOf_0 rfl)
theorem dX10_slipsOf_27 : decode cX10_slipsOf 27 = .ok (.imul, 1) := dc_104 (dc_nn (k := 27) aX10_slipsOf_0 rfl)
theorem dX10_slipsOf_28 : decode cX10_slipsOf 28 = .ok (.iload 7, 2) := dc_21 (a0 := 7) (dc_nn (k := 28) aX10_slipsOf_0 rfl)
theorem dX10_slipsOf_30 : decode cX10_slipsOf 30 = .ok (.iadd, 1) := dc_96 (dc_nn (k := 30) aX10_slipsOf_0 rfl)
theorem dX10_slipsOf_31 : decode cX10_slipsOf 31 = .ok (.iload 8, 2) := dc_21 (a0 := 8) (dc_nn (k := 31) aX10_slipsOf_0 rfl)
theorem dX10_slipsOf_33 : decode cX10_slipsOf 33 = .ok (.invokevirtual 21, 3) := dc_182 (a0 := 0) (b0 := 21) (dc_nn (k := 33) aX10_slipsOf_0 rfl)
theorem dX10_slipsOf_36 : decode cX10_slipsOf 36 = .ok (.istore 9, 2) := dc_54 (a0 := 9) (dc_nn (k := 36) aX10_slipsOf_0 rfl)
theorem dX10_slipsOf_38 : decode cX10_slipsOf 38 = .ok (.aload_n 2, 1) := dc_44 (dc_nn (k := 38) aX10_slipsOf_0 rfl)
theorem dX10_slipsOf_39 : decode cX10_slipsOf 39 = .ok (.bipush 20, 2) := dc_16 (a0 := 20) (dc_nn (k := 39) aX10_slipsOf_0 rfl) (by decide)
theorem dX10_slipsOf_41 : decode cX10_slipsOf 41 = .ok (.aload_n 0, 1) := dc_42 aX10_slipsOf_41
theorem dX10_slipsOf_42 : decode cX10_slipsOf 42 = .ok (.getfield 18, 3) := dc_180 (a0 := 0) (b0 := 18) (dc_nn (k := 1) aX10_slipsOf_41 rfl)
theorem dX10_slipsOf_45 : decode cX10_slipsOf 45 = .ok (.iload_n 3, 1) := dc_29 (dc_nn (k := 4) aX10_slipsOf_41 rfl)
theorem dX10_slipsOf_46 : decode cX10_slipsOf 46 = .ok (.iaload, 1) := dc_46 (dc_nn (k := 5) aX10_slipsOf_41 rfl)
theorem dX10_slipsOf_47 : decode cX10_slipsOf 47 = .ok (.imul, 1) := dc_104 (dc_nn (k := 6) aX10_slipsOf_41 rfl)
theorem dX10_slipsOf_48 : decode cX10_slipsOf 48 = .ok (.iload 7, 2) := dc_21 (a0 := 7) (dc_nn (k := 7) aX10_slipsOf_41 rfl)
theorem dX10_slipsOf_50 : decode cX10_slipsOf 50 = .ok (.iadd, 1) := dc_96 (dc_nn (k := 9) aX10_slipsOf_41 rfl)
theorem dX10_slipsOf_51 : decode cX10_slipsOf 51 = .ok (.iload 8, 2) := dc_21 (a0 := 8) (dc_nn (k := 10) aX10_slipsOf_41 rfl)
theorem dX10_slipsOf_53 : decode cX10_slipsOf 53 = .ok (.invokevirtual 21, 3) := dc_182 (a0 := 0) (b0 := 21) (dc_nn (k := 12) aX10_slipsOf_41 rfl)
theorem dX10_slipsOf_56 : decode cX10_slipsOf 56 = .ok (.istore 10, 2) := dc_54 (a0 := 10) (dc_nn (k := 15) aX10_slipsOf_41 rfl)
theorem dX10_slipsOf_58 : decode cX10_slipsOf 58 = .ok (.iload 9, 2) := dc_21 (a0 := 9) (dc_nn (k := 17) aX10_slipsOf_41 rfl)
theorem dX10_slipsOf_60 : decode cX10_slipsOf 60 = .ok (.iconst (-1), 1) := dc_2 (dc_nn (k := 19) aX10_slipsOf_41 rfl)
theorem dX10_slipsOf_61 : decode cX10_slipsOf 61 = .ok (.if_icmp .eq 27, 3) := dc_159 (a0 := 0) (b0 := 27) (dc_nn (k := 20) aX10_slipsOf_41 rfl) (by decide)
theorem dX10_slipsOf_64 : decode cX10_slipsOf 64 = .ok (.iload 10, 2) := dc_21 (a0 := 10) (dc_nn (k := 23) aX10_slipsOf_41 rfl)
theorem dX10_slipsOf_66 : decode cX10_slipsOf 66 = .ok (.iconst (-1), 1) := dc_2 (dc_nn (k := 25) aX10_slipsOf_41 rfl)
theorem dX10_slipsOf_67 : decode cX10_slipsOf 67 = .ok (.if_icmp .eq 21, 3) := dc_159 (a0 := 0) (b0 := 21) (dc_nn (k := 26) aX10_slipsOf_41 rfl) (by decide)
theorem dX10_slipsOf_70 : decode cX10_slipsOf 70 = .ok (.aload_n 1, 1) := dc_43 (dc_nn (k := 29) aX10_slipsOf_41 rfl)
theorem dX10_slipsOf_71 : decode cX10_slipsOf 71 = .ok (.iload 9, 2) := dc_21 (a0 := 9) (dc_nn (k := 30) aX10_slipsOf_41 rfl)
theorem dX10_slipsOf_73 : decode cX10_slipsOf 73 = .ok (.iload 10, 2) := dc_21 (a0 := 10) (dc_nn (k := 32) aX10_slipsOf_41 rfl)
theorem dX10_slipsOf_75 : decode cX10_slipsOf 75 = .ok (.iload 4, 2) := dc_21 (a0 := 4) (dc_nn (k := 34) aX10_slipsOf_41 rfl)
theorem dX10_slipsOf_77 : decode cX10_slipsOf 77 = .ok (.iload 5, 2) := dc_21 (a0 := 5) (dc_nn (k := 36) aX10_slipsOf_41 rfl)
theorem dX10_slipsOf_79 : decode cX10_slipsOf 79 = .ok (.invokestatic 71, 3) := dc_184 (a0 := 0) (b0 := 71) (dc_nn (k := 38) aX10_slipsOf_41 rfl)
theorem dX10_slipsOf_82 : decode cX10_slipsOf 82 = .ok (.ifCond .eq 6, 3) := dc_153 (a0 := 0) (b0 := 6) aX10_slipsOf_82 (by decide)
theorem dX10_slipsOf_85 : decode cX10_slipsOf 85 = .ok (.iinc 6 1, 3) := dc_132 (a0 := 6) (a1 := 1) (dc_nn (k := 3) aX10_slipsOf_82 rfl) (by decide)
theorem dX10_slipsOf_88 : decode cX10_slipsOf 88 = .ok (.iinc 8 1, 3) := dc_132 (a0 := 8) (a1 := 1) (dc_nn (k := 6) aX10_slipsOf_82 rfl) (by decide)
theorem dX10_slipsOf_91 : decode cX10_slipsOf 91 = .ok (.goto (-75), 3) := dc_167 (a0 := 255) (b0 := 181) (dc_nn (k := 9) aX10_slipsOf_82 rfl) (by decide)
theorem dX10_slipsOf_94 : decode cX10_slipsOf 94 = .ok (.iinc 7 1, 3) := dc_132 (a0 := 7) (a1 := 1) (dc_nn (k := 12) aX10_slipsOf_82 rfl) (by decide)
theorem dX10_slipsOf_97 : decode cX10_slipsOf 97 = .ok (.goto (-91), 3) := dc_167 (a0 := 255) (b0 := 165) (dc_nn (k := 15) aX10_slipsOf_82 rfl) (by decide)
theorem dX10_slipsOf_100 : decode cX10_slipsOf 100 = .ok (.iload 6, 2) := dc_21 (a0 := 6) (dc_nn (k := 18) aX10_slipsOf_82 rfl)
theorem dX10_slipsOf_102 : decode cX10_slipsOf 102 = .ok (.ireturn, 1) := dc_172 (dc_nn (k := 20) aX10_slipsOf_82 rfl)
set_option maxRecDepth 20000 in
theorem ggX10_isSlip_X4_misreading : GoodIn wsX10_isSlip wsX4_misreading := goodIn_k _ [[5, 0, 0, 0], [4, 4, 0, 0, 0]] (by rfl) (by decide +kernel)
set_option maxRecDepth 20000 in
theorem gX10_isSlip_X4_misreading : GoodIn wsX10_isSlip (wsV RX10 75 RX4 yX4_misreading wsX4_misreading) := goodIn_app (goodIn_k _ [[1, 0, 0, 0]] (by rfl) (gw_V _ _ _ _)) ggX10_isSlip_X4_misreading
noncomputable def sX10_isSlip_40 : List Nat := 160 :: 0 :: 24 :: 27 :: 16 :: 30 :: 108 :: 29 :: 160 :: 0 :: 16 :: 28 :: 16 :: 30 :: 108 :: 21 :: 4 :: 160 :: 0 :: 7 :: 4 :: 167 :: 0 :: 4 :: 3 :: 172 :: []
noncomputable def sX10_isSlip_0 : List Nat := 42 :: 27 :: 28 :: 182 :: 0 :: 75 :: 54 :: 5 :: 21 :: 5 :: 4 :: 160 :: 0 :: 26 :: 27 :: 16 :: 30 :: 112 :: 29 :: 160 :: 0 :: 16 :: 28 :: 16 :: 30 :: 112 :: 21 :: 4 :: 160 :: 0 :: 7 :: 4 :: 167 :: 0 :: 4 :: 3 :: 172 :: 21 :: 5 :: 5 :: sX10_isSlip_40
theorem aX10_isSlip_0 : dc_at cX10_isSlip 0 sX10_isSlip_0 := dc_base (by decide +kernel)
theorem aX10_isSlip_40 : dc_at cX10_isSlip 40 sX10_isSlip_40 := dc_nn (k := 40) aX10_isSlip_0 rfl
theorem dX10_isSlip_0 : decode cX10_isSlip 0 = .ok (.aload_n 0, 1) := dc_42 aX10_isSlip_0
theorem dX10_isSlip_1 : decode cX10_isSlip 1 = .ok (.iload_n 1, 1) := dc_27 (dc_nn (k := 1) aX10_isSlip_0 rfl)
theorem dX10_isSlip_2 : decode cX10_isSlip 2 = .ok (.iload_n 2, 1) := dc_28 (dc_nn (k := 2) aX10_isSlip_0 rfl)
theorem dX10_isSlip_3 : decode cX10_isSlip 3 = .ok (.invokevirtual 75, 3) := dc_182 (a0 := 0) (b0 := 75) (dc_nn (k := 3) aX10_isSlip_0 rfl)
theorem dX10_isSlip_6 : decode cX10_isSlip 6 = .ok (.istore 5, 2) := dc_54 (a0 := 5) (dc_nn (k := 6) aX10_isSlip_0 rfl)
theorem dX10_isSlip_8 : decode cX10_isSlip 8 = .ok (.iload 5, 2) := dc_21 (a0 := 5) (dc_nn (k := 8) aX10_isSlip_0 rfl)
theorem dX10_isSlip_10 : decode cX10_isSlip 10 = .ok (.iconst 1, 1) := dc_4 (dc_nn (k := 10) aX10_isSlip_0 rfl)
theorem dX10_isSlip_11 : decode cX10_isSlip 11 = .ok (.if_icmp .ne 26, 3) := dc_160 (a0 := 0) (b0 := 26) (dc_nn (k := 11) aX10_isSlip_0 rfl) (by decide)
theorem dX10_isSlip_14 : decode cX10_isSlip 14 = .ok (.iload_n 1, 1) := dc_27 (dc_nn (k := 14) aX10_isSlip_0 rfl)
theorem dX10_isSlip_15 : decode cX10_isSlip 15 = .ok (.bipush 30, 2) := dc_16 (a0 := 30) (dc_nn (k := 15) aX10_isSlip_0 rfl) (by decide)
theorem dX10_isSlip_17 : decode cX10_isSlip 17 = .ok (.irem, 1) := dc_112 (dc_nn (k := 17) aX10_isSlip_0 rfl)
theorem dX10_isSlip_18 : decode cX10_isSlip 18 = .ok (.iload_n 3, 1) := dc_29 (dc_nn (k := 18) aX10_isSlip_0 rfl)
theorem dX10_isSlip_19 : decode cX10_isSlip 19 = .ok (.if_icmp .ne 16, 3) := dc_160 (a0 := 0) (b0 := 16) (dc_nn (k := 19) aX10_isSlip_0 rfl) (by decide)
theorem dX10_isSlip_22 : decode cX10_isSlip 22 = .ok (.iload_n 2, 1) := dc_28 (dc_nn (k := 22) aX10_isSlip_0 rfl)
theorem dX10_isSlip_23 : decode cX10_isSlip 23 = .ok (.bipush 30, 2) := dc_16 (a0 := 30) (dc_nn (k := 23) aX10_isSlip_0 rfl) (by decide)
theorem dX10_isSlip_25 : decode cX10_isSlip 25 = .ok (.irem, 1) := dc_112 (dc_nn (k := 25) aX10_isSlip_0 rfl)
theorem dX10_isSlip_26 : decode cX10_isSlip 26 = .ok (.iload 4, 2) := dc_21 (a0 := 4) (dc_nn (k := 26) aX10_isSlip_0 rfl)
theorem dX10_isSlip_28 : decode cX10_isSlip 28 = .ok (.if_icmp .ne 7, 3) := dc_160 (a0 := 0) (b0 := 7) (dc_nn (k := 28) aX10_isSlip_0 rfl) (by decide)
theorem dX10_isSlip_31 : decode cX10_isSlip 31 = .ok (.iconst 1, 1) := dc_4 (dc_nn (k := 31) aX10_isSlip_0 rfl)
theorem dX10_isSlip_32 : decode cX10_isSlip 32 = .ok (.goto 4, 3) := dc_167 (a0 := 0) (b0 := 4) (dc_nn (k := 32) aX10_isSlip_0 rfl) (by decide)
theorem dX10_isSlip_35 : decode cX10_isSlip 35 = .ok (.iconst 0, 1) := dc_3 (dc_nn (k := 35) aX10_isSlip_0 rfl)
theorem dX10_isSlip_36 : decode cX10_isSlip 36 = .ok (.ireturn, 1) := dc_172 (dc_nn (k := 36) aX10_isSlip_0 rfl)
theorem dX10_isSlip_37 : decode cX10_isSlip 37 = .ok (.iload 5, 2) := dc_21 (a0 := 5) (dc_nn (k := 37) aX10_isSlip_0 rfl)
theorem dX10_isSlip_39 : decode cX10_isSlip 39 = .ok (.iconst 2, 1) := dc_5 (dc_nn (k := 39) aX10_isSlip_0 rfl)
theorem dX10_isSlip_40 : decode cX10_isSlip 40 = .ok (.if_icmp .ne 24, 3) := dc_160 (a0 := 0) (b0 := 24) aX10_isSlip_40 (by decide)
theorem dX10_isSlip_43 : decode cX10_isSlip 43 = .ok (.iload_n 1, 1) := dc_27 (dc_nn (k := 3) aX10_isSlip_40 rfl)
theorem dX10_isSlip_44 : decode cX10_isSlip 44 = .ok (.bipush 30, 2) := dc_16 (a0 := 30) (dc_nn (k := 4) aX10_isSlip_40 rfl) (by decide)
theorem dX10_isSlip_46 : decode cX10_isSlip 46 = .ok (.idiv, 1) := dc_108 (dc_nn (k := 6) aX10_isSlip_40 rfl)
theorem dX10_isSlip_47 : decode cX10_isSlip 47 = .ok (.iload_n 3, 1) := dc_29 (dc_nn (k := 7) aX10_isSlip_40 rfl)
theorem dX10_isSlip_48 : decode cX10_isSlip 48 = .ok (.if_icmp .ne 16, 3) := dc_160 (a0 := 0) (b0 := 16) (dc_nn (k := 8) aX10_isSlip_40 rfl) (by decide)
theorem dX10_isSlip_51 : decode cX10_isSlip 51 = .ok (.iload_n 2, 1) := dc_28 (dc_nn (k := 11) aX10_isSlip_40 rfl)
theorem dX10_isSlip_52 : decode cX10_isSlip 52 = .ok (.bipush 30, 2) := dc_16 (a0 := 30) (dc_nn (k := 12) aX10_isSlip_40 rfl) (by decide)
theorem dX10_isSlip_54 : decode cX10_isSlip 54 = .ok (.idiv, 1) := dc_108 (dc_nn (k := 14) aX10_isSlip_40 rfl)
theorem dX10_isSlip_55 : decode cX10_isSlip 55 = .ok (.iload 4, 2) := dc_21 (a0 := 4) (dc_nn (k := 15) aX10_isSlip_40 rfl)
theorem dX10_isSlip_57 : decode cX10_isSlip 57 = .ok (.if_icmp .ne 7, 3) := dc_160 (a0 := 0) (b0 := 7) (dc_nn (k := 17) aX10_isSlip_40 rfl) (by decide)
theorem dX10_isSlip_60 : decode cX10_isSlip 60 = .ok (.iconst 1, 1) := dc_4 (dc_nn (k := 20) aX10_isSlip_40 rfl)
theorem dX10_isSlip_61 : decode cX10_isSlip 61 = .ok (.goto 4, 3) := dc_167 (a0 := 0) (b0 := 4) (dc_nn (k := 21) aX10_isSlip_40 rfl) (by decide)
theorem dX10_isSlip_64 : decode cX10_isSlip 64 = .ok (.iconst 0, 1) := dc_3 (dc_nn (k := 24) aX10_isSlip_40 rfl)
theorem dX10_isSlip_65 : decode cX10_isSlip 65 = .ok (.ireturn, 1) := dc_172 (dc_nn (k := 25) aX10_isSlip_40 rfl)
set_option maxRecDepth 20000 in
theorem ggX11_init_X9_init : GoodIn wsX11_init wsX9_init := goodIn_k _ [[45, 0], [2, 0, 43, 0, 0, 73, 0, 0, 0, 0, 0, 0, 0, 0, 0]] (by rfl) (by decide +kernel)
set_option maxRecDepth 20000 in
theorem gX11_init_X9_init_n9 : GoodIn wsX11_init (wsX9_init) := ggX11_init_X9_init
set_option maxRecDepth 20000 in
theorem ggX11_init_X5_init : GoodIn wsX11_init wsX5_init := goodIn_k _ [[52, 0], [2, 0, 50, 0, 0, 0, 0, 0, 0, 0, 0, 0, 0, 0, 0, 0, 0, 0, 0, 0, 0, 0, 0, 0, 0, 0, 0, 67, 0, 0, 0, 0, 0, 27, 0, 0, 0]] (by rfl) (by decide +kernel)
set_option maxRecDepth 20000 in
theorem gX11_init_X5_init : GoodIn wsX11_init (wsX5_init) := ggX11_init_X5_init
set_option maxRecDepth 20000 in
theorem ggX11_init_X1_init : GoodIn wsX11_init wsX1_init := goodIn_k _ [[81, 0], [2, 0, 50, 28, 0, 0], [76, 0, 0, 73, 0]] (by rfl) (by decide +kernel)
set_option maxRecDepth 20000 in
theorem gX11_init_X1_init : GoodIn wsX11_init (wsX1_init) := ggX11_init_X1_init
set_option maxRecDepth 20000 in
theorem ggX11_init_X3_init : GoodIn wsX11_init wsX3_init := goodIn_k _ [[87, 0], [2, 0, 50, 34, 64]] (by rfl) (by decide +kernel)
set_option maxRecDepth 20000 in
theorem gX11_init_X3_init_n35 : GoodIn wsX11_init (wsX3_init) := ggX11_init_X3_init
set_option maxRecDepth 20000 in
theorem ggX11_init_X8_init : GoodIn wsX11_init wsX8_init := goodIn_k _ [[91, 0], [2, 0, 50, 38, 61, 0, 0, 0, 0, 0, 0, 0]] (by rfl) (by decide +kernel)
set_option maxRecDepth 20000 in
theorem gX11_init_X8_init_n42 : GoodIn wsX11_init (wsX8_init) := ggX11_init_X8_init
set_option maxRecDepth 20000 in
theorem ggX11_init_X10_init : GoodIn wsX11_init wsX10_init := goodIn_k _ [[95, 0], [2, 0, 50, 42, 0, 0, 63, 0, 0, 0, 0]] (by rfl) (by decide +kernel)
set_option maxRecDepth 20000 in
theorem gX11_init_X10_init_n58 : GoodIn wsX11_init (wsX10_init) := ggX11_init_X10_init
set_option maxRecDepth 20000 in
theorem ggX11_init_X6_init : GoodIn wsX11_init wsX6_init := goodIn_k _ [[101, 0], [2, 0, 50, 48, 0, 0, 0, 61, 0, 0, 0]] (by rfl) (by decide +kernel)
set_option maxRecDepth 20000 in
theorem gX11_init_X6_init_n65 : GoodIn wsX11_init (wsX6_init) := ggX11_init_X6_init
set_option maxRecDepth 20000 in
theorem ggX11_init_X0_init : GoodIn wsX11_init wsX0_init := goodIn_k _ [[108, 0], [2, 0, 50, 55, 61]] (by rfl) (by decide +kernel)
set_option maxRecDepth 20000 in
theorem gX11_init_X0_init_n72 : GoodIn wsX11_init (wsX0_init) := ggX11_init_X0_init
set_option maxRecDepth 20000 in
theorem ggX11_init_X7_init : GoodIn wsX11_init wsX7_init := goodIn_k _ [[113, 0], [2, 0, 50, 60, 0, 0, 0, 0, 0, 0, 0], [76, 0, 0, 94, 0, 0, 0, 0, 0]] (by rfl) (by decide +kernel)
set_option maxRecDepth 20000 in
theorem gX11_init_X7_init : GoodIn wsX11_init (wsX7_init) := ggX11_init_X7_init
noncomputable def sX11_init_122 : List Nat := 181 :: 0 :: 66 :: 42 :: 187 :: 0 :: 70 :: 89 :: 183 :: 0 :: 72 :: 181 :: 0 :: 73 :: 42 :: 187 :: 0 :: 77 :: 89 :: 183 :: 0 :: 79 :: 181 :: 0 :: 80 :: 177 :: []
noncomputable def sX11_init_81 : List Nat := 42 :: 187 :: 0 :: 40 :: 89 :: 183 :: 0 :: 42 :: 181 :: 0 :: 50 :: 42 :: 187 :: 0 :: 40 :: 89 :: 183 :: 0 :: 42 :: 181 :: 0 :: 53 :: 42 :: 187 :: 0 :: 56 :: 89 :: 183 :: 0 :: 58 :: 181 :: 0 :: 59 :: 42 :: 187 :: 0 :: 63 :: 89 :: 183 :: 0 :: 65 :: sX11_init_122
noncomputable def sX11_init_41 : List Nat := 89 :: 183 :: 0 :: 28 :: 181 :: 0 :: 29 :: 42 :: 187 :: 0 :: 33 :: 89 :: 183 :: 0 :: 35 :: 181 :: 0 :: 36 :: 42 :: 187 :: 0 :: 40 :: 89 :: 183 :: 0 :: 42 :: 181 :: 0 :: 43 :: 42 :: 187 :: 0 :: 40 :: 89 :: 183 :: 0 :: 42 :: 181 :: 0 :: 47 :: sX11_init_81
noncomputable def sX11_init_0 : List Nat := 42 :: 183 :: 0 :: 1 :: 42 :: 187 :: 0 :: 7 :: 89 :: 183 :: 0 :: 9 :: 181 :: 0 :: 10 :: 42 :: 187 :: 0 :: 16 :: 89 :: 183 :: 0 :: 18 :: 181 :: 0 :: 19 :: 42 :: 187 :: 0 :: 16 :: 89 :: 183 :: 0 :: 18 :: 181 :: 0 :: 23 :: 42 :: 187 :: 0 :: 26 :: sX11_init_41
theorem aX11_init_0 : dc_at cX11_init 0 sX11_init_0 := dc_base (by decide +kernel)
theorem aX11_init_41 : dc_at cX11_init 41 sX11_init_41 := dc_nn (k := 41) aX11_init_0 rfl
theorem aX11_init_81 : dc_at cX11_init 81 sX11_init_81 := dc_nn (k := 40) aX11_init_41 rfl
theorem aX11_init_122 : dc_at cX11_init 122 sX11_init_122 := dc_nn (k := 41) aX11_init_81 rfl
theorem dX11_init_0 : decode cX11_init 0 = .ok (.aload_n 0, 1) := dc_42 aX11_init_0
theorem dX11_init_1 : decode cX11_init 1 = .ok (.invokespecial 1, 3) := dc_183 (a0 := 0) (b0 := 1) (dc_nn (k := 1) aX11_init_0 rfl)
theorem dX11_init_4 : decode cX11_init 4 = .ok (.aload_n 0, 1) := dc_42 (dc_nn (k := 4) aX11_init_0 rfl)
theorem dX11_init_5 : decode cX11_init 5 = .ok (.new 7, 3) := dc_187 (a0 := 0) (b0 := 7) (dc_nn (k := 5) aX11_init_0 rfl)
theorem dX11_init_8 : decode cX11_init 8 = .ok (.dup, 1) := dc_89 (dc_nn (k := 8) aX11_init_0 rfl)
theorem dX11_init_9 : decode cX11_init 9 = .ok (.invokespecial 9, 3) := dc_183 (a0 := 0) (b0 := 9) (dc_nn (k := 9) aX11_init_0 rfl)
theorem dX11_init_12 : decode cX11_init 12 = .ok (.putfield 10, 3) := dc_181 (a0 := 0) (b0 := 10) (dc_nn (k := 12) aX11_init_0 rfl)
theorem dX11_init_15 : decode cX11_init 15 = .ok (.aload_n 0, 1) := dc_42 (dc_nn (k := 15) aX11_init_0 rfl)
theorem dX11_init_16 : decode cX11_init 16 = .ok (.new 16, 3) := dc_187 (a0 := 0) (b0 := 16) (dc_nn (k := 16) aX11_init_0 rfl)
theorem dX11_init_19 : decode cX11_init 19 = .ok (.dup, 1) := dc_89 (dc_nn (k := 19) aX11_init_0 rfl)
theorem dX11_init_20 : decode cX11_init 20 = .ok (.invokespecial 18, 3) := dc_183 (a0 := 0) (b0 := 18) (dc_nn (k := 20) aX11_init_0 rfl)
theorem dX11_init_23 : decode cX11_init 23 = .ok (.putfield 19, 3) := dc_181 (a0 := 0) (b0 := 19) (dc_nn (k := 23) aX11_init_0 rfl)
theorem dX11_init_26 : decode cX11_init 26 = .ok (.aload_n 0, 1) := dc_42 (dc_nn (k := 26) aX11_init_0 rfl)
theorem dX11_init_27 : decode cX11_init 27 = .ok (.new 16, 3) := dc_187 (a0 := 0) (b0 := 16) (dc_nn (k := 27) aX11_init_0 rfl)
theorem dX11_init_30 : decode cX11_init 30 = .ok (.dup, 1) := dc_89 (dc_nn (k := 30) aX11_init_0 rfl)
theorem dX11_init_31 : decode cX11_init 31 = .ok (.invokespecial 18, 3) := dc_183 (a0 := 0) (b0 := 18) (dc_nn (k := 31) aX11_init_0 rfl)
theorem dX11_init_34 : decode cX11_init 34 = .ok (.putfield 23, 3) := dc_181 (a0 := 0) (b0 := 23) (dc_nn (k := 34) aX11_init_0 rfl)
theorem dX11_init_37 : decode cX11_init 37 = .ok (.aload_n 0, 1) := dc_42 (dc_nn (k := 37) aX11_init_0 rfl)
theorem dX11_init_38 : decode cX11_init 38 = .ok (.new 26, 3) := dc_187 (a0 := 0) (b0 := 26) (dc_nn (k := 38) aX11_init_0 rfl)
theorem dX11_init_41 : decode cX11_init 41 = .ok (.dup, 1) := dc_89 aX11_init_41
theorem dX11_init_42 : decode cX11_init 42 = .ok (.invokespecial 28, 3) := dc_183 (a0 := 0) (b0 := 28) (dc_nn (k := 1) aX11_init_41 rfl)
theorem dX11_init_45 : decode cX11_init 45 = .ok (.putfield 29, 3) := dc_181 (a0 := 0) (b0 := 29) (dc_nn (k := 4) aX11_init_41 rfl)
theorem dX11_init_48 : decode cX11_init 48 = .ok (.aload_n 0, 1) := dc_42 (dc_nn (k := 7) aX11_init_41 rfl)
theorem dX11_init_49 : decode cX11_init 49 = .ok (.new 33, 3) := dc_187 (a0 := 0) (b0 := 33) (dc_nn (k := 8) aX11_init_41 rfl)
theorem dX11_init_52 : decode cX11_init 52 = .ok (.dup, 1) := dc_89 (dc_nn (k := 11) aX11_init_41 rfl)
theorem dX11_init_53 : decode cX11_init 53 = .ok (.invokespecial 35, 3) := dc_183 (a0 := 0) (b0 := 35) (dc_nn (k := 12) aX11_init_41 rfl)
theorem dX11_init_56 : decode cX11_init 56 = .ok (.putfield 36, 3) := dc_181 (a0 := 0) (b0 := 36) (dc_nn (k := 15) aX11_init_41 rfl)
theorem dX11_init_59 : decode cX11_init 59 = .ok (.aload_n 0, 1) := dc_42 (dc_nn (k := 18) aX11_init_41 rfl)
theorem dX11_init_60 : decode cX11_init 60 = .ok (.new 40, 3) := dc_187 (a0 := 0) (b0 := 40) (dc_nn (k := 19) aX11_init_41 rfl)
theorem dX11_init_63 : decode cX11_init 63 = .ok (.dup, 1) := dc_89 (dc_nn (k := 22) aX11_init_41 rfl)
theorem dX11_init_64 : decode cX11_init 64 = .ok (.invokespecial 42, 3) := dc_183 (a0 := 0) (b0 := 42) (dc_nn (k := 23) aX11_init_41 rfl)
theorem dX11_init_67 : decode cX11_init 67 = .ok (.putfield 43, 3) := dc_181 (a0 := 0) (b0 := 43) (dc_nn (k := 26) aX11_init_41 rfl)
theorem dX11_init_70 : decode cX11_init 70 = .ok (.aload_n 0, 1) := dc_42 (dc_nn (k := 29) aX11_init_41 rfl)
theorem dX11_init_71 : decode cX11_init 71 = .ok (.new 40, 3) := dc_187 (a0 := 0) (b0 := 40) (dc_nn (k := 30) aX11_init_41 rfl)
theorem dX11_init_74 : decode cX11_init 74 = .ok (.dup, 1) := dc_89 (dc_nn (k := 33) aX11_init_41 rfl)
theorem dX11_init_75 : decode cX11_init 75 = .ok (.invokespecial 42, 3) := dc_183 (a0 := 0) (b0 := 42) (dc_nn (k := 34) aX11_init_41 rfl)
theorem dX11_init_78 : decode cX11_init 78 = .ok (.putfield 47, 3) := dc_181 (a0 := 0) (b0 := 47) (dc_nn (k := 37) aX11_init_41 rfl)
theorem dX11_init_81 : decode cX11_init 81 = .ok (.aload_n 0, 1) := dc_42 aX11_init_81
theorem dX11_init_82 : decode cX11_init 82 = .ok (.new 40, 3) := dc_187 (a0 := 0) (b0 := 40) (dc_nn (k := 1) aX11_init_81 rfl)
theorem dX11_init_85 : decode cX11_init 85 = .ok (.dup, 1) := dc_89 (dc_nn (k := 4) aX11_init_81 rfl)
theorem dX11_init_86 : decode cX11_init 86 = .ok (.invokespecial 42, 3) := dc_183 (a0 := 0) (b0 := 42) (dc_nn (k := 5) aX11_init_81 rfl)
theorem dX11_init_89 : decode cX11_init 89 = .ok (.putfield 50, 3) := dc_181 (a0 := 0) (b0 := 50) (dc_nn (k := 8) aX11_init_81 rfl)
theorem dX11_init_92 : decode cX11_init 92 = .ok (.aload_n 0, 1) := dc_42 (dc_nn (k := 11) aX11_init_81 rfl)
theorem dX11_init_93 : decode cX11_init 93 = .ok (.new 40, 3) := dc_187 (a0 := 0) (b0 := 40) (dc_nn (k := 12) aX11_init_81 rfl)
theorem dX11_init_96 : decode cX11_init 96 = .ok (.dup, 1) := dc_89 (dc_nn (k := 15) aX11_init_81 rfl)
theorem dX11_init_97 : decode cX11_init 97 = .ok (.invokespecial 42, 3) := dc_183 (a0 := 0) (b0 := 42) (dc_nn (k := 16) aX11_init_81 rfl)
theorem dX11_init_100 : decode cX11_init 100 = .ok (.putfield 53, 3) := dc_181 (a0 := 0) (b0 := 53) (dc_nn (k := 19) aX11_init_81 rfl)
theorem dX11_init_103 : decode cX11_init 103 = .ok (.aload_n 0, 1) := dc_42 (dc_nn (k := 22) aX11_init_81 rfl)
theorem dX11_init_104 : decode cX11_init 104 = .ok (.new 56, 3) := dc_187 (a0 := 0) (b0 := 56) (dc_nn (k := 23) aX11_init_81 rfl)
theorem dX11_init_107 : decode cX11_init 107 = .ok (.dup, 1) := dc_89 (dc_nn (k := 26) aX11_init_81 rfl)
theorem dX11_init_108 : decode cX11_init 108 = .ok (.invokespecial 58, 3) := dc_183 (a0 := 0) (b0 := 58) (dc_nn (k := 27) aX11_init_81 rfl)
theorem dX11_init_111 : decode cX11_init 111 = .ok (.putfield 59, 3) := dc_181 (a0 := 0) (b0 := 59) (dc_nn (k := 30) aX11_init_81 rfl)
theorem dX11_init_114 : decode cX11_init 114 = .ok (.aload_n 0, 1) := dc_42 (dc_nn (k := 33) aX11_init_81 rfl)
theorem dX11_init_115 : decode cX11_init 115 = .ok (.new 63, 3) := dc_187 (a0 := 0) (b0 := 63) (dc_nn (k := 34) aX11_init_81 rfl)
theorem dX11_init_118 : decode cX11_init 118 = .ok (.dup, 1) := dc_89 (dc_nn (k := 37) aX11_init_81 rfl)
theorem dX11_init_119 : decode cX11_init 119 = .ok (.invokespecial 65, 3) := dc_183 (a0 := 0) (b0 := 65) (dc_nn (k := 38) aX11_init_81 rfl)
theorem dX11_init_122 : decode cX11_init 122 = .ok (.putfield 66, 3) := dc_181 (a0 := 0) (b0 := 66) aX11_init_122
theorem dX11_init_125 : decode cX11_init 125 = .ok (.aload_n 0, 1) := dc_42 (dc_nn (k := 3) aX11_init_122 rfl)
theorem dX11_init_126 : decode cX11_init 126 = .ok (.new 70, 3) := dc_187 (a0 := 0) (b0 := 70) (dc_nn (k := 4) aX11_init_122 rfl)
theorem dX11_init_129 : decode cX11_init 129 = .ok (.dup, 1) := dc_89 (dc_nn (k := 7) aX11_init_122 rfl)
theorem dX11_init_130 : decode cX11_init 130 = .ok (.invokespecial 72, 3) := dc_183 (a0 := 0) (b0 := 72) (dc_nn (k := 8) aX11_init_122 rfl)
theorem dX11_init_133 : decode cX11_init 133 = .ok (.putfield 73, 3) := dc_181 (a0 := 0) (b0 := 73) (dc_nn (k := 11) aX11_init_122 rfl)
theorem dX11_init_136 : decode cX11_init 136 = .ok (.aload_n 0, 1) := dc_42 (dc_nn (k := 14) aX11_init_122 rfl)
theorem dX11_init_137 : decode cX11_init 137 = .ok (.new 77, 3) := dc_187 (a0 := 0) (b0 := 77) (dc_nn (k := 15) aX11_init_122 rfl)
theorem dX11_init_140 : decode cX11_init 140 = .ok (.dup, 1) := dc_89 (dc_nn (k := 18) aX11_init_122 rfl)
theorem dX11_init_141 : decode cX11_init 141 = .ok (.invokespecial 79, 3) := dc_183 (a0 := 0) (b0 := 79) (dc_nn (k := 19) aX11_init_122 rfl)
theorem dX11_init_144 : decode cX11_init 144 = .ok (.putfield 80, 3) := dc_181 (a0 := 0) (b0 := 80) (dc_nn (k := 22) aX11_init_122 rfl)
theorem dX11_init_147 : decode cX11_init 147 = .ok (.return_, 1) := dc_177 (dc_nn (k := 25) aX11_init_122 rfl)
set_option maxRecDepth 20000 in
theorem ggX11_feed_X9_hasRoom : GoodIn wsX11_feed wsX9_hasRoom := goodIn_k _ [[7, 0, 18, 0, 0, 0, 0, 0, 0, 0, 0, 0]] (by rfl) (by decide +kernel)
set_option maxRecDepth 20000 in
theorem gX11_feed_X9_hasRoom : GoodIn wsX11_feed (wsV RX11 84 RX9 yX9_hasRoom wsX9_hasRoom) := goodIn_app (goodIn_k _ [[3, 0, 0, 0]] (by rfl) (gw_V _ _ _ _)) ggX11_feed_X9_hasRoom
set_option maxRecDepth 20000 in
theorem ggX11_feed_X9_put : GoodIn wsX11_feed wsX9_put := goodIn_k _ [[12], [8, 4, 13, 0, 0, 0, 0, 0, 0, 0, 0, 0]] (by rfl) (by decide +kernel)
set_option maxRecDepth 20000 in
theorem gX11_feed_X9_put : GoodIn wsX11_feed (wsV RX11 88 RX9 yX9_put wsX9_put) := goodIn_app (goodIn_k _ [[9, 0, 0], [6]] (by rfl) (gw_V _ _ _ _)) ggX11_feed_X9_put
noncomputable def sX11_feed_40 : List Nat := 21 :: 4 :: 182 :: 0 :: 88 :: 42 :: 180 :: 0 :: 10 :: 21 :: 5 :: 182 :: 0 :: 88 :: 42 :: 180 :: 0 :: 10 :: 180 :: 0 :: 92 :: 172 :: []
noncomputable def sX11_feed_0 : List Nat := 42 :: 180 :: 0 :: 10 :: 182 :: 0 :: 84 :: 154 :: 0 :: 5 :: 2 :: 172 :: 42 :: 180 :: 0 :: 10 :: 27 :: 182 :: 0 :: 88 :: 42 :: 180 :: 0 :: 10 :: 28 :: 182 :: 0 :: 88 :: 42 :: 180 :: 0 :: 10 :: 29 :: 182 :: 0 :: 88 :: 42 :: 180 :: 0 :: 10 :: sX11_feed_40
theorem aX11_feed_0 : dc_at cX11_feed 0 sX11_feed_0 := dc_base (by decide +kernel)
theorem aX11_feed_40 : dc_at cX11_feed 40 sX11_feed_40 := dc_nn (k := 40) aX11_feed_0 rfl
theorem dX11_feed_0 : decode cX11_feed 0 = .ok (.aload_n 0, 1) := dc_42 aX11_feed_0
theorem dX11_feed_1 : decode cX11_feed 1 = .ok (.getfield 10, 3) := dc_180 (a0 := 0) (b0 := 10) (dc_nn (k := 1) aX11_feed_0 rfl)
theorem dX11_feed_4 : decode cX11_feed 4 = .ok (.invokevirtual 84, 3) := dc_182 (a0 := 0) (b0 := 84) (dc_nn (k := 4) aX11_feed_0 rfl)
theorem dX11_feed_7 : decode cX11_feed 7 = .ok (.ifCond .ne 5, 3) := dc_154 (a0 := 0) (b0 := 5) (dc_nn (k := 7) aX11_feed_0 rfl) (by decide)
theorem dX11_feed_10 : decode cX11_feed 10 = .ok (.iconst (-1), 1) := dc_2 (dc_nn (k := 10) aX11_feed_0 rfl)
theorem dX11_feed_11 : decode cX11_feed 11 = .ok (.ireturn, 1) := dc_172 (dc_nn (k := 11) aX11_feed_0 rfl)
theorem dX11_feed_12 : decode cX11_feed 12 = .ok (.aload_n 0, 1) := dc_42 (dc_nn (k := 12) aX11_feed_0 rfl)
theorem dX11_feed_13 : decode cX11_feed 13 = .ok (.getfield 10, 3) := dc_180 (a0 := 0) (b0 := 10) (dc_nn (k := 13) aX11_feed_0 rfl)
theorem dX11_feed_16 : decode cX11_feed 16 = .ok (.iload_n 1, 1) := dc_27 (dc_nn (k := 16) aX11_feed_0 rfl)
theorem dX11_feed_17 : decode cX11_feed 17 = .ok (.invokevirtual 88, 3) := dc_182 (a0 := 0) (b0 := 88) (dc_nn (k := 17) aX11_feed_0 rfl)
theorem dX11_feed_20 : decode cX11_feed 20 = .ok (.aload_n 0, 1) := dc_42 (dc_nn (k := 20) aX11_feed_0 rfl)
theorem dX11_feed_21 : decode cX11_feed 21 = .ok (.getfield 10, 3) := dc_180 (a0 := 0) (b0 := 10) (dc_nn (k := 21) aX11_feed_0 rfl)
theorem dX11_feed_24 : decode cX11_feed 24 = .ok (.iload_n 2, 1) := dc_28 (dc_nn (k := 24) aX11_feed_0 rfl)
theorem dX11_feed_25 : decode cX11_feed 25 = .ok (.invokevirtual 88, 3) := dc_182 (a0 := 0) (b0 := 88) (dc_nn (k := 25) aX11_feed_0 rfl)
theorem dX11_feed_28 : decode cX11_feed 28 = .ok (.aload_n 0, 1) := dc_42 (dc_nn (k := 28) aX11_feed_0 rfl)
theorem dX11_feed_29 : decode cX11_feed 29 = .ok (.getfield 10, 3) := dc_180 (a0 := 0) (b0 := 10) (dc_nn (k := 29) aX11_feed_0 rfl)
theorem dX11_feed_32 : decode cX11_feed 32 = .ok (.iload_n 3, 1) := dc_29 (dc_nn (k := 32) aX11_feed_0 rfl)
theorem dX11_feed_33 : decode cX11_feed 33 = .ok (.invokevirtual 88, 3) := dc_182 (a0 := 0) (b0 := 88) (dc_nn (k := 33) aX11_feed_0 rfl)
theorem dX11_feed_36 : decode cX11_feed 36 = .ok (.aload_n 0, 1) := dc_42 (dc_nn (k := 36) aX11_feed_0 rfl)
theorem dX11_feed_37 : decode cX11_feed 37 = .ok (.getfield 10, 3) := dc_180 (a0 := 0) (b0 := 10) (dc_nn (k := 37) aX11_feed_0 rfl)
theorem dX11_feed_40 : decode cX11_feed 40 = .ok (.iload 4, 2) := dc_21 (a0 := 4) aX11_feed_40
theorem dX11_feed_42 : decode cX11_feed 42 = .ok (.invokevirtual 88, 3) := dc_182 (a0 := 0) (b0 := 88) (dc_nn (k := 2) aX11_feed_40 rfl)
theorem dX11_feed_45 : decode cX11_feed 45 = .ok (.aload_n 0, 1) := dc_42 (dc_nn (k := 5) aX11_feed_40 rfl)
theorem dX11_feed_46 : decode cX11_feed 46 = .ok (.getfield 10, 3) := dc_180 (a0 := 0) (b0 := 10) (dc_nn (k := 6) aX11_feed_40 rfl)
theorem dX11_feed_49 : decode cX11_feed 49 = .ok (.iload 5, 2) := dc_21 (a0 := 5) (dc_nn (k := 9) aX11_feed_40 rfl)
theorem dX11_feed_51 : decode cX11_feed 51 = .ok (.invokevirtual 88, 3) := dc_182 (a0 := 0) (b0 := 88) (dc_nn (k := 11) aX11_feed_40 rfl)
theorem dX11_feed_54 : decode cX11_feed 54 = .ok (.aload_n 0, 1) := dc_42 (dc_nn (k := 14) aX11_feed_40 rfl)
theorem dX11_feed_55 : decode cX11_feed 55 = .ok (.getfield 10, 3) := dc_180 (a0 := 0) (b0 := 10) (dc_nn (k := 15) aX11_feed_40 rfl)
theorem dX11_feed_58 : decode cX11_feed 58 = .ok (.getfield 92, 3) := dc_180 (a0 := 0) (b0 := 92) (dc_nn (k := 18) aX11_feed_40 rfl)
theorem dX11_feed_61 : decode cX11_feed 61 = .ok (.ireturn, 1) := dc_172 (dc_nn (k := 21) aX11_feed_40 rfl)
set_option maxRecDepth 20000 in
theorem ggX11_house_X11_within : GoodIn wsX11_house wsX11_within := goodIn_k _ [[9]] (by rfl) (by decide +kernel)
set_option maxRecDepth 20000 in
theorem gX11_house_X11_within : GoodIn wsX11_house (va_wsS RX11 96 yX11_within wsX11_within) := goodIn_app (goodIn_k _ [[6, 0, 0]] (by rfl) (gw_S _ _ _ _)) ggX11_house_X11_within
set_option maxRecDepth 20000 in
theorem ggX11_house_X11_allow : GoodIn wsX11_house wsX11_allow := goodIn_ca (goodIn_k _ [[12, 0, 0]] (by rfl) (by decide +kernel)) (goodIn_sub (fun _ h => List.mem_cons_of_mem _ (List.mem_append_right _ h)) (by decide +kernel))
set_option maxRecDepth 20000 in
theorem gX11_house_X11_allow : GoodIn wsX11_house (va_wsS RX11 100 yX11_allow wsX11_allow) := goodIn_app (goodIn_k _ [[10, 0], [8]] (by rfl) (gw_S _ _ _ _)) ggX11_house_X11_allow
set_option maxRecDepth 20000 in
theorem ggX11_house_X9_begin : GoodIn wsX11_house wsX9_begin := goodIn_k _ [[19, 0, 0, 0, 0, 0, 0, 0, 0, 0, 0, 0, 0], [18, 13, 0, 0, 0, 0, 0, 0, 0, 0, 0, 0, 0, 0, 0, 174, 0, 0, 0, 0, 0, 0, 0, 0, 0]] (by rfl) (by decide +kernel)
set_option maxRecDepth 20000 in
theorem gX11_house_X9_begin : GoodIn wsX11_house (wsV RX11 104 RX9 yX9_begin wsX9_begin) := goodIn_app (goodIn_k _ [[15, 0, 0, 0]] (by rfl) (gw_V _ _ _ _)) ggX11_house_X9_begin
set_option maxRecDepth 20000 in
theorem ggX11_house_X5_copyFrom : GoodIn wsX11_house wsX5_copyFrom := goodIn_k _ [[50, 0, 0, 0, 0, 0, 0, 0, 0, 0, 0, 0, 0, 0, 0, 0, 0, 0, 0, 0, 0, 0, 0, 0, 0, 0, 0, 153, 0, 0, 0, 0, 0, 0, 0, 0, 0]] (by rfl) (by decide +kernel)
set_option maxRecDepth 20000 in
theorem gX11_house_X5_copyFrom : GoodIn wsX11_house (wsV RX11 107 RX5 yX5_copyFrom wsX5_copyFrom) := goodIn_app (goodIn_k _ [[46, 0, 0, 0]] (by rfl) (gw_V _ _ _ _)) ggX11_house_X5_copyFrom
set_option maxRecDepth 20000 in
theorem ggX11_house_X5_readLines : GoodIn wsX11_house wsX5_readLines := goodIn_k _ [[80], [59, 0, 20, 0, 0], [18, 65], [35, 49, 0, 0, 0], [26, 7], [33, 55, 0, 0, 0, 0, 0, 0, 0, 0, 0, 0, 0, 0, 0, 0, 0, 0, 0, 0, 0, 0, 0, 0, 0, 0, 0, 0, 0, 0, 0, 0, 0, 0, 0, 0, 0, 0, 0, 0, 0, 0, 0, 0, 0, 0, 0, 0, 0, 0, 0, 0, 0], [49, 91, 0, 0], [30, 0, 0], [25, 10, 0, 0, 0, 0, 0, 0, 0, 0, 0, 98, 0, 0, 0, 0, 0, 0, 0, 0, 0, 0, 0, 0], [27, 0, 0, 127, 0, 0, 0, 0, 0, 0, 0, 0, 0, 0, 0, 0], [51, 118], [56, 0, 0, 112, 0, 0, 0, 0, 0, 0, 0, 0, 0, 0, 0], [64, 118], [68, 115, 0, 0, 0, 0, 0, 0, 0, 0], [23, 169, 0, 0], [66, 129, 0, 0, 0], [72, 127], [76, 124], [74, 127, 0, 0, 0, 0, 23, 0, 0, 0, 0, 0], [220, 0, 0, 0, 0, 0, 0, 0, 0, 0, 6, 0, 0, 0]] (by rfl) (by decide +kernel)
set_option maxRecDepth 20000 in
theorem gX11_house_X5_readLines : GoodIn wsX11_house (wsV RX11 111 RX5 yX5_readLines wsX5_readLines) := goodIn_app (goodIn_k _ [[77, 0, 0], [49]] (by rfl) (gw_V _ _ _ _)) ggX11_house_X5_readLines
noncomputable def sX11_house_42 : List Nat := 182 :: 0 :: 111 :: 153 :: 0 :: 14 :: 42 :: 180 :: 0 :: 19 :: 42 :: 180 :: 0 :: 23 :: 182 :: 0 :: 107 :: 42 :: 180 :: 0 :: 10 :: 180 :: 0 :: 115 :: 172 :: []
noncomputable def sX11_house_0 : List Nat := 27 :: 3 :: 42 :: 180 :: 0 :: 10 :: 180 :: 0 :: 92 :: 184 :: 0 :: 96 :: 184 :: 0 :: 100 :: 42 :: 180 :: 0 :: 10 :: 27 :: 182 :: 0 :: 104 :: 42 :: 180 :: 0 :: 23 :: 42 :: 180 :: 0 :: 19 :: 182 :: 0 :: 107 :: 42 :: 180 :: 0 :: 23 :: 42 :: 180 :: 0 :: 10 :: sX11_house_42
theorem aX11_house_0 : dc_at cX11_house 0 sX11_house_0 := dc_base (by decide +kernel)
theorem aX11_house_42 : dc_at cX11_house 42 sX11_house_42 := dc_nn (k := 42) aX11_house_0 rfl
theorem dX11_house_0 : decode cX11_house 0 = .ok (.iload_n 1, 1) := dc_27 aX11_house_0
theorem dX11_house_1 : decode cX11_house 1 = .ok (.iconst 0, 1) := dc_3 (dc_nn (k := 1) aX11_house_0 rfl)
theorem dX11_house_2 : decode cX11_house 2 = .ok (.aload_n 0, 1) := dc_42 (dc_nn (k := 2) aX11_house_0 rfl)
theorem dX11_house_3 : decode cX11_house 3 = .ok (.getfield 10, 3) := dc_180 (a0 := 0) (b0 := 10) (dc_nn (k := 3) aX11_house_0 rfl)
theorem dX11_house_6 : decode cX11_house 6 = .ok (.getfield 92, 3) := dc_180 (a0 := 0) (b0 := 92) (dc_nn (k := 6) aX11_house_0 rfl)
theorem dX11_house_9 : decode cX11_house 9 = .ok (.invokestatic 96, 3) := dc_184 (a0 := 0) (b0 := 96) (dc_nn (k := 9) aX11_house_0 rfl)
theorem dX11_house_12 : decode cX11_house 12 = .ok (.invokestatic 100, 3) := dc_184 (a0 := 0) (b0 := 100) (dc_nn (k := 12) aX11_house_0 rfl)
theorem dX11_house_15 : decode cX11_house 15 = .ok (.aload_n 0, 1) := dc_42 (dc_nn (k := 15) aX11_house_0 rfl)
theorem dX11_house_16 : decode cX11_house 16 = .ok (.getfield 10, 3) := dc_180 (a0 := 0) (b0 := 10) (dc_nn (k := 16) aX11_house_0 rfl)
theorem dX11_house_19 : decode cX11_house 19 = .ok (.iload_n 1, 1) := dc_27 (dc_nn (k := 19) aX11_house_0 rfl)
theorem dX11_house_20 : decode cX11_house 20 = .ok (.invokevirtual 104, 3) := dc_182 (a0 := 0) (b0 := 104) (dc_nn (k := 20) aX11_house_0 rfl)
theorem dX11_house_23 : decode cX11_house 23 = .ok (.aload_n 0, 1) := dc_42 (dc_nn (k := 23) aX11_house_0 rfl)
theorem dX11_house_24 : decode cX11_house 24 = .ok (.getfield 23, 3) := dc_180 (a0 := 0) (b0 := 23) (dc_nn (k := 24) aX11_house_0 rfl)
theorem dX11_house_27 : decode cX11_house 27 = .ok (.aload_n 0, 1) := dc_42 (dc_nn (k := 27) aX11_house_0 rfl)
theorem dX11_house_28 : decode cX11_house 28 = .ok (.getfield 19, 3) := dc_180 (a0 := 0) (b0 := 19) (dc_nn (k := 28) aX11_house_0 rfl)
theorem dX11_house_31 : decode cX11_house 31 = .ok (.invokevirtual 107, 3) := dc_182 (a0 := 0) (b0 := 107) (dc_nn (k := 31) aX11_house_0 rfl)
theorem dX11_house_34 : decode cX11_house 34 = .ok (.aload_n 0, 1) := dc_42 (dc_nn (k := 34) aX11_house_0 rfl)
theorem dX11_house_35 : decode cX11_house 35 = .ok (.getfield 23, 3) := dc_180 (a0 := 0) (b0 := 23) (dc_nn (k := 35) aX11_house_0 rfl)
theorem dX11_house_38 : decode cX11_house 38 = .ok (.aload_n 0, 1) := dc_42 (dc_nn (k := 38) aX11_house_0 rfl)
theorem dX11_house_39 : decode cX11_house 39 = .ok (.getfield 10, 3) := dc_180 (a0 := 0) (b0 := 10) (dc_nn (k := 39) aX11_house_0 rfl)
theorem dX11_house_42 : decode cX11_house 42 = .ok (.invokevirtual 111, 3) := dc_182 (a0 := 0) (b0 := 111) aX11_house_42
theorem dX11_house_45 : decode cX11_house 45 = .ok (.ifCond .eq 14, 3) := dc_153 (a0 := 0) (b0 := 14) (dc_nn (k := 3) aX11_house_42 rfl) (by decide)
theorem dX11_house_48 : decode cX11_house 48 = .ok (.aload_n 0, 1) := dc_42 (dc_nn (k := 6) aX11_house_42 rfl)
theorem dX11_house_49 : decode cX11_house 49 = .ok (.getfield 19, 3) := dc_180 (a0 := 0) (b0 := 19) (dc_nn (k := 7) aX11_house_42 rfl)
theorem dX11_house_52 : decode cX11_house 52 = .ok (.aload_n 0, 1) := dc_42 (dc_nn (k := 10) aX11_house_42 rfl)
theorem dX11_house_53 : decode cX11_house 53 = .ok (.getfield 23, 3) := dc_180 (a0 := 0) (b0 := 23) (dc_nn (k := 11) aX11_house_42 rfl)
theorem dX11_house_56 : decode cX11_house 56 = .ok (.invokevirtual 107, 3) := dc_182 (a0 := 0) (b0 := 107) (dc_nn (k := 14) aX11_house_42 rfl)
theorem dX11_house_59 : decode cX11_house 59 = .ok (.aload_n 0, 1) := dc_42 (dc_nn (k := 17) aX11_house_42 rfl)
theorem dX11_house_60 : decode cX11_house 60 = .ok (.getfield 10, 3) := dc_180 (a0 := 0) (b0 := 10) (dc_nn (k := 18) aX11_house_42 rfl)
theorem dX11_house_63 : decode cX11_house 63 = .ok (.getfield 115, 3) := dc_180 (a0 := 0) (b0 := 115) (dc_nn (k := 21) aX11_house_42 rfl)
theorem dX11_house_66 : decode cX11_house 66 = .ok (.ireturn, 1) := dc_172 (dc_nn (k := 24) aX11_house_42 rfl)
set_option maxRecDepth 20000 in
theorem ggX11_wheel_X11_numberOf : GoodIn wsX11_wheel wsX11_numberOf := goodIn_ca (goodIn_k _ [[8, 0, 0], [7, 3, 0, 0, 0, 0, 0, 0, 0, 0]] (by rfl) (by decide +kernel)) (goodIn_sub (fun _ h => List.mem_cons_of_mem _ (List.mem_append_left _ (List.mem_append_right _ h))) (by decide +kernel))
set_option maxRecDepth 20000 in
theorem gX11_wheel_X11_numberOf : GoodIn wsX11_wheel (va_wsS RX11 118 yX11_numberOf wsX11_numberOf) := goodIn_app (goodIn_k _ [[5, 0, 0]] (by rfl) (gw_S _ _ _ _)) ggX11_wheel_X11_numberOf
set_option maxRecDepth 20000 in
theorem ggX11_wheel_X11_within : GoodIn wsX11_wheel wsX11_within := goodIn_k _ [[14]] (by rfl) (by decide +kernel)
set_option maxRecDepth 20000 in
theorem gX11_wheel_X11_within : GoodIn wsX11_wheel (va_wsS RX11 96 yX11_within wsX11_within) := goodIn_app (goodIn_k _ [[12, 0], [7]] (by rfl) (gw_S _ _ _ _)) ggX11_wheel_X11_within
set_option maxRecDepth 20000 in
theorem ggX11_wheel_X11_allow : GoodIn wsX11_wheel wsX11_allow := goodIn_ca (goodIn_k _ [[22, 0, 0]] (by rfl) (by decide +kernel)) (goodIn_sub (fun _ h => List.mem_cons_of_mem _ (List.mem_append_right _ h)) (by decide +kernel))
set_option maxRecDepth 20000 in
theorem gX11_wheel_X11_allow : GoodIn wsX11_wheel (va_wsS RX11 100 yX11_allow wsX11_allow) := goodIn_app (goodIn_k _ [[20, 0], [7]] (by rfl) (gw_S _ _ _ _)) ggX11_wheel_X11_allow
set_option maxRecDepth 20000 in
theorem ggX11_wheel_X9_begin : GoodIn wsX11_wheel wsX9_begin := goodIn_k _ [[29, 0, 0, 0, 0, 0, 0, 0, 0, 0, 0, 0, 0], [28, 13, 0, 0, 0, 0, 0, 0, 0, 0, 0, 0, 0, 0, 0, 134, 0, 0, 0, 0, 0, 0, 0, 0, 0]] (by rfl) (by decide +kernel)
set_option maxRecDepth 20000 in
theorem gX11_wheel_X9_begin : GoodIn wsX11_wheel (wsV RX11 104 RX9 yX9_begin wsX9_begin) := goodIn_app (goodIn_k _ [[25, 0, 0, 0]] (by rfl) (gw_V _ _ _ _)) ggX11_wheel_X9_begin
set_option maxRecDepth 20000 in
theorem ggX11_wheel_X1_readEntries : GoodIn wsX11_wheel wsX1_readEntries := goodIn_k _ [[60, 0, 0, 0, 0, 0, 0, 0, 0], [28, 40], [45, 24, 0, 0], [59, 13, 0, 0, 0, 0, 0], [36, 7], [43, 35, 0, 0, 0, 0, 0, 0, 0, 0, 0, 0, 0, 0, 0, 0, 0, 0, 0, 0, 0, 0, 0, 0, 0, 0, 0, 0, 0, 0, 0, 0, 0, 0, 0, 0, 0, 0, 0, 0, 0, 0, 0, 0, 0, 0, 0, 0, 0, 0, 0], [40, 0, 0], [35, 10, 0, 0, 0, 0, 0, 0, 0, 0, 0, 73, 0, 0, 0, 0, 0, 0, 0, 0], [37, 0, 99, 0, 0, 0, 0, 0, 0, 0, 0, 0, 0, 0, 0, 0], [39, 112, 0, 0, 0, 0, 0, 0, 0, 0, 0, 0, 0, 0, 0, 0, 0, 32, 0], [190, 0, 0, 0, 0, 0, 0, 0, 0, 0]] (by rfl) (by decide +kernel)
set_option maxRecDepth 20000 in
theorem gX11_wheel_X1_readEntries : GoodIn wsX11_wheel (wsV RX11 122 RX1 yX1_readEntries wsX1_readEntries) := goodIn_app (goodIn_k _ [[56, 0, 0, 0]] (by rfl) (gw_V _ _ _ _)) ggX11_wheel_X1_readEntries
set_option maxRecDepth 20000 in
theorem ggX11_wheel_X1_keepDraft : GoodIn wsX11_wheel wsX1_keepDraft := goodIn_k _ [[171], [61, 110, 0, 0, 0, 0, 23, 0]] (by rfl) (by decide +kernel)
set_option maxRecDepth 20000 in
theorem gX11_wheel_X1_keepDraft : GoodIn wsX11_wheel (wsV RX11 125 RX1 yX1_keepDraft wsX1_keepDraft) := goodIn_app (goodIn_k _ [[168, 0, 0], [59]] (by rfl) (gw_V _ _ _ _)) ggX11_wheel_X1_keepDraft
noncomputable def sX11_wheel_41 : List Nat := 153 :: 0 :: 12 :: 42 :: 180 :: 0 :: 29 :: 21 :: 4 :: 182 :: 0 :: 125 :: 42 :: 180 :: 0 :: 10 :: 180 :: 0 :: 115 :: 172 :: []
noncomputable def sX11_wheel_0 : List Nat := 27 :: 28 :: 184 :: 0 :: 118 :: 54 :: 4 :: 29 :: 3 :: 42 :: 180 :: 0 :: 10 :: 180 :: 0 :: 92 :: 184 :: 0 :: 96 :: 184 :: 0 :: 100 :: 42 :: 180 :: 0 :: 10 :: 29 :: 182 :: 0 :: 104 :: 42 :: 180 :: 0 :: 29 :: 42 :: 180 :: 0 :: 10 :: 182 :: 0 :: 122 :: sX11_wheel_41
theorem aX11_wheel_0 : dc_at cX11_wheel 0 sX11_wheel_0 := dc_base (by decide +kernel)
theorem aX11_wheel_41 : dc_at cX11_wheel 41 sX11_wheel_41 := dc_nn (k := 41) aX11_wheel_0 rfl
theorem dX11_wheel_0 : decode cX11_wheel 0 = .ok (.iload_n 1, 1) := dc_27 aX11_wheel_0
theorem dX11_wheel_1 : decode cX11_wheel 1 = .ok (.iload_n 2, 1) := dc_28 (dc_nn (k := 1) aX11_wheel_0 rfl)
theorem dX11_wheel_2 : decode cX11_wheel 2 = .ok (.invokestatic 118, 3) := dc_184 (a0 := 0) (b0 := 118) (dc_nn (k := 2) aX11_wheel_0 rfl)
theorem dX11_wheel_5 : decode cX11_wheel 5 = .ok (.istore 4, 2) := dc_54 (a0 := 4) (dc_nn (k := 5) aX11_wheel_0 rfl)
theorem dX11_wheel_7 : decode cX11_wheel 7 = .ok (.iload_n 3, 1) := dc_29 (dc_nn (k := 7) aX11_wheel_0 rfl)
theorem dX11_wheel_8 : decode cX11_wheel 8 = .ok (.iconst 0, 1) := dc_3 (dc_nn (k := 8) aX11_wheel_0 rfl)
theorem dX11_wheel_9 : decode cX11_wheel 9 = .ok (.aload_n 0, 1) := dc_42 (dc_nn (k := 9) aX11_wheel_0 rfl)
theorem dX11_wheel_10 : decode cX11_wheel 10 = .ok (.getfield 10, 3) := dc_180 (a0 := 0) (b0 := 10) (dc_nn (k := 10) aX11_wheel_0 rfl)
theorem dX11_wheel_13 : decode cX11_wheel 13 = .ok (.getfield 92, 3) := dc_180 (a0 := 0) (b0 := 92) (dc_nn (k := 13) aX11_wheel_0 rfl)
theorem dX11_wheel_16 : decode cX11_wheel 16 = .ok (.invokestatic 96, 3) := dc_184 (a0 := 0) (b0 := 96) (dc_nn (k := 16) aX11_wheel_0 rfl)
theorem dX11_wheel_19 : decode cX11_wheel 19 = .ok (.invokestatic 100, 3) := dc_184 (a0 := 0) (b0 := 100) (dc_nn (k := 19) aX11_wheel_0 rfl)
theorem dX11_wheel_22 : decode cX11_wheel 22 = .ok (.aload_n 0, 1) := dc_42 (dc_nn (k := 22) aX11_wheel_0 rfl)
theorem dX11_wheel_23 : decode cX11_wheel 23 = .ok (.getfield 10, 3) := dc_180 (a0 := 0) (b0 := 10) (dc_nn (k := 23) aX11_wheel_0 rfl)
theorem dX11_wheel_26 : decode cX11_wheel 26 = .ok (.iload_n 3, 1) := dc_29 (dc_nn (k := 26) aX11_wheel_0 rfl)
theorem dX11_wheel_27 : decode cX11_wheel 27 = .ok (.invokevirtual 104, 3) := dc_182 (a0 := 0) (b0 := 104) (dc_nn (k := 27) aX11_wheel_0 rfl)
theorem dX11_wheel_30 : decode cX11_wheel 30 = .ok (.aload_n 0, 1) := dc_42 (dc_nn (k := 30) aX11_wheel_0 rfl)
theorem dX11_wheel_31 : decode cX11_wheel 31 = .ok (.getfield 29, 3) := dc_180 (a0 := 0) (b0 := 29) (dc_nn (k := 31) aX11_wheel_0 rfl)
theorem dX11_wheel_34 : decode cX11_wheel 34 = .ok (.aload_n 0, 1) := dc_42 (dc_nn (k := 34) aX11_wheel_0 rfl)
theorem dX11_wheel_35 : decode cX11_wheel 35 = .ok (.getfield 10, 3) := dc_180 (a0 := 0) (b0 := 10) (dc_nn (k := 35) aX11_wheel_0 rfl)
theorem dX11_wheel_38 : decode cX11_wheel 38 = .ok (.invokevirtual 122, 3) := dc_182 (a0 := 0) (b0 := 122) (dc_nn (k := 38) aX11_wheel_0 rfl)
theorem dX11_wheel_41 : decode cX11_wheel 41 = .ok (.ifCond .eq 12, 3) := dc_153 (a0 := 0) (b0 := 12) aX11_wheel_41 (by decide)
theorem dX11_wheel_44 : decode cX11_wheel 44 = .ok (.aload_n 0, 1) := dc_42 (dc_nn (k := 3) aX11_wheel_41 rfl)
theorem dX11_wheel_45 : decode cX11_wheel 45 = .ok (.getfield 29, 3) := dc_180 (a0 := 0) (b0 := 29) (dc_nn (k := 4) aX11_wheel_41 rfl)
theorem dX11_wheel_48 : decode cX11_wheel 48 = .ok (.iload 4, 2) := dc_21 (a0 := 4) (dc_nn (k := 7) aX11_wheel_41 rfl)
theorem dX11_wheel_50 : decode cX11_wheel 50 = .ok (.invokevirtual 125, 3) := dc_182 (a0 := 0) (b0 := 125) (dc_nn (k := 9) aX11_wheel_41 rfl)
theorem dX11_wheel_53 : decode cX11_wheel 53 = .ok (.aload_n 0, 1) := dc_42 (dc_nn (k := 12) aX11_wheel_41 rfl)
theorem dX11_wheel_54 : decode cX11_wheel 54 = .ok (.getfield 10, 3) := dc_180 (a0 := 0) (b0 := 10) (dc_nn (k := 13) aX11_wheel_41 rfl)
theorem dX11_wheel_57 : decode cX11_wheel 57 = .ok (.getfield 115, 3) := dc_180 (a0 := 0) (b0 := 115) (dc_nn (k := 16) aX11_wheel_41 rfl)
theorem dX11_wheel_60 : decode cX11_wheel 60 = .ok (.ireturn, 1) := dc_172 (dc_nn (k := 19) aX11_wheel_41 rfl)
noncomputable def sX11_fault_0 : List Nat := 42 :: 180 :: 0 :: 10 :: 180 :: 0 :: 128 :: 172 :: []
theorem aX11_fault_0 : dc_at cX11_fault 0 sX11_fault_0 := dc_base (by decide +kernel)
theorem dX11_fault_0 : decode cX11_fault 0 = .ok (.aload_n 0, 1) := dc_42 aX11_fault_0
theorem dX11_fault_1 : decode cX11_fault 1 = .ok (.getfield 10, 3) := dc_180 (a0 := 0) (b0 := 10) (dc_nn (k := 1) aX11_fault_0 rfl)
theorem dX11_fault_4 : decode cX11_fault 4 = .ok (.getfield 128, 3) := dc_180 (a0 := 0) (b0 := 128) (dc_nn (k := 4) aX11_fault_0 rfl)
theorem dX11_fault_7 : decode cX11_fault 7 = .ok (.ireturn, 1) := dc_172 (dc_nn (k := 7) aX11_fault_0 rfl)
set_option maxRecDepth 20000 in
theorem ggX11_count_X1_howManyTell : GoodIn wsX11_count wsX1_howManyTell := goodIn_k _ [[16, 0, 0, 0], [15, 4, 0, 0, 0, 0, 0, 49, 0]] (by rfl) (by decide +kernel)
set_option maxRecDepth 20000 in
theorem gX11_count_X1_howManyTell : GoodIn wsX11_count (wsV RX11 147 RX1 yX1_howManyTell wsX1_howManyTell) := goodIn_app (goodIn_k _ [[12, 0, 0, 0]] (by rfl) (gw_V _ _ _ _)) ggX11_count_X1_howManyTell
set_option maxRecDepth 20000 in
theorem ggX11_count_X7_howManyLives : GoodIn wsX11_count wsX7_howManyLives := goodIn_k _ [[30, 0, 0, 0, 0], [29, 5, 0, 40, 0, 0, 0, 0, 0]] (by rfl) (by decide +kernel)
set_option maxRecDepth 20000 in
theorem gX11_count_X7_howManyLives : GoodIn wsX11_count (wsV RX11 151 RX7 yX7_howManyLives wsX7_howManyLives) := goodIn_app (goodIn_k _ [[26, 0, 0, 0]] (by rfl) (gw_V _ _ _ _)) ggX11_count_X7_howManyLives
set_option maxRecDepth 20000 in
theorem ggX11_count_X7_howManyFates : GoodIn wsX11_count wsX7_howManyFates := goodIn_k _ [[40, 0], [32, 0, 0], [29, 5, 0, 40, 0, 0, 0, 0, 0]] (by rfl) (by decide +kernel)
set_option maxRecDepth 20000 in
theorem gX11_count_X7_howManyFates : GoodIn wsX11_count (wsV RX11 154 RX7 yX7_howManyFates wsX7_howManyFates) := goodIn_app (goodIn_k _ [[37, 0, 0], [29]] (by rfl) (gw_V _ _ _ _)) ggX11_count_X7_howManyFates
noncomputable def sX11_count_82 : List Nat := 180 :: 0 :: 92 :: 172 :: 42 :: 180 :: 0 :: 80 :: 182 :: 0 :: 154 :: 172 :: 187 :: 0 :: 157 :: 89 :: 18 :: 159 :: 183 :: 0 :: 161 :: 191 :: []
noncomputable def sX11_count_40 : List Nat := 42 :: 180 :: 0 :: 19 :: 180 :: 0 :: 131 :: 180 :: 0 :: 135 :: 172 :: 42 :: 180 :: 0 :: 19 :: 180 :: 0 :: 140 :: 180 :: 0 :: 144 :: 172 :: 42 :: 180 :: 0 :: 29 :: 182 :: 0 :: 147 :: 172 :: 42 :: 180 :: 0 :: 80 :: 182 :: 0 :: 151 :: 172 :: 42 :: 180 :: 0 :: 10 :: sX11_count_82
noncomputable def sX11_count_0 : List Nat := 27 :: 170 :: 0 :: 0 :: 0 :: 0 :: 0 :: 93 :: 0 :: 0 :: 0 :: 0 :: 0 :: 0 :: 0 :: 5 :: 0 :: 0 :: 0 :: 39 :: 0 :: 0 :: 0 :: 50 :: 0 :: 0 :: 0 :: 61 :: 0 :: 0 :: 0 :: 69 :: 0 :: 0 :: 0 :: 77 :: 0 :: 0 :: 0 :: 85 :: sX11_count_40
theorem aX11_count_0 : dc_at cX11_count 0 sX11_count_0 := dc_base (by decide +kernel)
theorem aX11_count_40 : dc_at cX11_count 40 sX11_count_40 := dc_nn (k := 40) aX11_count_0 rfl
theorem aX11_count_82 : dc_at cX11_count 82 sX11_count_82 := dc_nn (k := 42) aX11_count_40 rfl
theorem dX11_count_0 : decode cX11_count 0 = .ok (.iload_n 1, 1) := dc_27 aX11_count_0
theorem dX11_count_1 : decode cX11_count 1 = .ok (.tableswitch 93 0 5 #[39, 50, 61, 69, 77, 85], 39) := by decide +kernel
theorem dX11_count_40 : decode cX11_count 40 = .ok (.aload_n 0, 1) := dc_42 aX11_count_40
theorem dX11_count_41 : decode cX11_count 41 = .ok (.getfield 19, 3) := dc_180 (a0 := 0) (b0 := 19) (dc_nn (k := 1) aX11_count_40 rfl)
theorem dX11_count_44 : decode cX11_count 44 = .ok (.getfield 131, 3) := dc_180 (a0 := 0) (b0 := 131) (dc_nn (k := 4) aX11_count_40 rfl)
theorem dX11_count_47 : decode cX11_count 47 = .ok (.getfield 135, 3) := dc_180 (a0 := 0) (b0 := 135) (dc_nn (k := 7) aX11_count_40 rfl)
theorem dX11_count_50 : decode cX11_count 50 = .ok (.ireturn, 1) := dc_172 (dc_nn (k := 10) aX11_count_40 rfl)
theorem dX11_count_51 : decode cX11_count 51 = .ok (.aload_n 0, 1) := dc_42 (dc_nn (k := 11) aX11_count_40 rfl)
theorem dX11_count_52 : decode cX11_count 52 = .ok (.getfield 19, 3) := dc_180 (a0 := 0) (b0 := 19) (dc_nn (k := 12) aX11_count_40 rfl)
theorem dX11_count_55 : decode cX11_count 55 = .ok (.getfield 140, 3) := dc_180 (a0 := 0) (b0 := 140) (dc_nn (k := 15) aX11_count_40 rfl)
theorem dX11_count_58 : decode cX11_count 58 = .ok (.getfield 144, 3) := dc_180 (a0 := 0) (b0 := 144) (dc_nn (k := 18) aX11_count_40 rfl)
theorem dX11_count_61 : decode cX11_count 61 = .ok (.ireturn, 1) := dc_172 (dc_nn (k := 21) aX11_count_40 rfl)
theorem dX11_count_62 : decode cX11_count 62 = .ok (.aload_n 0, 1) := dc_42 (dc_nn (k := 22) aX11_count_40 rfl)
theorem dX11_count_63 : decode cX11_count 63 = .ok (.getfield 29, 3) := dc_180 (a0 := 0) (b0 := 29) (dc_nn (k := 23) aX11_count_40 rfl)
theorem dX11_count_66 : decode cX11_count 66 = .ok (.invokevirtual 147, 3) := dc_182 (a0 := 0) (b0 := 147) (dc_nn (k := 26) aX11_count_40 rfl)
theorem dX11_count_69 : decode cX11_count 69 = .ok (.ireturn, 1) := dc_172 (dc_nn (k := 29) aX11_count_40 rfl)
theorem dX11_count_70 : decode cX11_count 70 = .ok (.aload_n 0, 1) := dc_42 (dc_nn (k := 30) aX11_count_40 rfl)
theorem dX11_count_71 : decode cX11_count 71 = .ok (.getfield 80, 3) := dc_180 (a0 := 0) (b0 := 80) (dc_nn (k := 31) aX11_count_40 rfl)
theorem dX11_count_74 : decode cX11_count 74 = .ok (.invokevirtual 151, 3) := dc_182 (a0 := 0) (b0 := 151) (dc_nn (k := 34) aX11_count_40 rfl)
theorem dX11_count_77 : decode cX11_count 77 = .ok (.ireturn, 1) := dc_172 (dc_nn (k := 37) aX11_count_40 rfl)
theorem dX11_count_78 : decode cX11_count 78 = .ok (.aload_n 0, 1) := dc_42 (dc_nn (k := 38) aX11_count_40 rfl)
theorem dX11_count_79 : decode cX11_count 79 = .ok (.getfield 10, 3) := dc_180 (a0 := 0) (b0 := 10) (dc_nn (k := 39) aX11_count_40 rfl)
theorem dX11_count_82 : decode cX11_count 82 = .ok (.getfield 92, 3) := dc_180 (a0 := 0) (b0 := 92) aX11_count_82
theorem dX11_count_85 : decode cX11_count 85 = .ok (.ireturn, 1) := dc_172 (dc_nn (k := 3) aX11_count_82 rfl)
theorem dX11_count_86 : decode cX11_count 86 = .ok (.aload_n 0, 1) := dc_42 (dc_nn (k := 4) aX11_count_82 rfl)
theorem dX11_count_87 : decode cX11_count 87 = .ok (.getfield 80, 3) := dc_180 (a0 := 0) (b0 := 80) (dc_nn (k := 5) aX11_count_82 rfl)
theorem dX11_count_90 : decode cX11_count 90 = .ok (.invokevirtual 154, 3) := dc_182 (a0 := 0) (b0 := 154) (dc_nn (k := 8) aX11_count_82 rfl)
theorem dX11_count_93 : decode cX11_count 93 = .ok (.ireturn, 1) := dc_172 (dc_nn (k := 11) aX11_count_82 rfl)
theorem dX11_count_94 : decode cX11_count 94 = .ok (.new 157, 3) := dc_187 (a0 := 0) (b0 := 157) (dc_nn (k := 12) aX11_count_82 rfl)
theorem dX11_count_97 : decode cX11_count 97 = .ok (.dup, 1) := dc_89 (dc_nn (k := 15) aX11_count_82 rfl)
theorem dX11_count_98 : decode cX11_count 98 = .ok (.ldc 159, 2) := dc_18 (a0 := 159) (dc_nn (k := 16) aX11_count_82 rfl)
theorem dX11_count_100 : decode cX11_count 100 = .ok (.invokespecial 161, 3) := dc_183 (a0 := 0) (b0 := 161) (dc_nn (k := 18) aX11_count_82 rfl)
theorem dX11_count_103 : decode cX11_count 103 = .ok (.athrow, 1) := dc_191 (dc_nn (k := 21) aX11_count_82 rfl)
set_option maxRecDepth 20000 in
theorem ggX11_place_X11_within : GoodIn wsX11_place wsX11_within := goodIn_k _ [[5]] (by rfl) (by decide +kernel)
set_option maxRecDepth 20000 in
theorem gX11_place_X11_within : GoodIn wsX11_place (va_wsS RX11 96 yX11_within wsX11_within) := goodIn_app (goodIn_k _ [[2, 0, 0]] (by rfl) (gw_S _ _ _ _)) ggX11_place_X11_within
set_option maxRecDepth 20000 in
theorem ggX11_place_X11_isDay : GoodIn wsX11_place wsX11_isDay := goodIn_k _ [[8, 0], [2, 0, 0, 0]] (by rfl) (by decide +kernel)
set_option maxRecDepth 20000 in
theorem gX11_place_X11_isDay : GoodIn wsX11_place (va_wsS RX11 164 yX11_isDay wsX11_isDay) := goodIn_app (goodIn_k _ [[6, 0], [4]] (by rfl) (gw_S _ _ _ _)) ggX11_place_X11_isDay
set_option maxRecDepth 20000 in
theorem ggX11_place_X11_need : GoodIn wsX11_place wsX11_need := goodIn_ca (goodIn_k _ [[12, 0, 0]] (by rfl) (by decide +kernel)) (goodIn_sub (fun _ h => List.mem_cons_of_mem _ (List.mem_append_right _ h)) (by decide +kernel))
set_option maxRecDepth 20000 in
theorem gX11_place_X11_need : GoodIn wsX11_place (va_wsS RX11 168 yX11_need wsX11_need) := goodIn_app (goodIn_k _ [[10, 0], [4]] (by rfl) (gw_S _ _ _ _)) ggX11_place_X11_need
set_option maxRecDepth 20000 in
theorem ggX11_place_X5_placeOn : GoodIn wsX11_place wsX5_placeOn := goodIn_k _ [[19, 0, 0, 0, 0, 0, 0, 0], [18, 8, 0, 0, 0, 0, 0, 0, 0, 0, 0, 0, 0, 0, 0, 0, 13, 0, 0, 0, 0, 0]] (by rfl) (by decide +kernel)
set_option maxRecDepth 20000 in
theorem gX11_place_X5_placeOn : GoodIn wsX11_place (wsV RX11 171 RX5 yX5_placeOn wsX5_placeOn) := goodIn_app (goodIn_k _ [[15, 0, 0, 0]] (by rfl) (gw_V _ _ _ _)) ggX11_place_X5_placeOn
noncomputable def sX11_place_40 : List Nat := 29 :: 182 :: 0 :: 171 :: 172 :: []
noncomputable def sX11_place_0 : List Nat := 27 :: 3 :: 6 :: 184 :: 0 :: 96 :: 153 :: 0 :: 24 :: 28 :: 3 :: 16 :: 6 :: 184 :: 0 :: 96 :: 153 :: 0 :: 14 :: 29 :: 184 :: 0 :: 164 :: 153 :: 0 :: 7 :: 4 :: 167 :: 0 :: 4 :: 3 :: 184 :: 0 :: 168 :: 42 :: 180 :: 0 :: 19 :: 27 :: 28 :: sX11_place_40
theorem aX11_place_0 : dc_at cX11_place 0 sX11_place_0 := dc_base (by decide +kernel)
theorem aX11_place_40 : dc_at cX11_place 40 sX11_place_40 := dc_nn (k := 40) aX11_place_0 rfl
theorem dX11_place_0 : decode cX11_place 0 = .ok (.iload_n 1, 1) := dc_27 aX11_place_0
theorem dX11_place_1 : decode cX11_place 1 = .ok (.iconst 0, 1) := dc_3 (dc_nn (k := 1) aX11_place_0 rfl)
theorem dX11_place_2 : decode cX11_place 2 = .ok (.iconst 3, 1) := dc_6 (dc_nn (k := 2) aX11_place_0 rfl)
theorem dX11_place_3 : decode cX11_place 3 = .ok (.invokestatic 96, 3) := dc_184 (a0 := 0) (b0 := 96) (dc_nn (k := 3) aX11_place_0 rfl)
theorem dX11_place_6 : decode cX11_place 6 = .ok (.ifCond .eq 24, 3) := dc_153 (a0 := 0) (b0 := 24) (dc_nn (k := 6) aX11_place_0 rfl) (by decide)
theorem dX11_place_9 : decode cX11_place 9 = .ok (.iload_n 2, 1) := dc_28 (dc_nn (k := 9) aX11_place_0 rfl)
theorem dX11_place_10 : decode cX11_place 10 = .ok (.iconst 0, 1) := dc_3 (dc_nn (k := 10) aX11_place_0 rfl)
theorem dX11_place_11 : decode cX11_place 11 = .ok (.bipush 6, 2) := dc_16 (a0 := 6) (dc_nn (k := 11) aX11_place_0 rfl) (by decide)
theorem dX11_place_13 : decode cX11_place 13 = .ok (.invokestatic 96, 3) := dc_184 (a0 := 0) (b0 := 96) (dc_nn (k := 13) aX11_place_0 rfl)
theorem dX11_place_16 : decode cX11_place 16 = .ok (.ifCond .eq 14, 3) := dc_153 (a0 := 0) (b0 := 14) (dc_nn (k := 16) aX11_place_0 rfl) (by decide)
theorem dX11_place_19 : decode cX11_place 19 = .ok (.iload_n 3, 1) := dc_29 (dc_nn (k := 19) aX11_place_0 rfl)
theorem dX11_place_20 : decode cX11_place 20 = .ok (.invokestatic 164, 3) := dc_184 (a0 := 0) (b0 := 164) (dc_nn (k := 20) aX11_place_0 rfl)
theorem dX11_place_23 : decode cX11_place 23 = .ok (.ifCond .eq 7, 3) := dc_153 (a0 := 0) (b0 := 7) (dc_nn (k := 23) aX11_place_0 rfl) (by decide)
theorem dX11_place_26 : decode cX11_place 26 = .ok (.iconst 1, 1) := dc_4 (dc_nn (k := 26) aX11_place_0 rfl)
theorem dX11_place_27 : decode cX11_place 27 = .ok (.goto 4, 3) := dc_167 (a0 := 0) (b0 := 4) (dc_nn (k := 27) aX11_place_0 rfl) (by decide)
theorem dX11_place_30 : decode cX11_place 30 = .ok (.iconst 0, 1) := dc_3 (dc_nn (k := 30) aX11_place_0 rfl)
theorem dX11_place_31 : decode cX11_place 31 = .ok (.invokestatic 168, 3) := dc_184 (a0 := 0) (b0 := 168) (dc_nn (k := 31) aX11_place_0 rfl)
theorem dX11_place_34 : decode cX11_place 34 = .ok (.aload_n 0, 1) := dc_42 (dc_nn (k := 34) aX11_place_0 rfl)
theorem dX11_place_35 : decode cX11_place 35 = .ok (.getfield 19, 3) := dc_180 (a0 := 0) (b0 := 19) (dc_nn (k := 35) aX11_place_0 rfl)
theorem dX11_place_38 : decode cX11_place 38 = .ok (.iload_n 1, 1) := dc_27 (dc_nn (k := 38) aX11_place_0 rfl)
theorem dX11_place_39 : decode cX11_place 39 = .ok (.iload_n 2, 1) := dc_28 (dc_nn (k := 39) aX11_place_0 rfl)
theorem dX11_place_40 : decode cX11_place 40 = .ok (.iload_n 3, 1) := dc_29 aX11_place_40
theorem dX11_place_41 : decode cX11_place 41 = .ok (.invokevirtual 171, 3) := dc_182 (a0 := 0) (b0 := 171) (dc_nn (k := 1) aX11_place_40 rfl)
theorem dX11_place_44 : decode cX11_place 44 = .ok (.ireturn, 1) := dc_172 (dc_nn (k := 4) aX11_place_40 rfl)
set_option maxRecDepth 20000 in
theorem ggX11_entry_X11_numberOf : GoodIn wsX11_entry wsX11_numberOf := goodIn_ca (goodIn_k _ [[5, 0, 0], [4, 3, 0, 0, 0, 0, 0, 0, 0, 0]] (by rfl) (by decide +kernel)) (goodIn_sub (fun _ h => List.mem_cons_of_mem _ (List.mem_append_right _ h)) (by decide +kernel))
set_option maxRecDepth 20000 in
theorem gX11_entry_X11_numberOf : GoodIn wsX11_entry (va_wsS RX11 118 yX11_numberOf wsX11_numberOf) := goodIn_app (goodIn_k _ [[2, 0, 0]] (by rfl) (gw_S _ _ _ _)) ggX11_entry_X11_numberOf
set_option maxRecDepth 20000 in
theorem ggX11_entry_X11_within : GoodIn wsX11_entry wsX11_within := goodIn_k _ [[11]] (by rfl) (by decide +kernel)
set_option maxRecDepth 20000 in
theorem gX11_entry_X11_within : GoodIn wsX11_entry (va_wsS RX11 96 yX11_within wsX11_within) := goodIn_app (goodIn_k _ [[9, 0], [4]] (by rfl) (gw_S _ _ _ _)) ggX11_entry_X11_within
set_option maxRecDepth 20000 in
theorem ggX11_entry_X11_need : GoodIn wsX11_entry wsX11_need := goodIn_ca (goodIn_k _ [[14, 0, 0]] (by rfl) (by decide +kernel)) (goodIn_sub (fun _ h => List.mem_cons_of_mem _ (List.mem_append_right _ h)) (by decide +kernel))
set_option maxRecDepth 20000 in
theorem gX11_entry_X11_need : GoodIn wsX11_entry (va_wsS RX11 168 yX11_need wsX11_need) := goodIn_app (goodIn_k _ [[12, 0], [4]] (by rfl) (gw_S _ _ _ _)) ggX11_entry_X11_need
set_option maxRecDepth 20000 in
theorem ggX11_entry_X1_degreeOf : GoodIn wsX11_entry wsX1_degreeOf := goodIn_k _ [[21, 0, 13, 0]] (by rfl) (by decide +kernel)
set_option maxRecDepth 20000 in
theorem gX11_entry_X1_degreeOf : GoodIn wsX11_entry (wsV RX11 175 RX1 yX1_degreeOf wsX1_degreeOf) := goodIn_app (goodIn_k _ [[17, 0, 0, 0]] (by rfl) (gw_V _ _ _ _)) ggX11_entry_X1_degreeOf
noncomputable def sX11_entry_0 : List Nat := 27 :: 28 :: 184 :: 0 :: 118 :: 54 :: 4 :: 29 :: 3 :: 16 :: 21 :: 184 :: 0 :: 96 :: 184 :: 0 :: 168 :: 42 :: 180 :: 0 :: 29 :: 21 :: 4 :: 29 :: 182 :: 0 :: 175 :: 172 :: []
theorem aX11_entry_0 : dc_at cX11_entry 0 sX11_entry_0 := dc_base (by decide +kernel)
theorem dX11_entry_0 : decode cX11_entry 0 = .ok (.iload_n 1, 1) := dc_27 aX11_entry_0
theorem dX11_entry_1 : decode cX11_entry 1 = .ok (.iload_n 2, 1) := dc_28 (dc_nn (k := 1) aX11_entry_0 rfl)
theorem dX11_entry_2 : decode cX11_entry 2 = .ok (.invokestatic 118, 3) := dc_184 (a0 := 0) (b0 := 118) (dc_nn (k := 2) aX11_entry_0 rfl)
theorem dX11_entry_5 : decode cX11_entry 5 = .ok (.istore 4, 2) := dc_54 (a0 := 4) (dc_nn (k := 5) aX11_entry_0 rfl)
theorem dX11_entry_7 : decode cX11_entry 7 = .ok (.iload_n 3, 1) := dc_29 (dc_nn (k := 7) aX11_entry_0 rfl)
theorem dX11_entry_8 : decode cX11_entry 8 = .ok (.iconst 0, 1) := dc_3 (dc_nn (k := 8) aX11_entry_0 rfl)
theorem dX11_entry_9 : decode cX11_entry 9 = .ok (.bipush 21, 2) := dc_16 (a0 := 21) (dc_nn (k := 9) aX11_entry_0 rfl) (by decide)
theorem dX11_entry_11 : decode cX11_entry 11 = .ok (.invokestatic 96, 3) := dc_184 (a0 := 0) (b0 := 96) (dc_nn (k := 11) aX11_entry_0 rfl)
theorem dX11_entry_14 : decode cX11_entry 14 = .ok (.invokestatic 168, 3) := dc_184 (a0 := 0) (b0 := 168) (dc_nn (k := 14) aX11_entry_0 rfl)
theorem dX11_entry_17 : decode cX11_entry 17 = .ok (.aload_n 0, 1) := dc_42 (dc_nn (k := 17) aX11_entry_0 rfl)
theorem dX11_entry_18 : decode cX11_entry 18 = .ok (.getfield 29, 3) := dc_180 (a0 := 0) (b0 := 29) (dc_nn (k := 18) aX11_entry_0 rfl)
theorem dX11_entry_21 : decode cX11_entry 21 = .ok (.iload 4, 2) := dc_21 (a0 := 4) (dc_nn (k := 21) aX11_entry_0 rfl)
theorem dX11_entry_23 : decode cX11_entry 23 = .ok (.iload_n 3, 1) := dc_29 (dc_nn (k := 23) aX11_entry_0 rfl)
theorem dX11_entry_24 : decode cX11_entry 24 = .ok (.invokevirtual 175, 3) := dc_182 (a0 := 0) (b0 := 175) (dc_nn (k := 24) aX11_entry_0 rfl)
theorem dX11_entry_27 : decode cX11_entry 27 = .ok (.ireturn, 1) := dc_172 (dc_nn (k := 27) aX11_entry_0 rfl)
set_option maxRecDepth 20000 in
theorem ggX11_cost_X11_numberOf : GoodIn wsX11_cost wsX11_numberOf := goodIn_ca (goodIn_k _ [[6, 0, 0], [5, 3, 0, 0, 0, 0, 0, 0, 0, 0]] (by rfl) (by decide +kernel)) (goodIn_sub (fun _ h => List.mem_cons_of_mem _ (List.mem_append_right _ h)) (by decide +kernel))
set_option maxRecDepth 20000 in
theorem gX11_cost_X11_numberOf : GoodIn wsX11_cost (va_wsS RX11 118 yX11_numberOf wsX11_numberOf) := goodIn_app (goodIn_k _ [[3, 0, 0]] (by rfl) (gw_S _ _ _ _)) ggX11_cost_X11_numberOf
set_option maxRecDepth 20000 in
theorem ggX11_cost_X11_within : GoodIn wsX11_cost wsX11_within := goodIn_k _ [[12]] (by rfl) (by decide +kernel)
set_option maxRecDepth 20000 in
theorem gX11_cost_X11_within : GoodIn wsX11_cost (va_wsS RX11 96 yX11_within wsX11_within) := goodIn_app (goodIn_k _ [[10, 0], [5]] (by rfl) (gw_S _ _ _ _)) ggX11_cost_X11_within
set_option maxRecDepth 20000 in
theorem ggX11_cost_X11_isDay : GoodIn wsX11_cost wsX11_isDay := goodIn_k _ [[20, 0], [10, 0], [5, 6]] (by rfl) (by decide +kernel)
set_option maxRecDepth 20000 in
theorem gX11_cost_X11_isDay : GoodIn wsX11_cost (va_wsS RX11 164 yX11_isDay wsX11_isDay) := goodIn_app (goodIn_k _ [[18, 0], [5]] (by rfl) (gw_S _ _ _ _)) ggX11_cost_X11_isDay
set_option maxRecDepth 20000 in
theorem ggX11_cost_X11_need : GoodIn wsX11_cost wsX11_need := goodIn_ca (goodIn_k _ [[15, 0, 0]] (by rfl) (by decide +kernel)) (goodIn_sub (fun _ h => List.mem_cons_of_mem _ (List.mem_append_right _ h)) (by decide +kernel))
set_option maxRecDepth 20000 in
theorem gX11_cost_X11_need : GoodIn wsX11_cost (va_wsS RX11 168 yX11_need wsX11_need) := goodIn_app (goodIn_k _ [[13, 0], [5]] (by rfl) (gw_S _ _ _ _)) ggX11_cost_X11_need
set_option maxRecDepth 20000 in
theorem ggX11_cost_X3_costOn : GoodIn wsX11_cost wsX3_costOn := goodIn_k _ [[25, 0, 0, 0, 0, 0, 0, 0, 0, 0, 0, 0, 0, 0, 0, 0, 0, 0, 0, 0, 0, 0, 0, 0, 0, 0, 0, 0, 0, 0, 0, 0, 0, 0, 0, 0, 0, 0, 0, 0, 0, 0, 0, 0, 0, 0, 0, 0, 0, 0, 0, 0, 0, 13, 0, 0, 0, 0, 0, 0, 0, 0, 0]] (by rfl) (by decide +kernel)
set_option maxRecDepth 20000 in
theorem gX11_cost_X3_costOn : GoodIn wsX11_cost (va_wsS RX11 178 yX3_costOn wsX3_costOn) := goodIn_app (goodIn_k _ [[22, 0, 0]] (by rfl) (gw_S _ _ _ _)) ggX11_cost_X3_costOn
noncomputable def sX11_cost_40 : List Nat := 21 :: 5 :: 29 :: 21 :: 4 :: 17 :: 3 :: 232 :: 184 :: 0 :: 178 :: 172 :: []
noncomputable def sX11_cost_0 : List Nat := 27 :: 28 :: 184 :: 0 :: 118 :: 54 :: 5 :: 29 :: 3 :: 6 :: 184 :: 0 :: 96 :: 153 :: 0 :: 15 :: 21 :: 4 :: 184 :: 0 :: 164 :: 153 :: 0 :: 7 :: 4 :: 167 :: 0 :: 4 :: 3 :: 184 :: 0 :: 168 :: 42 :: 180 :: 0 :: 19 :: 42 :: 180 :: 0 :: 29 :: sX11_cost_40
theorem aX11_cost_0 : dc_at cX11_cost 0 sX11_cost_0 := dc_base (by decide +kernel)
theorem aX11_cost_40 : dc_at cX11_cost 40 sX11_cost_40 := dc_nn (k := 40) aX11_cost_0 rfl
theorem dX11_cost_0 : decode cX11_cost 0 = .ok (.iload_n 1, 1) := dc_27 aX11_cost_0
theorem dX11_cost_1 : decode cX11_cost 1 = .ok (.iload_n 2, 1) := dc_28 (dc_nn (k := 1) aX11_cost_0 rfl)
theorem dX11_cost_2 : decode cX11_cost 2 = .ok (.invokestatic 118, 3) := dc_184 (a0 := 0) (b0 := 118) (dc_nn (k := 2) aX11_cost_0 rfl)
theorem dX11_cost_5 : decode cX11_cost 5 = .ok (.istore 5, 2) := dc_54 (a0 := 5) (dc_nn (k := 5) aX11_cost_0 rfl)
theorem dX11_cost_7 : decode cX11_cost 7 = .ok (.iload_n 3, 1) := dc_29 (dc_nn (k := 7) aX11_cost_0 rfl)
theorem dX11_cost_8 : decode cX11_cost 8 = .ok (.iconst 0, 1) := dc_3 (dc_nn (k := 8) aX11_cost_0 rfl)
theorem dX11_cost_9 : decode cX11_cost 9 = .ok (.iconst 3, 1) := dc_6 (dc_nn (k := 9) aX11_cost_0 rfl)
theorem dX11_cost_10 : decode cX11_cost 10 = .ok (.invokestatic 96, 3) := dc_184 (a0 := 0) (b0 := 96) (dc_nn (k := 10) aX11_cost_0 rfl)
theorem dX11_cost_13 : decode cX11_cost 13 = .ok (.ifCond .eq 15, 3) := dc_153 (a0 := 0) (b0 := 15) (dc_nn (k := 13) aX11_cost_0 rfl) (by decide)
theorem dX11_cost_16 : decode cX11_cost 16 = .ok (.iload 4, 2) := dc_21 (a0 := 4) (dc_nn (k := 16) aX11_cost_0 rfl)
theorem dX11_cost_18 : decode cX11_cost 18 = .ok (.invokestatic 164, 3) := dc_184 (a0 := 0) (b0 := 164) (dc_nn (k := 18) aX11_cost_0 rfl)
theorem dX11_cost_21 : decode cX11_cost 21 = .ok (.ifCond .eq 7, 3) := dc_153 (a0 := 0) (b0 := 7) (dc_nn (k := 21) aX11_cost_0 rfl) (by decide)
theorem dX11_cost_24 : decode cX11_cost 24 = .ok (.iconst 1, 1) := dc_4 (dc_nn (k := 24) aX11_cost_0 rfl)
theorem dX11_cost_25 : decode cX11_cost 25 = .ok (.goto 4, 3) := dc_167 (a0 := 0) (b0 := 4) (dc_nn (k := 25) aX11_cost_0 rfl) (by decide)
theorem dX11_cost_28 : decode cX11_cost 28 = .ok (.iconst 0, 1) := dc_3 (dc_nn (k := 28) aX11_cost_0 rfl)
theorem dX11_cost_29 : decode cX11_cost 29 = .ok (.invokestatic 168, 3) := dc_184 (a0 := 0) (b0 := 168) (dc_nn (k := 29) aX11_cost_0 rfl)
theorem dX11_cost_32 : decode cX11_cost 32 = .ok (.aload_n 0, 1) := dc_42 (dc_nn (k := 32) aX11_cost_0 rfl)
theorem dX11_cost_33 : decode cX11_cost 33 = .ok (.getfield 19, 3) := dc_180 (a0 := 0) (b0 := 19) (dc_nn (k := 33) aX11_cost_0 rfl)
theorem dX11_cost_36 : decode cX11_cost 36 = .ok (.aload_n 0, 1) := dc_42 (dc_nn (k := 36) aX11_cost_0 rfl)
theorem dX11_cost_37 : decode cX11_cost 37 = .ok (.getfield 29, 3) := dc_180 (a0 := 0) (b0 := 29) (dc_nn (k := 37) aX11_cost_0 rfl)
theorem dX11_cost_40 : decode cX11_cost 40 = .ok (.iload 5, 2) := dc_21 (a0 := 5) aX11_cost_40
theorem dX11_cost_42 : decode cX11_cost 42 = .ok (.iload_n 3, 1) := dc_29 (dc_nn (k := 2) aX11_cost_40 rfl)
theorem dX11_cost_43 : decode cX11_cost 43 = .ok (.iload 4, 2) := dc_21 (a0 := 4) (dc_nn (k := 3) aX11_cost_40 rfl)
theorem dX11_cost_45 : decode cX11_cost 45 = .ok (.sipush 1000, 3) := dc_17 (a0 := 3) (b0 := 232) (dc_nn (k := 5) aX11_cost_40 rfl) (by decide)
theorem dX11_cost_48 : decode cX11_cost 48 = .ok (.invokestatic 178, 3) := dc_184 (a0 := 0) (b0 := 178) (dc_nn (k := 8) aX11_cost_40 rfl)
theorem dX11_cost_51 : decode cX11_cost 51 = .ok (.ireturn, 1) := dc_172 (dc_nn (k := 11) aX11_cost_40 rfl)
set_option maxRecDepth 20000 in
theorem ggX11_best_X11_numberOf : GoodIn wsX11_best wsX11_numberOf := goodIn_ca (goodIn_k _ [[8, 0, 0], [7, 3, 0, 0, 0, 0, 0, 0, 0, 0]] (by rfl) (by decide +kernel)) (goodIn_sub (fun _ h => List.mem_cons_of_mem _ (List.mem_append_left _ (List.mem_append_right _ h))) (by decide +kernel))
set_option maxRecDepth 20000 in
theorem gX11_best_X11_numberOf : GoodIn wsX11_best (va_wsS RX11 118 yX11_numberOf wsX11_numberOf) := goodIn_app (goodIn_k _ [[5, 0, 0]] (by rfl) (gw_S _ _ _ _)) ggX11_best_X11_numberOf
set_option maxRecDepth 20000 in
theorem ggX11_best_X11_within : GoodIn wsX11_best wsX11_within := goodIn_k _ [[14]] (by rfl) (by decide +kernel)
set_option maxRecDepth 20000 in
theorem gX11_best_X11_within : GoodIn wsX11_best (va_wsS RX11 96 yX11_within wsX11_within) := goodIn_app (goodIn_k _ [[12, 0], [7]] (by rfl) (gw_S _ _ _ _)) ggX11_best_X11_within
set_option maxRecDepth 20000 in
theorem ggX11_best_X11_isDay : GoodIn wsX11_best wsX11_isDay := goodIn_k _ [[22, 0], [12, 0], [7, 6]] (by rfl) (by decide +kernel)
set_option maxRecDepth 20000 in
theorem gX11_best_X11_isDay : GoodIn wsX11_best (va_wsS RX11 164 yX11_isDay wsX11_isDay) := goodIn_app (goodIn_k _ [[20, 0], [7]] (by rfl) (gw_S _ _ _ _)) ggX11_best_X11_isDay
set_option maxRecDepth 20000 in
theorem ggX11_best_X11_need : GoodIn wsX11_best wsX11_need := goodIn_ca (goodIn_k _ [[17, 0, 0]] (by rfl) (by decide +kernel)) (goodIn_sub (fun _ h => List.mem_cons_of_mem _ (List.mem_append_left _ (List.mem_append_right _ h))) (by decide +kernel))
set_option maxRecDepth 20000 in
theorem gX11_best_X11_need : GoodIn wsX11_best (va_wsS RX11 168 yX11_need wsX11_need) := goodIn_app (goodIn_k _ [[15, 0], [7]] (by rfl) (gw_S _ _ _ _)) ggX11_best_X11_need
set_option maxRecDepth 20000 in
theorem ggX11_best_X11_isSpan : GoodIn wsX11_best wsX11_isSpan := goodIn_k _ [[26, 0], [23], [12, 0], [7, 6]] (by rfl) (by decide +kernel)
set_option maxRecDepth 20000 in
theorem gX11_best_X11_isSpan : GoodIn wsX11_best (va_wsS RX11 182 yX11_isSpan wsX11_isSpan) := goodIn_app (goodIn_k _ [[24, 0], [7]] (by rfl) (gw_S _ _ _ _)) ggX11_best_X11_isSpan
set_option maxRecDepth 20000 in
theorem ggX11_best_X11_allow : GoodIn wsX11_best wsX11_allow := goodIn_ca (goodIn_k _ [[30, 0, 0]] (by rfl) (by decide +kernel)) (goodIn_sub (fun _ h => List.mem_cons_of_mem _ (List.mem_append_right _ h)) (by decide +kernel))
set_option maxRecDepth 20000 in
theorem gX11_best_X11_allow : GoodIn wsX11_best (va_wsS RX11 100 yX11_allow wsX11_allow) := goodIn_app (goodIn_k _ [[28, 0], [7]] (by rfl) (gw_S _ _ _ _)) ggX11_best_X11_allow
set_option maxRecDepth 20000 in
theorem ggX11_best_X8_begin : GoodIn wsX11_best wsX8_begin := goodIn_k _ [[37, 0, 0, 0, 0, 0, 0, 0, 79, 0, 0, 0, 0, 0, 0, 0]] (by rfl) (by decide +kernel)
set_option maxRecDepth 20000 in
theorem gX11_best_X8_begin : GoodIn wsX11_best (wsV RX11 186 RX8 yX8_begin wsX8_begin) := goodIn_app (goodIn_k _ [[33, 0, 0, 0]] (by rfl) (gw_V _ _ _ _)) ggX11_best_X8_begin
set_option maxRecDepth 20000 in
theorem ggX11_best_X8_goOn : GoodIn wsX11_best wsX8_goOn := goodIn_k _ [[48], [41, 7], [39, 0, 1, 7, 0, 0, 0, 0, 0, 0, 0, 0, 0, 0, 0, 0, 0, 0, 0, 0, 0, 0, 0, 0, 0, 0, 0, 0, 0, 0, 0, 0, 0, 0, 0, 0, 0, 0, 0, 0, 0, 0, 0, 0, 0, 0, 0, 0, 0, 0, 0, 0, 0, 0, 0, 0, 0, 0, 0, 0, 0, 0], [36, 72], [43, 66], [44, 79, 0, 0, 0, 0, 0, 0, 0, 0, 0, 0, 0, 0, 0, 0, 0, 0, 0]] (by rfl) (by decide +kernel)
set_option maxRecDepth 20000 in
theorem gX11_best_X8_goOn : GoodIn wsX11_best (wsV RX11 189 RX8 yX8_goOn wsX8_goOn) := goodIn_app (goodIn_k _ [[45, 0, 0], [36]] (by rfl) (gw_V _ _ _ _)) ggX11_best_X8_goOn
noncomputable def sX11_best_42 : List Nat := 42 :: 180 :: 0 :: 43 :: 21 :: 6 :: 29 :: 21 :: 4 :: 182 :: 0 :: 186 :: 42 :: 180 :: 0 :: 43 :: 42 :: 180 :: 0 :: 19 :: 42 :: 180 :: 0 :: 29 :: 21 :: 5 :: 4 :: 96 :: 182 :: 0 :: 189 :: 87 :: 42 :: 180 :: 0 :: 43 :: 180 :: 0 :: 193 :: 172 :: []
noncomputable def sX11_best_0 : List Nat := 27 :: 28 :: 184 :: 0 :: 118 :: 54 :: 6 :: 29 :: 3 :: 6 :: 184 :: 0 :: 96 :: 153 :: 0 :: 15 :: 21 :: 4 :: 184 :: 0 :: 164 :: 153 :: 0 :: 7 :: 4 :: 167 :: 0 :: 4 :: 3 :: 184 :: 0 :: 168 :: 21 :: 4 :: 21 :: 5 :: 184 :: 0 :: 182 :: 184 :: 0 :: 100 :: sX11_best_42
theorem aX11_best_0 : dc_at cX11_best 0 sX11_best_0 := dc_base (by decide +kernel)
theorem aX11_best_42 : dc_at cX11_best 42 sX11_best_42 := dc_nn (k := 42) aX11_best_0 rfl
theorem dX11_best_0 : decode cX11_best 0 = .ok (.iload_n 1, 1) := dc_27 aX11_best_0
theorem dX11_best_1 : decode cX11_best 1 = .ok (.iload_n 2, 1) := dc_28 (dc_nn (k := 1) aX11_best_0 rfl)
theorem dX11_best_2 : decode cX11_best 2 = .ok (.invokestatic 118, 3) := dc_184 (a0 := 0) (b0 := 118) (dc_nn (k := 2) aX11_best_0 rfl)
theorem dX11_best_5 : decode cX11_best 5 = .ok (.istore 6, 2) := dc_54 (a0 := 6) (dc_nn (k := 5) aX11_best_0 rfl)
theorem dX11_best_7 : decode cX11_best 7 = .ok (.iload_n 3, 1) := dc_29 (dc_nn (k := 7) aX11_best_0 rfl)
theorem dX11_best_8 : decode cX11_best 8 = .ok (.iconst 0, 1) := dc_3 (dc_nn (k := 8) aX11_best_0 rfl)
theorem dX11_best_9 : decode cX11_best 9 = .ok (.iconst 3, 1) := dc_6 (dc_nn (k := 9) aX11_best_0 rfl)
theorem dX11_best_10 : decode cX11_best 10 = .ok (.invokestatic 96, 3) := dc_184 (a0 := 0) (b0 := 96) (dc_nn (k := 10) aX11_best_0 rfl)
theorem dX11_best_13 : decode cX11_best 13 = .ok (.ifCond .eq 15, 3) := dc_153 (a0 := 0) (b0 := 15) (dc_nn (k := 13) aX11_best_0 rfl) (by decide)
theorem dX11_best_16 : decode cX11_best 16 = .ok (.iload 4, 2) := dc_21 (a0 := 4) (dc_nn (k := 16) aX11_best_0 rfl)
theorem dX11_best_18 : decode cX11_best 18 = .ok (.invokestatic 164, 3) := dc_184 (a0 := 0) (b0 := 164) (dc_nn (k := 18) aX11_best_0 rfl)
theorem dX11_best_21 : decode cX11_best 21 = .ok (.ifCond .eq 7, 3) := dc_153 (a0 := 0) (b0 := 7) (dc_nn (k := 21) aX11_best_0 rfl) (by decide)
theorem dX11_best_24 : decode cX11_best 24 = .ok (.iconst 1, 1) := dc_4 (dc_nn (k := 24) aX11_best_0 rfl)
theorem dX11_best_25 : decode cX11_best 25 = .ok (.goto 4, 3) := dc_167 (a0 := 0) (b0 := 4) (dc_nn (k := 25) aX11_best_0 rfl) (by decide)
theorem dX11_best_28 : decode cX11_best 28 = .ok (.iconst 0, 1) := dc_3 (dc_nn (k := 28) aX11_best_0 rfl)
theorem dX11_best_29 : decode cX11_best 29 = .ok (.invokestatic 168, 3) := dc_184 (a0 := 0) (b0 := 168) (dc_nn (k := 29) aX11_best_0 rfl)
theorem dX11_best_32 : decode cX11_best 32 = .ok (.iload 4, 2) := dc_21 (a0 := 4) (dc_nn (k := 32) aX11_best_0 rfl)
theorem dX11_best_34 : decode cX11_best 34 = .ok (.iload 5, 2) := dc_21 (a0 := 5) (dc_nn (k := 34) aX11_best_0 rfl)
theorem dX11_best_36 : decode cX11_best 36 = .ok (.invokestatic 182, 3) := dc_184 (a0 := 0) (b0 := 182) (dc_nn (k := 36) aX11_best_0 rfl)
theorem dX11_best_39 : decode cX11_best 39 = .ok (.invokestatic 100, 3) := dc_184 (a0 := 0) (b0 := 100) (dc_nn (k := 39) aX11_best_0 rfl)
theorem dX11_best_42 : decode cX11_best 42 = .ok (.aload_n 0, 1) := dc_42 aX11_best_42
theorem dX11_best_43 : decode cX11_best 43 = .ok (.getfield 43, 3) := dc_180 (a0 := 0) (b0 := 43) (dc_nn (k := 1) aX11_best_42 rfl)
theorem dX11_best_46 : decode cX11_best 46 = .ok (.iload 6, 2) := dc_21 (a0 := 6) (dc_nn (k := 4) aX11_best_42 rfl)
theorem dX11_best_48 : decode cX11_best 48 = .ok (.iload_n 3, 1) := dc_29 (dc_nn (k := 6) aX11_best_42 rfl)
theorem dX11_best_49 : decode cX11_best 49 = .ok (.iload 4, 2) := dc_21 (a0 := 4) (dc_nn (k := 7) aX11_best_42 rfl)
theorem dX11_best_51 : decode cX11_best 51 = .ok (.invokevirtual 186, 3) := dc_182 (a0 := 0) (b0 := 186) (dc_nn (k := 9) aX11_best_42 rfl)
theorem dX11_best_54 : decode cX11_best 54 = .ok (.aload_n 0, 1) := dc_42 (dc_nn (k := 12) aX11_best_42 rfl)
theorem dX11_best_55 : decode cX11_best 55 = .ok (.getfield 43, 3) := dc_180 (a0 := 0) (b0 := 43) (dc_nn (k := 13) aX11_best_42 rfl)
theorem dX11_best_58 : decode cX11_best 58 = .ok (.aload_n 0, 1) := dc_42 (dc_nn (k := 16) aX11_best_42 rfl)
theorem dX11_best_59 : decode cX11_best 59 = .ok (.getfield 19, 3) := dc_180 (a0 := 0) (b0 := 19) (dc_nn (k := 17) aX11_best_42 rfl)
theorem dX11_best_62 : decode cX11_best 62 = .ok (.aload_n 0, 1) := dc_42 (dc_nn (k := 20) aX11_best_42 rfl)
theorem dX11_best_63 : decode cX11_best 63 = .ok (.getfield 29, 3) := dc_180 (a0 := 0) (b0 := 29) (dc_nn (k := 21) aX11_best_42 rfl)
theorem dX11_best_66 : decode cX11_best 66 = .ok (.iload 5, 2) := dc_21 (a0 := 5) (dc_nn (k := 24) aX11_best_42 rfl)
theorem dX11_best_68 : decode cX11_best 68 = .ok (.iconst 1, 1) := dc_4 (dc_nn (k := 26) aX11_best_42 rfl)
theorem dX11_best_69 : decode cX11_best 69 = .ok (.iadd, 1) := dc_96 (dc_nn (k := 27) aX11_best_42 rfl)
theorem dX11_best_70 : decode cX11_best 70 = .ok (.invokevirtual 189, 3) := dc_182 (a0 := 0) (b0 := 189) (dc_nn (k := 28) aX11_best_42 rfl)
theorem dX11_best_73 : decode cX11_best 73 = .ok (.pop, 1) := dc_87 (dc_nn (k := 31) aX11_best_42 rfl)
theorem dX11_best_74 : decode cX11_best 74 = .ok (.aload_n 0, 1) := dc_42 (dc_nn (k := 32) aX11_best_42 rfl)
theorem dX11_best_75 : decode cX11_best 75 = .ok (.getfield 43, 3) := dc_180 (a0 := 0) (b0 := 43) (dc_nn (k := 33) aX11_best_42 rfl)
theorem dX11_best_78 : decode cX11_best 78 = .ok (.getfield 193, 3) := dc_180 (a0 := 0) (b0 := 193) (dc_nn (k := 36) aX11_best_42 rfl)
theorem dX11_best_81 : decode cX11_best 81 = .ok (.ireturn, 1) := dc_172 (dc_nn (k := 39) aX11_best_42 rfl)
set_option maxRecDepth 20000 in
theorem ggX11_day_X11_need : GoodIn wsX11_day wsX11_need := goodIn_ca (goodIn_k _ [[7, 0, 0]] (by rfl) (by decide +kernel)) (goodIn_sub (fun _ h => List.mem_cons_of_mem _ (List.mem_append_right _ h)) (by decide +kernel))
set_option maxRecDepth 20000 in
theorem gX11_day_X11_need : GoodIn wsX11_day (va_wsS RX11 168 yX11_need wsX11_need) := goodIn_app (goodIn_k _ [[4, 0, 0]] (by rfl) (gw_S _ _ _ _)) ggX11_day_X11_need
set_option maxRecDepth 20000 in
theorem ggX11_day_X8_howManyKept : GoodIn wsX11_day wsX8_howManyKept := goodIn_k _ [[14, 0, 0, 0, 0, 0, 21, 0, 0, 0, 0, 0, 0, 0]] (by rfl) (by decide +kernel)
set_option maxRecDepth 20000 in
theorem gX11_day_X8_howManyKept : GoodIn wsX11_day (wsV RX11 201 RX8 yX8_howManyKept wsX8_howManyKept) := goodIn_app (goodIn_k _ [[10, 0, 0, 0]] (by rfl) (gw_V _ _ _ _)) ggX11_day_X8_howManyKept
set_option maxRecDepth 20000 in
theorem ggX11_day_X11_within : GoodIn wsX11_day wsX11_within := goodIn_k _ [[22]] (by rfl) (by decide +kernel)
set_option maxRecDepth 20000 in
theorem gX11_day_X11_within : GoodIn wsX11_day (va_wsS RX11 96 yX11_within wsX11_within) := goodIn_app (goodIn_k _ [[20, 0], [6]] (by rfl) (gw_S _ _ _ _)) ggX11_day_X11_within
set_option maxRecDepth 20000 in
theorem ggX11_day_X8_keptDay : GoodIn wsX11_day wsX8_keptDay := goodIn_k _ [[26, 0, 13, 0, 0, 0, 0, 0, 0, 0]] (by rfl) (by decide +kernel)
set_option maxRecDepth 20000 in
theorem gX11_day_X8_keptDay : GoodIn wsX11_day (wsV RX11 204 RX8 yX8_keptDay wsX8_keptDay) := goodIn_app (goodIn_k _ [[23, 0, 0], [13]] (by rfl) (gw_V _ _ _ _)) ggX11_day_X8_keptDay
noncomputable def sX11_day_40 : List Nat := 42 :: 180 :: 0 :: 43 :: 27 :: 182 :: 0 :: 204 :: 172 :: []
noncomputable def sX11_day_0 : List Nat := 42 :: 180 :: 0 :: 43 :: 180 :: 0 :: 196 :: 184 :: 0 :: 168 :: 27 :: 2 :: 160 :: 0 :: 11 :: 42 :: 180 :: 0 :: 43 :: 180 :: 0 :: 200 :: 172 :: 27 :: 3 :: 42 :: 180 :: 0 :: 43 :: 182 :: 0 :: 201 :: 4 :: 100 :: 184 :: 0 :: 96 :: 184 :: 0 :: 168 :: sX11_day_40
theorem aX11_day_0 : dc_at cX11_day 0 sX11_day_0 := dc_base (by decide +kernel)
theorem aX11_day_40 : dc_at cX11_day 40 sX11_day_40 := dc_nn (k := 40) aX11_day_0 rfl
theorem dX11_day_0 : decode cX11_day 0 = .ok (.aload_n 0, 1) := dc_42 aX11_day_0
theorem dX11_day_1 : decode cX11_day 1 = .ok (.getfield 43, 3) := dc_180 (a0 := 0) (b0 := 43) (dc_nn (k := 1) aX11_day_0 rfl)
theorem dX11_day_4 : decode cX11_day 4 = .ok (.getfield 196, 3) := dc_180 (a0 := 0) (b0 := 196) (dc_nn (k := 4) aX11_day_0 rfl)
theorem dX11_day_7 : decode cX11_day 7 = .ok (.invokestatic 168, 3) := dc_184 (a0 := 0) (b0 := 168) (dc_nn (k := 7) aX11_day_0 rfl)
theorem dX11_day_10 : decode cX11_day 10 = .ok (.iload_n 1, 1) := dc_27 (dc_nn (k := 10) aX11_day_0 rfl)
theorem dX11_day_11 : decode cX11_day 11 = .ok (.iconst (-1), 1) := dc_2 (dc_nn (k := 11) aX11_day_0 rfl)
theorem dX11_day_12 : decode cX11_day 12 = .ok (.if_icmp .ne 11, 3) := dc_160 (a0 := 0) (b0 := 11) (dc_nn (k := 12) aX11_day_0 rfl) (by decide)
theorem dX11_day_15 : decode cX11_day 15 = .ok (.aload_n 0, 1) := dc_42 (dc_nn (k := 15) aX11_day_0 rfl)
theorem dX11_day_16 : decode cX11_day 16 = .ok (.getfield 43, 3) := dc_180 (a0 := 0) (b0 := 43) (dc_nn (k := 16) aX11_day_0 rfl)
theorem dX11_day_19 : decode cX11_day 19 = .ok (.getfield 200, 3) := dc_180 (a0 := 0) (b0 := 200) (dc_nn (k := 19) aX11_day_0 rfl)
theorem dX11_day_22 : decode cX11_day 22 = .ok (.ireturn, 1) := dc_172 (dc_nn (k := 22) aX11_day_0 rfl)
theorem dX11_day_23 : decode cX11_day 23 = .ok (.iload_n 1, 1) := dc_27 (dc_nn (k := 23) aX11_day_0 rfl)
theorem dX11_day_24 : decode cX11_day 24 = .ok (.iconst 0, 1) := dc_3 (dc_nn (k := 24) aX11_day_0 rfl)
theorem dX11_day_25 : decode cX11_day 25 = .ok (.aload_n 0, 1) := dc_42 (dc_nn (k := 25) aX11_day_0 rfl)
theorem dX11_day_26 : decode cX11_day 26 = .ok (.getfield 43, 3) := dc_180 (a0 := 0) (b0 := 43) (dc_nn (k := 26) aX11_day_0 rfl)
theorem dX11_day_29 : decode cX11_day 29 = .ok (.invokevirtual 201, 3) := dc_182 (a0 := 0) (b0 := 201) (dc_nn (k := 29) aX11_day_0 rfl)
theorem dX11_day_32 : decode cX11_day 32 = .ok (.iconst 1, 1) := dc_4 (dc_nn (k := 32) aX11_day_0 rfl)
theorem dX11_day_33 : decode cX11_day 33 = .ok (.isub, 1) := dc_100 (dc_nn (k := 33) aX11_day_0 rfl)
theorem dX11_day_34 : decode cX11_day 34 = .ok (.invokestatic 96, 3) := dc_184 (a0 := 0) (b0 := 96) (dc_nn (k := 34) aX11_day_0 rfl)
theorem dX11_day_37 : decode cX11_day 37 = .ok (.invokestatic 168, 3) := dc_184 (a0 := 0) (b0 := 168) (dc_nn (k := 37) aX11_day_0 rfl)
theorem dX11_day_40 : decode cX11_day 40 = .ok (.aload_n 0, 1) := dc_42 aX11_day_40
theorem dX11_day_41 : decode cX11_day 41 = .ok (.getfield 43, 3) := dc_180 (a0 := 0) (b0 := 43) (dc_nn (k := 1) aX11_day_40 rfl)
theorem dX11_day_44 : decode cX11_day 44 = .ok (.iload_n 1, 1) := dc_27 (dc_nn (k := 4) aX11_day_40 rfl)
theorem dX11_day_45 : decode cX11_day 45 = .ok (.invokevirtual 204, 3) := dc_182 (a0 := 0) (b0 := 204) (dc_nn (k := 5) aX11_day_40 rfl)
theorem dX11_day_48 : decode cX11_day 48 = .ok (.ireturn, 1) := dc_172 (dc_nn (k := 8) aX11_day_40 rfl)
set_option maxRecDepth 20000 in
theorem ggX11_whose_X11_numberOf : GoodIn wsX11_whose wsX11_numberOf := goodIn_ca (goodIn_k _ [[8, 0, 0], [7, 3, 0, 0, 0, 0, 0, 0, 0, 0]] (by rfl) (by decide +kernel)) (goodIn_sub (fun _ h => List.mem_cons_of_mem _ (List.mem_append_left _ (List.mem_append_right _ h))) (by decide +kernel))
set_option maxRecDepth 20000 in
theorem gX11_whose_X11_numberOf : GoodIn wsX11_whose (va_wsS RX11 118 yX11_numberOf wsX11_numberOf) := goodIn_app (goodIn_k _ [[5, 0, 0]] (by rfl) (gw_S _ _ _ _)) ggX11_whose_X11_numberOf
set_option maxRecDepth 20000 in
theorem ggX11_whose_X11_isDay : GoodIn wsX11_whose wsX11_isDay := goodIn_k _ [[22, 0], [12, 0], [7, 6]] (by rfl) (by decide +kernel)
set_option maxRecDepth 20000 in
theorem gX11_whose_X11_isDay : GoodIn wsX11_whose (va_wsS RX11 164 yX11_isDay wsX11_isDay) := goodIn_app (goodIn_k _ [[20, 0], [7]] (by rfl) (gw_S _ _ _ _)) ggX11_whose_X11_isDay
set_option maxRecDepth 20000 in
theorem ggX11_whose_X11_within : GoodIn wsX11_whose wsX11_within := goodIn_k _ [[14]] (by rfl) (by decide +kernel)
set_option maxRecDepth 20000 in
theorem gX11_whose_X11_within : GoodIn wsX11_whose (va_wsS RX11 96 yX11_within wsX11_within) := goodIn_app (goodIn_k _ [[12, 0], [7]] (by rfl) (gw_S _ _ _ _)) ggX11_whose_X11_within
set_option maxRecDepth 20000 in
theorem ggX11_whose_X11_need : GoodIn wsX11_whose wsX11_need := goodIn_ca (goodIn_k _ [[17, 0, 0]] (by rfl) (by decide +kernel)) (goodIn_sub (fun _ h => List.mem_cons_of_mem _ (List.mem_append_left _ (List.mem_append_right _ h))) (by decide +kernel))
set_option maxRecDepth 20000 in
theorem gX11_whose_X11_need : GoodIn wsX11_whose (va_wsS RX11 168 yX11_need wsX11_need) := goodIn_app (goodIn_k _ [[15, 0], [7]] (by rfl) (gw_S _ _ _ _)) ggX11_whose_X11_need
set_option maxRecDepth 20000 in
theorem ggX11_whose_X11_isSpan : GoodIn wsX11_whose wsX11_isSpan := goodIn_k _ [[26, 0], [23], [12, 0], [7, 6]] (by rfl) (by decide +kernel)
set_option maxRecDepth 20000 in
theorem gX11_whose_X11_isSpan : GoodIn wsX11_whose (va_wsS RX11 182 yX11_isSpan wsX11_isSpan) := goodIn_app (goodIn_k _ [[24, 0], [7]] (by rfl) (gw_S _ _ _ _)) ggX11_whose_X11_isSpan
set_option maxRecDepth 20000 in
theorem ggX11_whose_X11_allow : GoodIn wsX11_whose wsX11_allow := goodIn_ca (goodIn_k _ [[30, 0, 0]] (by rfl) (by decide +kernel)) (goodIn_sub (fun _ h => List.mem_cons_of_mem _ (List.mem_append_right _ h)) (by decide +kernel))
set_option maxRecDepth 20000 in
theorem gX11_whose_X11_allow : GoodIn wsX11_whose (va_wsS RX11 100 yX11_allow wsX11_allow) := goodIn_app (goodIn_k _ [[28, 0], [7]] (by rfl) (gw_S _ _ _ _)) ggX11_whose_X11_allow
set_option maxRecDepth 20000 in
theorem ggX11_whose_X8_begin : GoodIn wsX11_whose wsX8_begin := goodIn_k _ [[37, 0, 0, 0, 0, 0, 0, 0, 79, 0, 0, 0, 0, 0, 0, 0]] (by rfl) (by decide +kernel)
set_option maxRecDepth 20000 in
theorem gX11_whose_X8_begin : GoodIn wsX11_whose (wsV RX11 186 RX8 yX8_begin wsX8_begin) := goodIn_app (goodIn_k _ [[33, 0, 0, 0]] (by rfl) (gw_V _ _ _ _)) ggX11_whose_X8_begin
set_option maxRecDepth 20000 in
theorem ggX11_whose_X8_goOn : GoodIn wsX11_whose wsX8_goOn := goodIn_k _ [[48], [41, 7], [39, 0, 1, 7, 0, 0, 0, 0, 0, 0, 0, 0, 0, 0, 0, 0, 0, 0, 0, 0, 0, 0, 0, 0, 0, 0, 0, 0, 0, 0, 0, 0, 0, 0, 0, 0, 0, 0, 0, 0, 0, 0, 0, 0, 0, 0, 0, 0, 0, 0, 0, 0, 0, 0, 0, 0, 0, 0, 0, 0, 0, 0], [36, 72], [43, 66], [44, 79, 0, 0, 0, 0, 0, 0, 0, 0, 0, 0, 0, 0, 0, 0, 0, 0, 0]] (by rfl) (by decide +kernel)
set_option maxRecDepth 20000 in
theorem gX11_whose_X8_goOn : GoodIn wsX11_whose (wsV RX11 189 RX8 yX8_goOn wsX8_goOn) := goodIn_app (goodIn_k _ [[45, 0, 0], [36]] (by rfl) (gw_V _ _ _ _)) ggX11_whose_X8_goOn
noncomputable def sX11_whose_163 : List Nat := 21 :: 9 :: 172 :: []
noncomputable def sX11_whose_121 : List Nat := 42 :: 180 :: 0 :: 47 :: 180 :: 0 :: 193 :: 21 :: 7 :: 160 :: 0 :: 6 :: 132 :: 9 :: 1 :: 132 :: 10 :: 1 :: 167 :: 255 :: 172 :: 21 :: 5 :: 154 :: 0 :: 8 :: 21 :: 8 :: 167 :: 0 :: 16 :: 21 :: 5 :: 4 :: 160 :: 0 :: 8 :: 21 :: 7 :: 167 :: 0 :: 5 :: sX11_whose_163
noncomputable def sX11_whose_81 : List Nat := 42 :: 180 :: 0 :: 29 :: 21 :: 4 :: 4 :: 96 :: 182 :: 0 :: 189 :: 87 :: 42 :: 180 :: 0 :: 47 :: 180 :: 0 :: 193 :: 21 :: 7 :: 162 :: 0 :: 19 :: 42 :: 180 :: 0 :: 47 :: 180 :: 0 :: 193 :: 54 :: 7 :: 21 :: 10 :: 54 :: 8 :: 3 :: 54 :: 9 :: sX11_whose_121
noncomputable def sX11_whose_41 : List Nat := 17 :: 3 :: 232 :: 54 :: 7 :: 3 :: 54 :: 8 :: 3 :: 54 :: 9 :: 3 :: 54 :: 10 :: 21 :: 10 :: 7 :: 162 :: 0 :: 84 :: 42 :: 180 :: 0 :: 47 :: 21 :: 6 :: 21 :: 10 :: 29 :: 182 :: 0 :: 186 :: 42 :: 180 :: 0 :: 47 :: 42 :: 180 :: 0 :: 19 :: sX11_whose_81
noncomputable def sX11_whose_0 : List Nat := 27 :: 28 :: 184 :: 0 :: 118 :: 54 :: 6 :: 29 :: 184 :: 0 :: 164 :: 153 :: 0 :: 17 :: 21 :: 5 :: 3 :: 5 :: 184 :: 0 :: 96 :: 153 :: 0 :: 7 :: 4 :: 167 :: 0 :: 4 :: 3 :: 184 :: 0 :: 168 :: 29 :: 21 :: 4 :: 184 :: 0 :: 182 :: 184 :: 0 :: 100 :: sX11_whose_41
theorem aX11_whose_0 : dc_at cX11_whose 0 sX11_whose_0 := dc_base (by decide +kernel)
theorem aX11_whose_41 : dc_at cX11_whose 41 sX11_whose_41 := dc_nn (k := 41) aX11_whose_0 rfl
theorem aX11_whose_81 : dc_at cX11_whose 81 sX11_whose_81 := dc_nn (k := 40) aX11_whose_41 rfl
theorem aX11_whose_121 : dc_at cX11_whose 121 sX11_whose_121 := dc_nn (k := 40) aX11_whose_81 rfl
theorem aX11_whose_163 : dc_at cX11_whose 163 sX11_whose_163 := dc_nn (k := 42) aX11_whose_121 rfl
theorem dX11_whose_0 : decode cX11_whose 0 = .ok (.iload_n 1, 1) := dc_27 aX11_whose_0
theorem dX11_whose_1 : decode cX11_whose 1 = .ok (.iload_n 2, 1) := dc_28 (dc_nn (k := 1) aX11_whose_0 rfl)
theorem dX11_whose_2 : decode cX11_whose 2 = .ok (.invokestatic 118, 3) := dc_184 (a0 := 0) (b0 := 118) (dc_nn (k := 2) aX11_whose_0 rfl)
theorem dX11_whose_5 : decode cX11_whose 5 = .ok (.istore 6, 2) := dc_54 (a0 := 6) (dc_nn (k := 5) aX11_whose_0 rfl)
theorem dX11_whose_7 : decode cX11_whose 7 = .ok (.iload_n 3, 1) := dc_29 (dc_nn (k := 7) aX11_whose_0 rfl)
theorem dX11_whose_8 : decode cX11_whose 8 = .ok (.invokestatic 164, 3) := dc_184 (a0 := 0) (b0 := 164) (dc_nn (k := 8) aX11_whose_0 rfl)
theorem dX11_whose_11 : decode cX11_whose 11 = .ok (.ifCond .eq 17, 3) := dc_153 (a0 := 0) (b0 := 17) (dc_nn (k := 11) aX11_whose_0 rfl) (by decide)
theorem dX11_whose_14 : decode cX11_whose 14 = .ok (.iload 5, 2) := dc_21 (a0 := 5) (dc_nn (k := 14) aX11_whose_0 rfl)
theorem dX11_whose_16 : decode cX11_whose 16 = .ok (.iconst 0, 1) := dc_3 (dc_nn (k := 16) aX11_whose_0 rfl)
theorem dX11_whose_17 : decode cX11_whose 17 = .ok (.iconst 2, 1) := dc_5 (dc_nn (k := 17) aX11_whose_0 rfl)
theorem dX11_whose_18 : decode cX11_whose 18 = .ok (.invokestatic 96, 3) := dc_184 (a0 := 0) (b0 := 96) (dc_nn (k := 18) aX11_whose_0 rfl)
theorem dX11_whose_21 : decode cX11_whose 21 = .ok (.ifCond .eq 7, 3) := dc_153 (a0 := 0) (b0 := 7) (dc_nn (k := 21) aX11_whose_0 rfl) (by decide)
theorem dX11_whose_24 : decode cX11_whose 24 = .ok (.iconst 1, 1) := dc_4 (dc_nn (k := 24) aX11_whose_0 rfl)
theorem dX11_whose_25 : decode cX11_whose 25 = .ok (.goto 4, 3) := dc_167 (a0 := 0) (b0 := 4) (dc_nn (k := 25) aX11_whose_0 rfl) (by decide)
theorem dX11_whose_28 : decode cX11_whose 28 = .ok (.iconst 0, 1) := dc_3 (dc_nn (k := 28) aX11_whose_0 rfl)
theorem dX11_whose_29 : decode cX11_whose 29 = .ok (.invokestatic 168, 3) := dc_184 (a0 := 0) (b0 := 168) (dc_nn (k := 29) aX11_whose_0 rfl)
theorem dX11_whose_32 : decode cX11_whose 32 = .ok (.iload_n 3, 1) := dc_29 (dc_nn (k := 32) aX11_whose_0 rfl)
theorem dX11_whose_33 : decode cX11_whose 33 = .ok (.iload 4, 2) := dc_21 (a0 := 4) (dc_nn (k := 33) aX11_whose_0 rfl)
theorem dX11_whose_35 : decode cX11_whose 35 = .ok (.invokestatic 182, 3) := dc_184 (a0 := 0) (b0 := 182) (dc_nn (k := 35) aX11_whose_0 rfl)
theorem dX11_whose_38 : decode cX11_whose 38 = .ok (.invokestatic 100, 3) := dc_184 (a0 := 0) (b0 := 100) (dc_nn (k := 38) aX11_whose_0 rfl)
theorem dX11_whose_41 : decode cX11_whose 41 = .ok (.sipush 1000, 3) := dc_17 (a0 := 3) (b0 := 232) aX11_whose_41 (by decide)
theorem dX11_whose_44 : decode cX11_whose 44 = .ok (.istore 7, 2) := dc_54 (a0 := 7) (dc_nn (k := 3) aX11_whose_41 rfl)
theorem dX11_whose_46 : decode cX11_whose 46 = .ok (.iconst 0, 1) := dc_3 (dc_nn (k := 5) aX11_whose_41 rfl)
theorem dX11_whose_47 : decode cX11_whose 47 = .ok (.istore 8, 2) := dc_54 (a0 := 8) (dc_nn (k := 6) aX11_whose_41 rfl)
theorem dX11_whose_49 : decode cX11_whose 49 = .ok (.iconst 0, 1) := dc_3 (dc_nn (k := 8) aX11_whose_41 rfl)
theorem dX11_whose_50 : decode cX11_whose 50 = .ok (.istore 9, 2) := dc_54 (a0 := 9) (dc_nn (k := 9) aX11_whose_41 rfl)
theorem dX11_whose_52 : decode cX11_whose 52 = .ok (.iconst 0, 1) := dc_3 (dc_nn (k := 11) aX11_whose_41 rfl)
theorem dX11_whose_53 : decode cX11_whose 53 = .ok (.istore 10, 2) := dc_54 (a0 := 10) (dc_nn (k := 12) aX11_whose_41 rfl)
theorem dX11_whose_55 : decode cX11_whose 55 = .ok (.iload 10, 2) := dc_21 (a0 := 10) (dc_nn (k := 14) aX11_whose_41 rfl)
theorem dX11_whose_57 : decode cX11_whose 57 = .ok (.iconst 4, 1) := dc_7 (dc_nn (k := 16) aX11_whose_41 rfl)
theorem dX11_whose_58 : decode cX11_whose 58 = .ok (.if_icmp .ge 84, 3) := dc_162 (a0 := 0) (b0 := 84) (dc_nn (k := 17) aX11_whose_41 rfl) (by decide)
theorem dX11_whose_61 : decode cX11_whose 61 = .ok (.aload_n 0, 1) := dc_42 (dc_nn (k := 20) aX11_whose_41 rfl)
theorem dX11_whose_62 : decode cX11_whose 62 = .ok (.getfield 47, 3) := dc_180 (a0 := 0) (b0 := 47) (dc_nn (k := 21) aX11_whose_41 rfl)
theorem dX11_whose_65 : decode cX11_whose 65 = .ok (.iload 6, 2) := dc_21 (a0 := 6) (dc_nn (k := 24) aX11_whose_41 rfl)
theorem dX11_whose_67 : decode cX11_whose 67 = .ok (.iload 10, 2) := dc_21 (a0 := 10) (dc_nn (k := 26) aX11_whose_41 rfl)
theorem dX11_whose_69 : decode cX11_whose 69 = .ok (.iload_n 3, 1) := dc_29 (dc_nn (k := 28) aX11_whose_41 rfl)
theorem dX11_whose_70 : decode cX11_whose 70 = .ok (.invokevirtual 186, 3) := dc_182 (a0 := 0) (b0 := 186) (dc_nn (k := 29) aX11_whose_41 rfl)
theorem dX11_whose_73 : decode cX11_whose 73 = .ok (.aload_n 0, 1) := dc_42 (dc_nn (k := 32) aX11_whose_41 rfl)
theorem dX11_whose_74 : decode cX11_whose 74 = .ok (.getfield 47, 3) := dc_180 (a0 := 0) (b0 := 47) (dc_nn (k := 33) aX11_whose_41 rfl)
theorem dX11_whose_77 : decode cX11_whose 77 = .ok (.aload_n 0, 1) := dc_42 (dc_nn (k := 36) aX11_whose_41 rfl)
theorem dX11_whose_78 : decode cX11_whose 78 = .ok (.getfield 19, 3) := dc_180 (a0 := 0) (b0 := 19) (dc_nn (k := 37) aX11_whose_41 rfl)
theorem dX11_whose_81 : decode cX11_whose 81 = .ok (.aload_n 0, 1) := dc_42 aX11_whose_81
theorem dX11_whose_82 : decode cX11_whose 82 = .ok (.getfield 29, 3) := dc_180 (a0 := 0) (b0 := 29) (dc_nn (k := 1) aX11_whose_81 rfl)
theorem dX11_whose_85 : decode cX11_whose 85 = .ok (.iload 4, 2) := dc_21 (a0 := 4) (dc_nn (k := 4) aX11_whose_81 rfl)
theorem dX11_whose_87 : decode cX11_whose 87 = .ok (.iconst 1, 1) := dc_4 (dc_nn (k := 6) aX11_whose_81 rfl)
theorem dX11_whose_88 : decode cX11_whose 88 = .ok (.iadd, 1) := dc_96 (dc_nn (k := 7) aX11_whose_81 rfl)
theorem dX11_whose_89 : decode cX11_whose 89 = .ok (.invokevirtual 189, 3) := dc_182 (a0 := 0) (b0 := 189) (dc_nn (k := 8) aX11_whose_81 rfl)
theorem dX11_whose_92 : decode cX11_whose 92 = .ok (.pop, 1) := dc_87 (dc_nn (k := 11) aX11_whose_81 rfl)
theorem dX11_whose_93 : decode cX11_whose 93 = .ok (.aload_n 0, 1) := dc_42 (dc_nn (k := 12) aX11_whose_81 rfl)
theorem dX11_whose_94 : decode cX11_whose 94 = .ok (.getfield 47, 3) := dc_180 (a0 := 0) (b0 := 47) (dc_nn (k := 13) aX11_whose_81 rfl)
theorem dX11_whose_97 : decode cX11_whose 97 = .ok (.getfield 193, 3) := dc_180 (a0 := 0) (b0 := 193) (dc_nn (k := 16) aX11_whose_81 rfl)
theorem dX11_whose_100 : decode cX11_whose 100 = .ok (.iload 7, 2) := dc_21 (a0 := 7) (dc_nn (k := 19) aX11_whose_81 rfl)
theorem dX11_whose_102 : decode cX11_whose 102 = .ok (.if_icmp .ge 19, 3) := dc_162 (a0 := 0) (b0 := 19) (dc_nn (k := 21) aX11_whose_81 rfl) (by decide)
theorem dX11_whose_105 : decode cX11_whose 105 = .ok (.aload_n 0, 1) := dc_42 (dc_nn (k := 24) aX11_whose_81 rfl)
theorem dX11_whose_106 : decode cX11_whose 106 = .ok (.getfield 47, 3) := dc_180 (a0 := 0) (b0 := 47) (dc_nn (k := 25) aX11_whose_81 rfl)
theorem dX11_whose_109 : decode cX11_whose 109 = .ok (.getfield 193, 3) := dc_180 (a0 := 0) (b0 := 193) (dc_nn (k := 28) aX11_whose_81 rfl)
theorem dX11_whose_112 : decode cX11_whose 112 = .ok (.istore 7, 2) := dc_54 (a0 := 7) (dc_nn (k := 31) aX11_whose_81 rfl)
theorem dX11_whose_114 : decode cX11_whose 114 = .ok (.iload 10, 2) := dc_21 (a0 := 10) (dc_nn (k := 33) aX11_whose_81 rfl)
theorem dX11_whose_116 : decode cX11_whose 116 = .ok (.istore 8, 2) := dc_54 (a0 := 8) (dc_nn (k := 35) aX11_whose_81 rfl)
theorem dX11_whose_118 : decode cX11_whose 118 = .ok (.iconst 0, 1) := dc_3 (dc_nn (k := 37) aX11_whose_81 rfl)
theorem dX11_whose_119 : decode cX11_whose 119 = .ok (.istore 9, 2) := dc_54 (a0 := 9) (dc_nn (k := 38) aX11_whose_81 rfl)
theorem dX11_whose_121 : decode cX11_whose 121 = .ok (.aload_n 0, 1) := dc_42 aX11_whose_121
theorem dX11_whose_122 : decode cX11_whose 122 = .ok (.getfield 47, 3) := dc_180 (a0 := 0) (b0 := 47) (dc_nn (k := 1) aX11_whose_121 rfl)
theorem dX11_whose_125 : decode cX11_whose 125 = .ok (.getfield 193, 3) := dc_180 (a0 := 0) (b0 := 193) (dc_nn (k := 4) aX11_whose_121 rfl)
theorem dX11_whose_128 : decode cX11_whose 128 = .ok (.iload 7, 2) := dc_21 (a0 := 7) (dc_nn (k := 7) aX11_whose_121 rfl)
theorem dX11_whose_130 : decode cX11_whose 130 = .ok (.if_icmp .ne 6, 3) := dc_160 (a0 := 0) (b0 := 6) (dc_nn (k := 9) aX11_whose_121 rfl) (by decide)
theorem dX11_whose_133 : decode cX11_whose 133 = .ok (.iinc 9 1, 3) := dc_132 (a0 := 9) (a1 := 1) (dc_nn (k := 12) aX11_whose_121 rfl) (by decide)
theorem dX11_whose_136 : decode cX11_whose 136 = .ok (.iinc 10 1, 3) := dc_132 (a0 := 10) (a1 := 1) (dc_nn (k := 15) aX11_whose_121 rfl) (by decide)
theorem dX11_whose_139 : decode cX11_whose 139 = .ok (.goto (-84), 3) := dc_167 (a0 := 255) (b0 := 172) (dc_nn (k := 18) aX11_whose_121 rfl) (by decide)
theorem dX11_whose_142 : decode cX11_whose 142 = .ok (.iload 5, 2) := dc_21 (a0 := 5) (dc_nn (k := 21) aX11_whose_121 rfl)
theorem dX11_whose_144 : decode cX11_whose 144 = .ok (.ifCond .ne 8, 3) := dc_154 (a0 := 0) (b0 := 8) (dc_nn (k := 23) aX11_whose_121 rfl) (by decide)
theorem dX11_whose_147 : decode cX11_whose 147 = .ok (.iload 8, 2) := dc_21 (a0 := 8) (dc_nn (k := 26) aX11_whose_121 rfl)
theorem dX11_whose_149 : decode cX11_whose 149 = .ok (.goto 16, 3) := dc_167 (a0 := 0) (b0 := 16) (dc_nn (k := 28) aX11_whose_121 rfl) (by decide)
theorem dX11_whose_152 : decode cX11_whose 152 = .ok (.iload 5, 2) := dc_21 (a0 := 5) (dc_nn (k := 31) aX11_whose_121 rfl)
theorem dX11_whose_154 : decode cX11_whose 154 = .ok (.iconst 1, 1) := dc_4 (dc_nn (k := 33) aX11_whose_121 rfl)
theorem dX11_whose_155 : decode cX11_whose 155 = .ok (.if_icmp .ne 8, 3) := dc_160 (a0 := 0) (b0 := 8) (dc_nn (k := 34) aX11_whose_121 rfl) (by decide)
theorem dX11_whose_158 : decode cX11_whose 158 = .ok (.iload 7, 2) := dc_21 (a0 := 7) (dc_nn (k := 37) aX11_whose_121 rfl)
theorem dX11_whose_160 : decode cX11_whose 160 = .ok (.goto 5, 3) := dc_167 (a0 := 0) (b0 := 5) (dc_nn (k := 39) aX11_whose_121 rfl) (by decide)
theorem dX11_whose_163 : decode cX11_whose 163 = .ok (.iload 9, 2) := dc_21 (a0 := 9) aX11_whose_163
theorem dX11_whose_165 : decode cX11_whose 165 = .ok (.ireturn, 1) := dc_172 (dc_nn (k := 2) aX11_whose_163 rfl)
set_option maxRecDepth 20000 in
theorem ggX11_mixed_X11_numberOf : GoodIn wsX11_mixed wsX11_numberOf := goodIn_ca (goodIn_k _ [[6, 0, 0], [5, 3, 0, 0, 0, 0, 0, 0, 0, 0]] (by rfl) (by decide +kernel)) (goodIn_sub (fun _ h => List.mem_cons_of_mem _ (List.mem_append_left _ (List.mem_append_right _ h))) (by decide +kernel))
set_option maxRecDepth 20000 in
theorem gX11_mixed_X11_numberOf : GoodIn wsX11_mixed (va_wsS RX11 118 yX11_numberOf wsX11_numberOf) := goodIn_app (goodIn_k _ [[3, 0, 0]] (by rfl) (gw_S _ _ _ _)) ggX11_mixed_X11_numberOf
set_option maxRecDepth 20000 in
theorem ggX11_mixed_X11_isDay : GoodIn wsX11_mixed wsX11_isDay := goodIn_k _ [[20, 0], [10, 0], [5, 6]] (by rfl) (by decide +kernel)
set_option maxRecDepth 20000 in
theorem gX11_mixed_X11_isDay : GoodIn wsX11_mixed (va_wsS RX11 164 yX11_isDay wsX11_isDay) := goodIn_app (goodIn_k _ [[18, 0], [5]] (by rfl) (gw_S _ _ _ _)) ggX11_mixed_X11_isDay
set_option maxRecDepth 20000 in
theorem ggX11_mixed_X11_need : GoodIn wsX11_mixed wsX11_need := goodIn_ca (goodIn_k _ [[15, 0, 0]] (by rfl) (by decide +kernel)) (goodIn_sub (fun _ h => List.mem_cons_of_mem _ (List.mem_append_left _ (List.mem_append_right _ h))) (by decide +kernel))
set_option maxRecDepth 20000 in
theorem gX11_mixed_X11_need : GoodIn wsX11_mixed (va_wsS RX11 168 yX11_need wsX11_need) := goodIn_app (goodIn_k _ [[13, 0], [5]] (by rfl) (gw_S _ _ _ _)) ggX11_mixed_X11_need
set_option maxRecDepth 20000 in
theorem ggX11_mixed_X11_isSpan : GoodIn wsX11_mixed wsX11_isSpan := goodIn_k _ [[24, 0], [21], [10, 0], [5, 6]] (by rfl) (by decide +kernel)
set_option maxRecDepth 20000 in
theorem gX11_mixed_X11_isSpan : GoodIn wsX11_mixed (va_wsS RX11 182 yX11_isSpan wsX11_isSpan) := goodIn_app (goodIn_k _ [[22, 0], [5]] (by rfl) (gw_S _ _ _ _)) ggX11_mixed_X11_isSpan
set_option maxRecDepth 20000 in
theorem ggX11_mixed_X11_allow : GoodIn wsX11_mixed wsX11_allow := goodIn_ca (goodIn_k _ [[28, 0, 0]] (by rfl) (by decide +kernel)) (goodIn_sub (fun _ h => List.mem_cons_of_mem _ (List.mem_append_right _ h)) (by decide +kernel))
set_option maxRecDepth 20000 in
theorem gX11_mixed_X11_allow : GoodIn wsX11_mixed (va_wsS RX11 100 yX11_allow wsX11_allow) := goodIn_app (goodIn_k _ [[26, 0], [5]] (by rfl) (gw_S _ _ _ _)) ggX11_mixed_X11_allow
set_option maxRecDepth 20000 in
theorem ggX11_mixed_X3_isMixed : GoodIn wsX11_mixed wsX3_isMixed := goodIn_k _ [[34, 0, 0, 0, 0, 0, 0, 0, 0], [33, 9, 0, 0, 0, 0, 0, 0, 0, 0, 0, 0, 0, 0, 0, 0, 0, 0, 0, 0, 0, 0, 0, 0, 0, 0, 0, 0, 0, 0, 0, 0, 0, 13, 0, 0, 0, 0, 0, 0, 0]] (by rfl) (by decide +kernel)
set_option maxRecDepth 20000 in
theorem gX11_mixed_X3_isMixed : GoodIn wsX11_mixed (va_wsS RX11 208 yX3_isMixed wsX3_isMixed) := goodIn_app (goodIn_k _ [[31, 0, 0]] (by rfl) (gw_S _ _ _ _)) ggX11_mixed_X3_isMixed
noncomputable def sX11_mixed_40 : List Nat := 42 :: 180 :: 0 :: 29 :: 21 :: 5 :: 29 :: 21 :: 7 :: 96 :: 184 :: 0 :: 208 :: 153 :: 0 :: 6 :: 132 :: 6 :: 1 :: 132 :: 7 :: 1 :: 167 :: 255 :: 223 :: 21 :: 6 :: 172 :: []
noncomputable def sX11_mixed_0 : List Nat := 27 :: 28 :: 184 :: 0 :: 118 :: 54 :: 5 :: 29 :: 184 :: 0 :: 164 :: 184 :: 0 :: 168 :: 29 :: 21 :: 4 :: 184 :: 0 :: 182 :: 184 :: 0 :: 100 :: 3 :: 54 :: 6 :: 3 :: 54 :: 7 :: 21 :: 7 :: 21 :: 4 :: 163 :: 0 :: 32 :: 42 :: 180 :: 0 :: 19 :: sX11_mixed_40
theorem aX11_mixed_0 : dc_at cX11_mixed 0 sX11_mixed_0 := dc_base (by decide +kernel)
theorem aX11_mixed_40 : dc_at cX11_mixed 40 sX11_mixed_40 := dc_nn (k := 40) aX11_mixed_0 rfl
theorem dX11_mixed_0 : decode cX11_mixed 0 = .ok (.iload_n 1, 1) := dc_27 aX11_mixed_0
theorem dX11_mixed_1 : decode cX11_mixed 1 = .ok (.iload_n 2, 1) := dc_28 (dc_nn (k := 1) aX11_mixed_0 rfl)
theorem dX11_mixed_2 : decode cX11_mixed 2 = .ok (.invokestatic 118, 3) := dc_184 (a0 := 0) (b0 := 118) (dc_nn (k := 2) aX11_mixed_0 rfl)
theorem dX11_mixed_5 : decode cX11_mixed 5 = .ok (.istore 5, 2) := dc_54 (a0 := 5) (dc_nn (k := 5) aX11_mixed_0 rfl)
theorem dX11_mixed_7 : decode cX11_mixed 7 = .ok (.iload_n 3, 1) := dc_29 (dc_nn (k := 7) aX11_mixed_0 rfl)
theorem dX11_mixed_8 : decode cX11_mixed 8 = .ok (.invokestatic 164, 3) := dc_184 (a0 := 0) (b0 := 164) (dc_nn (k := 8) aX11_mixed_0 rfl)
theorem dX11_mixed_11 : decode cX11_mixed 11 = .ok (.invokestatic 168, 3) := dc_184 (a0 := 0) (b0 := 168) (dc_nn (k := 11) aX11_mixed_0 rfl)
theorem dX11_mixed_14 : decode cX11_mixed 14 = .ok (.iload_n 3, 1) := dc_29 (dc_nn (k := 14) aX11_mixed_0 rfl)
theorem dX11_mixed_15 : decode cX11_mixed 15 = .ok (.iload 4, 2) := dc_21 (a0 := 4) (dc_nn (k := 15) aX11_mixed_0 rfl)
theorem dX11_mixed_17 : decode cX11_mixed 17 = .ok (.invokestatic 182, 3) := dc_184 (a0 := 0) (b0 := 182) (dc_nn (k := 17) aX11_mixed_0 rfl)
theorem dX11_mixed_20 : decode cX11_mixed 20 = .ok (.invokestatic 100, 3) := dc_184 (a0 := 0) (b0 := 100) (dc_nn (k := 20) aX11_mixed_0 rfl)
theorem dX11_mixed_23 : decode cX11_mixed 23 = .ok (.iconst 0, 1) := dc_3 (dc_nn (k := 23) aX11_mixed_0 rfl)
theorem dX11_mixed_24 : decode cX11_mixed 24 = .ok (.istore 6, 2) := dc_54 (a0 := 6) (dc_nn (k := 24) aX11_mixed_0 rfl)
theorem dX11_mixed_26 : decode cX11_mixed 26 = .ok (.iconst 0, 1) := dc_3 (dc_nn (k := 26) aX11_mixed_0 rfl)
theorem dX11_mixed_27 : decode cX11_mixed 27 = .ok (.istore 7, 2) := dc_54 (a0 := 7) (dc_nn (k := 27) aX11_mixed_0 rfl)
theorem dX11_mixed_29 : decode cX11_mixed 29 = .ok (.iload 7, 2) := dc_21 (a0 := 7) (dc_nn (k := 29) aX11_mixed_0 rfl)
theorem dX11_mixed_31 : decode cX11_mixed 31 = .ok (.iload 4, 2) := dc_21 (a0 := 4) (dc_nn (k := 31) aX11_mixed_0 rfl)
theorem dX11_mixed_33 : decode cX11_mixed 33 = .ok (.if_icmp .gt 32, 3) := dc_163 (a0 := 0) (b0 := 32) (dc_nn (k := 33) aX11_mixed_0 rfl) (by decide)
theorem dX11_mixed_36 : decode cX11_mixed 36 = .ok (.aload_n 0, 1) := dc_42 (dc_nn (k := 36) aX11_mixed_0 rfl)
theorem dX11_mixed_37 : decode cX11_mixed 37 = .ok (.getfield 19, 3) := dc_180 (a0 := 0) (b0 := 19) (dc_nn (k := 37) aX11_mixed_0 rfl)
theorem dX11_mixed_40 : decode cX11_mixed 40 = .ok (.aload_n 0, 1) := dc_42 aX11_mixed_40
theorem dX11_mixed_41 : decode cX11_mixed 41 = .ok (.getfield 29, 3) := dc_180 (a0 := 0) (b0 := 29) (dc_nn (k := 1) aX11_mixed_40 rfl)
theorem dX11_mixed_44 : decode cX11_mixed 44 = .ok (.iload 5, 2) := dc_21 (a0 := 5) (dc_nn (k := 4) aX11_mixed_40 rfl)
theorem dX11_mixed_46 : decode cX11_mixed 46 = .ok (.iload_n 3, 1) := dc_29 (dc_nn (k := 6) aX11_mixed_40 rfl)
theorem dX11_mixed_47 : decode cX11_mixed 47 = .ok (.iload 7, 2) := dc_21 (a0 := 7) (dc_nn (k := 7) aX11_mixed_40 rfl)
theorem dX11_mixed_49 : decode cX11_mixed 49 = .ok (.iadd, 1) := dc_96 (dc_nn (k := 9) aX11_mixed_40 rfl)
theorem dX11_mixed_50 : decode cX11_mixed 50 = .ok (.invokestatic 208, 3) := dc_184 (a0 := 0) (b0 := 208) (dc_nn (k := 10) aX11_mixed_40 rfl)
theorem dX11_mixed_53 : decode cX11_mixed 53 = .ok (.ifCond .eq 6, 3) := dc_153 (a0 := 0) (b0 := 6) (dc_nn (k := 13) aX11_mixed_40 rfl) (by decide)
theorem dX11_mixed_56 : decode cX11_mixed 56 = .ok (.iinc 6 1, 3) := dc_132 (a0 := 6) (a1 := 1) (dc_nn (k := 16) aX11_mixed_40 rfl) (by decide)
theorem dX11_mixed_59 : decode cX11_mixed 59 = .ok (.iinc 7 1, 3) := dc_132 (a0 := 7) (a1 := 1) (dc_nn (k := 19) aX11_mixed_40 rfl) (by decide)
theorem dX11_mixed_62 : decode cX11_mixed 62 = .ok (.goto (-33), 3) := dc_167 (a0 := 255) (b0 := 223) (dc_nn (k := 22) aX11_mixed_40 rfl) (by decide)
theorem dX11_mixed_65 : decode cX11_mixed 65 = .ok (.iload 6, 2) := dc_21 (a0 := 6) (dc_nn (k := 25) aX11_mixed_40 rfl)
theorem dX11_mixed_67 : decode cX11_mixed 67 = .ok (.ireturn, 1) := dc_172 (dc_nn (k := 27) aX11_mixed_40 rfl)
set_option maxRecDepth 20000 in
theorem ggX11_climb_X11_isClimate : GoodIn wsX11_climb wsX11_isClimate := goodIn_k _ [[7], [1, 0, 5, 0, 0], [6, 4, 11, 0, 0, 0, 0, 0, 0, 0, 0, 0, 0, 0, 0, 0, 0, 0, 0, 0, 0, 0, 0]] (by rfl) (by decide +kernel)
set_option maxRecDepth 20000 in
theorem gX11_climb_X11_isClimate : GoodIn wsX11_climb (wsV RX11 212 RX11 yX11_isClimate wsX11_isClimate) := goodIn_app (goodIn_k _ [[3, 0, 0, 0]] (by rfl) (gw_V _ _ _ _)) ggX11_climb_X11_isClimate
set_option maxRecDepth 20000 in
theorem ggX11_climb_X11_within : GoodIn wsX11_climb wsX11_within := goodIn_k _ [[11]] (by rfl) (by decide +kernel)
set_option maxRecDepth 20000 in
theorem gX11_climb_X11_within : GoodIn wsX11_climb (va_wsS RX11 96 yX11_within wsX11_within) := goodIn_app (goodIn_k _ [[9, 0], [6]] (by rfl) (gw_S _ _ _ _)) ggX11_climb_X11_within
set_option maxRecDepth 20000 in
theorem ggX11_climb_X11_need : GoodIn wsX11_climb wsX11_need := goodIn_ca (goodIn_k _ [[14, 0, 0]] (by rfl) (by decide +kernel)) (goodIn_sub (fun _ h => List.mem_cons_of_mem _ (List.mem_append_right _ h)) (by decide +kernel))
set_option maxRecDepth 20000 in
theorem gX11_climb_X11_need : GoodIn wsX11_climb (va_wsS RX11 168 yX11_need wsX11_need) := goodIn_app (goodIn_k _ [[12, 0], [6]] (by rfl) (gw_S _ _ _ _)) ggX11_climb_X11_need
set_option maxRecDepth 20000 in
theorem ggX11_climb_X2_climbOf : GoodIn wsX11_climb wsX2_climbOf := goodIn_k _ [[21, 0, 19, 0]] (by rfl) (by decide +kernel)
set_option maxRecDepth 20000 in
theorem gX11_climb_X2_climbOf : GoodIn wsX11_climb (wsV RX11 215 RX2 yX2_climbOf wsX2_climbOf) := goodIn_app (goodIn_k _ [[17, 0, 0, 0]] (by rfl) (gw_V _ _ _ _)) ggX11_climb_X2_climbOf
noncomputable def sX11_climb_0 : List Nat := 42 :: 27 :: 182 :: 0 :: 212 :: 153 :: 0 :: 18 :: 28 :: 3 :: 17 :: 84 :: 95 :: 184 :: 0 :: 96 :: 153 :: 0 :: 7 :: 4 :: 167 :: 0 :: 4 :: 3 :: 184 :: 0 :: 168 :: 42 :: 180 :: 0 :: 19 :: 180 :: 0 :: 131 :: 27 :: 28 :: 182 :: 0 :: 215 :: 172 :: []
theorem aX11_climb_0 : dc_at cX11_climb 0 sX11_climb_0 := dc_base (by decide +kernel)
theorem dX11_climb_0 : decode cX11_climb 0 = .ok (.aload_n 0, 1) := dc_42 aX11_climb_0
theorem dX11_climb_1 : decode cX11_climb 1 = .ok (.iload_n 1, 1) := dc_27 (dc_nn (k := 1) aX11_climb_0 rfl)
theorem dX11_climb_2 : decode cX11_climb 2 = .ok (.invokevirtual 212, 3) := dc_182 (a0 := 0) (b0 := 212) (dc_nn (k := 2) aX11_climb_0 rfl)
theorem dX11_climb_5 : decode cX11_climb 5 = .ok (.ifCond .eq 18, 3) := dc_153 (a0 := 0) (b0 := 18) (dc_nn (k := 5) aX11_climb_0 rfl) (by decide)
theorem dX11_climb_8 : decode cX11_climb 8 = .ok (.iload_n 2, 1) := dc_28 (dc_nn (k := 8) aX11_climb_0 rfl)
theorem dX11_climb_9 : decode cX11_climb 9 = .ok (.iconst 0, 1) := dc_3 (dc_nn (k := 9) aX11_climb_0 rfl)
theorem dX11_climb_10 : decode cX11_climb 10 = .ok (.sipush 21599, 3) := dc_17 (a0 := 84) (b0 := 95) (dc_nn (k := 10) aX11_climb_0 rfl) (by decide)
theorem dX11_climb_13 : decode cX11_climb 13 = .ok (.invokestatic 96, 3) := dc_184 (a0 := 0) (b0 := 96) (dc_nn (k := 13) aX11_climb_0 rfl)
theorem dX11_climb_16 : decode cX11_climb 16 = .ok (.ifCond .eq 7, 3) := dc_153 (a0 := 0) (b0 := 7) (dc_nn (k := 16) aX11_climb_0 rfl) (by decide)
theorem dX11_climb_19 : decode cX11_climb 19 = .ok (.iconst 1, 1) := dc_4 (dc_nn (k := 19) aX11_climb_0 rfl)
theorem dX11_climb_20 : decode cX11_climb 20 = .ok (.goto 4, 3) := dc_167 (a0 := 0) (b0 := 4) (dc_nn (k := 20) aX11_climb_0 rfl) (by decide)
theorem dX11_climb_23 : decode cX11_climb 23 = .ok (.iconst 0, 1) := dc_3 (dc_nn (k := 23) aX11_climb_0 rfl)
theorem dX11_climb_24 : decode cX11_climb 24 = .ok (.invokestatic 168, 3) := dc_184 (a0 := 0) (b0 := 168) (dc_nn (k := 24) aX11_climb_0 rfl)
theorem dX11_climb_27 : decode cX11_climb 27 = .ok (.aload_n 0, 1) := dc_42 (dc_nn (k := 27) aX11_climb_0 rfl)
theorem dX11_climb_28 : decode cX11_climb 28 = .ok (.getfield 19, 3) := dc_180 (a0 := 0) (b0 := 19) (dc_nn (k := 28) aX11_climb_0 rfl)
theorem dX11_climb_31 : decode cX11_climb 31 = .ok (.getfield 131, 3) := dc_180 (a0 := 0) (b0 := 131) (dc_nn (k := 31) aX11_climb_0 rfl)
theorem dX11_climb_34 : decode cX11_climb 34 = .ok (.iload_n 1, 1) := dc_27 (dc_nn (k := 34) aX11_climb_0 rfl)
theorem dX11_climb_35 : decode cX11_climb 35 = .ok (.iload_n 2, 1) := dc_28 (dc_nn (k := 35) aX11_climb_0 rfl)
theorem dX11_climb_36 : decode cX11_climb 36 = .ok (.invokevirtual 215, 3) := dc_182 (a0 := 0) (b0 := 215) (dc_nn (k := 36) aX11_climb_0 rfl)
theorem dX11_climb_39 : decode cX11_climb 39 = .ok (.ireturn, 1) := dc_172 (dc_nn (k := 39) aX11_climb_0 rfl)
set_option maxRecDepth 20000 in
theorem ggX11_rise_X11_isClimate : GoodIn wsX11_rise wsX11_isClimate := goodIn_k _ [[7], [1, 0, 5, 0, 0], [6, 4, 20, 0, 0, 0, 0, 0, 0, 0, 0, 0, 0, 0, 0, 0, 0, 0, 0, 0, 0, 0, 0]] (by rfl) (by decide +kernel)
set_option maxRecDepth 20000 in
theorem gX11_rise_X11_isClimate : GoodIn wsX11_rise (wsV RX11 212 RX11 yX11_isClimate wsX11_isClimate) := goodIn_app (goodIn_k _ [[3, 0, 0, 0]] (by rfl) (gw_V _ _ _ _)) ggX11_rise_X11_isClimate
set_option maxRecDepth 20000 in
theorem ggX11_rise_X11_within : GoodIn wsX11_rise wsX11_within := goodIn_k _ [[11]] (by rfl) (by decide +kernel)
set_option maxRecDepth 20000 in
theorem gX11_rise_X11_within : GoodIn wsX11_rise (va_wsS RX11 96 yX11_within wsX11_within) := goodIn_app (goodIn_k _ [[9, 0], [6]] (by rfl) (gw_S _ _ _ _)) ggX11_rise_X11_within
set_option maxRecDepth 20000 in
theorem ggX11_rise_X11_need : GoodIn wsX11_rise wsX11_need := goodIn_ca (goodIn_k _ [[14, 0, 0]] (by rfl) (by decide +kernel)) (goodIn_sub (fun _ h => List.mem_cons_of_mem _ (List.mem_append_right _ h)) (by decide +kernel))
set_option maxRecDepth 20000 in
theorem gX11_rise_X11_need : GoodIn wsX11_rise (va_wsS RX11 168 yX11_need wsX11_need) := goodIn_app (goodIn_k _ [[12, 0], [6]] (by rfl) (gw_S _ _ _ _)) ggX11_rise_X11_need
set_option maxRecDepth 20000 in
theorem ggX11_rise_X2_risingAt : GoodIn wsX11_rise wsX2_risingAt := goodIn_k _ [[21, 0, 0, 0, 0], [20, 5, 0, 0, 0, 0, 0, 19, 0]] (by rfl) (by decide +kernel)
set_option maxRecDepth 20000 in
theorem gX11_rise_X2_risingAt : GoodIn wsX11_rise (wsV RX11 218 RX2 yX2_risingAt wsX2_risingAt) := goodIn_app (goodIn_k _ [[17, 0, 0, 0]] (by rfl) (gw_V _ _ _ _)) ggX11_rise_X2_risingAt
noncomputable def sX11_rise_42 : List Nat := 180 :: 0 :: 131 :: 27 :: 28 :: 29 :: 182 :: 0 :: 218 :: 172 :: []
noncomputable def sX11_rise_0 : List Nat := 42 :: 27 :: 182 :: 0 :: 212 :: 153 :: 0 :: 29 :: 28 :: 3 :: 17 :: 84 :: 95 :: 184 :: 0 :: 96 :: 153 :: 0 :: 18 :: 29 :: 3 :: 17 :: 1 :: 103 :: 184 :: 0 :: 96 :: 153 :: 0 :: 7 :: 4 :: 167 :: 0 :: 4 :: 3 :: 184 :: 0 :: 168 :: 42 :: 180 :: 0 :: 19 :: sX11_rise_42
theorem aX11_rise_0 : dc_at cX11_rise 0 sX11_rise_0 := dc_base (by decide +kernel)
theorem aX11_rise_42 : dc_at cX11_rise 42 sX11_rise_42 := dc_nn (k := 42) aX11_rise_0 rfl
theorem dX11_rise_0 : decode cX11_rise 0 = .ok (.aload_n 0, 1) := dc_42 aX11_rise_0
theorem dX11_rise_1 : decode cX11_rise 1 = .ok (.iload_n 1, 1) := dc_27 (dc_nn (k := 1) aX11_rise_0 rfl)
theorem dX11_rise_2 : decode cX11_rise 2 = .ok (.invokevirtual 212, 3) := dc_182 (a0 := 0) (b0 := 212) (dc_nn (k := 2) aX11_rise_0 rfl)
theorem dX11_rise_5 : decode cX11_rise 5 = .ok (.ifCond .eq 29, 3) := dc_153 (a0 := 0) (b0 := 29) (dc_nn (k := 5) aX11_rise_0 rfl) (by decide)
theorem dX11_rise_8 : decode cX11_rise 8 = .ok (.iload_n 2, 1) := dc_28 (dc_nn (k := 8) aX11_rise_0 rfl)
theorem dX11_rise_9 : decode cX11_rise 9 = .ok (.iconst 0, 1) := dc_3 (dc_nn (k := 9) aX11_rise_0 rfl)
theorem dX11_rise_10 : decode cX11_rise 10 = .ok (.sipush 21599, 3) := dc_17 (a0 := 84) (b0 := 95) (dc_nn (k := 10) aX11_rise_0 rfl) (by decide)
theorem dX11_rise_13 : decode cX11_rise 13 = .ok (.invokestatic 96, 3) := dc_184 (a0 := 0) (b0 := 96) (dc_nn (k := 13) aX11_rise_0 rfl)
theorem dX11_rise_16 : decode cX11_rise 16 = .ok (.ifCond .eq 18, 3) := dc_153 (a0 := 0) (b0 := 18) (dc_nn (k := 16) aX11_rise_0 rfl) (by decide)
theorem dX11_rise_19 : decode cX11_rise 19 = .ok (.iload_n 3, 1) := dc_29 (dc_nn (k := 19) aX11_rise_0 rfl)
theorem dX11_rise_20 : decode cX11_rise 20 = .ok (.iconst 0, 1) := dc_3 (dc_nn (k := 20) aX11_rise_0 rfl)
theorem dX11_rise_21 : decode cX11_rise 21 = .ok (.sipush 359, 3) := dc_17 (a0 := 1) (b0 := 103) (dc_nn (k := 21) aX11_rise_0 rfl) (by decide)
theorem dX11_rise_24 : decode cX11_rise 24 = .ok (.invokestatic 96, 3) := dc_184 (a0 := 0) (b0 := 96) (dc_nn (k := 24) aX11_rise_0 rfl)
theorem dX11_rise_27 : decode cX11_rise 27 = .ok (.ifCond .eq 7, 3) := dc_153 (a0 := 0) (b0 := 7) (dc_nn (k := 27) aX11_rise_0 rfl) (by decide)
theorem dX11_rise_30 : decode cX11_rise 30 = .ok (.iconst 1, 1) := dc_4 (dc_nn (k := 30) aX11_rise_0 rfl)
theorem dX11_rise_31 : decode cX11_rise 31 = .ok (.goto 4, 3) := dc_167 (a0 := 0) (b0 := 4) (dc_nn (k := 31) aX11_rise_0 rfl) (by decide)
theorem dX11_rise_34 : decode cX11_rise 34 = .ok (.iconst 0, 1) := dc_3 (dc_nn (k := 34) aX11_rise_0 rfl)
theorem dX11_rise_35 : decode cX11_rise 35 = .ok (.invokestatic 168, 3) := dc_184 (a0 := 0) (b0 := 168) (dc_nn (k := 35) aX11_rise_0 rfl)
theorem dX11_rise_38 : decode cX11_rise 38 = .ok (.aload_n 0, 1) := dc_42 (dc_nn (k := 38) aX11_rise_0 rfl)
theorem dX11_rise_39 : decode cX11_rise 39 = .ok (.getfield 19, 3) := dc_180 (a0 := 0) (b0 := 19) (dc_nn (k := 39) aX11_rise_0 rfl)
theorem dX11_rise_42 : decode cX11_rise 42 = .ok (.getfield 131, 3) := dc_180 (a0 := 0) (b0 := 131) aX11_rise_42
theorem dX11_rise_45 : decode cX11_rise 45 = .ok (.iload_n 1, 1) := dc_27 (dc_nn (k := 3) aX11_rise_42 rfl)
theorem dX11_rise_46 : decode cX11_rise 46 = .ok (.iload_n 2, 1) := dc_28 (dc_nn (k := 4) aX11_rise_42 rfl)
theorem dX11_rise_47 : decode cX11_rise 47 = .ok (.iload_n 3, 1) := dc_29 (dc_nn (k := 5) aX11_rise_42 rfl)
theorem dX11_rise_48 : decode cX11_rise 48 = .ok (.invokevirtual 218, 3) := dc_182 (a0 := 0) (b0 := 218) (dc_nn (k := 6) aX11_rise_42 rfl)
theorem dX11_rise_51 : decode cX11_rise 51 = .ok (.ireturn, 1) := dc_172 (dc_nn (k := 9) aX11_rise_42 rfl)
set_option maxRecDepth 20000 in
theorem ggX11_middle_X11_isClimate : GoodIn wsX11_middle wsX11_isClimate := goodIn_k _ [[7], [1, 0, 5, 0, 0], [6, 4, 25, 0, 0, 0, 0, 0, 0, 0, 0, 0, 0, 0, 0, 0, 0, 0, 0, 0, 0, 0, 0]] (by rfl) (by decide +kernel)
set_option maxRecDepth 20000 in
theorem gX11_middle_X11_isClimate : GoodIn wsX11_middle (wsV RX11 212 RX11 yX11_isClimate wsX11_isClimate) := goodIn_app (goodIn_k _ [[3, 0, 0, 0]] (by rfl) (gw_V _ _ _ _)) ggX11_middle_X11_isClimate
set_option maxRecDepth 20000 in
theorem ggX11_middle_X11_within : GoodIn wsX11_middle wsX11_within := goodIn_k _ [[11]] (by rfl) (by decide +kernel)
set_option maxRecDepth 20000 in
theorem gX11_middle_X11_within : GoodIn wsX11_middle (va_wsS RX11 96 yX11_within wsX11_within) := goodIn_app (goodIn_k _ [[9, 0], [6]] (by rfl) (gw_S _ _ _ _)) ggX11_middle_X11_within
set_option maxRecDepth 20000 in
theorem ggX11_middle_X11_need : GoodIn wsX11_middle wsX11_need := goodIn_ca (goodIn_k _ [[14, 0, 0]] (by rfl) (by decide +kernel)) (goodIn_sub (fun _ h => List.mem_cons_of_mem _ (List.mem_append_right _ h)) (by decide +kernel))
set_option maxRecDepth 20000 in
theorem gX11_middle_X11_need : GoodIn wsX11_middle (va_wsS RX11 168 yX11_need wsX11_need) := goodIn_app (goodIn_k _ [[12, 0], [6]] (by rfl) (gw_S _ _ _ _)) ggX11_middle_X11_need
set_option maxRecDepth 20000 in
theorem ggX11_middle_X2_middleOf : GoodIn wsX11_middle wsX2_middleOf := goodIn_k _ [[21, 0, 0, 0, 0, 0], [20, 6, 0, 0, 0, 0, 0, 0, 0, 0, 0, 19, 0]] (by rfl) (by decide +kernel)
set_option maxRecDepth 20000 in
theorem gX11_middle_X2_middleOf : GoodIn wsX11_middle (wsV RX11 221 RX2 yX2_middleOf wsX2_middleOf) := goodIn_app (goodIn_k _ [[17, 0, 0, 0]] (by rfl) (gw_V _ _ _ _)) ggX11_middle_X2_middleOf
noncomputable def sX11_middle_0 : List Nat := 42 :: 27 :: 182 :: 0 :: 212 :: 153 :: 0 :: 18 :: 28 :: 3 :: 17 :: 84 :: 95 :: 184 :: 0 :: 96 :: 153 :: 0 :: 7 :: 4 :: 167 :: 0 :: 4 :: 3 :: 184 :: 0 :: 168 :: 42 :: 180 :: 0 :: 19 :: 180 :: 0 :: 131 :: 27 :: 28 :: 182 :: 0 :: 221 :: 172 :: []
theorem aX11_middle_0 : dc_at cX11_middle 0 sX11_middle_0 := dc_base (by decide +kernel)
theorem dX11_middle_0 : decode cX11_middle 0 = .ok (.aload_n 0, 1) := dc_42 aX11_middle_0
theorem dX11_middle_1 : decode cX11_middle 1 = .ok (.iload_n 1, 1) := dc_27 (dc_nn (k := 1) aX11_middle_0 rfl)
theorem dX11_middle_2 : decode cX11_middle 2 = .ok (.invokevirtual 212, 3) := dc_182 (a0 := 0) (b0 := 212) (dc_nn (k := 2) aX11_middle_0 rfl)
theorem dX11_middle_5 : decode cX11_middle 5 = .ok (.ifCond .eq 18, 3) := dc_153 (a0 := 0) (b0 := 18) (dc_nn (k := 5) aX11_middle_0 rfl) (by decide)
theorem dX11_middle_8 : decode cX11_middle 8 = .ok (.iload_n 2, 1) := dc_28 (dc_nn (k := 8) aX11_middle_0 rfl)
theorem dX11_middle_9 : decode cX11_middle 9 = .ok (.iconst 0, 1) := dc_3 (dc_nn (k := 9) aX11_middle_0 rfl)
theorem dX11_middle_10 : decode cX11_middle 10 = .ok (.sipush 21599, 3) := dc_17 (a0 := 84) (b0 := 95) (dc_nn (k := 10) aX11_middle_0 rfl) (by decide)
theorem dX11_middle_13 : decode cX11_middle 13 = .ok (.invokestatic 96, 3) := dc_184 (a0 := 0) (b0 := 96) (dc_nn (k := 13) aX11_middle_0 rfl)
theorem dX11_middle_16 : decode cX11_middle 16 = .ok (.ifCond .eq 7, 3) := dc_153 (a0 := 0) (b0 := 7) (dc_nn (k := 16) aX11_middle_0 rfl) (by decide)
theorem dX11_middle_19 : decode cX11_middle 19 = .ok (.iconst 1, 1) := dc_4 (dc_nn (k := 19) aX11_middle_0 rfl)
theorem dX11_middle_20 : decode cX11_middle 20 = .ok (.goto 4, 3) := dc_167 (a0 := 0) (b0 := 4) (dc_nn (k := 20) aX11_middle_0 rfl) (by decide)
theorem dX11_middle_23 : decode cX11_middle 23 = .ok (.iconst 0, 1) := dc_3 (dc_nn (k := 23) aX11_middle_0 rfl)
theorem dX11_middle_24 : decode cX11_middle 24 = .ok (.invokestatic 168, 3) := dc_184 (a0 := 0) (b0 := 168) (dc_nn (k := 24) aX11_middle_0 rfl)
theorem dX11_middle_27 : decode cX11_middle 27 = .ok (.aload_n 0, 1) := dc_42 (dc_nn (k := 27) aX11_middle_0 rfl)
theorem dX11_middle_28 : decode cX11_middle 28 = .ok (.getfield 19, 3) := dc_180 (a0 := 0) (b0 := 19) (dc_nn (k := 28) aX11_middle_0 rfl)
theorem dX11_middle_31 : decode cX11_middle 31 = .ok (.getfield 131, 3) := dc_180 (a0 := 0) (b0 := 131) (dc_nn (k := 31) aX11_middle_0 rfl)
theorem dX11_middle_34 : decode cX11_middle 34 = .ok (.iload_n 1, 1) := dc_27 (dc_nn (k := 34) aX11_middle_0 rfl)
theorem dX11_middle_35 : decode cX11_middle 35 = .ok (.iload_n 2, 1) := dc_28 (dc_nn (k := 35) aX11_middle_0 rfl)
theorem dX11_middle_36 : decode cX11_middle 36 = .ok (.invokevirtual 221, 3) := dc_182 (a0 := 0) (b0 := 221) (dc_nn (k := 36) aX11_middle_0 rfl)
theorem dX11_middle_39 : decode cX11_middle 39 = .ok (.ireturn, 1) := dc_172 (dc_nn (k := 39) aX11_middle_0 rfl)
set_option maxRecDepth 20000 in
theorem ggX11_hour_X11_numberOf : GoodIn wsX11_hour wsX11_numberOf := goodIn_ca (goodIn_k _ [[7, 0, 0], [6, 3, 0, 0, 0, 0, 0, 0, 0, 0]] (by rfl) (by decide +kernel)) (goodIn_sub (fun _ h => List.mem_cons_of_mem _ (List.mem_append_right _ h)) (by decide +kernel))
set_option maxRecDepth 20000 in
theorem gX11_hour_X11_numberOf : GoodIn wsX11_hour (va_wsS RX11 118 yX11_numberOf wsX11_numberOf) := goodIn_app (goodIn_k _ [[4, 0, 0]] (by rfl) (gw_S _ _ _ _)) ggX11_hour_X11_numberOf
set_option maxRecDepth 20000 in
theorem ggX11_hour_X1_degreeOf : GoodIn wsX11_hour wsX1_degreeOf := goodIn_k _ [[23, 0, 47, 0]] (by rfl) (by decide +kernel)
set_option maxRecDepth 20000 in
theorem gX11_hour_X1_degreeOf : GoodIn wsX11_hour (wsV RX11 175 RX1 yX1_degreeOf wsX1_degreeOf) := goodIn_app (goodIn_k _ [[19, 0, 0, 0]] (by rfl) (gw_V _ _ _ _)) ggX11_hour_X1_degreeOf
set_option maxRecDepth 20000 in
theorem ggX11_hour_X2_howManyHours : GoodIn wsX11_hour wsX2_howManyHours := goodIn_k _ [[29, 0, 0, 0, 0], [28, 5, 0, 0, 0, 0, 0, 0, 0, 0, 0, 0, 0, 0, 0, 0, 25, 0]] (by rfl) (by decide +kernel)
set_option maxRecDepth 20000 in
theorem gX11_hour_X2_howManyHours : GoodIn wsX11_hour (wsV RX11 224 RX2 yX2_howManyHours wsX2_howManyHours) := goodIn_app (goodIn_k _ [[25, 0, 0, 0]] (by rfl) (gw_V _ _ _ _)) ggX11_hour_X2_howManyHours
set_option maxRecDepth 20000 in
theorem ggX11_hour_X2_nthHour : GoodIn wsX11_hour wsX2_nthHour := goodIn_k _ [[52], [30, 0, 0, 0], [28, 5, 0, 0, 0, 0, 0, 0, 0, 0, 0, 0, 0, 0, 0, 0, 25, 0]] (by rfl) (by decide +kernel)
set_option maxRecDepth 20000 in
theorem gX11_hour_X2_nthHour : GoodIn wsX11_hour (wsV RX11 227 RX2 yX2_nthHour wsX2_nthHour) := goodIn_app (goodIn_k _ [[49, 0, 0], [28]] (by rfl) (gw_V _ _ _ _)) ggX11_hour_X2_nthHour
set_option maxRecDepth 20000 in
theorem ggX11_hour_X11_need : GoodIn wsX11_hour wsX11_need := goodIn_ca (goodIn_k _ [[16, 0, 0]] (by rfl) (by decide +kernel)) (goodIn_sub (fun _ h => List.mem_cons_of_mem _ (List.mem_append_right _ h)) (by decide +kernel))
set_option maxRecDepth 20000 in
theorem gX11_hour_X11_need : GoodIn wsX11_hour (va_wsS RX11 168 yX11_need wsX11_need) := goodIn_app (goodIn_k _ [[14, 0], [6]] (by rfl) (gw_S _ _ _ _)) ggX11_hour_X11_need
noncomputable def sX11_hour_120 : List Nat := 21 :: 8 :: 172 :: []
noncomputable def sX11_hour_80 : List Nat := 21 :: 7 :: 153 :: 0 :: 21 :: 42 :: 180 :: 0 :: 19 :: 180 :: 0 :: 131 :: 21 :: 5 :: 21 :: 6 :: 29 :: 182 :: 0 :: 227 :: 167 :: 0 :: 4 :: 2 :: 54 :: 8 :: 21 :: 8 :: 2 :: 159 :: 0 :: 7 :: 4 :: 167 :: 0 :: 4 :: 3 :: 184 :: 0 :: 168 :: sX11_hour_120
noncomputable def sX11_hour_40 : List Nat := 2 :: 159 :: 0 :: 7 :: 4 :: 167 :: 0 :: 4 :: 3 :: 54 :: 7 :: 29 :: 2 :: 160 :: 0 :: 27 :: 21 :: 7 :: 153 :: 0 :: 20 :: 42 :: 180 :: 0 :: 19 :: 180 :: 0 :: 131 :: 21 :: 5 :: 21 :: 6 :: 182 :: 0 :: 224 :: 167 :: 0 :: 4 :: 2 :: 172 :: sX11_hour_80
noncomputable def sX11_hour_0 : List Nat := 27 :: 28 :: 184 :: 0 :: 118 :: 54 :: 4 :: 42 :: 180 :: 0 :: 29 :: 21 :: 4 :: 3 :: 182 :: 0 :: 175 :: 54 :: 5 :: 42 :: 180 :: 0 :: 29 :: 21 :: 4 :: 16 :: 7 :: 182 :: 0 :: 175 :: 54 :: 6 :: 21 :: 5 :: 2 :: 159 :: 0 :: 13 :: 21 :: 6 :: sX11_hour_40
theorem aX11_hour_0 : dc_at cX11_hour 0 sX11_hour_0 := dc_base (by decide +kernel)
theorem aX11_hour_40 : dc_at cX11_hour 40 sX11_hour_40 := dc_nn (k := 40) aX11_hour_0 rfl
theorem aX11_hour_80 : dc_at cX11_hour 80 sX11_hour_80 := dc_nn (k := 40) aX11_hour_40 rfl
theorem aX11_hour_120 : dc_at cX11_hour 120 sX11_hour_120 := dc_nn (k := 40) aX11_hour_80 rfl
theorem dX11_hour_0 : decode cX11_hour 0 = .ok (.iload_n 1, 1) := dc_27 aX11_hour_0
theorem dX11_hour_1 : decode cX11_hour 1 = .ok (.iload_n 2, 1) := dc_28 (dc_nn (k := 1) aX11_hour_0 rfl)
theorem dX11_hour_2 : decode cX11_hour 2 = .ok (.invokestatic 118, 3) := dc_184 (a0 := 0) (b0 := 118) (dc_nn (k := 2) aX11_hour_0 rfl)
theorem dX11_hour_5 : decode cX11_hour 5 = .ok (.istore 4, 2) := dc_54 (a0 := 4) (dc_nn (k := 5) aX11_hour_0 rfl)
theorem dX11_hour_7 : decode cX11_hour 7 = .ok (.aload_n 0, 1) := dc_42 (dc_nn (k := 7) aX11_hour_0 rfl)
theorem dX11_hour_8 : decode cX11_hour 8 = .ok (.getfield 29, 3) := dc_180 (a0 := 0) (b0 := 29) (dc_nn (k := 8) aX11_hour_0 rfl)
theorem dX11_hour_11 : decode cX11_hour 11 = .ok (.iload 4, 2) := dc_21 (a0 := 4) (dc_nn (k := 11) aX11_hour_0 rfl)
theorem dX11_hour_13 : decode cX11_hour 13 = .ok (.iconst 0, 1) := dc_3 (dc_nn (k := 13) aX11_hour_0 rfl)
theorem dX11_hour_14 : decode cX11_hour 14 = .ok (.invokevirtual 175, 3) := dc_182 (a0 := 0) (b0 := 175) (dc_nn (k := 14) aX11_hour_0 rfl)
theorem dX11_hour_17 : decode cX11_hour 17 = .ok (.istore 5, 2) := dc_54 (a0 := 5) (dc_nn (k := 17) aX11_hour_0 rfl)
theorem dX11_hour_19 : decode cX11_hour 19 = .ok (.aload_n 0, 1) := dc_42 (dc_nn (k := 19) aX11_hour_0 rfl)
theorem dX11_hour_20 : decode cX11_hour 20 = .ok (.getfield 29, 3) := dc_180 (a0 := 0) (b0 := 29) (dc_nn (k := 20) aX11_hour_0 rfl)
theorem dX11_hour_23 : decode cX11_hour 23 = .ok (.iload 4, 2) := dc_21 (a0 := 4) (dc_nn (k := 23) aX11_hour_0 rfl)
theorem dX11_hour_25 : decode cX11_hour 25 = .ok (.bipush 7, 2) := dc_16 (a0 := 7) (dc_nn (k := 25) aX11_hour_0 rfl) (by decide)
theorem dX11_hour_27 : decode cX11_hour 27 = .ok (.invokevirtual 175, 3) := dc_182 (a0 := 0) (b0 := 175) (dc_nn (k := 27) aX11_hour_0 rfl)
theorem dX11_hour_30 : decode cX11_hour 30 = .ok (.istore 6, 2) := dc_54 (a0 := 6) (dc_nn (k := 30) aX11_hour_0 rfl)
theorem dX11_hour_32 : decode cX11_hour 32 = .ok (.iload 5, 2) := dc_21 (a0 := 5) (dc_nn (k := 32) aX11_hour_0 rfl)
theorem dX11_hour_34 : decode cX11_hour 34 = .ok (.iconst (-1), 1) := dc_2 (dc_nn (k := 34) aX11_hour_0 rfl)
theorem dX11_hour_35 : decode cX11_hour 35 = .ok (.if_icmp .eq 13, 3) := dc_159 (a0 := 0) (b0 := 13) (dc_nn (k := 35) aX11_hour_0 rfl) (by decide)
theorem dX11_hour_38 : decode cX11_hour 38 = .ok (.iload 6, 2) := dc_21 (a0 := 6) (dc_nn (k := 38) aX11_hour_0 rfl)
theorem dX11_hour_40 : decode cX11_hour 40 = .ok (.iconst (-1), 1) := dc_2 aX11_hour_40
theorem dX11_hour_41 : decode cX11_hour 41 = .ok (.if_icmp .eq 7, 3) := dc_159 (a0 := 0) (b0 := 7) (dc_nn (k := 1) aX11_hour_40 rfl) (by decide)
theorem dX11_hour_44 : decode cX11_hour 44 = .ok (.iconst 1, 1) := dc_4 (dc_nn (k := 4) aX11_hour_40 rfl)
theorem dX11_hour_45 : decode cX11_hour 45 = .ok (.goto 4, 3) := dc_167 (a0 := 0) (b0 := 4) (dc_nn (k := 5) aX11_hour_40 rfl) (by decide)
theorem dX11_hour_48 : decode cX11_hour 48 = .ok (.iconst 0, 1) := dc_3 (dc_nn (k := 8) aX11_hour_40 rfl)
theorem dX11_hour_49 : decode cX11_hour 49 = .ok (.istore 7, 2) := dc_54 (a0 := 7) (dc_nn (k := 9) aX11_hour_40 rfl)
theorem dX11_hour_51 : decode cX11_hour 51 = .ok (.iload_n 3, 1) := dc_29 (dc_nn (k := 11) aX11_hour_40 rfl)
theorem dX11_hour_52 : decode cX11_hour 52 = .ok (.iconst (-1), 1) := dc_2 (dc_nn (k := 12) aX11_hour_40 rfl)
theorem dX11_hour_53 : decode cX11_hour 53 = .ok (.if_icmp .ne 27, 3) := dc_160 (a0 := 0) (b0 := 27) (dc_nn (k := 13) aX11_hour_40 rfl) (by decide)
theorem dX11_hour_56 : decode cX11_hour 56 = .ok (.iload 7, 2) := dc_21 (a0 := 7) (dc_nn (k := 16) aX11_hour_40 rfl)
theorem dX11_hour_58 : decode cX11_hour 58 = .ok (.ifCond .eq 20, 3) := dc_153 (a0 := 0) (b0 := 20) (dc_nn (k := 18) aX11_hour_40 rfl) (by decide)
theorem dX11_hour_61 : decode cX11_hour 61 = .ok (.aload_n 0, 1) := dc_42 (dc_nn (k := 21) aX11_hour_40 rfl)
theorem dX11_hour_62 : decode cX11_hour 62 = .ok (.getfield 19, 3) := dc_180 (a0 := 0) (b0 := 19) (dc_nn (k := 22) aX11_hour_40 rfl)
theorem dX11_hour_65 : decode cX11_hour 65 = .ok (.getfield 131, 3) := dc_180 (a0 := 0) (b0 := 131) (dc_nn (k := 25) aX11_hour_40 rfl)
theorem dX11_hour_68 : decode cX11_hour 68 = .ok (.iload 5, 2) := dc_21 (a0 := 5) (dc_nn (k := 28) aX11_hour_40 rfl)
theorem dX11_hour_70 : decode cX11_hour 70 = .ok (.iload 6, 2) := dc_21 (a0 := 6) (dc_nn (k := 30) aX11_hour_40 rfl)
theorem dX11_hour_72 : decode cX11_hour 72 = .ok (.invokevirtual 224, 3) := dc_182 (a0 := 0) (b0 := 224) (dc_nn (k := 32) aX11_hour_40 rfl)
theorem dX11_hour_75 : decode cX11_hour 75 = .ok (.goto 4, 3) := dc_167 (a0 := 0) (b0 := 4) (dc_nn (k := 35) aX11_hour_40 rfl) (by decide)
theorem dX11_hour_78 : decode cX11_hour 78 = .ok (.iconst (-1), 1) := dc_2 (dc_nn (k := 38) aX11_hour_40 rfl)
theorem dX11_hour_79 : decode cX11_hour 79 = .ok (.ireturn, 1) := dc_172 (dc_nn (k := 39) aX11_hour_40 rfl)
theorem dX11_hour_80 : decode cX11_hour 80 = .ok (.iload 7, 2) := dc_21 (a0 := 7) aX11_hour_80
theorem dX11_hour_82 : decode cX11_hour 82 = .ok (.ifCond .eq 21, 3) := dc_153 (a0 := 0) (b0 := 21) (dc_nn (k := 2) aX11_hour_80 rfl) (by decide)
theorem dX11_hour_85 : decode cX11_hour 85 = .ok (.aload_n 0, 1) := dc_42 (dc_nn (k := 5) aX11_hour_80 rfl)
theorem dX11_hour_86 : decode cX11_hour 86 = .ok (.getfield 19, 3) := dc_180 (a0 := 0) (b0 := 19) (dc_nn (k := 6) aX11_hour_80 rfl)
theorem dX11_hour_89 : decode cX11_hour 89 = .ok (.getfield 131, 3) := dc_180 (a0 := 0) (b0 := 131) (dc_nn (k := 9) aX11_hour_80 rfl)
theorem dX11_hour_92 : decode cX11_hour 92 = .ok (.iload 5, 2) := dc_21 (a0 := 5) (dc_nn (k := 12) aX11_hour_80 rfl)
theorem dX11_hour_94 : decode cX11_hour 94 = .ok (.iload 6, 2) := dc_21 (a0 := 6) (dc_nn (k := 14) aX11_hour_80 rfl)
theorem dX11_hour_96 : decode cX11_hour 96 = .ok (.iload_n 3, 1) := dc_29 (dc_nn (k := 16) aX11_hour_80 rfl)
theorem dX11_hour_97 : decode cX11_hour 97 = .ok (.invokevirtual 227, 3) := dc_182 (a0 := 0) (b0 := 227) (dc_nn (k := 17) aX11_hour_80 rfl)
theorem dX11_hour_100 : decode cX11_hour 100 = .ok (.goto 4, 3) := dc_167 (a0 := 0) (b0 := 4) (dc_nn (k := 20) aX11_hour_80 rfl) (by decide)
theorem dX11_hour_103 : decode cX11_hour 103 = .ok (.iconst (-1), 1) := dc_2 (dc_nn (k := 23) aX11_hour_80 rfl)
theorem dX11_hour_104 : decode cX11_hour 104 = .ok (.istore 8, 2) := dc_54 (a0 := 8) (dc_nn (k := 24) aX11_hour_80 rfl)
theorem dX11_hour_106 : decode cX11_hour 106 = .ok (.iload 8, 2) := dc_21 (a0 := 8) (dc_nn (k := 26) aX11_hour_80 rfl)
theorem dX11_hour_108 : decode cX11_hour 108 = .ok (.iconst (-1), 1) := dc_2 (dc_nn (k := 28) aX11_hour_80 rfl)
theorem dX11_hour_109 : decode cX11_hour 109 = .ok (.if_icmp .eq 7, 3) := dc_159 (a0 := 0) (b0 := 7) (dc_nn (k := 29) aX11_hour_80 rfl) (by decide)
theorem dX11_hour_112 : decode cX11_hour 112 = .ok (.iconst 1, 1) := dc_4 (dc_nn (k := 32) aX11_hour_80 rfl)
theorem dX11_hour_113 : decode cX11_hour 113 = .ok (.goto 4, 3) := dc_167 (a0 := 0) (b0 := 4) (dc_nn (k := 33) aX11_hour_80 rfl) (by decide)
theorem dX11_hour_116 : decode cX11_hour 116 = .ok (.iconst 0, 1) := dc_3 (dc_nn (k := 36) aX11_hour_80 rfl)
theorem dX11_hour_117 : decode cX11_hour 117 = .ok (.invokestatic 168, 3) := dc_184 (a0 := 0) (b0 := 168) (dc_nn (k := 37) aX11_hour_80 rfl)
theorem dX11_hour_120 : decode cX11_hour 120 = .ok (.iload 8, 2) := dc_21 (a0 := 8) aX11_hour_120
theorem dX11_hour_122 : decode cX11_hour 122 = .ok (.ireturn, 1) := dc_172 (dc_nn (k := 2) aX11_hour_120 rfl)
set_option maxRecDepth 20000 in
theorem ggX11_houseOf_X11_within : GoodIn wsX11_houseOf wsX11_within := goodIn_k _ [[6]] (by rfl) (by decide +kernel)
set_option maxRecDepth 20000 in
theorem gX11_houseOf_X11_within : GoodIn wsX11_houseOf (va_wsS RX11 96 yX11_within wsX11_within) := goodIn_app (goodIn_k _ [[3, 0, 0]] (by rfl) (gw_S _ _ _ _)) ggX11_houseOf_X11_within
set_option maxRecDepth 20000 in
theorem ggX11_houseOf_X11_isWay : GoodIn wsX11_houseOf wsX11_isWay := goodIn_k _ [[10], [3, 0, 0, 0, 4, 0, 0, 0], [1, 0, 12, 33, 0, 0, 0, 0, 0, 0, 0, 0, 0, 0, 0, 0, 0, 0, 0, 0, 0, 0, 0, 0]] (by rfl) (by decide +kernel)
set_option maxRecDepth 20000 in
theorem gX11_houseOf_X11_isWay : GoodIn wsX11_houseOf (wsV RX11 230 RX11 yX11_isWay wsX11_isWay) := goodIn_app (goodIn_k _ [[7, 0, 0], [5]] (by rfl) (gw_V _ _ _ _)) ggX11_houseOf_X11_isWay
set_option maxRecDepth 20000 in
theorem ggX11_houseOf_X11_need : GoodIn wsX11_houseOf wsX11_need := goodIn_ca (goodIn_k _ [[18, 0, 0]] (by rfl) (by decide +kernel)) (goodIn_sub (fun _ h => List.mem_cons_of_mem _ (List.mem_append_right _ h)) (by decide +kernel))
set_option maxRecDepth 20000 in
theorem gX11_houseOf_X11_need : GoodIn wsX11_houseOf (va_wsS RX11 168 yX11_need wsX11_need) := goodIn_app (goodIn_k _ [[16, 0], [5]] (by rfl) (gw_S _ _ _ _)) ggX11_houseOf_X11_need
set_option maxRecDepth 20000 in
theorem ggX11_houseOf_X2_houseDegree : GoodIn wsX11_houseOf wsX2_houseDegree := goodIn_k _ [[25, 0, 0, 0], [24, 4, 0, 0, 0, 0, 0, 0, 0, 0, 0, 0, 0, 0, 0, 0, 0, 0, 0, 0, 0, 19, 0]] (by rfl) (by decide +kernel)
set_option maxRecDepth 20000 in
theorem gX11_houseOf_X2_houseDegree : GoodIn wsX11_houseOf (wsV RX11 233 RX2 yX2_houseDegree wsX2_houseDegree) := goodIn_app (goodIn_k _ [[21, 0, 0, 0]] (by rfl) (gw_V _ _ _ _)) ggX11_houseOf_X2_houseDegree
noncomputable def sX11_houseOf_40 : List Nat := 180 :: 0 :: 19 :: 180 :: 0 :: 131 :: 27 :: 28 :: 29 :: 21 :: 4 :: 182 :: 0 :: 233 :: 172 :: []
noncomputable def sX11_houseOf_0 : List Nat := 27 :: 3 :: 17 :: 1 :: 103 :: 184 :: 0 :: 96 :: 153 :: 0 :: 27 :: 42 :: 28 :: 29 :: 182 :: 0 :: 230 :: 153 :: 0 :: 18 :: 21 :: 4 :: 4 :: 16 :: 12 :: 184 :: 0 :: 96 :: 153 :: 0 :: 7 :: 4 :: 167 :: 0 :: 4 :: 3 :: 184 :: 0 :: 168 :: 42 :: sX11_houseOf_40
theorem aX11_houseOf_0 : dc_at cX11_houseOf 0 sX11_houseOf_0 := dc_base (by decide +kernel)
theorem aX11_houseOf_40 : dc_at cX11_houseOf 40 sX11_houseOf_40 := dc_nn (k := 40) aX11_houseOf_0 rfl
theorem dX11_houseOf_0 : decode cX11_houseOf 0 = .ok (.iload_n 1, 1) := dc_27 aX11_houseOf_0
theorem dX11_houseOf_1 : decode cX11_houseOf 1 = .ok (.iconst 0, 1) := dc_3 (dc_nn (k := 1) aX11_houseOf_0 rfl)
theorem dX11_houseOf_2 : decode cX11_houseOf 2 = .ok (.sipush 359, 3) := dc_17 (a0 := 1) (b0 := 103) (dc_nn (k := 2) aX11_houseOf_0 rfl) (by decide)
theorem dX11_houseOf_5 : decode cX11_houseOf 5 = .ok (.invokestatic 96, 3) := dc_184 (a0 := 0) (b0 := 96) (dc_nn (k := 5) aX11_houseOf_0 rfl)
theorem dX11_houseOf_8 : decode cX11_houseOf 8 = .ok (.ifCond .eq 27, 3) := dc_153 (a0 := 0) (b0 := 27) (dc_nn (k := 8) aX11_houseOf_0 rfl) (by decide)
theorem dX11_houseOf_11 : decode cX11_houseOf 11 = .ok (.aload_n 0, 1) := dc_42 (dc_nn (k := 11) aX11_houseOf_0 rfl)
theorem dX11_houseOf_12 : decode cX11_houseOf 12 = .ok (.iload_n 2, 1) := dc_28 (dc_nn (k := 12) aX11_houseOf_0 rfl)
theorem dX11_houseOf_13 : decode cX11_houseOf 13 = .ok (.iload_n 3, 1) := dc_29 (dc_nn (k := 13) aX11_houseOf_0 rfl)
theorem dX11_houseOf_14 : decode cX11_houseOf 14 = .ok (.invokevirtual 230, 3) := dc_182 (a0 := 0) (b0 := 230) (dc_nn (k := 14) aX11_houseOf_0 rfl)
theorem dX11_houseOf_17 : decode cX11_houseOf 17 = .ok (.ifCond .eq 18, 3) := dc_153 (a0 := 0) (b0 := 18) (dc_nn (k := 17) aX11_houseOf_0 rfl) (by decide)
theorem dX11_houseOf_20 : decode cX11_houseOf 20 = .ok (.iload 4, 2) := dc_21 (a0 := 4) (dc_nn (k := 20) aX11_houseOf_0 rfl)
theorem dX11_houseOf_22 : decode cX11_houseOf 22 = .ok (.iconst 1, 1) := dc_4 (dc_nn (k := 22) aX11_houseOf_0 rfl)
theorem dX11_houseOf_23 : decode cX11_houseOf 23 = .ok (.bipush 12, 2) := dc_16 (a0 := 12) (dc_nn (k := 23) aX11_houseOf_0 rfl) (by decide)
theorem dX11_houseOf_25 : decode cX11_houseOf 25 = .ok (.invokestatic 96, 3) := dc_184 (a0 := 0) (b0 := 96) (dc_nn (k := 25) aX11_houseOf_0 rfl)
theorem dX11_houseOf_28 : decode cX11_houseOf 28 = .ok (.ifCond .eq 7, 3) := dc_153 (a0 := 0) (b0 := 7) (dc_nn (k := 28) aX11_houseOf_0 rfl) (by decide)
theorem dX11_houseOf_31 : decode cX11_houseOf 31 = .ok (.iconst 1, 1) := dc_4 (dc_nn (k := 31) aX11_houseOf_0 rfl)
theorem dX11_houseOf_32 : decode cX11_houseOf 32 = .ok (.goto 4, 3) := dc_167 (a0 := 0) (b0 := 4) (dc_nn (k := 32) aX11_houseOf_0 rfl) (by decide)
theorem dX11_houseOf_35 : decode cX11_houseOf 35 = .ok (.iconst 0, 1) := dc_3 (dc_nn (k := 35) aX11_houseOf_0 rfl)
theorem dX11_houseOf_36 : decode cX11_houseOf 36 = .ok (.invokestatic 168, 3) := dc_184 (a0 := 0) (b0 := 168) (dc_nn (k := 36) aX11_houseOf_0 rfl)
theorem dX11_houseOf_39 : decode cX11_houseOf 39 = .ok (.aload_n 0, 1) := dc_42 (dc_nn (k := 39) aX11_houseOf_0 rfl)
theorem dX11_houseOf_40 : decode cX11_houseOf 40 = .ok (.getfield 19, 3) := dc_180 (a0 := 0) (b0 := 19) aX11_houseOf_40
theorem dX11_houseOf_43 : decode cX11_houseOf 43 = .ok (.getfield 131, 3) := dc_180 (a0 := 0) (b0 := 131) (dc_nn (k := 3) aX11_houseOf_40 rfl)
theorem dX11_houseOf_46 : decode cX11_houseOf 46 = .ok (.iload_n 1, 1) := dc_27 (dc_nn (k := 6) aX11_houseOf_40 rfl)
theorem dX11_houseOf_47 : decode cX11_houseOf 47 = .ok (.iload_n 2, 1) := dc_28 (dc_nn (k := 7) aX11_houseOf_40 rfl)
theorem dX11_houseOf_48 : decode cX11_houseOf 48 = .ok (.iload_n 3, 1) := dc_29 (dc_nn (k := 8) aX11_houseOf_40 rfl)
theorem dX11_houseOf_49 : decode cX11_houseOf 49 = .ok (.iload 4, 2) := dc_21 (a0 := 4) (dc_nn (k := 9) aX11_houseOf_40 rfl)
theorem dX11_houseOf_51 : decode cX11_houseOf 51 = .ok (.invokevirtual 233, 3) := dc_182 (a0 := 0) (b0 := 233) (dc_nn (k := 11) aX11_houseOf_40 rfl)
theorem dX11_houseOf_54 : decode cX11_houseOf 54 = .ok (.ireturn, 1) := dc_172 (dc_nn (k := 14) aX11_houseOf_40 rfl)
set_option maxRecDepth 20000 in
theorem ggX11_agree_X11_numberOf : GoodIn wsX11_agree wsX11_numberOf := goodIn_ca (goodIn_k _ [[7, 0, 0], [6, 3, 0, 0, 0, 0, 0, 0, 0, 0]] (by rfl) (by decide +kernel)) (goodIn_sub (fun _ h => List.mem_cons_of_mem _ (List.mem_append_right _ h)) (by decide +kernel))
set_option maxRecDepth 20000 in
theorem gX11_agree_X11_numberOf : GoodIn wsX11_agree (va_wsS RX11 118 yX11_numberOf wsX11_numberOf) := goodIn_app (goodIn_k _ [[4, 0, 0]] (by rfl) (gw_S _ _ _ _)) ggX11_agree_X11_numberOf
set_option maxRecDepth 20000 in
theorem ggX11_agree_X11_isWay : GoodIn wsX11_agree wsX11_isWay := goodIn_k _ [[22], [11, 0], [6, 6, 9, 0, 0, 0], [2, 0, 23, 43, 0, 0, 0, 0, 0, 0, 0, 0, 0, 0, 0, 0, 0, 0, 0, 0, 0, 0, 0, 0]] (by rfl) (by decide +kernel)
set_option maxRecDepth 20000 in
theorem gX11_agree_X11_isWay : GoodIn wsX11_agree (wsV RX11 230 RX11 yX11_isWay wsX11_isWay) := goodIn_app (goodIn_k _ [[19, 0, 0], [6]] (by rfl) (gw_V _ _ _ _)) ggX11_agree_X11_isWay
set_option maxRecDepth 20000 in
theorem ggX11_agree_X11_need : GoodIn wsX11_agree wsX11_need := goodIn_ca (goodIn_k _ [[16, 0, 0]] (by rfl) (by decide +kernel)) (goodIn_sub (fun _ h => List.mem_cons_of_mem _ (List.mem_append_right _ h)) (by decide +kernel))
set_option maxRecDepth 20000 in
theorem gX11_agree_X11_need : GoodIn wsX11_agree (va_wsS RX11 168 yX11_need wsX11_need) := goodIn_app (goodIn_k _ [[14, 0], [6]] (by rfl) (gw_S _ _ _ _)) ggX11_agree_X11_need
set_option maxRecDepth 20000 in
theorem ggX11_agree_X1_degreeOf : GoodIn wsX11_agree wsX1_degreeOf := goodIn_k _ [[32, 0, 58, 0]] (by rfl) (by decide +kernel)
set_option maxRecDepth 20000 in
theorem gX11_agree_X1_degreeOf : GoodIn wsX11_agree (wsV RX11 175 RX1 yX1_degreeOf wsX1_degreeOf) := goodIn_app (goodIn_k _ [[28, 0, 0, 0]] (by rfl) (gw_V _ _ _ _)) ggX11_agree_X1_degreeOf
set_option maxRecDepth 20000 in
theorem ggX11_agree_X1_howManyHouses : GoodIn wsX11_agree wsX1_howManyHouses := goodIn_k _ [[37, 0], [29, 0, 0, 0, 0, 58, 0]] (by rfl) (by decide +kernel)
set_option maxRecDepth 20000 in
theorem gX11_agree_X1_howManyHouses : GoodIn wsX11_agree (wsV RX11 237 RX1 yX1_howManyHouses wsX1_howManyHouses) := goodIn_app (goodIn_k _ [[34, 0, 0], [31]] (by rfl) (gw_V _ _ _ _)) ggX11_agree_X1_howManyHouses
set_option maxRecDepth 20000 in
theorem ggX11_agree_X1_howManyDiffer : GoodIn wsX11_agree wsX1_howManyDiffer := goodIn_k _ [[42], [38], [29, 0, 0, 0, 0, 9, 0, 0, 0, 0, 0, 0, 0, 0, 0, 0, 0, 0, 0, 0, 0, 0, 0, 0, 0, 0, 0, 0, 0, 0, 0, 0, 0, 21, 0], [90, 0]] (by rfl) (by decide +kernel)
set_option maxRecDepth 20000 in
theorem gX11_agree_X1_howManyDiffer : GoodIn wsX11_agree (wsV RX11 240 RX1 yX1_howManyDiffer wsX1_howManyDiffer) := goodIn_app (goodIn_k _ [[39, 0, 0], [31]] (by rfl) (gw_V _ _ _ _)) ggX11_agree_X1_howManyDiffer
noncomputable def sX11_agree_40 : List Nat := 182 :: 0 :: 237 :: 42 :: 180 :: 0 :: 29 :: 42 :: 180 :: 0 :: 19 :: 180 :: 0 :: 131 :: 21 :: 5 :: 29 :: 21 :: 4 :: 182 :: 0 :: 240 :: 100 :: 172 :: []
noncomputable def sX11_agree_0 : List Nat := 27 :: 28 :: 184 :: 0 :: 118 :: 54 :: 5 :: 42 :: 29 :: 21 :: 4 :: 182 :: 0 :: 230 :: 184 :: 0 :: 168 :: 42 :: 180 :: 0 :: 29 :: 21 :: 5 :: 16 :: 7 :: 182 :: 0 :: 175 :: 2 :: 160 :: 0 :: 5 :: 2 :: 172 :: 42 :: 180 :: 0 :: 29 :: 21 :: 5 :: sX11_agree_40
theorem aX11_agree_0 : dc_at cX11_agree 0 sX11_agree_0 := dc_base (by decide +kernel)
theorem aX11_agree_40 : dc_at cX11_agree 40 sX11_agree_40 := dc_nn (k := 40) aX11_agree_0 rfl
theorem dX11_agree_0 : decode cX11_agree 0 = .ok (.iload_n 1, 1) := dc_27 aX11_agree_0
theorem dX11_agree_1 : decode cX11_agree 1 = .ok (.iload_n 2, 1) := dc_28 (dc_nn (k := 1) aX11_agree_0 rfl)
theorem dX11_agree_2 : decode cX11_agree 2 = .ok (.invokestatic 118, 3) := dc_184 (a0 := 0) (b0 := 118) (dc_nn (k := 2) aX11_agree_0 rfl)
theorem dX11_agree_5 : decode cX11_agree 5 = .ok (.istore 5, 2) := dc_54 (a0 := 5) (dc_nn (k := 5) aX11_agree_0 rfl)
theorem dX11_agree_7 : decode cX11_agree 7 = .ok (.aload_n 0, 1) := dc_42 (dc_nn (k := 7) aX11_agree_0 rfl)
theorem dX11_agree_8 : decode cX11_agree 8 = .ok (.iload_n 3, 1) := dc_29 (dc_nn (k := 8) aX11_agree_0 rfl)
theorem dX11_agree_9 : decode cX11_agree 9 = .ok (.iload 4, 2) := dc_21 (a0 := 4) (dc_nn (k := 9) aX11_agree_0 rfl)
theorem dX11_agree_11 : decode cX11_agree 11 = .ok (.invokevirtual 230, 3) := dc_182 (a0 := 0) (b0 := 230) (dc_nn (k := 11) aX11_agree_0 rfl)
theorem dX11_agree_14 : decode cX11_agree 14 = .ok (.invokestatic 168, 3) := dc_184 (a0 := 0) (b0 := 168) (dc_nn (k := 14) aX11_agree_0 rfl)
theorem dX11_agree_17 : decode cX11_agree 17 = .ok (.aload_n 0, 1) := dc_42 (dc_nn (k := 17) aX11_agree_0 rfl)
theorem dX11_agree_18 : decode cX11_agree 18 = .ok (.getfield 29, 3) := dc_180 (a0 := 0) (b0 := 29) (dc_nn (k := 18) aX11_agree_0 rfl)
theorem dX11_agree_21 : decode cX11_agree 21 = .ok (.iload 5, 2) := dc_21 (a0 := 5) (dc_nn (k := 21) aX11_agree_0 rfl)
theorem dX11_agree_23 : decode cX11_agree 23 = .ok (.bipush 7, 2) := dc_16 (a0 := 7) (dc_nn (k := 23) aX11_agree_0 rfl) (by decide)
theorem dX11_agree_25 : decode cX11_agree 25 = .ok (.invokevirtual 175, 3) := dc_182 (a0 := 0) (b0 := 175) (dc_nn (k := 25) aX11_agree_0 rfl)
theorem dX11_agree_28 : decode cX11_agree 28 = .ok (.iconst (-1), 1) := dc_2 (dc_nn (k := 28) aX11_agree_0 rfl)
theorem dX11_agree_29 : decode cX11_agree 29 = .ok (.if_icmp .ne 5, 3) := dc_160 (a0 := 0) (b0 := 5) (dc_nn (k := 29) aX11_agree_0 rfl) (by decide)
theorem dX11_agree_32 : decode cX11_agree 32 = .ok (.iconst (-1), 1) := dc_2 (dc_nn (k := 32) aX11_agree_0 rfl)
theorem dX11_agree_33 : decode cX11_agree 33 = .ok (.ireturn, 1) := dc_172 (dc_nn (k := 33) aX11_agree_0 rfl)
theorem dX11_agree_34 : decode cX11_agree 34 = .ok (.aload_n 0, 1) := dc_42 (dc_nn (k := 34) aX11_agree_0 rfl)
theorem dX11_agree_35 : decode cX11_agree 35 = .ok (.getfield 29, 3) := dc_180 (a0 := 0) (b0 := 29) (dc_nn (k := 35) aX11_agree_0 rfl)
theorem dX11_agree_38 : decode cX11_agree 38 = .ok (.iload 5, 2) := dc_21 (a0 := 5) (dc_nn (k := 38) aX11_agree_0 rfl)
theorem dX11_agree_40 : decode cX11_agree 40 = .ok (.invokevirtual 237, 3) := dc_182 (a0 := 0) (b0 := 237) aX11_agree_40
theorem dX11_agree_43 : decode cX11_agree 43 = .ok (.aload_n 0, 1) := dc_42 (dc_nn (k := 3) aX11_agree_40 rfl)
theorem dX11_agree_44 : decode cX11_agree 44 = .ok (.getfield 29, 3) := dc_180 (a0 := 0) (b0 := 29) (dc_nn (k := 4) aX11_agree_40 rfl)
theorem dX11_agree_47 : decode cX11_agree 47 = .ok (.aload_n 0, 1) := dc_42 (dc_nn (k := 7) aX11_agree_40 rfl)
theorem dX11_agree_48 : decode cX11_agree 48 = .ok (.getfield 19, 3) := dc_180 (a0 := 0) (b0 := 19) (dc_nn (k := 8) aX11_agree_40 rfl)
theorem dX11_agree_51 : decode cX11_agree 51 = .ok (.getfield 131, 3) := dc_180 (a0 := 0) (b0 := 131) (dc_nn (k := 11) aX11_agree_40 rfl)
theorem dX11_agree_54 : decode cX11_agree 54 = .ok (.iload 5, 2) := dc_21 (a0 := 5) (dc_nn (k := 14) aX11_agree_40 rfl)
theorem dX11_agree_56 : decode cX11_agree 56 = .ok (.iload_n 3, 1) := dc_29 (dc_nn (k := 16) aX11_agree_40 rfl)
theorem dX11_agree_57 : decode cX11_agree 57 = .ok (.iload 4, 2) := dc_21 (a0 := 4) (dc_nn (k := 17) aX11_agree_40 rfl)
theorem dX11_agree_59 : decode cX11_agree 59 = .ok (.invokevirtual 240, 3) := dc_182 (a0 := 0) (b0 := 240) (dc_nn (k := 19) aX11_agree_40 rfl)
theorem dX11_agree_62 : decode cX11_agree 62 = .ok (.isub, 1) := dc_100 (dc_nn (k := 22) aX11_agree_40 rfl)
theorem dX11_agree_63 : decode cX11_agree 63 = .ok (.ireturn, 1) := dc_172 (dc_nn (k := 23) aX11_agree_40 rfl)
set_option maxRecDepth 20000 in
theorem ggX11_lot_X11_numberOf : GoodIn wsX11_lot wsX11_numberOf := goodIn_ca (goodIn_k _ [[7, 0, 0], [6, 3, 0, 0, 0, 0, 0, 0, 0, 0]] (by rfl) (by decide +kernel)) (goodIn_sub (fun _ h => List.mem_cons_of_mem _ (List.mem_append_right _ h)) (by decide +kernel))
set_option maxRecDepth 20000 in
theorem gX11_lot_X11_numberOf : GoodIn wsX11_lot (va_wsS RX11 118 yX11_numberOf wsX11_numberOf) := goodIn_app (goodIn_k _ [[4, 0, 0]] (by rfl) (gw_S _ _ _ _)) ggX11_lot_X11_numberOf
set_option maxRecDepth 20000 in
theorem ggX11_lot_X11_within : GoodIn wsX11_lot wsX11_within := goodIn_k _ [[13]] (by rfl) (by decide +kernel)
set_option maxRecDepth 20000 in
theorem gX11_lot_X11_within : GoodIn wsX11_lot (va_wsS RX11 96 yX11_within wsX11_within) := goodIn_app (goodIn_k _ [[11, 0], [6]] (by rfl) (gw_S _ _ _ _)) ggX11_lot_X11_within
set_option maxRecDepth 20000 in
theorem ggX11_lot_X11_need : GoodIn wsX11_lot wsX11_need := goodIn_ca (goodIn_k _ [[16, 0, 0]] (by rfl) (by decide +kernel)) (goodIn_sub (fun _ h => List.mem_cons_of_mem _ (List.mem_append_right _ h)) (by decide +kernel))
set_option maxRecDepth 20000 in
theorem gX11_lot_X11_need : GoodIn wsX11_lot (va_wsS RX11 168 yX11_need wsX11_need) := goodIn_app (goodIn_k _ [[14, 0], [6]] (by rfl) (gw_S _ _ _ _)) ggX11_lot_X11_need
set_option maxRecDepth 20000 in
theorem ggX11_lot_X1_lotOf : GoodIn wsX11_lot wsX1_lotOf := goodIn_k _ [[23, 0, 0, 0], [22, 4, 0, 0, 0, 0, 0, 34, 0]] (by rfl) (by decide +kernel)
set_option maxRecDepth 20000 in
theorem gX11_lot_X1_lotOf : GoodIn wsX11_lot (wsV RX11 244 RX1 yX1_lotOf wsX1_lotOf) := goodIn_app (goodIn_k _ [[19, 0, 0, 0]] (by rfl) (gw_V _ _ _ _)) ggX11_lot_X1_lotOf
set_option maxRecDepth 20000 in
theorem ggX11_lot_X1_degreeOf : GoodIn wsX11_lot wsX1_degreeOf := goodIn_k _ [[27, 0, 38, 0]] (by rfl) (by decide +kernel)
set_option maxRecDepth 20000 in
theorem gX11_lot_X1_degreeOf : GoodIn wsX11_lot (wsV RX11 175 RX1 yX1_degreeOf wsX1_degreeOf) := goodIn_app (goodIn_k _ [[33], [25, 0], [22]] (by rfl) (gw_V _ _ _ _)) ggX11_lot_X1_degreeOf
set_option maxRecDepth 20000 in
theorem ggX11_lot_X4_costBeside : GoodIn wsX11_lot wsX4_costBeside := goodIn_k _ [[38, 0, 0, 0], [37, 4, 0, 0, 0, 0, 0, 21, 0]] (by rfl) (by decide +kernel)
set_option maxRecDepth 20000 in
theorem gX11_lot_X4_costBeside : GoodIn wsX11_lot (wsV RX11 247 RX4 yX4_costBeside wsX4_costBeside) := goodIn_app (goodIn_k _ [[34, 0, 0, 0]] (by rfl) (gw_V _ _ _ _)) ggX11_lot_X4_costBeside
noncomputable def sX11_lot_40 : List Nat := 42 :: 180 :: 0 :: 29 :: 21 :: 4 :: 16 :: 8 :: 182 :: 0 :: 175 :: 54 :: 6 :: 21 :: 6 :: 2 :: 160 :: 0 :: 7 :: 2 :: 167 :: 0 :: 17 :: 42 :: 180 :: 0 :: 19 :: 180 :: 0 :: 140 :: 21 :: 6 :: 21 :: 5 :: 182 :: 0 :: 247 :: 172 :: []
noncomputable def sX11_lot_0 : List Nat := 27 :: 28 :: 184 :: 0 :: 118 :: 54 :: 4 :: 29 :: 3 :: 4 :: 184 :: 0 :: 96 :: 184 :: 0 :: 168 :: 42 :: 180 :: 0 :: 29 :: 21 :: 4 :: 182 :: 0 :: 244 :: 54 :: 5 :: 29 :: 153 :: 0 :: 9 :: 21 :: 5 :: 2 :: 160 :: 0 :: 6 :: 21 :: 5 :: 172 :: sX11_lot_40
theorem aX11_lot_0 : dc_at cX11_lot 0 sX11_lot_0 := dc_base (by decide +kernel)
theorem aX11_lot_40 : dc_at cX11_lot 40 sX11_lot_40 := dc_nn (k := 40) aX11_lot_0 rfl
theorem dX11_lot_0 : decode cX11_lot 0 = .ok (.iload_n 1, 1) := dc_27 aX11_lot_0
theorem dX11_lot_1 : decode cX11_lot 1 = .ok (.iload_n 2, 1) := dc_28 (dc_nn (k := 1) aX11_lot_0 rfl)
theorem dX11_lot_2 : decode cX11_lot 2 = .ok (.invokestatic 118, 3) := dc_184 (a0 := 0) (b0 := 118) (dc_nn (k := 2) aX11_lot_0 rfl)
theorem dX11_lot_5 : decode cX11_lot 5 = .ok (.istore 4, 2) := dc_54 (a0 := 4) (dc_nn (k := 5) aX11_lot_0 rfl)
theorem dX11_lot_7 : decode cX11_lot 7 = .ok (.iload_n 3, 1) := dc_29 (dc_nn (k := 7) aX11_lot_0 rfl)
theorem dX11_lot_8 : decode cX11_lot 8 = .ok (.iconst 0, 1) := dc_3 (dc_nn (k := 8) aX11_lot_0 rfl)
theorem dX11_lot_9 : decode cX11_lot 9 = .ok (.iconst 1, 1) := dc_4 (dc_nn (k := 9) aX11_lot_0 rfl)
theorem dX11_lot_10 : decode cX11_lot 10 = .ok (.invokestatic 96, 3) := dc_184 (a0 := 0) (b0 := 96) (dc_nn (k := 10) aX11_lot_0 rfl)
theorem dX11_lot_13 : decode cX11_lot 13 = .ok (.invokestatic 168, 3) := dc_184 (a0 := 0) (b0 := 168) (dc_nn (k := 13) aX11_lot_0 rfl)
theorem dX11_lot_16 : decode cX11_lot 16 = .ok (.aload_n 0, 1) := dc_42 (dc_nn (k := 16) aX11_lot_0 rfl)
theorem dX11_lot_17 : decode cX11_lot 17 = .ok (.getfield 29, 3) := dc_180 (a0 := 0) (b0 := 29) (dc_nn (k := 17) aX11_lot_0 rfl)
theorem dX11_lot_20 : decode cX11_lot 20 = .ok (.iload 4, 2) := dc_21 (a0 := 4) (dc_nn (k := 20) aX11_lot_0 rfl)
theorem dX11_lot_22 : decode cX11_lot 22 = .ok (.invokevirtual 244, 3) := dc_182 (a0 := 0) (b0 := 244) (dc_nn (k := 22) aX11_lot_0 rfl)
theorem dX11_lot_25 : decode cX11_lot 25 = .ok (.istore 5, 2) := dc_54 (a0 := 5) (dc_nn (k := 25) aX11_lot_0 rfl)
theorem dX11_lot_27 : decode cX11_lot 27 = .ok (.iload_n 3, 1) := dc_29 (dc_nn (k := 27) aX11_lot_0 rfl)
theorem dX11_lot_28 : decode cX11_lot 28 = .ok (.ifCond .eq 9, 3) := dc_153 (a0 := 0) (b0 := 9) (dc_nn (k := 28) aX11_lot_0 rfl) (by decide)
theorem dX11_lot_31 : decode cX11_lot 31 = .ok (.iload 5, 2) := dc_21 (a0 := 5) (dc_nn (k := 31) aX11_lot_0 rfl)
theorem dX11_lot_33 : decode cX11_lot 33 = .ok (.iconst (-1), 1) := dc_2 (dc_nn (k := 33) aX11_lot_0 rfl)
theorem dX11_lot_34 : decode cX11_lot 34 = .ok (.if_icmp .ne 6, 3) := dc_160 (a0 := 0) (b0 := 6) (dc_nn (k := 34) aX11_lot_0 rfl) (by decide)
theorem dX11_lot_37 : decode cX11_lot 37 = .ok (.iload 5, 2) := dc_21 (a0 := 5) (dc_nn (k := 37) aX11_lot_0 rfl)
theorem dX11_lot_39 : decode cX11_lot 39 = .ok (.ireturn, 1) := dc_172 (dc_nn (k := 39) aX11_lot_0 rfl)
theorem dX11_lot_40 : decode cX11_lot 40 = .ok (.aload_n 0, 1) := dc_42 aX11_lot_40
theorem dX11_lot_41 : decode cX11_lot 41 = .ok (.getfield 29, 3) := dc_180 (a0 := 0) (b0 := 29) (dc_nn (k := 1) aX11_lot_40 rfl)
theorem dX11_lot_44 : decode cX11_lot 44 = .ok (.iload 4, 2) := dc_21 (a0 := 4) (dc_nn (k := 4) aX11_lot_40 rfl)
theorem dX11_lot_46 : decode cX11_lot 46 = .ok (.bipush 8, 2) := dc_16 (a0 := 8) (dc_nn (k := 6) aX11_lot_40 rfl) (by decide)
theorem dX11_lot_48 : decode cX11_lot 48 = .ok (.invokevirtual 175, 3) := dc_182 (a0 := 0) (b0 := 175) (dc_nn (k := 8) aX11_lot_40 rfl)
theorem dX11_lot_51 : decode cX11_lot 51 = .ok (.istore 6, 2) := dc_54 (a0 := 6) (dc_nn (k := 11) aX11_lot_40 rfl)
theorem dX11_lot_53 : decode cX11_lot 53 = .ok (.iload 6, 2) := dc_21 (a0 := 6) (dc_nn (k := 13) aX11_lot_40 rfl)
theorem dX11_lot_55 : decode cX11_lot 55 = .ok (.iconst (-1), 1) := dc_2 (dc_nn (k := 15) aX11_lot_40 rfl)
theorem dX11_lot_56 : decode cX11_lot 56 = .ok (.if_icmp .ne 7, 3) := dc_160 (a0 := 0) (b0 := 7) (dc_nn (k := 16) aX11_lot_40 rfl) (by decide)
theorem dX11_lot_59 : decode cX11_lot 59 = .ok (.iconst (-1), 1) := dc_2 (dc_nn (k := 19) aX11_lot_40 rfl)
theorem dX11_lot_60 : decode cX11_lot 60 = .ok (.goto 17, 3) := dc_167 (a0 := 0) (b0 := 17) (dc_nn (k := 20) aX11_lot_40 rfl) (by decide)
theorem dX11_lot_63 : decode cX11_lot 63 = .ok (.aload_n 0, 1) := dc_42 (dc_nn (k := 23) aX11_lot_40 rfl)
theorem dX11_lot_64 : decode cX11_lot 64 = .ok (.getfield 19, 3) := dc_180 (a0 := 0) (b0 := 19) (dc_nn (k := 24) aX11_lot_40 rfl)
theorem dX11_lot_67 : decode cX11_lot 67 = .ok (.getfield 140, 3) := dc_180 (a0 := 0) (b0 := 140) (dc_nn (k := 27) aX11_lot_40 rfl)
theorem dX11_lot_70 : decode cX11_lot 70 = .ok (.iload 6, 2) := dc_21 (a0 := 6) (dc_nn (k := 30) aX11_lot_40 rfl)
theorem dX11_lot_72 : decode cX11_lot 72 = .ok (.iload 5, 2) := dc_21 (a0 := 5) (dc_nn (k := 32) aX11_lot_40 rfl)
theorem dX11_lot_74 : decode cX11_lot 74 = .ok (.invokevirtual 247, 3) := dc_182 (a0 := 0) (b0 := 247) (dc_nn (k := 34) aX11_lot_40 rfl)
theorem dX11_lot_77 : decode cX11_lot 77 = .ok (.ireturn, 1) := dc_172 (dc_nn (k := 37) aX11_lot_40 rfl)
set_option maxRecDepth 20000 in
theorem ggX11_price_X11_isBook : GoodIn wsX11_price wsX11_isBook := goodIn_k _ [[7, 0, 0], [6, 3]] (by rfl) (by decide +kernel)
set_option maxRecDepth 20000 in
theorem gX11_price_X11_isBook : GoodIn wsX11_price (va_wsS RX11 250 yX11_isBook wsX11_isBook) := goodIn_app (goodIn_k _ [[4, 0, 0]] (by rfl) (gw_S _ _ _ _)) ggX11_price_X11_isBook
set_option maxRecDepth 20000 in
theorem ggX11_price_X11_need : GoodIn wsX11_price wsX11_need := goodIn_ca (goodIn_k _ [[13, 0, 0]] (by rfl) (by decide +kernel)) (goodIn_sub (fun _ h => List.mem_cons_of_mem _ (List.mem_append_right _ h)) (by decide +kernel))
set_option maxRecDepth 20000 in
theorem gX11_price_X11_need : GoodIn wsX11_price (va_wsS RX11 168 yX11_need wsX11_need) := goodIn_app (goodIn_k _ [[11, 0], [6]] (by rfl) (gw_S _ _ _ _)) ggX11_price_X11_need
set_option maxRecDepth 20000 in
theorem ggX11_price_X10_priceOf : GoodIn wsX11_price wsX10_priceOf := goodIn_k _ [[19, 0, 0, 0, 0, 0, 0, 0, 0], [18, 9, 0, 0, 0, 0, 0, 0, 0, 0, 0, 0, 0, 0, 0, 0, 19, 0, 0, 0]] (by rfl) (by decide +kernel)
set_option maxRecDepth 20000 in
theorem gX11_price_X10_priceOf : GoodIn wsX11_price (va_wsS RX11 253 yX10_priceOf wsX10_priceOf) := goodIn_app (goodIn_k _ [[16, 0, 0]] (by rfl) (gw_S _ _ _ _)) ggX11_price_X10_priceOf
noncomputable def sX11_price_0 : List Nat := 27 :: 184 :: 0 :: 250 :: 153 :: 0 :: 14 :: 28 :: 184 :: 0 :: 250 :: 153 :: 0 :: 7 :: 4 :: 167 :: 0 :: 4 :: 3 :: 184 :: 0 :: 168 :: 42 :: 180 :: 0 :: 19 :: 180 :: 0 :: 140 :: 42 :: 180 :: 0 :: 29 :: 27 :: 28 :: 184 :: 0 :: 253 :: 172 :: []
theorem aX11_price_0 : dc_at cX11_price 0 sX11_price_0 := dc_base (by decide +kernel)
theorem dX11_price_0 : decode cX11_price 0 = .ok (.iload_n 1, 1) := dc_27 aX11_price_0
theorem dX11_price_1 : decode cX11_price 1 = .ok (.invokestatic 250, 3) := dc_184 (a0 := 0) (b0 := 250) (dc_nn (k := 1) aX11_price_0 rfl)
theorem dX11_price_4 : decode cX11_price 4 = .ok (.ifCond .eq 14, 3) := dc_153 (a0 := 0) (b0 := 14) (dc_nn (k := 4) aX11_price_0 rfl) (by decide)
theorem dX11_price_7 : decode cX11_price 7 = .ok (.iload_n 2, 1) := dc_28 (dc_nn (k := 7) aX11_price_0 rfl)
theorem dX11_price_8 : decode cX11_price 8 = .ok (.invokestatic 250, 3) := dc_184 (a0 := 0) (b0 := 250) (dc_nn (k := 8) aX11_price_0 rfl)
theorem dX11_price_11 : decode cX11_price 11 = .ok (.ifCond .eq 7, 3) := dc_153 (a0 := 0) (b0 := 7) (dc_nn (k := 11) aX11_price_0 rfl) (by decide)
theorem dX11_price_14 : decode cX11_price 14 = .ok (.iconst 1, 1) := dc_4 (dc_nn (k := 14) aX11_price_0 rfl)
theorem dX11_price_15 : decode cX11_price 15 = .ok (.goto 4, 3) := dc_167 (a0 := 0) (b0 := 4) (dc_nn (k := 15) aX11_price_0 rfl) (by decide)
theorem dX11_price_18 : decode cX11_price 18 = .ok (.iconst 0, 1) := dc_3 (dc_nn (k := 18) aX11_price_0 rfl)
theorem dX11_price_19 : decode cX11_price 19 = .ok (.invokestatic 168, 3) := dc_184 (a0 := 0) (b0 := 168) (dc_nn (k := 19) aX11_price_0 rfl)
theorem dX11_price_22 : decode cX11_price 22 = .ok (.aload_n 0, 1) := dc_42 (dc_nn (k := 22) aX11_price_0 rfl)
theorem dX11_price_23 : decode cX11_price 23 = .ok (.getfield 19, 3) := dc_180 (a0 := 0) (b0 := 19) (dc_nn (k := 23) aX11_price_0 rfl)
theorem dX11_price_26 : decode cX11_price 26 = .ok (.getfield 140, 3) := dc_180 (a0 := 0) (b0 := 140) (dc_nn (k := 26) aX11_price_0 rfl)
theorem dX11_price_29 : decode cX11_price 29 = .ok (.aload_n 0, 1) := dc_42 (dc_nn (k := 29) aX11_price_0 rfl)
theorem dX11_price_30 : decode cX11_price 30 = .ok (.getfield 29, 3) := dc_180 (a0 := 0) (b0 := 29) (dc_nn (k := 30) aX11_price_0 rfl)
theorem dX11_price_33 : decode cX11_price 33 = .ok (.iload_n 1, 1) := dc_27 (dc_nn (k := 33) aX11_price_0 rfl)
theorem dX11_price_34 : decode cX11_price 34 = .ok (.iload_n 2, 1) := dc_28 (dc_nn (k := 34) aX11_price_0 rfl)
theorem dX11_price_35 : decode cX11_price 35 = .ok (.invokestatic 253, 3) := dc_184 (a0 := 0) (b0 := 253) (dc_nn (k := 35) aX11_price_0 rfl)
theorem dX11_price_38 : decode cX11_price 38 = .ok (.ireturn, 1) := dc_172 (dc_nn (k := 38) aX11_price_0 rfl)
set_option maxRecDepth 20000 in
theorem ggX11_seek_X11_numberOf : GoodIn wsX11_seek wsX11_numberOf := goodIn_ca (goodIn_k _ [[5, 0, 0], [4, 3, 0, 0, 0, 0, 0, 0, 0, 0]] (by rfl) (by decide +kernel)) (goodIn_sub (fun _ h => List.mem_cons_of_mem _ (List.mem_append_right _ h)) (by decide +kernel))
set_option maxRecDepth 20000 in
theorem gX11_seek_X11_numberOf : GoodIn wsX11_seek (va_wsS RX11 118 yX11_numberOf wsX11_numberOf) := goodIn_app (goodIn_k _ [[2, 0, 0]] (by rfl) (gw_S _ _ _ _)) ggX11_seek_X11_numberOf
set_option maxRecDepth 20000 in
theorem ggX11_seek_X11_within : GoodIn wsX11_seek wsX11_within := goodIn_k _ [[11]] (by rfl) (by decide +kernel)
set_option maxRecDepth 20000 in
theorem gX11_seek_X11_within : GoodIn wsX11_seek (va_wsS RX11 96 yX11_within wsX11_within) := goodIn_app (goodIn_k _ [[9, 0], [4]] (by rfl) (gw_S _ _ _ _)) ggX11_seek_X11_within
set_option maxRecDepth 20000 in
theorem ggX11_seek_X11_isDay : GoodIn wsX11_seek wsX11_isDay := goodIn_k _ [[19, 0], [9, 0], [4, 6]] (by rfl) (by decide +kernel)
set_option maxRecDepth 20000 in
theorem gX11_seek_X11_isDay : GoodIn wsX11_seek (va_wsS RX11 164 yX11_isDay wsX11_isDay) := goodIn_app (goodIn_k _ [[17, 0], [4]] (by rfl) (gw_S _ _ _ _)) ggX11_seek_X11_isDay
set_option maxRecDepth 20000 in
theorem ggX11_seek_X11_need : GoodIn wsX11_seek wsX11_need := goodIn_ca (goodIn_k _ [[14, 0, 0]] (by rfl) (by decide +kernel)) (goodIn_sub (fun _ h => List.mem_cons_of_mem _ (List.mem_append_right _ h)) (by decide +kernel))
set_option maxRecDepth 20000 in
theorem gX11_seek_X11_need : GoodIn wsX11_seek (va_wsS RX11 168 yX11_need wsX11_need) := goodIn_app (goodIn_k _ [[12, 0], [4]] (by rfl) (gw_S _ _ _ _)) ggX11_seek_X11_need
set_option maxRecDepth 20000 in
theorem ggX11_seek_X8_begin : GoodIn wsX11_seek wsX8_begin := goodIn_k _ [[25, 0, 0, 0, 0, 0, 0, 0, 13, 0, 0, 0, 0, 0, 0, 0]] (by rfl) (by decide +kernel)
set_option maxRecDepth 20000 in
theorem gX11_seek_X8_begin : GoodIn wsX11_seek (wsV RX11 186 RX8 yX8_begin wsX8_begin) := goodIn_app (goodIn_k _ [[21, 0, 0, 0]] (by rfl) (gw_V _ _ _ _)) ggX11_seek_X8_begin
noncomputable def sX11_seek_41 : List Nat := 182 :: 0 :: 186 :: 177 :: []
noncomputable def sX11_seek_0 : List Nat := 27 :: 28 :: 184 :: 0 :: 118 :: 54 :: 5 :: 29 :: 3 :: 6 :: 184 :: 0 :: 96 :: 153 :: 0 :: 15 :: 21 :: 4 :: 184 :: 0 :: 164 :: 153 :: 0 :: 7 :: 4 :: 167 :: 0 :: 4 :: 3 :: 184 :: 0 :: 168 :: 42 :: 180 :: 0 :: 50 :: 21 :: 5 :: 29 :: 21 :: 4 :: sX11_seek_41
theorem aX11_seek_0 : dc_at cX11_seek 0 sX11_seek_0 := dc_base (by decide +kernel)
theorem aX11_seek_41 : dc_at cX11_seek 41 sX11_seek_41 := dc_nn (k := 41) aX11_seek_0 rfl
theorem dX11_seek_0 : decode cX11_seek 0 = .ok (.iload_n 1, 1) := dc_27 aX11_seek_0
theorem dX11_seek_1 : decode cX11_seek 1 = .ok (.iload_n 2, 1) := dc_28 (dc_nn (k := 1) aX11_seek_0 rfl)
theorem dX11_seek_2 : decode cX11_seek 2 = .ok (.invokestatic 118, 3) := dc_184 (a0 := 0) (b0 := 118) (dc_nn (k := 2) aX11_seek_0 rfl)
theorem dX11_seek_5 : decode cX11_seek 5 = .ok (.istore 5, 2) := dc_54 (a0 := 5) (dc_nn (k := 5) aX11_seek_0 rfl)
theorem dX11_seek_7 : decode cX11_seek 7 = .ok (.iload_n 3, 1) := dc_29 (dc_nn (k := 7) aX11_seek_0 rfl)
theorem dX11_seek_8 : decode cX11_seek 8 = .ok (.iconst 0, 1) := dc_3 (dc_nn (k := 8) aX11_seek_0 rfl)
theorem dX11_seek_9 : decode cX11_seek 9 = .ok (.iconst 3, 1) := dc_6 (dc_nn (k := 9) aX11_seek_0 rfl)
theorem dX11_seek_10 : decode cX11_seek 10 = .ok (.invokestatic 96, 3) := dc_184 (a0 := 0) (b0 := 96) (dc_nn (k := 10) aX11_seek_0 rfl)
theorem dX11_seek_13 : decode cX11_seek 13 = .ok (.ifCond .eq 15, 3) := dc_153 (a0 := 0) (b0 := 15) (dc_nn (k := 13) aX11_seek_0 rfl) (by decide)
theorem dX11_seek_16 : decode cX11_seek 16 = .ok (.iload 4, 2) := dc_21 (a0 := 4) (dc_nn (k := 16) aX11_seek_0 rfl)
theorem dX11_seek_18 : decode cX11_seek 18 = .ok (.invokestatic 164, 3) := dc_184 (a0 := 0) (b0 := 164) (dc_nn (k := 18) aX11_seek_0 rfl)
theorem dX11_seek_21 : decode cX11_seek 21 = .ok (.ifCond .eq 7, 3) := dc_153 (a0 := 0) (b0 := 7) (dc_nn (k := 21) aX11_seek_0 rfl) (by decide)
theorem dX11_seek_24 : decode cX11_seek 24 = .ok (.iconst 1, 1) := dc_4 (dc_nn (k := 24) aX11_seek_0 rfl)
theorem dX11_seek_25 : decode cX11_seek 25 = .ok (.goto 4, 3) := dc_167 (a0 := 0) (b0 := 4) (dc_nn (k := 25) aX11_seek_0 rfl) (by decide)
theorem dX11_seek_28 : decode cX11_seek 28 = .ok (.iconst 0, 1) := dc_3 (dc_nn (k := 28) aX11_seek_0 rfl)
theorem dX11_seek_29 : decode cX11_seek 29 = .ok (.invokestatic 168, 3) := dc_184 (a0 := 0) (b0 := 168) (dc_nn (k := 29) aX11_seek_0 rfl)
theorem dX11_seek_32 : decode cX11_seek 32 = .ok (.aload_n 0, 1) := dc_42 (dc_nn (k := 32) aX11_seek_0 rfl)
theorem dX11_seek_33 : decode cX11_seek 33 = .ok (.getfield 50, 3) := dc_180 (a0 := 0) (b0 := 50) (dc_nn (k := 33) aX11_seek_0 rfl)
theorem dX11_seek_36 : decode cX11_seek 36 = .ok (.iload 5, 2) := dc_21 (a0 := 5) (dc_nn (k := 36) aX11_seek_0 rfl)
theorem dX11_seek_38 : decode cX11_seek 38 = .ok (.iload_n 3, 1) := dc_29 (dc_nn (k := 38) aX11_seek_0 rfl)
theorem dX11_seek_39 : decode cX11_seek 39 = .ok (.iload 4, 2) := dc_21 (a0 := 4) (dc_nn (k := 39) aX11_seek_0 rfl)
theorem dX11_seek_41 : decode cX11_seek 41 = .ok (.invokevirtual 186, 3) := dc_182 (a0 := 0) (b0 := 186) aX11_seek_41
theorem dX11_seek_44 : decode cX11_seek 44 = .ok (.return_, 1) := dc_177 (dc_nn (k := 3) aX11_seek_41 rfl)
set_option maxRecDepth 20000 in
theorem ggX11_on_X11_need : GoodIn wsX11_on wsX11_need := goodIn_ca (goodIn_k _ [[9, 0, 0]] (by rfl) (by decide +kernel)) (goodIn_sub (fun _ h => List.mem_cons_of_mem _ (List.mem_append_left _ (List.mem_append_right _ h))) (by decide +kernel))
set_option maxRecDepth 20000 in
theorem gX11_on_X11_need : GoodIn wsX11_on (va_wsS RX11 168 yX11_need wsX11_need) := goodIn_app (goodIn_k _ [[6, 0, 0]] (by rfl) (gw_S _ _ _ _)) ggX11_on_X11_need
set_option maxRecDepth 20000 in
theorem ggX11_on_X11_within : GoodIn wsX11_on wsX11_within := goodIn_k _ [[14]] (by rfl) (by decide +kernel)
set_option maxRecDepth 20000 in
theorem gX11_on_X11_within : GoodIn wsX11_on (va_wsS RX11 96 yX11_within wsX11_within) := goodIn_app (goodIn_k _ [[12, 0], [8]] (by rfl) (gw_S _ _ _ _)) ggX11_on_X11_within
set_option maxRecDepth 20000 in
theorem ggX11_on_X11_allow : GoodIn wsX11_on wsX11_allow := goodIn_ca (goodIn_k _ [[17, 0, 0]] (by rfl) (by decide +kernel)) (goodIn_sub (fun _ h => List.mem_cons_of_mem _ (List.mem_append_right _ h)) (by decide +kernel))
set_option maxRecDepth 20000 in
theorem gX11_on_X11_allow : GoodIn wsX11_on (va_wsS RX11 100 yX11_allow wsX11_allow) := goodIn_app (goodIn_k _ [[15, 0], [8]] (by rfl) (gw_S _ _ _ _)) ggX11_on_X11_allow
set_option maxRecDepth 20000 in
theorem ggX11_on_X8_goOn : GoodIn wsX11_on wsX8_goOn := goodIn_k _ [[24, 0, 0, 0, 0, 0, 0, 0, 0, 0, 0, 0, 0, 0, 0, 0, 0, 0, 0, 0, 0, 0, 0, 0, 0, 0, 0, 0, 0, 0, 0, 0, 0, 0, 0, 0, 0, 0, 0, 0, 0, 0, 0, 0, 0, 0, 0, 0, 0, 0, 0, 0, 0, 0, 0, 0, 0, 0, 0, 0, 0, 0, 0, 0, 0], [23, 65, 0, 0, 0, 13, 0, 0, 0, 0, 0, 0, 0, 0, 0, 0, 0, 0, 0, 0, 0, 0, 0]] (by rfl) (by decide +kernel)
set_option maxRecDepth 20000 in
theorem gX11_on_X8_goOn : GoodIn wsX11_on (wsV RX11 189 RX8 yX8_goOn wsX8_goOn) := goodIn_app (goodIn_k _ [[20, 0, 0, 0]] (by rfl) (gw_V _ _ _ _)) ggX11_on_X8_goOn
noncomputable def sX11_on_0 : List Nat := 42 :: 180 :: 0 :: 50 :: 180 :: 0 :: 196 :: 184 :: 0 :: 168 :: 27 :: 3 :: 19 :: 1 :: 1 :: 184 :: 0 :: 96 :: 184 :: 0 :: 100 :: 42 :: 180 :: 0 :: 50 :: 42 :: 180 :: 0 :: 19 :: 42 :: 180 :: 0 :: 29 :: 27 :: 182 :: 0 :: 189 :: 172 :: []
theorem aX11_on_0 : dc_at cX11_on 0 sX11_on_0 := dc_base (by decide +kernel)
theorem dX11_on_0 : decode cX11_on 0 = .ok (.aload_n 0, 1) := dc_42 aX11_on_0
theorem dX11_on_1 : decode cX11_on 1 = .ok (.getfield 50, 3) := dc_180 (a0 := 0) (b0 := 50) (dc_nn (k := 1) aX11_on_0 rfl)
theorem dX11_on_4 : decode cX11_on 4 = .ok (.getfield 196, 3) := dc_180 (a0 := 0) (b0 := 196) (dc_nn (k := 4) aX11_on_0 rfl)
theorem dX11_on_7 : decode cX11_on 7 = .ok (.invokestatic 168, 3) := dc_184 (a0 := 0) (b0 := 168) (dc_nn (k := 7) aX11_on_0 rfl)
theorem dX11_on_10 : decode cX11_on 10 = .ok (.iload_n 1, 1) := dc_27 (dc_nn (k := 10) aX11_on_0 rfl)
theorem dX11_on_11 : decode cX11_on 11 = .ok (.iconst 0, 1) := dc_3 (dc_nn (k := 11) aX11_on_0 rfl)
theorem dX11_on_12 : decode cX11_on 12 = .ok (.ldc_w 257, 3) := dc_19 (a0 := 1) (b0 := 1) (dc_nn (k := 12) aX11_on_0 rfl)
theorem dX11_on_15 : decode cX11_on 15 = .ok (.invokestatic 96, 3) := dc_184 (a0 := 0) (b0 := 96) (dc_nn (k := 15) aX11_on_0 rfl)
theorem dX11_on_18 : decode cX11_on 18 = .ok (.invokestatic 100, 3) := dc_184 (a0 := 0) (b0 := 100) (dc_nn (k := 18) aX11_on_0 rfl)
theorem dX11_on_21 : decode cX11_on 21 = .ok (.aload_n 0, 1) := dc_42 (dc_nn (k := 21) aX11_on_0 rfl)
theorem dX11_on_22 : decode cX11_on 22 = .ok (.getfield 50, 3) := dc_180 (a0 := 0) (b0 := 50) (dc_nn (k := 22) aX11_on_0 rfl)
theorem dX11_on_25 : decode cX11_on 25 = .ok (.aload_n 0, 1) := dc_42 (dc_nn (k := 25) aX11_on_0 rfl)
theorem dX11_on_26 : decode cX11_on 26 = .ok (.getfield 19, 3) := dc_180 (a0 := 0) (b0 := 19) (dc_nn (k := 26) aX11_on_0 rfl)
theorem dX11_on_29 : decode cX11_on 29 = .ok (.aload_n 0, 1) := dc_42 (dc_nn (k := 29) aX11_on_0 rfl)
theorem dX11_on_30 : decode cX11_on 30 = .ok (.getfield 29, 3) := dc_180 (a0 := 0) (b0 := 29) (dc_nn (k := 30) aX11_on_0 rfl)
theorem dX11_on_33 : decode cX11_on 33 = .ok (.iload_n 1, 1) := dc_27 (dc_nn (k := 33) aX11_on_0 rfl)
theorem dX11_on_34 : decode cX11_on 34 = .ok (.invokevirtual 189, 3) := dc_182 (a0 := 0) (b0 := 189) (dc_nn (k := 34) aX11_on_0 rfl)
theorem dX11_on_37 : decode cX11_on 37 = .ok (.ireturn, 1) := dc_172 (dc_nn (k := 37) aX11_on_0 rfl)
set_option maxRecDepth 20000 in
theorem ggX11_held_X11_within : GoodIn wsX11_held wsX11_within := goodIn_k _ [[10]] (by rfl) (by decide +kernel)
set_option maxRecDepth 20000 in
theorem gX11_held_X11_within : GoodIn wsX11_held (va_wsS RX11 96 yX11_within wsX11_within) := goodIn_app (goodIn_k _ [[7, 0, 0]] (by rfl) (gw_S _ _ _ _)) ggX11_held_X11_within
set_option maxRecDepth 20000 in
theorem ggX11_held_X11_need : GoodIn wsX11_held wsX11_need := goodIn_ca (goodIn_k _ [[13, 0, 0]] (by rfl) (by decide +kernel)) (goodIn_sub (fun _ h => List.mem_cons_of_mem _ (List.mem_append_right _ h)) (by decide +kernel))
set_option maxRecDepth 20000 in
theorem gX11_held_X11_need : GoodIn wsX11_held (va_wsS RX11 168 yX11_need wsX11_need) := goodIn_app (goodIn_k _ [[11, 0], [9]] (by rfl) (gw_S _ _ _ _)) ggX11_held_X11_need
set_option maxRecDepth 20000 in
theorem ggX11_held_X8_keptDay : GoodIn wsX11_held wsX8_keptDay := goodIn_k _ [[20, 0, 13, 0, 0, 0, 0, 0, 0, 0]] (by rfl) (by decide +kernel)
set_option maxRecDepth 20000 in
theorem gX11_held_X8_keptDay : GoodIn wsX11_held (wsV RX11 204 RX8 yX8_keptDay wsX8_keptDay) := goodIn_app (goodIn_k _ [[16, 0, 0, 0]] (by rfl) (gw_V _ _ _ _)) ggX11_held_X8_keptDay
noncomputable def sX11_held_124 : List Nat := 172 :: 28 :: 153 :: 0 :: 7 :: 2 :: 167 :: 0 :: 10 :: 42 :: 180 :: 0 :: 50 :: 180 :: 1 :: 5 :: 172 :: []
noncomputable def sX11_held_83 : List Nat := 172 :: 28 :: 153 :: 0 :: 7 :: 2 :: 167 :: 0 :: 10 :: 42 :: 180 :: 0 :: 50 :: 180 :: 0 :: 193 :: 172 :: 42 :: 180 :: 0 :: 50 :: 180 :: 0 :: 200 :: 172 :: 28 :: 153 :: 0 :: 7 :: 2 :: 167 :: 0 :: 11 :: 42 :: 180 :: 0 :: 50 :: 3 :: 182 :: 0 :: 204 :: sX11_held_124
noncomputable def sX11_held_41 : List Nat := 3 :: 61 :: 27 :: 170 :: 0 :: 0 :: 0 :: 0 :: 0 :: 0 :: 81 :: 0 :: 0 :: 0 :: 0 :: 0 :: 0 :: 0 :: 3 :: 0 :: 0 :: 0 :: 32 :: 0 :: 0 :: 0 :: 40 :: 0 :: 0 :: 0 :: 56 :: 0 :: 0 :: 0 :: 64 :: 42 :: 180 :: 0 :: 50 :: 180 :: 1 :: 2 :: sX11_held_83
noncomputable def sX11_held_0 : List Nat := 42 :: 180 :: 0 :: 50 :: 180 :: 0 :: 196 :: 153 :: 0 :: 16 :: 27 :: 3 :: 7 :: 184 :: 0 :: 96 :: 153 :: 0 :: 7 :: 4 :: 167 :: 0 :: 4 :: 3 :: 184 :: 0 :: 168 :: 42 :: 180 :: 0 :: 50 :: 180 :: 0 :: 200 :: 154 :: 0 :: 7 :: 4 :: 167 :: 0 :: 4 :: sX11_held_41
theorem aX11_held_0 : dc_at cX11_held 0 sX11_held_0 := dc_base (by decide +kernel)
theorem aX11_held_41 : dc_at cX11_held 41 sX11_held_41 := dc_nn (k := 41) aX11_held_0 rfl
theorem aX11_held_83 : dc_at cX11_held 83 sX11_held_83 := dc_nn (k := 42) aX11_held_41 rfl
theorem aX11_held_124 : dc_at cX11_held 124 sX11_held_124 := dc_nn (k := 41) aX11_held_83 rfl
theorem dX11_held_0 : decode cX11_held 0 = .ok (.aload_n 0, 1) := dc_42 aX11_held_0
theorem dX11_held_1 : decode cX11_held 1 = .ok (.getfield 50, 3) := dc_180 (a0 := 0) (b0 := 50) (dc_nn (k := 1) aX11_held_0 rfl)
theorem dX11_held_4 : decode cX11_held 4 = .ok (.getfield 196, 3) := dc_180 (a0 := 0) (b0 := 196) (dc_nn (k := 4) aX11_held_0 rfl)
theorem dX11_held_7 : decode cX11_held 7 = .ok (.ifCond .eq 16, 3) := dc_153 (a0 := 0) (b0 := 16) (dc_nn (k := 7) aX11_held_0 rfl) (by decide)
theorem dX11_held_10 : decode cX11_held 10 = .ok (.iload_n 1, 1) := dc_27 (dc_nn (k := 10) aX11_held_0 rfl)
theorem dX11_held_11 : decode cX11_held 11 = .ok (.iconst 0, 1) := dc_3 (dc_nn (k := 11) aX11_held_0 rfl)
theorem dX11_held_12 : decode cX11_held 12 = .ok (.iconst 4, 1) := dc_7 (dc_nn (k := 12) aX11_held_0 rfl)
theorem dX11_held_13 : decode cX11_held 13 = .ok (.invokestatic 96, 3) := dc_184 (a0 := 0) (b0 := 96) (dc_nn (k := 13) aX11_held_0 rfl)
theorem dX11_held_16 : decode cX11_held 16 = .ok (.ifCond .eq 7, 3) := dc_153 (a0 := 0) (b0 := 7) (dc_nn (k := 16) aX11_held_0 rfl) (by decide)
theorem dX11_held_19 : decode cX11_held 19 = .ok (.iconst 1, 1) := dc_4 (dc_nn (k := 19) aX11_held_0 rfl)
theorem dX11_held_20 : decode cX11_held 20 = .ok (.goto 4, 3) := dc_167 (a0 := 0) (b0 := 4) (dc_nn (k := 20) aX11_held_0 rfl) (by decide)
theorem dX11_held_23 : decode cX11_held 23 = .ok (.iconst 0, 1) := dc_3 (dc_nn (k := 23) aX11_held_0 rfl)
theorem dX11_held_24 : decode cX11_held 24 = .ok (.invokestatic 168, 3) := dc_184 (a0 := 0) (b0 := 168) (dc_nn (k := 24) aX11_held_0 rfl)
theorem dX11_held_27 : decode cX11_held 27 = .ok (.aload_n 0, 1) := dc_42 (dc_nn (k := 27) aX11_held_0 rfl)
theorem dX11_held_28 : decode cX11_held 28 = .ok (.getfield 50, 3) := dc_180 (a0 := 0) (b0 := 50) (dc_nn (k := 28) aX11_held_0 rfl)
theorem dX11_held_31 : decode cX11_held 31 = .ok (.getfield 200, 3) := dc_180 (a0 := 0) (b0 := 200) (dc_nn (k := 31) aX11_held_0 rfl)
theorem dX11_held_34 : decode cX11_held 34 = .ok (.ifCond .ne 7, 3) := dc_154 (a0 := 0) (b0 := 7) (dc_nn (k := 34) aX11_held_0 rfl) (by decide)
theorem dX11_held_37 : decode cX11_held 37 = .ok (.iconst 1, 1) := dc_4 (dc_nn (k := 37) aX11_held_0 rfl)
theorem dX11_held_38 : decode cX11_held 38 = .ok (.goto 4, 3) := dc_167 (a0 := 0) (b0 := 4) (dc_nn (k := 38) aX11_held_0 rfl) (by decide)
theorem dX11_held_41 : decode cX11_held 41 = .ok (.iconst 0, 1) := dc_3 aX11_held_41
theorem dX11_held_42 : decode cX11_held 42 = .ok (.istore_n 2, 1) := dc_61 (dc_nn (k := 1) aX11_held_41 rfl)
theorem dX11_held_43 : decode cX11_held 43 = .ok (.iload_n 1, 1) := dc_27 (dc_nn (k := 2) aX11_held_41 rfl)
theorem dX11_held_44 : decode cX11_held 44 = .ok (.tableswitch 81 0 3 #[32, 40, 56, 64], 32) := by decide +kernel
theorem dX11_held_76 : decode cX11_held 76 = .ok (.aload_n 0, 1) := dc_42 (dc_nn (k := 35) aX11_held_41 rfl)
theorem dX11_held_77 : decode cX11_held 77 = .ok (.getfield 50, 3) := dc_180 (a0 := 0) (b0 := 50) (dc_nn (k := 36) aX11_held_41 rfl)
theorem dX11_held_80 : decode cX11_held 80 = .ok (.getfield 258, 3) := dc_180 (a0 := 1) (b0 := 2) (dc_nn (k := 39) aX11_held_41 rfl)
theorem dX11_held_83 : decode cX11_held 83 = .ok (.ireturn, 1) := dc_172 aX11_held_83
theorem dX11_held_84 : decode cX11_held 84 = .ok (.iload_n 2, 1) := dc_28 (dc_nn (k := 1) aX11_held_83 rfl)
theorem dX11_held_85 : decode cX11_held 85 = .ok (.ifCond .eq 7, 3) := dc_153 (a0 := 0) (b0 := 7) (dc_nn (k := 2) aX11_held_83 rfl) (by decide)
theorem dX11_held_88 : decode cX11_held 88 = .ok (.iconst (-1), 1) := dc_2 (dc_nn (k := 5) aX11_held_83 rfl)
theorem dX11_held_89 : decode cX11_held 89 = .ok (.goto 10, 3) := dc_167 (a0 := 0) (b0 := 10) (dc_nn (k := 6) aX11_held_83 rfl) (by decide)
theorem dX11_held_92 : decode cX11_held 92 = .ok (.aload_n 0, 1) := dc_42 (dc_nn (k := 9) aX11_held_83 rfl)
theorem dX11_held_93 : decode cX11_held 93 = .ok (.getfield 50, 3) := dc_180 (a0 := 0) (b0 := 50) (dc_nn (k := 10) aX11_held_83 rfl)
theorem dX11_held_96 : decode cX11_held 96 = .ok (.getfield 193, 3) := dc_180 (a0 := 0) (b0 := 193) (dc_nn (k := 13) aX11_held_83 rfl)
theorem dX11_held_99 : decode cX11_held 99 = .ok (.ireturn, 1) := dc_172 (dc_nn (k := 16) aX11_held_83 rfl)
theorem dX11_held_100 : decode cX11_held 100 = .ok (.aload_n 0, 1) := dc_42 (dc_nn (k := 17) aX11_held_83 rfl)
theorem dX11_held_101 : decode cX11_held 101 = .ok (.getfield 50, 3) := dc_180 (a0 := 0) (b0 := 50) (dc_nn (k := 18) aX11_held_83 rfl)
theorem dX11_held_104 : decode cX11_held 104 = .ok (.getfield 200, 3) := dc_180 (a0 := 0) (b0 := 200) (dc_nn (k := 21) aX11_held_83 rfl)
theorem dX11_held_107 : decode cX11_held 107 = .ok (.ireturn, 1) := dc_172 (dc_nn (k := 24) aX11_held_83 rfl)
theorem dX11_held_108 : decode cX11_held 108 = .ok (.iload_n 2, 1) := dc_28 (dc_nn (k := 25) aX11_held_83 rfl)
theorem dX11_held_109 : decode cX11_held 109 = .ok (.ifCond .eq 7, 3) := dc_153 (a0 := 0) (b0 := 7) (dc_nn (k := 26) aX11_held_83 rfl) (by decide)
theorem dX11_held_112 : decode cX11_held 112 = .ok (.iconst (-1), 1) := dc_2 (dc_nn (k := 29) aX11_held_83 rfl)
theorem dX11_held_113 : decode cX11_held 113 = .ok (.goto 11, 3) := dc_167 (a0 := 0) (b0 := 11) (dc_nn (k := 30) aX11_held_83 rfl) (by decide)
theorem dX11_held_116 : decode cX11_held 116 = .ok (.aload_n 0, 1) := dc_42 (dc_nn (k := 33) aX11_held_83 rfl)
theorem dX11_held_117 : decode cX11_held 117 = .ok (.getfield 50, 3) := dc_180 (a0 := 0) (b0 := 50) (dc_nn (k := 34) aX11_held_83 rfl)
theorem dX11_held_120 : decode cX11_held 120 = .ok (.iconst 0, 1) := dc_3 (dc_nn (k := 37) aX11_held_83 rfl)
theorem dX11_held_121 : decode cX11_held 121 = .ok (.invokevirtual 204, 3) := dc_182 (a0 := 0) (b0 := 204) (dc_nn (k := 38) aX11_held_83 rfl)
theorem dX11_held_124 : decode cX11_held 124 = .ok (.ireturn, 1) := dc_172 aX11_held_124
theorem dX11_held_125 : decode cX11_held 125 = .ok (.iload_n 2, 1) := dc_28 (dc_nn (k := 1) aX11_held_124 rfl)
theorem dX11_held_126 : decode cX11_held 126 = .ok (.ifCond .eq 7, 3) := dc_153 (a0 := 0) (b0 := 7) (dc_nn (k := 2) aX11_held_124 rfl) (by decide)
theorem dX11_held_129 : decode cX11_held 129 = .ok (.iconst (-1), 1) := dc_2 (dc_nn (k := 5) aX11_held_124 rfl)
theorem dX11_held_130 : decode cX11_held 130 = .ok (.goto 10, 3) := dc_167 (a0 := 0) (b0 := 10) (dc_nn (k := 6) aX11_held_124 rfl) (by decide)
theorem dX11_held_133 : decode cX11_held 133 = .ok (.aload_n 0, 1) := dc_42 (dc_nn (k := 9) aX11_held_124 rfl)
theorem dX11_held_134 : decode cX11_held 134 = .ok (.getfield 50, 3) := dc_180 (a0 := 0) (b0 := 50) (dc_nn (k := 10) aX11_held_124 rfl)
theorem dX11_held_137 : decode cX11_held 137 = .ok (.getfield 261, 3) := dc_180 (a0 := 1) (b0 := 5) (dc_nn (k := 13) aX11_held_124 rfl)
theorem dX11_held_140 : decode cX11_held 140 = .ok (.ireturn, 1) := dc_172 (dc_nn (k := 16) aX11_held_124 rfl)
set_option maxRecDepth 20000 in
theorem ggX11_image_X8_copyFrom : GoodIn wsX11_image wsX8_copyFrom := goodIn_k _ [[8, 0, 0, 0, 0, 0, 0, 0, 0, 0, 0, 0, 0, 13, 0, 0, 0, 0, 0, 0, 0]] (by rfl) (by decide +kernel)
set_option maxRecDepth 20000 in
theorem gX11_image_X8_copyFrom : GoodIn wsX11_image (wsV RX11 264 RX8 yX8_copyFrom wsX8_copyFrom) := goodIn_app (goodIn_k _ [[4, 0, 0, 0]] (by rfl) (gw_V _ _ _ _)) ggX11_image_X8_copyFrom
noncomputable def sX11_image_0 : List Nat := 42 :: 180 :: 0 :: 50 :: 180 :: 0 :: 196 :: 154 :: 0 :: 5 :: 3 :: 172 :: 42 :: 180 :: 0 :: 53 :: 42 :: 180 :: 0 :: 50 :: 182 :: 1 :: 8 :: 4 :: 172 :: []
theorem aX11_image_0 : dc_at cX11_image 0 sX11_image_0 := dc_base (by decide +kernel)
theorem dX11_image_0 : decode cX11_image 0 = .ok (.aload_n 0, 1) := dc_42 aX11_image_0
theorem dX11_image_1 : decode cX11_image 1 = .ok (.getfield 50, 3) := dc_180 (a0 := 0) (b0 := 50) (dc_nn (k := 1) aX11_image_0 rfl)
theorem dX11_image_4 : decode cX11_image 4 = .ok (.getfield 196, 3) := dc_180 (a0 := 0) (b0 := 196) (dc_nn (k := 4) aX11_image_0 rfl)
theorem dX11_image_7 : decode cX11_image 7 = .ok (.ifCond .ne 5, 3) := dc_154 (a0 := 0) (b0 := 5) (dc_nn (k := 7) aX11_image_0 rfl) (by decide)
theorem dX11_image_10 : decode cX11_image 10 = .ok (.iconst 0, 1) := dc_3 (dc_nn (k := 10) aX11_image_0 rfl)
theorem dX11_image_11 : decode cX11_image 11 = .ok (.ireturn, 1) := dc_172 (dc_nn (k := 11) aX11_image_0 rfl)
theorem dX11_image_12 : decode cX11_image 12 = .ok (.aload_n 0, 1) := dc_42 (dc_nn (k := 12) aX11_image_0 rfl)
theorem dX11_image_13 : decode cX11_image 13 = .ok (.getfield 53, 3) := dc_180 (a0 := 0) (b0 := 53) (dc_nn (k := 13) aX11_image_0 rfl)
theorem dX11_image_16 : decode cX11_image 16 = .ok (.aload_n 0, 1) := dc_42 (dc_nn (k := 16) aX11_image_0 rfl)
theorem dX11_image_17 : decode cX11_image 17 = .ok (.getfield 50, 3) := dc_180 (a0 := 0) (b0 := 50) (dc_nn (k := 17) aX11_image_0 rfl)
theorem dX11_image_20 : decode cX11_image 20 = .ok (.invokevirtual 264, 3) := dc_182 (a0 := 1) (b0 := 8) (dc_nn (k := 20) aX11_image_0 rfl)
theorem dX11_image_23 : decode cX11_image 23 = .ok (.iconst 1, 1) := dc_4 (dc_nn (k := 23) aX11_image_0 rfl)
theorem dX11_image_24 : decode cX11_image 24 = .ok (.ireturn, 1) := dc_172 (dc_nn (k := 24) aX11_image_0 rfl)
set_option maxRecDepth 20000 in
theorem ggX11_restore_X8_copyFrom : GoodIn wsX11_restore wsX8_copyFrom := goodIn_k _ [[8, 0, 0, 0, 0, 0, 0, 0, 0, 0, 0, 0, 0, 13, 0, 0, 0, 0, 0, 0, 0]] (by rfl) (by decide +kernel)
set_option maxRecDepth 20000 in
theorem gX11_restore_X8_copyFrom : GoodIn wsX11_restore (wsV RX11 264 RX8 yX8_copyFrom wsX8_copyFrom) := goodIn_app (goodIn_k _ [[4, 0, 0, 0]] (by rfl) (gw_V _ _ _ _)) ggX11_restore_X8_copyFrom
noncomputable def sX11_restore_0 : List Nat := 42 :: 180 :: 0 :: 53 :: 180 :: 0 :: 196 :: 154 :: 0 :: 5 :: 3 :: 172 :: 42 :: 180 :: 0 :: 50 :: 42 :: 180 :: 0 :: 53 :: 182 :: 1 :: 8 :: 4 :: 172 :: []
theorem aX11_restore_0 : dc_at cX11_restore 0 sX11_restore_0 := dc_base (by decide +kernel)
theorem dX11_restore_0 : decode cX11_restore 0 = .ok (.aload_n 0, 1) := dc_42 aX11_restore_0
theorem dX11_restore_1 : decode cX11_restore 1 = .ok (.getfield 53, 3) := dc_180 (a0 := 0) (b0 := 53) (dc_nn (k := 1) aX11_restore_0 rfl)
theorem dX11_restore_4 : decode cX11_restore 4 = .ok (.getfield 196, 3) := dc_180 (a0 := 0) (b0 := 196) (dc_nn (k := 4) aX11_restore_0 rfl)
theorem dX11_restore_7 : decode cX11_restore 7 = .ok (.ifCond .ne 5, 3) := dc_154 (a0 := 0) (b0 := 5) (dc_nn (k := 7) aX11_restore_0 rfl) (by decide)
theorem dX11_restore_10 : decode cX11_restore 10 = .ok (.iconst 0, 1) := dc_3 (dc_nn (k := 10) aX11_restore_0 rfl)
theorem dX11_restore_11 : decode cX11_restore 11 = .ok (.ireturn, 1) := dc_172 (dc_nn (k := 11) aX11_restore_0 rfl)
theorem dX11_restore_12 : decode cX11_restore 12 = .ok (.aload_n 0, 1) := dc_42 (dc_nn (k := 12) aX11_restore_0 rfl)
theorem dX11_restore_13 : decode cX11_restore 13 = .ok (.getfield 50, 3) := dc_180 (a0 := 0) (b0 := 50) (dc_nn (k := 13) aX11_restore_0 rfl)
theorem dX11_restore_16 : decode cX11_restore 16 = .ok (.aload_n 0, 1) := dc_42 (dc_nn (k := 16) aX11_restore_0 rfl)
theorem dX11_restore_17 : decode cX11_restore 17 = .ok (.getfield 53, 3) := dc_180 (a0 := 0) (b0 := 53) (dc_nn (k := 17) aX11_restore_0 rfl)
theorem dX11_restore_20 : decode cX11_restore 20 = .ok (.invokevirtual 264, 3) := dc_182 (a0 := 1) (b0 := 8) (dc_nn (k := 20) aX11_restore_0 rfl)
theorem dX11_restore_23 : decode cX11_restore 23 = .ok (.iconst 1, 1) := dc_4 (dc_nn (k := 23) aX11_restore_0 rfl)
theorem dX11_restore_24 : decode cX11_restore 24 = .ok (.ireturn, 1) := dc_172 (dc_nn (k := 24) aX11_restore_0 rfl)
set_option maxRecDepth 20000 in
theorem ggX11_misread_X11_numberOf : GoodIn wsX11_misread wsX11_numberOf := goodIn_ca (goodIn_k _ [[7, 0, 0], [6, 3, 0, 0, 0, 0, 0, 0, 0, 0]] (by rfl) (by decide +kernel)) (goodIn_sub (fun _ h => List.mem_cons_of_mem _ (List.mem_append_right _ h)) (by decide +kernel))
set_option maxRecDepth 20000 in
theorem gX11_misread_X11_numberOf : GoodIn wsX11_misread (va_wsS RX11 118 yX11_numberOf wsX11_numberOf) := goodIn_app (goodIn_k _ [[4, 0, 0]] (by rfl) (gw_S _ _ _ _)) ggX11_misread_X11_numberOf
set_option maxRecDepth 20000 in
theorem ggX11_misread_X11_within : GoodIn wsX11_misread wsX11_within := goodIn_k _ [[13]] (by rfl) (by decide +kernel)
set_option maxRecDepth 20000 in
theorem gX11_misread_X11_within : GoodIn wsX11_misread (va_wsS RX11 96 yX11_within wsX11_within) := goodIn_app (goodIn_k _ [[11, 0], [6]] (by rfl) (gw_S _ _ _ _)) ggX11_misread_X11_within
set_option maxRecDepth 20000 in
theorem ggX11_misread_X11_isDay : GoodIn wsX11_misread wsX11_isDay := goodIn_k _ [[21, 0], [11, 0], [6, 6]] (by rfl) (by decide +kernel)
set_option maxRecDepth 20000 in
theorem gX11_misread_X11_isDay : GoodIn wsX11_misread (va_wsS RX11 164 yX11_isDay wsX11_isDay) := goodIn_app (goodIn_k _ [[19, 0], [6]] (by rfl) (gw_S _ _ _ _)) ggX11_misread_X11_isDay
set_option maxRecDepth 20000 in
theorem ggX11_misread_X11_need : GoodIn wsX11_misread wsX11_need := goodIn_ca (goodIn_k _ [[16, 0, 0]] (by rfl) (by decide +kernel)) (goodIn_sub (fun _ h => List.mem_cons_of_mem _ (List.mem_append_right _ h)) (by decide +kernel))
set_option maxRecDepth 20000 in
theorem gX11_misread_X11_need : GoodIn wsX11_misread (va_wsS RX11 168 yX11_need wsX11_need) := goodIn_app (goodIn_k _ [[14, 0], [6]] (by rfl) (gw_S _ _ _ _)) ggX11_misread_X11_need
set_option maxRecDepth 20000 in
theorem ggX11_misread_X1_degreeOf : GoodIn wsX11_misread wsX1_degreeOf := goodIn_k _ [[27, 0, 60, 0]] (by rfl) (by decide +kernel)
set_option maxRecDepth 20000 in
theorem gX11_misread_X1_degreeOf : GoodIn wsX11_misread (wsV RX11 175 RX1 yX1_degreeOf wsX1_degreeOf) := goodIn_app (goodIn_k _ [[23, 0, 0, 0]] (by rfl) (gw_V _ _ _ _)) ggX11_misread_X1_degreeOf
set_option maxRecDepth 20000 in
theorem ggX11_misread_X5_degreeOn : GoodIn wsX11_misread wsX5_degreeOn := goodIn_k _ [[33, 0, 0, 0], [32, 4, 0, 0, 0, 0, 0, 0, 0, 0, 0, 0, 0, 0, 0, 0, 0, 0, 0, 0, 0, 0, 0, 0, 23, 0, 0, 0, 0, 0]] (by rfl) (by decide +kernel)
set_option maxRecDepth 20000 in
theorem gX11_misread_X5_degreeOn : GoodIn wsX11_misread (wsV RX11 267 RX5 yX5_degreeOn wsX5_degreeOn) := goodIn_app (goodIn_k _ [[29, 0, 0, 0]] (by rfl) (gw_V _ _ _ _)) ggX11_misread_X5_degreeOn
set_option maxRecDepth 20000 in
theorem ggX11_misread_X4_misreading : GoodIn wsX11_misread wsX4_misreading := goodIn_k _ [[64, 0, 0, 0], [63, 4, 0, 21, 0]] (by rfl) (by decide +kernel)
set_option maxRecDepth 20000 in
theorem gX11_misread_X4_misreading : GoodIn wsX11_misread (wsV RX11 270 RX4 yX4_misreading wsX4_misreading) := goodIn_app (goodIn_k _ [[60, 0, 0, 0]] (by rfl) (gw_V _ _ _ _)) ggX11_misread_X4_misreading
noncomputable def sX11_misread_80 : List Nat := 21 :: 5 :: 21 :: 4 :: 182 :: 1 :: 11 :: 182 :: 1 :: 14 :: 172 :: []
noncomputable def sX11_misread_40 : List Nat := 184 :: 0 :: 168 :: 42 :: 180 :: 0 :: 29 :: 21 :: 6 :: 21 :: 5 :: 182 :: 0 :: 175 :: 54 :: 7 :: 21 :: 7 :: 2 :: 160 :: 0 :: 7 :: 2 :: 167 :: 0 :: 27 :: 42 :: 180 :: 0 :: 19 :: 180 :: 0 :: 140 :: 21 :: 7 :: 42 :: 180 :: 0 :: 19 :: 29 :: sX11_misread_80
noncomputable def sX11_misread_0 : List Nat := 27 :: 28 :: 184 :: 0 :: 118 :: 54 :: 6 :: 29 :: 3 :: 6 :: 184 :: 0 :: 96 :: 153 :: 0 :: 26 :: 21 :: 4 :: 184 :: 0 :: 164 :: 153 :: 0 :: 18 :: 21 :: 5 :: 3 :: 16 :: 6 :: 184 :: 0 :: 96 :: 153 :: 0 :: 7 :: 4 :: 167 :: 0 :: 4 :: 3 :: sX11_misread_40
theorem aX11_misread_0 : dc_at cX11_misread 0 sX11_misread_0 := dc_base (by decide +kernel)
theorem aX11_misread_40 : dc_at cX11_misread 40 sX11_misread_40 := dc_nn (k := 40) aX11_misread_0 rfl
theorem aX11_misread_80 : dc_at cX11_misread 80 sX11_misread_80 := dc_nn (k := 40) aX11_misread_40 rfl
theorem dX11_misread_0 : decode cX11_misread 0 = .ok (.iload_n 1, 1) := dc_27 aX11_misread_0
theorem dX11_misread_1 : decode cX11_misread 1 = .ok (.iload_n 2, 1) := dc_28 (dc_nn (k := 1) aX11_misread_0 rfl)
theorem dX11_misread_2 : decode cX11_misread 2 = .ok (.invokestatic 118, 3) := dc_184 (a0 := 0) (b0 := 118) (dc_nn (k := 2) aX11_misread_0 rfl)
theorem dX11_misread_5 : decode cX11_misread 5 = .ok (.istore 6, 2) := dc_54 (a0 := 6) (dc_nn (k := 5) aX11_misread_0 rfl)
theorem dX11_misread_7 : decode cX11_misread 7 = .ok (.iload_n 3, 1) := dc_29 (dc_nn (k := 7) aX11_misread_0 rfl)
theorem dX11_misread_8 : decode cX11_misread 8 = .ok (.iconst 0, 1) := dc_3 (dc_nn (k := 8) aX11_misread_0 rfl)
theorem dX11_misread_9 : decode cX11_misread 9 = .ok (.iconst 3, 1) := dc_6 (dc_nn (k := 9) aX11_misread_0 rfl)
theorem dX11_misread_10 : decode cX11_misread 10 = .ok (.invokestatic 96, 3) := dc_184 (a0 := 0) (b0 := 96) (dc_nn (k := 10) aX11_misread_0 rfl)
theorem dX11_misread_13 : decode cX11_misread 13 = .ok (.ifCond .eq 26, 3) := dc_153 (a0 := 0) (b0 := 26) (dc_nn (k := 13) aX11_misread_0 rfl) (by decide)
theorem dX11_misread_16 : decode cX11_misread 16 = .ok (.iload 4, 2) := dc_21 (a0 := 4) (dc_nn (k := 16) aX11_misread_0 rfl)
theorem dX11_misread_18 : decode cX11_misread 18 = .ok (.invokestatic 164, 3) := dc_184 (a0 := 0) (b0 := 164) (dc_nn (k := 18) aX11_misread_0 rfl)
theorem dX11_misread_21 : decode cX11_misread 21 = .ok (.ifCond .eq 18, 3) := dc_153 (a0 := 0) (b0 := 18) (dc_nn (k := 21) aX11_misread_0 rfl) (by decide)
theorem dX11_misread_24 : decode cX11_misread 24 = .ok (.iload 5, 2) := dc_21 (a0 := 5) (dc_nn (k := 24) aX11_misread_0 rfl)
theorem dX11_misread_26 : decode cX11_misread 26 = .ok (.iconst 0, 1) := dc_3 (dc_nn (k := 26) aX11_misread_0 rfl)
theorem dX11_misread_27 : decode cX11_misread 27 = .ok (.bipush 6, 2) := dc_16 (a0 := 6) (dc_nn (k := 27) aX11_misread_0 rfl) (by decide)
theorem dX11_misread_29 : decode cX11_misread 29 = .ok (.invokestatic 96, 3) := dc_184 (a0 := 0) (b0 := 96) (dc_nn (k := 29) aX11_misread_0 rfl)
theorem dX11_misread_32 : decode cX11_misread 32 = .ok (.ifCond .eq 7, 3) := dc_153 (a0 := 0) (b0 := 7) (dc_nn (k := 32) aX11_misread_0 rfl) (by decide)
theorem dX11_misread_35 : decode cX11_misread 35 = .ok (.iconst 1, 1) := dc_4 (dc_nn (k := 35) aX11_misread_0 rfl)
theorem dX11_misread_36 : decode cX11_misread 36 = .ok (.goto 4, 3) := dc_167 (a0 := 0) (b0 := 4) (dc_nn (k := 36) aX11_misread_0 rfl) (by decide)
theorem dX11_misread_39 : decode cX11_misread 39 = .ok (.iconst 0, 1) := dc_3 (dc_nn (k := 39) aX11_misread_0 rfl)
theorem dX11_misread_40 : decode cX11_misread 40 = .ok (.invokestatic 168, 3) := dc_184 (a0 := 0) (b0 := 168) aX11_misread_40
theorem dX11_misread_43 : decode cX11_misread 43 = .ok (.aload_n 0, 1) := dc_42 (dc_nn (k := 3) aX11_misread_40 rfl)
theorem dX11_misread_44 : decode cX11_misread 44 = .ok (.getfield 29, 3) := dc_180 (a0 := 0) (b0 := 29) (dc_nn (k := 4) aX11_misread_40 rfl)
theorem dX11_misread_47 : decode cX11_misread 47 = .ok (.iload 6, 2) := dc_21 (a0 := 6) (dc_nn (k := 7) aX11_misread_40 rfl)
theorem dX11_misread_49 : decode cX11_misread 49 = .ok (.iload 5, 2) := dc_21 (a0 := 5) (dc_nn (k := 9) aX11_misread_40 rfl)
theorem dX11_misread_51 : decode cX11_misread 51 = .ok (.invokevirtual 175, 3) := dc_182 (a0 := 0) (b0 := 175) (dc_nn (k := 11) aX11_misread_40 rfl)
theorem dX11_misread_54 : decode cX11_misread 54 = .ok (.istore 7, 2) := dc_54 (a0 := 7) (dc_nn (k := 14) aX11_misread_40 rfl)
theorem dX11_misread_56 : decode cX11_misread 56 = .ok (.iload 7, 2) := dc_21 (a0 := 7) (dc_nn (k := 16) aX11_misread_40 rfl)
theorem dX11_misread_58 : decode cX11_misread 58 = .ok (.iconst (-1), 1) := dc_2 (dc_nn (k := 18) aX11_misread_40 rfl)
theorem dX11_misread_59 : decode cX11_misread 59 = .ok (.if_icmp .ne 7, 3) := dc_160 (a0 := 0) (b0 := 7) (dc_nn (k := 19) aX11_misread_40 rfl) (by decide)
theorem dX11_misread_62 : decode cX11_misread 62 = .ok (.iconst (-1), 1) := dc_2 (dc_nn (k := 22) aX11_misread_40 rfl)
theorem dX11_misread_63 : decode cX11_misread 63 = .ok (.goto 27, 3) := dc_167 (a0 := 0) (b0 := 27) (dc_nn (k := 23) aX11_misread_40 rfl) (by decide)
theorem dX11_misread_66 : decode cX11_misread 66 = .ok (.aload_n 0, 1) := dc_42 (dc_nn (k := 26) aX11_misread_40 rfl)
theorem dX11_misread_67 : decode cX11_misread 67 = .ok (.getfield 19, 3) := dc_180 (a0 := 0) (b0 := 19) (dc_nn (k := 27) aX11_misread_40 rfl)
theorem dX11_misread_70 : decode cX11_misread 70 = .ok (.getfield 140, 3) := dc_180 (a0 := 0) (b0 := 140) (dc_nn (k := 30) aX11_misread_40 rfl)
theorem dX11_misread_73 : decode cX11_misread 73 = .ok (.iload 7, 2) := dc_21 (a0 := 7) (dc_nn (k := 33) aX11_misread_40 rfl)
theorem dX11_misread_75 : decode cX11_misread 75 = .ok (.aload_n 0, 1) := dc_42 (dc_nn (k := 35) aX11_misread_40 rfl)
theorem dX11_misread_76 : decode cX11_misread 76 = .ok (.getfield 19, 3) := dc_180 (a0 := 0) (b0 := 19) (dc_nn (k := 36) aX11_misread_40 rfl)
theorem dX11_misread_79 : decode cX11_misread 79 = .ok (.iload_n 3, 1) := dc_29 (dc_nn (k := 39) aX11_misread_40 rfl)
theorem dX11_misread_80 : decode cX11_misread 80 = .ok (.iload 5, 2) := dc_21 (a0 := 5) aX11_misread_80
theorem dX11_misread_82 : decode cX11_misread 82 = .ok (.iload 4, 2) := dc_21 (a0 := 4) (dc_nn (k := 2) aX11_misread_80 rfl)
theorem dX11_misread_84 : decode cX11_misread 84 = .ok (.invokevirtual 267, 3) := dc_182 (a0 := 1) (b0 := 11) (dc_nn (k := 4) aX11_misread_80 rfl)
theorem dX11_misread_87 : decode cX11_misread 87 = .ok (.invokevirtual 270, 3) := dc_182 (a0 := 1) (b0 := 14) (dc_nn (k := 7) aX11_misread_80 rfl)
theorem dX11_misread_90 : decode cX11_misread 90 = .ok (.ireturn, 1) := dc_172 (dc_nn (k := 10) aX11_misread_80 rfl)
set_option maxRecDepth 20000 in
theorem ggX11_errors_X11_numberOf : GoodIn wsX11_errors wsX11_numberOf := goodIn_ca (goodIn_k _ [[7, 0, 0], [6, 3, 0, 0, 0, 0, 0, 0, 0, 0]] (by rfl) (by decide +kernel)) (goodIn_sub (fun _ h => List.mem_cons_of_mem _ (List.mem_append_right _ h)) (by decide +kernel))
set_option maxRecDepth 20000 in
theorem gX11_errors_X11_numberOf : GoodIn wsX11_errors (va_wsS RX11 118 yX11_numberOf wsX11_numberOf) := goodIn_app (goodIn_k _ [[4, 0, 0]] (by rfl) (gw_S _ _ _ _)) ggX11_errors_X11_numberOf
set_option maxRecDepth 20000 in
theorem ggX11_errors_X11_isDay : GoodIn wsX11_errors wsX11_isDay := goodIn_k _ [[21, 0], [11, 0], [6, 6]] (by rfl) (by decide +kernel)
set_option maxRecDepth 20000 in
theorem gX11_errors_X11_isDay : GoodIn wsX11_errors (va_wsS RX11 164 yX11_isDay wsX11_isDay) := goodIn_app (goodIn_k _ [[19, 0], [6]] (by rfl) (gw_S _ _ _ _)) ggX11_errors_X11_isDay
set_option maxRecDepth 20000 in
theorem ggX11_errors_X11_within : GoodIn wsX11_errors wsX11_within := goodIn_k _ [[13]] (by rfl) (by decide +kernel)
set_option maxRecDepth 20000 in
theorem gX11_errors_X11_within : GoodIn wsX11_errors (va_wsS RX11 96 yX11_within wsX11_within) := goodIn_app (goodIn_k _ [[11, 0], [6]] (by rfl) (gw_S _ _ _ _)) ggX11_errors_X11_within
set_option maxRecDepth 20000 in
theorem ggX11_errors_X11_need : GoodIn wsX11_errors wsX11_need := goodIn_ca (goodIn_k _ [[16, 0, 0]] (by rfl) (by decide +kernel)) (goodIn_sub (fun _ h => List.mem_cons_of_mem _ (List.mem_append_right _ h)) (by decide +kernel))
set_option maxRecDepth 20000 in
theorem gX11_errors_X11_need : GoodIn wsX11_errors (va_wsS RX11 168 yX11_need wsX11_need) := goodIn_app (goodIn_k _ [[14, 0], [6]] (by rfl) (gw_S _ _ _ _)) ggX11_errors_X11_need
set_option maxRecDepth 20000 in
theorem ggX11_errors_X3_setSharers : GoodIn wsX11_errors wsX3_setSharers := goodIn_k _ [[27, 0, 0, 0, 0, 0, 0, 0, 0, 0], [26, 10, 0, 0, 0, 0, 0, 0, 0, 0, 0, 0, 0, 0, 0, 0, 0, 0, 0, 0, 0, 0, 0, 0, 0, 0, 0, 0, 0, 0, 0, 0, 0, 45, 0, 0, 0, 0, 0, 0, 0, 0]] (by rfl) (by decide +kernel)
set_option maxRecDepth 20000 in
theorem gX11_errors_X3_setSharers : GoodIn wsX11_errors (wsV RX11 273 RX3 yX3_setSharers wsX3_setSharers) := goodIn_app (goodIn_k _ [[23, 0, 0, 0]] (by rfl) (gw_V _ _ _ _)) ggX11_errors_X3_setSharers
set_option maxRecDepth 20000 in
theorem ggX11_errors_X3_howManyErrors : GoodIn wsX11_errors wsX3_howManyErrors := goodIn_k _ [[72], [28, 85]] (by rfl) (by decide +kernel)
set_option maxRecDepth 20000 in
theorem gX11_errors_X3_howManyErrors : GoodIn wsX11_errors (wsV RX11 277 RX3 yX3_howManyErrors wsX3_howManyErrors) := goodIn_app (goodIn_k _ [[69, 0, 0], [26]] (by rfl) (gw_V _ _ _ _)) ggX11_errors_X3_howManyErrors
set_option maxRecDepth 20000 in
theorem ggX11_errors_X3_setFollowed : GoodIn wsX11_errors wsX3_setFollowed := goodIn_k _ [[76, 0, 0, 0], [26, 53], [28, 52, 0, 0, 0, 0, 0, 0, 0, 0, 0, 0, 22]] (by rfl) (by decide +kernel)
set_option maxRecDepth 20000 in
theorem gX11_errors_X3_setFollowed : GoodIn wsX11_errors (wsV RX11 280 RX3 yX3_setFollowed wsX3_setFollowed) := goodIn_app (goodIn_k _ [[73, 0, 0], [26]] (by rfl) (gw_V _ _ _ _)) ggX11_errors_X3_setFollowed
set_option maxRecDepth 20000 in
theorem ggX11_errors_X3_howManyShared : GoodIn wsX11_errors wsX3_howManyShared := goodIn_k _ [[95], [88, 0, 0], [26, 64], [28, 85]] (by rfl) (by decide +kernel)
set_option maxRecDepth 20000 in
theorem gX11_errors_X3_howManyShared : GoodIn wsX11_errors (wsV RX11 283 RX3 yX3_howManyShared wsX3_howManyShared) := goodIn_app (goodIn_k _ [[92, 0, 0], [26]] (by rfl) (gw_V _ _ _ _)) ggX11_errors_X3_howManyShared
set_option maxRecDepth 20000 in
theorem ggX11_errors_X3_howManyAlone : GoodIn wsX11_errors wsX3_howManyAlone := goodIn_k _ [[99], [28, 85]] (by rfl) (by decide +kernel)
set_option maxRecDepth 20000 in
theorem gX11_errors_X3_howManyAlone : GoodIn wsX11_errors (wsV RX11 286 RX3 yX3_howManyAlone wsX3_howManyAlone) := goodIn_app (goodIn_k _ [[96, 0, 0], [26]] (by rfl) (gw_V _ _ _ _)) ggX11_errors_X3_howManyAlone
set_option maxRecDepth 20000 in
theorem ggX11_errors_X3_weightOf : GoodIn wsX11_errors wsX3_weightOf := goodIn_k _ [[80], [28, 52, 0, 0, 0, 0, 0, 0, 0, 0, 0], [26, 64, 22]] (by rfl) (by decide +kernel)
set_option maxRecDepth 20000 in
theorem gX11_errors_X3_weightOf : GoodIn wsX11_errors (wsV RX11 289 RX3 yX3_weightOf wsX3_weightOf) := goodIn_app (goodIn_k _ [[100], [78, 0], [26]] (by rfl) (gw_V _ _ _ _)) ggX11_errors_X3_weightOf
noncomputable def sX11_errors_123 : List Nat := 42 :: 180 :: 0 :: 36 :: 21 :: 6 :: 182 :: 1 :: 33 :: 172 :: []
noncomputable def sX11_errors_81 : List Nat := 100 :: 6 :: 112 :: 4 :: 96 :: 54 :: 6 :: 21 :: 4 :: 8 :: 162 :: 0 :: 13 :: 42 :: 180 :: 0 :: 36 :: 21 :: 6 :: 182 :: 1 :: 27 :: 172 :: 21 :: 4 :: 16 :: 8 :: 162 :: 0 :: 15 :: 42 :: 180 :: 0 :: 36 :: 21 :: 6 :: 182 :: 1 :: 30 :: 167 :: 0 :: 12 :: sX11_errors_123
noncomputable def sX11_errors_41 : List Nat := 42 :: 180 :: 0 :: 29 :: 21 :: 5 :: 29 :: 182 :: 1 :: 17 :: 21 :: 4 :: 154 :: 0 :: 11 :: 42 :: 180 :: 0 :: 36 :: 182 :: 1 :: 21 :: 172 :: 21 :: 4 :: 4 :: 160 :: 0 :: 11 :: 42 :: 180 :: 0 :: 36 :: 182 :: 1 :: 24 :: 172 :: 21 :: 4 :: 5 :: sX11_errors_81
noncomputable def sX11_errors_0 : List Nat := 27 :: 28 :: 184 :: 0 :: 118 :: 54 :: 5 :: 29 :: 184 :: 0 :: 164 :: 153 :: 0 :: 18 :: 21 :: 4 :: 3 :: 16 :: 10 :: 184 :: 0 :: 96 :: 153 :: 0 :: 7 :: 4 :: 167 :: 0 :: 4 :: 3 :: 184 :: 0 :: 168 :: 42 :: 180 :: 0 :: 36 :: 42 :: 180 :: 0 :: 19 :: sX11_errors_41
theorem aX11_errors_0 : dc_at cX11_errors 0 sX11_errors_0 := dc_base (by decide +kernel)
theorem aX11_errors_41 : dc_at cX11_errors 41 sX11_errors_41 := dc_nn (k := 41) aX11_errors_0 rfl
theorem aX11_errors_81 : dc_at cX11_errors 81 sX11_errors_81 := dc_nn (k := 40) aX11_errors_41 rfl
theorem aX11_errors_123 : dc_at cX11_errors 123 sX11_errors_123 := dc_nn (k := 42) aX11_errors_81 rfl
theorem dX11_errors_0 : decode cX11_errors 0 = .ok (.iload_n 1, 1) := dc_27 aX11_errors_0
theorem dX11_errors_1 : decode cX11_errors 1 = .ok (.iload_n 2, 1) := dc_28 (dc_nn (k := 1) aX11_errors_0 rfl)
theorem dX11_errors_2 : decode cX11_errors 2 = .ok (.invokestatic 118, 3) := dc_184 (a0 := 0) (b0 := 118) (dc_nn (k := 2) aX11_errors_0 rfl)
theorem dX11_errors_5 : decode cX11_errors 5 = .ok (.istore 5, 2) := dc_54 (a0 := 5) (dc_nn (k := 5) aX11_errors_0 rfl)
theorem dX11_errors_7 : decode cX11_errors 7 = .ok (.iload_n 3, 1) := dc_29 (dc_nn (k := 7) aX11_errors_0 rfl)
theorem dX11_errors_8 : decode cX11_errors 8 = .ok (.invokestatic 164, 3) := dc_184 (a0 := 0) (b0 := 164) (dc_nn (k := 8) aX11_errors_0 rfl)
theorem dX11_errors_11 : decode cX11_errors 11 = .ok (.ifCond .eq 18, 3) := dc_153 (a0 := 0) (b0 := 18) (dc_nn (k := 11) aX11_errors_0 rfl) (by decide)
theorem dX11_errors_14 : decode cX11_errors 14 = .ok (.iload 4, 2) := dc_21 (a0 := 4) (dc_nn (k := 14) aX11_errors_0 rfl)
theorem dX11_errors_16 : decode cX11_errors 16 = .ok (.iconst 0, 1) := dc_3 (dc_nn (k := 16) aX11_errors_0 rfl)
theorem dX11_errors_17 : decode cX11_errors 17 = .ok (.bipush 10, 2) := dc_16 (a0 := 10) (dc_nn (k := 17) aX11_errors_0 rfl) (by decide)
theorem dX11_errors_19 : decode cX11_errors 19 = .ok (.invokestatic 96, 3) := dc_184 (a0 := 0) (b0 := 96) (dc_nn (k := 19) aX11_errors_0 rfl)
theorem dX11_errors_22 : decode cX11_errors 22 = .ok (.ifCond .eq 7, 3) := dc_153 (a0 := 0) (b0 := 7) (dc_nn (k := 22) aX11_errors_0 rfl) (by decide)
theorem dX11_errors_25 : decode cX11_errors 25 = .ok (.iconst 1, 1) := dc_4 (dc_nn (k := 25) aX11_errors_0 rfl)
theorem dX11_errors_26 : decode cX11_errors 26 = .ok (.goto 4, 3) := dc_167 (a0 := 0) (b0 := 4) (dc_nn (k := 26) aX11_errors_0 rfl) (by decide)
theorem dX11_errors_29 : decode cX11_errors 29 = .ok (.iconst 0, 1) := dc_3 (dc_nn (k := 29) aX11_errors_0 rfl)
theorem dX11_errors_30 : decode cX11_errors 30 = .ok (.invokestatic 168, 3) := dc_184 (a0 := 0) (b0 := 168) (dc_nn (k := 30) aX11_errors_0 rfl)
theorem dX11_errors_33 : decode cX11_errors 33 = .ok (.aload_n 0, 1) := dc_42 (dc_nn (k := 33) aX11_errors_0 rfl)
theorem dX11_errors_34 : decode cX11_errors 34 = .ok (.getfield 36, 3) := dc_180 (a0 := 0) (b0 := 36) (dc_nn (k := 34) aX11_errors_0 rfl)
theorem dX11_errors_37 : decode cX11_errors 37 = .ok (.aload_n 0, 1) := dc_42 (dc_nn (k := 37) aX11_errors_0 rfl)
theorem dX11_errors_38 : decode cX11_errors 38 = .ok (.getfield 19, 3) := dc_180 (a0 := 0) (b0 := 19) (dc_nn (k := 38) aX11_errors_0 rfl)
theorem dX11_errors_41 : decode cX11_errors 41 = .ok (.aload_n 0, 1) := dc_42 aX11_errors_41
theorem dX11_errors_42 : decode cX11_errors 42 = .ok (.getfield 29, 3) := dc_180 (a0 := 0) (b0 := 29) (dc_nn (k := 1) aX11_errors_41 rfl)
theorem dX11_errors_45 : decode cX11_errors 45 = .ok (.iload 5, 2) := dc_21 (a0 := 5) (dc_nn (k := 4) aX11_errors_41 rfl)
theorem dX11_errors_47 : decode cX11_errors 47 = .ok (.iload_n 3, 1) := dc_29 (dc_nn (k := 6) aX11_errors_41 rfl)
theorem dX11_errors_48 : decode cX11_errors 48 = .ok (.invokevirtual 273, 3) := dc_182 (a0 := 1) (b0 := 17) (dc_nn (k := 7) aX11_errors_41 rfl)
theorem dX11_errors_51 : decode cX11_errors 51 = .ok (.iload 4, 2) := dc_21 (a0 := 4) (dc_nn (k := 10) aX11_errors_41 rfl)
theorem dX11_errors_53 : decode cX11_errors 53 = .ok (.ifCond .ne 11, 3) := dc_154 (a0 := 0) (b0 := 11) (dc_nn (k := 12) aX11_errors_41 rfl) (by decide)
theorem dX11_errors_56 : decode cX11_errors 56 = .ok (.aload_n 0, 1) := dc_42 (dc_nn (k := 15) aX11_errors_41 rfl)
theorem dX11_errors_57 : decode cX11_errors 57 = .ok (.getfield 36, 3) := dc_180 (a0 := 0) (b0 := 36) (dc_nn (k := 16) aX11_errors_41 rfl)
theorem dX11_errors_60 : decode cX11_errors 60 = .ok (.invokevirtual 277, 3) := dc_182 (a0 := 1) (b0 := 21) (dc_nn (k := 19) aX11_errors_41 rfl)
theorem dX11_errors_63 : decode cX11_errors 63 = .ok (.ireturn, 1) := dc_172 (dc_nn (k := 22) aX11_errors_41 rfl)
theorem dX11_errors_64 : decode cX11_errors 64 = .ok (.iload 4, 2) := dc_21 (a0 := 4) (dc_nn (k := 23) aX11_errors_41 rfl)
theorem dX11_errors_66 : decode cX11_errors 66 = .ok (.iconst 1, 1) := dc_4 (dc_nn (k := 25) aX11_errors_41 rfl)
theorem dX11_errors_67 : decode cX11_errors 67 = .ok (.if_icmp .ne 11, 3) := dc_160 (a0 := 0) (b0 := 11) (dc_nn (k := 26) aX11_errors_41 rfl) (by decide)
theorem dX11_errors_70 : decode cX11_errors 70 = .ok (.aload_n 0, 1) := dc_42 (dc_nn (k := 29) aX11_errors_41 rfl)
theorem dX11_errors_71 : decode cX11_errors 71 = .ok (.getfield 36, 3) := dc_180 (a0 := 0) (b0 := 36) (dc_nn (k := 30) aX11_errors_41 rfl)
theorem dX11_errors_74 : decode cX11_errors 74 = .ok (.invokevirtual 280, 3) := dc_182 (a0 := 1) (b0 := 24) (dc_nn (k := 33) aX11_errors_41 rfl)
theorem dX11_errors_77 : decode cX11_errors 77 = .ok (.ireturn, 1) := dc_172 (dc_nn (k := 36) aX11_errors_41 rfl)
theorem dX11_errors_78 : decode cX11_errors 78 = .ok (.iload 4, 2) := dc_21 (a0 := 4) (dc_nn (k := 37) aX11_errors_41 rfl)
theorem dX11_errors_80 : decode cX11_errors 80 = .ok (.iconst 2, 1) := dc_5 (dc_nn (k := 39) aX11_errors_41 rfl)
theorem dX11_errors_81 : decode cX11_errors 81 = .ok (.isub, 1) := dc_100 aX11_errors_81
theorem dX11_errors_82 : decode cX11_errors 82 = .ok (.iconst 3, 1) := dc_6 (dc_nn (k := 1) aX11_errors_81 rfl)
theorem dX11_errors_83 : decode cX11_errors 83 = .ok (.irem, 1) := dc_112 (dc_nn (k := 2) aX11_errors_81 rfl)
theorem dX11_errors_84 : decode cX11_errors 84 = .ok (.iconst 1, 1) := dc_4 (dc_nn (k := 3) aX11_errors_81 rfl)
theorem dX11_errors_85 : decode cX11_errors 85 = .ok (.iadd, 1) := dc_96 (dc_nn (k := 4) aX11_errors_81 rfl)
theorem dX11_errors_86 : decode cX11_errors 86 = .ok (.istore 6, 2) := dc_54 (a0 := 6) (dc_nn (k := 5) aX11_errors_81 rfl)
theorem dX11_errors_88 : decode cX11_errors 88 = .ok (.iload 4, 2) := dc_21 (a0 := 4) (dc_nn (k := 7) aX11_errors_81 rfl)
theorem dX11_errors_90 : decode cX11_errors 90 = .ok (.iconst 5, 1) := dc_8 (dc_nn (k := 9) aX11_errors_81 rfl)
theorem dX11_errors_91 : decode cX11_errors 91 = .ok (.if_icmp .ge 13, 3) := dc_162 (a0 := 0) (b0 := 13) (dc_nn (k := 10) aX11_errors_81 rfl) (by decide)
theorem dX11_errors_94 : decode cX11_errors 94 = .ok (.aload_n 0, 1) := dc_42 (dc_nn (k := 13) aX11_errors_81 rfl)
theorem dX11_errors_95 : decode cX11_errors 95 = .ok (.getfield 36, 3) := dc_180 (a0 := 0) (b0 := 36) (dc_nn (k := 14) aX11_errors_81 rfl)
theorem dX11_errors_98 : decode cX11_errors 98 = .ok (.iload 6, 2) := dc_21 (a0 := 6) (dc_nn (k := 17) aX11_errors_81 rfl)
theorem dX11_errors_100 : decode cX11_errors 100 = .ok (.invokevirtual 283, 3) := dc_182 (a0 := 1) (b0 := 27) (dc_nn (k := 19) aX11_errors_81 rfl)
theorem dX11_errors_103 : decode cX11_errors 103 = .ok (.ireturn, 1) := dc_172 (dc_nn (k := 22) aX11_errors_81 rfl)
theorem dX11_errors_104 : decode cX11_errors 104 = .ok (.iload 4, 2) := dc_21 (a0 := 4) (dc_nn (k := 23) aX11_errors_81 rfl)
theorem dX11_errors_106 : decode cX11_errors 106 = .ok (.bipush 8, 2) := dc_16 (a0 := 8) (dc_nn (k := 25) aX11_errors_81 rfl) (by decide)
theorem dX11_errors_108 : decode cX11_errors 108 = .ok (.if_icmp .ge 15, 3) := dc_162 (a0 := 0) (b0 := 15) (dc_nn (k := 27) aX11_errors_81 rfl) (by decide)
theorem dX11_errors_111 : decode cX11_errors 111 = .ok (.aload_n 0, 1) := dc_42 (dc_nn (k := 30) aX11_errors_81 rfl)
theorem dX11_errors_112 : decode cX11_errors 112 = .ok (.getfield 36, 3) := dc_180 (a0 := 0) (b0 := 36) (dc_nn (k := 31) aX11_errors_81 rfl)
theorem dX11_errors_115 : decode cX11_errors 115 = .ok (.iload 6, 2) := dc_21 (a0 := 6) (dc_nn (k := 34) aX11_errors_81 rfl)
theorem dX11_errors_117 : decode cX11_errors 117 = .ok (.invokevirtual 286, 3) := dc_182 (a0 := 1) (b0 := 30) (dc_nn (k := 36) aX11_errors_81 rfl)
theorem dX11_errors_120 : decode cX11_errors 120 = .ok (.goto 12, 3) := dc_167 (a0 := 0) (b0 := 12) (dc_nn (k := 39) aX11_errors_81 rfl) (by decide)
theorem dX11_errors_123 : decode cX11_errors 123 = .ok (.aload_n 0, 1) := dc_42 aX11_errors_123
theorem dX11_errors_124 : decode cX11_errors 124 = .ok (.getfield 36, 3) := dc_180 (a0 := 0) (b0 := 36) (dc_nn (k := 1) aX11_errors_123 rfl)
theorem dX11_errors_127 : decode cX11_errors 127 = .ok (.iload 6, 2) := dc_21 (a0 := 6) (dc_nn (k := 4) aX11_errors_123 rfl)
theorem dX11_errors_129 : decode cX11_errors 129 = .ok (.invokevirtual 289, 3) := dc_182 (a0 := 1) (b0 := 33) (dc_nn (k := 6) aX11_errors_123 rfl)
theorem dX11_errors_132 : decode cX11_errors 132 = .ok (.ireturn, 1) := dc_172 (dc_nn (k := 9) aX11_errors_123 rfl)
set_option maxRecDepth 20000 in
theorem ggX11_possible_X11_numberOf : GoodIn wsX11_possible wsX11_numberOf := goodIn_ca (goodIn_k _ [[5, 0, 0], [4, 3, 0, 0, 0, 0, 0, 0, 0, 0]] (by rfl) (by decide +kernel)) (goodIn_sub (fun _ h => List.mem_cons_of_mem _ (List.mem_append_right _ h)) (by decide +kernel))
set_option maxRecDepth 20000 in
theorem gX11_possible_X11_numberOf : GoodIn wsX11_possible (va_wsS RX11 118 yX11_numberOf wsX11_numberOf) := goodIn_app (goodIn_k _ [[2, 0, 0]] (by rfl) (gw_S _ _ _ _)) ggX11_possible_X11_numberOf
set_option maxRecDepth 20000 in
theorem ggX11_possible_X11_within : GoodIn wsX11_possible wsX11_within := goodIn_k _ [[11]] (by rfl) (by decide +kernel)
set_option maxRecDepth 20000 in
theorem gX11_possible_X11_within : GoodIn wsX11_possible (va_wsS RX11 96 yX11_within wsX11_within) := goodIn_app (goodIn_k _ [[9, 0], [4]] (by rfl) (gw_S _ _ _ _)) ggX11_possible_X11_within
set_option maxRecDepth 20000 in
theorem ggX11_possible_X11_need : GoodIn wsX11_possible wsX11_need := goodIn_ca (goodIn_k _ [[14, 0, 0]] (by rfl) (by decide +kernel)) (goodIn_sub (fun _ h => List.mem_cons_of_mem _ (List.mem_append_right _ h)) (by decide +kernel))
set_option maxRecDepth 20000 in
theorem gX11_possible_X11_need : GoodIn wsX11_possible (va_wsS RX11 168 yX11_need wsX11_need) := goodIn_app (goodIn_k _ [[12, 0], [4]] (by rfl) (gw_S _ _ _ _)) ggX11_possible_X11_need
set_option maxRecDepth 20000 in
theorem ggX11_possible_X1_degreeOf : GoodIn wsX11_possible wsX1_degreeOf := goodIn_k _ [[21, 0, 69, 0]] (by rfl) (by decide +kernel)
set_option maxRecDepth 20000 in
theorem gX11_possible_X1_degreeOf : GoodIn wsX11_possible (wsV RX11 175 RX1 yX1_degreeOf wsX1_degreeOf) := goodIn_app (goodIn_k _ [[17, 0, 0, 0]] (by rfl) (gw_V _ _ _ _)) ggX11_possible_X1_degreeOf
set_option maxRecDepth 20000 in
theorem ggX11_possible_X11_waysThatCanBe : GoodIn wsX11_possible wsX11_waysThatCanBe := goodIn_k _ [[26], [1, 25, 0, 0, 0, 0, 0], [20, 12, 0], [18, 0, 1, 0, 12, 0, 0, 0, 0, 0, 0, 0, 0, 0, 0, 0, 0, 0, 0, 0, 0, 0, 0, 0, 0, 0, 0, 0, 0, 0, 0, 0, 16, 0, 0, 0, 0, 0, 0, 0, 0, 0, 0, 0, 0, 2, 0, 0, 0, 0, 0, 0, 0], [92, 0]] (by rfl) (by decide +kernel)
set_option maxRecDepth 20000 in
theorem gX11_possible_X11_waysThatCanBe : GoodIn wsX11_possible (wsV RX11 292 RX11 yX11_waysThatCanBe wsX11_waysThatCanBe) := goodIn_app (goodIn_k _ [[23, 0, 0], [4]] (by rfl) (gw_V _ _ _ _)) ggX11_possible_X11_waysThatCanBe
set_option maxRecDepth 20000 in
theorem ggX11_possible_X11_climatesThatCanBe : GoodIn wsX11_possible wsX11_climatesThatCanBe := goodIn_k _ [[66], [1, 25, 0, 0], [17, 0, 0, 0, 0, 0, 7, 0, 0, 0, 0, 0, 0, 0, 0, 0, 0, 0, 0, 0, 0, 0, 0, 0, 0, 0, 0, 0, 0, 0, 0, 0, 0, 0, 0, 0, 0, 0, 0, 4, 0, 0, 0, 0, 0, 0, 0, 0, 0, 0, 0, 0, 0, 0, 0, 0, 0, 0, 0, 0, 0, 0, 0, 0, 2, 0, 0, 0, 0, 0, 0, 0], [92, 0]] (by rfl) (by decide +kernel)
set_option maxRecDepth 20000 in
theorem gX11_possible_X11_climatesThatCanBe : GoodIn wsX11_possible (wsV RX11 295 RX11 yX11_climatesThatCanBe wsX11_climatesThatCanBe) := goodIn_app (goodIn_k _ [[63, 0, 0], [4]] (by rfl) (gw_V _ _ _ _)) ggX11_possible_X11_climatesThatCanBe
noncomputable def sX11_possible_40 : List Nat := 182 :: 1 :: 36 :: 172 :: 42 :: 180 :: 0 :: 29 :: 21 :: 4 :: 3 :: 182 :: 0 :: 175 :: 2 :: 160 :: 0 :: 7 :: 2 :: 167 :: 0 :: 9 :: 42 :: 21 :: 4 :: 182 :: 1 :: 39 :: 172 :: []
noncomputable def sX11_possible_0 : List Nat := 27 :: 28 :: 184 :: 0 :: 118 :: 54 :: 4 :: 29 :: 3 :: 4 :: 184 :: 0 :: 96 :: 184 :: 0 :: 168 :: 42 :: 180 :: 0 :: 29 :: 21 :: 4 :: 16 :: 7 :: 182 :: 0 :: 175 :: 2 :: 160 :: 0 :: 5 :: 2 :: 172 :: 29 :: 154 :: 0 :: 10 :: 42 :: 21 :: 4 :: sX11_possible_40
theorem aX11_possible_0 : dc_at cX11_possible 0 sX11_possible_0 := dc_base (by decide +kernel)
theorem aX11_possible_40 : dc_at cX11_possible 40 sX11_possible_40 := dc_nn (k := 40) aX11_possible_0 rfl
theorem dX11_possible_0 : decode cX11_possible 0 = .ok (.iload_n 1, 1) := dc_27 aX11_possible_0
theorem dX11_possible_1 : decode cX11_possible 1 = .ok (.iload_n 2, 1) := dc_28 (dc_nn (k := 1) aX11_possible_0 rfl)
theorem dX11_possible_2 : decode cX11_possible 2 = .ok (.invokestatic 118, 3) := dc_184 (a0 := 0) (b0 := 118) (dc_nn (k := 2) aX11_possible_0 rfl)
theorem dX11_possible_5 : decode cX11_possible 5 = .ok (.istore 4, 2) := dc_54 (a0 := 4) (dc_nn (k := 5) aX11_possible_0 rfl)
theorem dX11_possible_7 : decode cX11_possible 7 = .ok (.iload_n 3, 1) := dc_29 (dc_nn (k := 7) aX11_possible_0 rfl)
theorem dX11_possible_8 : decode cX11_possible 8 = .ok (.iconst 0, 1) := dc_3 (dc_nn (k := 8) aX11_possible_0 rfl)
theorem dX11_possible_9 : decode cX11_possible 9 = .ok (.iconst 1, 1) := dc_4 (dc_nn (k := 9) aX11_possible_0 rfl)
theorem dX11_possible_10 : decode cX11_possible 10 = .ok (.invokestatic 96, 3) := dc_184 (a0 := 0) (b0 := 96) (dc_nn (k := 10) aX11_possible_0 rfl)
theorem dX11_possible_13 : decode cX11_possible 13 = .ok (.invokestatic 168, 3) := dc_184 (a0 := 0) (b0 := 168) (dc_nn (k := 13) aX11_possible_0 rfl)
theorem dX11_possible_16 : decode cX11_possible 16 = .ok (.aload_n 0, 1) := dc_42 (dc_nn (k := 16) aX11_possible_0 rfl)
theorem dX11_possible_17 : decode cX11_possible 17 = .ok (.getfield 29, 3) := dc_180 (a0 := 0) (b0 := 29) (dc_nn (k := 17) aX11_possible_0 rfl)
theorem dX11_possible_20 : decode cX11_possible 20 = .ok (.iload 4, 2) := dc_21 (a0 := 4) (dc_nn (k := 20) aX11_possible_0 rfl)
theorem dX11_possible_22 : decode cX11_possible 22 = .ok (.bipush 7, 2) := dc_16 (a0 := 7) (dc_nn (k := 22) aX11_possible_0 rfl) (by decide)
theorem dX11_possible_24 : decode cX11_possible 24 = .ok (.invokevirtual 175, 3) := dc_182 (a0 := 0) (b0 := 175) (dc_nn (k := 24) aX11_possible_0 rfl)
theorem dX11_possible_27 : decode cX11_possible 27 = .ok (.iconst (-1), 1) := dc_2 (dc_nn (k := 27) aX11_possible_0 rfl)
theorem dX11_possible_28 : decode cX11_possible 28 = .ok (.if_icmp .ne 5, 3) := dc_160 (a0 := 0) (b0 := 5) (dc_nn (k := 28) aX11_possible_0 rfl) (by decide)
theorem dX11_possible_31 : decode cX11_possible 31 = .ok (.iconst (-1), 1) := dc_2 (dc_nn (k := 31) aX11_possible_0 rfl)
theorem dX11_possible_32 : decode cX11_possible 32 = .ok (.ireturn, 1) := dc_172 (dc_nn (k := 32) aX11_possible_0 rfl)
theorem dX11_possible_33 : decode cX11_possible 33 = .ok (.iload_n 3, 1) := dc_29 (dc_nn (k := 33) aX11_possible_0 rfl)
theorem dX11_possible_34 : decode cX11_possible 34 = .ok (.ifCond .ne 10, 3) := dc_154 (a0 := 0) (b0 := 10) (dc_nn (k := 34) aX11_possible_0 rfl) (by decide)
theorem dX11_possible_37 : decode cX11_possible 37 = .ok (.aload_n 0, 1) := dc_42 (dc_nn (k := 37) aX11_possible_0 rfl)
theorem dX11_possible_38 : decode cX11_possible 38 = .ok (.iload 4, 2) := dc_21 (a0 := 4) (dc_nn (k := 38) aX11_possible_0 rfl)
theorem dX11_possible_40 : decode cX11_possible 40 = .ok (.invokevirtual 292, 3) := dc_182 (a0 := 1) (b0 := 36) aX11_possible_40
theorem dX11_possible_43 : decode cX11_possible 43 = .ok (.ireturn, 1) := dc_172 (dc_nn (k := 3) aX11_possible_40 rfl)
theorem dX11_possible_44 : decode cX11_possible 44 = .ok (.aload_n 0, 1) := dc_42 (dc_nn (k := 4) aX11_possible_40 rfl)
theorem dX11_possible_45 : decode cX11_possible 45 = .ok (.getfield 29, 3) := dc_180 (a0 := 0) (b0 := 29) (dc_nn (k := 5) aX11_possible_40 rfl)
theorem dX11_possible_48 : decode cX11_possible 48 = .ok (.iload 4, 2) := dc_21 (a0 := 4) (dc_nn (k := 8) aX11_possible_40 rfl)
theorem dX11_possible_50 : decode cX11_possible 50 = .ok (.iconst 0, 1) := dc_3 (dc_nn (k := 10) aX11_possible_40 rfl)
theorem dX11_possible_51 : decode cX11_possible 51 = .ok (.invokevirtual 175, 3) := dc_182 (a0 := 0) (b0 := 175) (dc_nn (k := 11) aX11_possible_40 rfl)
theorem dX11_possible_54 : decode cX11_possible 54 = .ok (.iconst (-1), 1) := dc_2 (dc_nn (k := 14) aX11_possible_40 rfl)
theorem dX11_possible_55 : decode cX11_possible 55 = .ok (.if_icmp .ne 7, 3) := dc_160 (a0 := 0) (b0 := 7) (dc_nn (k := 15) aX11_possible_40 rfl) (by decide)
theorem dX11_possible_58 : decode cX11_possible 58 = .ok (.iconst (-1), 1) := dc_2 (dc_nn (k := 18) aX11_possible_40 rfl)
theorem dX11_possible_59 : decode cX11_possible 59 = .ok (.goto 9, 3) := dc_167 (a0 := 0) (b0 := 9) (dc_nn (k := 19) aX11_possible_40 rfl) (by decide)
theorem dX11_possible_62 : decode cX11_possible 62 = .ok (.aload_n 0, 1) := dc_42 (dc_nn (k := 22) aX11_possible_40 rfl)
theorem dX11_possible_63 : decode cX11_possible 63 = .ok (.iload 4, 2) := dc_21 (a0 := 4) (dc_nn (k := 23) aX11_possible_40 rfl)
theorem dX11_possible_65 : decode cX11_possible 65 = .ok (.invokevirtual 295, 3) := dc_182 (a0 := 1) (b0 := 39) (dc_nn (k := 25) aX11_possible_40 rfl)
theorem dX11_possible_68 : decode cX11_possible 68 = .ok (.ireturn, 1) := dc_172 (dc_nn (k := 28) aX11_possible_40 rfl)
set_option maxRecDepth 20000 in
theorem ggX11_slips_X11_within : GoodIn wsX11_slips wsX11_within := goodIn_k _ [[9]] (by rfl) (by decide +kernel)
set_option maxRecDepth 20000 in
theorem gX11_slips_X11_within : GoodIn wsX11_slips (va_wsS RX11 96 yX11_within wsX11_within) := goodIn_app (goodIn_k _ [[6, 0, 0]] (by rfl) (gw_S _ _ _ _)) ggX11_slips_X11_within
set_option maxRecDepth 20000 in
theorem ggX11_slips_X11_need : GoodIn wsX11_slips wsX11_need := goodIn_ca (goodIn_k _ [[12, 0, 0]] (by rfl) (by decide +kernel)) (goodIn_sub (fun _ h => List.mem_cons_of_mem _ (List.mem_append_right _ h)) (by decide +kernel))
set_option maxRecDepth 20000 in
theorem gX11_slips_X11_need : GoodIn wsX11_slips (va_wsS RX11 168 yX11_need wsX11_need) := goodIn_app (goodIn_k _ [[10, 0], [8]] (by rfl) (gw_S _ _ _ _)) ggX11_slips_X11_need
set_option maxRecDepth 20000 in
theorem ggX11_slips_X10_howManySlips : GoodIn wsX11_slips wsX10_howManySlips := goodIn_k _ [[19, 0, 0, 0, 0], [18, 5, 0, 0, 0, 0, 0, 0, 0, 0, 0, 0, 0, 0, 0, 0, 0, 0, 0, 0, 0, 13, 0, 0, 0, 0, 6, 0, 0, 0]] (by rfl) (by decide +kernel)
set_option maxRecDepth 20000 in
theorem gX11_slips_X10_howManySlips : GoodIn wsX11_slips (wsV RX11 301 RX10 yX10_howManySlips wsX10_howManySlips) := goodIn_app (goodIn_k _ [[15, 0, 0, 0]] (by rfl) (gw_V _ _ _ _)) ggX11_slips_X10_howManySlips
noncomputable def sX11_slips_42 : List Nat := 42 :: 180 :: 0 :: 19 :: 180 :: 0 :: 140 :: 42 :: 180 :: 0 :: 29 :: 27 :: 28 :: 182 :: 1 :: 45 :: 172 :: []
noncomputable def sX11_slips_0 : List Nat := 27 :: 3 :: 16 :: 29 :: 184 :: 0 :: 96 :: 153 :: 0 :: 27 :: 28 :: 3 :: 16 :: 29 :: 184 :: 0 :: 96 :: 153 :: 0 :: 17 :: 42 :: 180 :: 0 :: 59 :: 180 :: 1 :: 42 :: 153 :: 0 :: 7 :: 4 :: 167 :: 0 :: 4 :: 3 :: 184 :: 0 :: 168 :: 42 :: 180 :: 0 :: 59 :: sX11_slips_42
theorem aX11_slips_0 : dc_at cX11_slips 0 sX11_slips_0 := dc_base (by decide +kernel)
theorem aX11_slips_42 : dc_at cX11_slips 42 sX11_slips_42 := dc_nn (k := 42) aX11_slips_0 rfl
theorem dX11_slips_0 : decode cX11_slips 0 = .ok (.iload_n 1, 1) := dc_27 aX11_slips_0
theorem dX11_slips_1 : decode cX11_slips 1 = .ok (.iconst 0, 1) := dc_3 (dc_nn (k := 1) aX11_slips_0 rfl)
theorem dX11_slips_2 : decode cX11_slips 2 = .ok (.bipush 29, 2) := dc_16 (a0 := 29) (dc_nn (k := 2) aX11_slips_0 rfl) (by decide)
theorem dX11_slips_4 : decode cX11_slips 4 = .ok (.invokestatic 96, 3) := dc_184 (a0 := 0) (b0 := 96) (dc_nn (k := 4) aX11_slips_0 rfl)
theorem dX11_slips_7 : decode cX11_slips 7 = .ok (.ifCond .eq 27, 3) := dc_153 (a0 := 0) (b0 := 27) (dc_nn (k := 7) aX11_slips_0 rfl) (by decide)
theorem dX11_slips_10 : decode cX11_slips 10 = .ok (.iload_n 2, 1) := dc_28 (dc_nn (k := 10) aX11_slips_0 rfl)
theorem dX11_slips_11 : decode cX11_slips 11 = .ok (.iconst 0, 1) := dc_3 (dc_nn (k := 11) aX11_slips_0 rfl)
theorem dX11_slips_12 : decode cX11_slips 12 = .ok (.bipush 29, 2) := dc_16 (a0 := 29) (dc_nn (k := 12) aX11_slips_0 rfl) (by decide)
theorem dX11_slips_14 : decode cX11_slips 14 = .ok (.invokestatic 96, 3) := dc_184 (a0 := 0) (b0 := 96) (dc_nn (k := 14) aX11_slips_0 rfl)
theorem dX11_slips_17 : decode cX11_slips 17 = .ok (.ifCond .eq 17, 3) := dc_153 (a0 := 0) (b0 := 17) (dc_nn (k := 17) aX11_slips_0 rfl) (by decide)
theorem dX11_slips_20 : decode cX11_slips 20 = .ok (.aload_n 0, 1) := dc_42 (dc_nn (k := 20) aX11_slips_0 rfl)
theorem dX11_slips_21 : decode cX11_slips 21 = .ok (.getfield 59, 3) := dc_180 (a0 := 0) (b0 := 59) (dc_nn (k := 21) aX11_slips_0 rfl)
theorem dX11_slips_24 : decode cX11_slips 24 = .ok (.getfield 298, 3) := dc_180 (a0 := 1) (b0 := 42) (dc_nn (k := 24) aX11_slips_0 rfl)
theorem dX11_slips_27 : decode cX11_slips 27 = .ok (.ifCond .eq 7, 3) := dc_153 (a0 := 0) (b0 := 7) (dc_nn (k := 27) aX11_slips_0 rfl) (by decide)
theorem dX11_slips_30 : decode cX11_slips 30 = .ok (.iconst 1, 1) := dc_4 (dc_nn (k := 30) aX11_slips_0 rfl)
theorem dX11_slips_31 : decode cX11_slips 31 = .ok (.goto 4, 3) := dc_167 (a0 := 0) (b0 := 4) (dc_nn (k := 31) aX11_slips_0 rfl) (by decide)
theorem dX11_slips_34 : decode cX11_slips 34 = .ok (.iconst 0, 1) := dc_3 (dc_nn (k := 34) aX11_slips_0 rfl)
theorem dX11_slips_35 : decode cX11_slips 35 = .ok (.invokestatic 168, 3) := dc_184 (a0 := 0) (b0 := 168) (dc_nn (k := 35) aX11_slips_0 rfl)
theorem dX11_slips_38 : decode cX11_slips 38 = .ok (.aload_n 0, 1) := dc_42 (dc_nn (k := 38) aX11_slips_0 rfl)
theorem dX11_slips_39 : decode cX11_slips 39 = .ok (.getfield 59, 3) := dc_180 (a0 := 0) (b0 := 59) (dc_nn (k := 39) aX11_slips_0 rfl)
theorem dX11_slips_42 : decode cX11_slips 42 = .ok (.aload_n 0, 1) := dc_42 aX11_slips_42
theorem dX11_slips_43 : decode cX11_slips 43 = .ok (.getfield 19, 3) := dc_180 (a0 := 0) (b0 := 19) (dc_nn (k := 1) aX11_slips_42 rfl)
theorem dX11_slips_46 : decode cX11_slips 46 = .ok (.getfield 140, 3) := dc_180 (a0 := 0) (b0 := 140) (dc_nn (k := 4) aX11_slips_42 rfl)
theorem dX11_slips_49 : decode cX11_slips 49 = .ok (.aload_n 0, 1) := dc_42 (dc_nn (k := 7) aX11_slips_42 rfl)
theorem dX11_slips_50 : decode cX11_slips 50 = .ok (.getfield 29, 3) := dc_180 (a0 := 0) (b0 := 29) (dc_nn (k := 8) aX11_slips_42 rfl)
theorem dX11_slips_53 : decode cX11_slips 53 = .ok (.iload_n 1, 1) := dc_27 (dc_nn (k := 11) aX11_slips_42 rfl)
theorem dX11_slips_54 : decode cX11_slips 54 = .ok (.iload_n 2, 1) := dc_28 (dc_nn (k := 12) aX11_slips_42 rfl)
theorem dX11_slips_55 : decode cX11_slips 55 = .ok (.invokevirtual 301, 3) := dc_182 (a0 := 1) (b0 := 45) (dc_nn (k := 13) aX11_slips_42 rfl)
theorem dX11_slips_58 : decode cX11_slips 58 = .ok (.ireturn, 1) := dc_172 (dc_nn (k := 16) aX11_slips_42 rfl)
set_option maxRecDepth 20000 in
theorem ggX11_handed_X11_isBook : GoodIn wsX11_handed wsX11_isBook := goodIn_k _ [[5, 0, 0], [4, 3]] (by rfl) (by decide +kernel)
set_option maxRecDepth 20000 in
theorem gX11_handed_X11_isBook : GoodIn wsX11_handed (va_wsS RX11 250 yX11_isBook wsX11_isBook) := goodIn_app (goodIn_k _ [[2, 0, 0]] (by rfl) (gw_S _ _ _ _)) ggX11_handed_X11_isBook
set_option maxRecDepth 20000 in
theorem ggX11_handed_X11_need : GoodIn wsX11_handed wsX11_need := goodIn_ca (goodIn_k _ [[11, 0, 0]] (by rfl) (by decide +kernel)) (goodIn_sub (fun _ h => List.mem_cons_of_mem _ (List.mem_append_right _ h)) (by decide +kernel))
set_option maxRecDepth 20000 in
theorem gX11_handed_X11_need : GoodIn wsX11_handed (va_wsS RX11 168 yX11_need wsX11_need) := goodIn_app (goodIn_k _ [[9, 0], [4]] (by rfl) (gw_S _ _ _ _)) ggX11_handed_X11_need
set_option maxRecDepth 20000 in
theorem ggX11_handed_X1_howManyHanded : GoodIn wsX11_handed wsX1_howManyHanded := goodIn_k _ [[18, 0, 13, 0]] (by rfl) (by decide +kernel)
set_option maxRecDepth 20000 in
theorem gX11_handed_X1_howManyHanded : GoodIn wsX11_handed (wsV RX11 304 RX1 yX1_howManyHanded wsX1_howManyHanded) := goodIn_app (goodIn_k _ [[14, 0, 0, 0]] (by rfl) (gw_V _ _ _ _)) ggX11_handed_X1_howManyHanded
noncomputable def sX11_handed_0 : List Nat := 27 :: 184 :: 0 :: 250 :: 153 :: 0 :: 21 :: 28 :: 184 :: 0 :: 250 :: 153 :: 0 :: 14 :: 29 :: 184 :: 0 :: 250 :: 153 :: 0 :: 7 :: 4 :: 167 :: 0 :: 4 :: 3 :: 184 :: 0 :: 168 :: 42 :: 180 :: 0 :: 29 :: 27 :: 28 :: 29 :: 182 :: 1 :: 48 :: 172 :: []
theorem aX11_handed_0 : dc_at cX11_handed 0 sX11_handed_0 := dc_base (by decide +kernel)
theorem dX11_handed_0 : decode cX11_handed 0 = .ok (.iload_n 1, 1) := dc_27 aX11_handed_0
theorem dX11_handed_1 : decode cX11_handed 1 = .ok (.invokestatic 250, 3) := dc_184 (a0 := 0) (b0 := 250) (dc_nn (k := 1) aX11_handed_0 rfl)
theorem dX11_handed_4 : decode cX11_handed 4 = .ok (.ifCond .eq 21, 3) := dc_153 (a0 := 0) (b0 := 21) (dc_nn (k := 4) aX11_handed_0 rfl) (by decide)
theorem dX11_handed_7 : decode cX11_handed 7 = .ok (.iload_n 2, 1) := dc_28 (dc_nn (k := 7) aX11_handed_0 rfl)
theorem dX11_handed_8 : decode cX11_handed 8 = .ok (.invokestatic 250, 3) := dc_184 (a0 := 0) (b0 := 250) (dc_nn (k := 8) aX11_handed_0 rfl)
theorem dX11_handed_11 : decode cX11_handed 11 = .ok (.ifCond .eq 14, 3) := dc_153 (a0 := 0) (b0 := 14) (dc_nn (k := 11) aX11_handed_0 rfl) (by decide)
theorem dX11_handed_14 : decode cX11_handed 14 = .ok (.iload_n 3, 1) := dc_29 (dc_nn (k := 14) aX11_handed_0 rfl)
theorem dX11_handed_15 : decode cX11_handed 15 = .ok (.invokestatic 250, 3) := dc_184 (a0 := 0) (b0 := 250) (dc_nn (k := 15) aX11_handed_0 rfl)
theorem dX11_handed_18 : decode cX11_handed 18 = .ok (.ifCond .eq 7, 3) := dc_153 (a0 := 0) (b0 := 7) (dc_nn (k := 18) aX11_handed_0 rfl) (by decide)
theorem dX11_handed_21 : decode cX11_handed 21 = .ok (.iconst 1, 1) := dc_4 (dc_nn (k := 21) aX11_handed_0 rfl)
theorem dX11_handed_22 : decode cX11_handed 22 = .ok (.goto 4, 3) := dc_167 (a0 := 0) (b0 := 4) (dc_nn (k := 22) aX11_handed_0 rfl) (by decide)
theorem dX11_handed_25 : decode cX11_handed 25 = .ok (.iconst 0, 1) := dc_3 (dc_nn (k := 25) aX11_handed_0 rfl)
theorem dX11_handed_26 : decode cX11_handed 26 = .ok (.invokestatic 168, 3) := dc_184 (a0 := 0) (b0 := 168) (dc_nn (k := 26) aX11_handed_0 rfl)
theorem dX11_handed_29 : decode cX11_handed 29 = .ok (.aload_n 0, 1) := dc_42 (dc_nn (k := 29) aX11_handed_0 rfl)
theorem dX11_handed_30 : decode cX11_handed 30 = .ok (.getfield 29, 3) := dc_180 (a0 := 0) (b0 := 29) (dc_nn (k := 30) aX11_handed_0 rfl)
theorem dX11_handed_33 : decode cX11_handed 33 = .ok (.iload_n 1, 1) := dc_27 (dc_nn (k := 33) aX11_handed_0 rfl)
theorem dX11_handed_34 : decode cX11_handed 34 = .ok (.iload_n 2, 1) := dc_28 (dc_nn (k := 34) aX11_handed_0 rfl)
theorem dX11_handed_35 : decode cX11_handed 35 = .ok (.iload_n 3, 1) := dc_29 (dc_nn (k := 35) aX11_handed_0 rfl)
theorem dX11_handed_36 : decode cX11_handed 36 = .ok (.invokevirtual 304, 3) := dc_182 (a0 := 1) (b0 := 48) (dc_nn (k := 36) aX11_handed_0 rfl)
theorem dX11_handed_39 : decode cX11_handed 39 = .ok (.ireturn, 1) := dc_172 (dc_nn (k := 39) aX11_handed_0 rfl)
set_option maxRecDepth 20000 in
theorem ggX11_leaf_X11_isBook : GoodIn wsX11_leaf wsX11_isBook := goodIn_k _ [[5, 0, 0], [4, 3]] (by rfl) (by decide +kernel)
set_option maxRecDepth 20000 in
theorem gX11_leaf_X11_isBook : GoodIn wsX11_leaf (va_wsS RX11 250 yX11_isBook wsX11_isBook) := goodIn_app (goodIn_k _ [[2, 0, 0]] (by rfl) (gw_S _ _ _ _)) ggX11_leaf_X11_isBook
set_option maxRecDepth 20000 in
theorem ggX11_leaf_X11_within : GoodIn wsX11_leaf wsX11_within := goodIn_k _ [[8]] (by rfl) (by decide +kernel)
set_option maxRecDepth 20000 in
theorem gX11_leaf_X11_within : GoodIn wsX11_leaf (va_wsS RX11 96 yX11_within wsX11_within) := goodIn_app (goodIn_k _ [[6, 0], [4]] (by rfl) (gw_S _ _ _ _)) ggX11_leaf_X11_within
set_option maxRecDepth 20000 in
theorem ggX11_leaf_X11_need : GoodIn wsX11_leaf wsX11_need := goodIn_ca (goodIn_k _ [[11, 0, 0]] (by rfl) (by decide +kernel)) (goodIn_sub (fun _ h => List.mem_cons_of_mem _ (List.mem_append_right _ h)) (by decide +kernel))
set_option maxRecDepth 20000 in
theorem gX11_leaf_X11_need : GoodIn wsX11_leaf (va_wsS RX11 168 yX11_need wsX11_need) := goodIn_app (goodIn_k _ [[9, 0], [4]] (by rfl) (gw_S _ _ _ _)) ggX11_leaf_X11_need
set_option maxRecDepth 20000 in
theorem ggX11_leaf_X6_addTo : GoodIn wsX11_leaf wsX6_addTo := goodIn_k _ [[18, 0, 0, 0, 0, 0], [17, 6, 13, 0, 0, 0]] (by rfl) (by decide +kernel)
set_option maxRecDepth 20000 in
theorem gX11_leaf_X6_addTo : GoodIn wsX11_leaf (wsV RX11 307 RX6 yX6_addTo wsX6_addTo) := goodIn_app (goodIn_k _ [[14, 0, 0, 0]] (by rfl) (gw_V _ _ _ _)) ggX11_leaf_X6_addTo
noncomputable def sX11_leaf_0 : List Nat := 27 :: 184 :: 0 :: 250 :: 153 :: 0 :: 17 :: 28 :: 3 :: 16 :: 19 :: 184 :: 0 :: 96 :: 153 :: 0 :: 7 :: 4 :: 167 :: 0 :: 4 :: 3 :: 184 :: 0 :: 168 :: 42 :: 180 :: 0 :: 66 :: 27 :: 28 :: 182 :: 1 :: 51 :: 172 :: []
theorem aX11_leaf_0 : dc_at cX11_leaf 0 sX11_leaf_0 := dc_base (by decide +kernel)
theorem dX11_leaf_0 : decode cX11_leaf 0 = .ok (.iload_n 1, 1) := dc_27 aX11_leaf_0
theorem dX11_leaf_1 : decode cX11_leaf 1 = .ok (.invokestatic 250, 3) := dc_184 (a0 := 0) (b0 := 250) (dc_nn (k := 1) aX11_leaf_0 rfl)
theorem dX11_leaf_4 : decode cX11_leaf 4 = .ok (.ifCond .eq 17, 3) := dc_153 (a0 := 0) (b0 := 17) (dc_nn (k := 4) aX11_leaf_0 rfl) (by decide)
theorem dX11_leaf_7 : decode cX11_leaf 7 = .ok (.iload_n 2, 1) := dc_28 (dc_nn (k := 7) aX11_leaf_0 rfl)
theorem dX11_leaf_8 : decode cX11_leaf 8 = .ok (.iconst 0, 1) := dc_3 (dc_nn (k := 8) aX11_leaf_0 rfl)
theorem dX11_leaf_9 : decode cX11_leaf 9 = .ok (.bipush 19, 2) := dc_16 (a0 := 19) (dc_nn (k := 9) aX11_leaf_0 rfl) (by decide)
theorem dX11_leaf_11 : decode cX11_leaf 11 = .ok (.invokestatic 96, 3) := dc_184 (a0 := 0) (b0 := 96) (dc_nn (k := 11) aX11_leaf_0 rfl)
theorem dX11_leaf_14 : decode cX11_leaf 14 = .ok (.ifCond .eq 7, 3) := dc_153 (a0 := 0) (b0 := 7) (dc_nn (k := 14) aX11_leaf_0 rfl) (by decide)
theorem dX11_leaf_17 : decode cX11_leaf 17 = .ok (.iconst 1, 1) := dc_4 (dc_nn (k := 17) aX11_leaf_0 rfl)
theorem dX11_leaf_18 : decode cX11_leaf 18 = .ok (.goto 4, 3) := dc_167 (a0 := 0) (b0 := 4) (dc_nn (k := 18) aX11_leaf_0 rfl) (by decide)
theorem dX11_leaf_21 : decode cX11_leaf 21 = .ok (.iconst 0, 1) := dc_3 (dc_nn (k := 21) aX11_leaf_0 rfl)
theorem dX11_leaf_22 : decode cX11_leaf 22 = .ok (.invokestatic 168, 3) := dc_184 (a0 := 0) (b0 := 168) (dc_nn (k := 22) aX11_leaf_0 rfl)
theorem dX11_leaf_25 : decode cX11_leaf 25 = .ok (.aload_n 0, 1) := dc_42 (dc_nn (k := 25) aX11_leaf_0 rfl)
theorem dX11_leaf_26 : decode cX11_leaf 26 = .ok (.getfield 66, 3) := dc_180 (a0 := 0) (b0 := 66) (dc_nn (k := 26) aX11_leaf_0 rfl)
theorem dX11_leaf_29 : decode cX11_leaf 29 = .ok (.iload_n 1, 1) := dc_27 (dc_nn (k := 29) aX11_leaf_0 rfl)
theorem dX11_leaf_30 : decode cX11_leaf 30 = .ok (.iload_n 2, 1) := dc_28 (dc_nn (k := 30) aX11_leaf_0 rfl)
theorem dX11_leaf_31 : decode cX11_leaf 31 = .ok (.invokevirtual 307, 3) := dc_182 (a0 := 1) (b0 := 51) (dc_nn (k := 31) aX11_leaf_0 rfl)
theorem dX11_leaf_34 : decode cX11_leaf 34 = .ok (.ireturn, 1) := dc_172 (dc_nn (k := 34) aX11_leaf_0 rfl)
set_option maxRecDepth 20000 in
theorem ggX11_order_X11_isBook : GoodIn wsX11_order wsX11_isBook := goodIn_k _ [[5, 0, 0], [4, 3]] (by rfl) (by decide +kernel)
set_option maxRecDepth 20000 in
theorem gX11_order_X11_isBook : GoodIn wsX11_order (va_wsS RX11 250 yX11_isBook wsX11_isBook) := goodIn_app (goodIn_k _ [[2, 0, 0]] (by rfl) (gw_S _ _ _ _)) ggX11_order_X11_isBook
set_option maxRecDepth 20000 in
theorem ggX11_order_X11_within : GoodIn wsX11_order wsX11_within := goodIn_k _ [[8]] (by rfl) (by decide +kernel)
set_option maxRecDepth 20000 in
theorem gX11_order_X11_within : GoodIn wsX11_order (va_wsS RX11 96 yX11_within wsX11_within) := goodIn_app (goodIn_k _ [[6, 0], [4]] (by rfl) (gw_S _ _ _ _)) ggX11_order_X11_within
set_option maxRecDepth 20000 in
theorem ggX11_order_X11_need : GoodIn wsX11_order wsX11_need := goodIn_ca (goodIn_k _ [[11, 0, 0]] (by rfl) (by decide +kernel)) (goodIn_sub (fun _ h => List.mem_cons_of_mem _ (List.mem_append_right _ h)) (by decide +kernel))
set_option maxRecDepth 20000 in
theorem gX11_order_X11_need : GoodIn wsX11_order (va_wsS RX11 168 yX11_need wsX11_need) := goodIn_app (goodIn_k _ [[9, 0], [4]] (by rfl) (gw_S _ _ _ _)) ggX11_order_X11_need
set_option maxRecDepth 20000 in
theorem ggX11_order_X6_howManyInOrder : GoodIn wsX11_order wsX6_howManyInOrder := goodIn_k _ [[18, 0, 0, 0, 0, 0, 0, 0, 0, 0], [17, 10, 0, 0, 0, 0, 0, 0, 17, 0, 0, 0]] (by rfl) (by decide +kernel)
set_option maxRecDepth 20000 in
theorem gX11_order_X6_howManyInOrder : GoodIn wsX11_order (wsV RX11 310 RX6 yX6_howManyInOrder wsX6_howManyInOrder) := goodIn_app (goodIn_k _ [[14, 0, 0, 0]] (by rfl) (gw_V _ _ _ _)) ggX11_order_X6_howManyInOrder
set_option maxRecDepth 20000 in
theorem ggX11_order_X6_howManyTurned : GoodIn wsX11_order wsX6_howManyTurned := goodIn_k _ [[38], [20, 4, 0, 0], [17, 10, 0, 0, 0, 0, 0, 0, 17, 0, 0, 0]] (by rfl) (by decide +kernel)
set_option maxRecDepth 20000 in
theorem gX11_order_X6_howManyTurned : GoodIn wsX11_order (wsV RX11 313 RX6 yX6_howManyTurned wsX6_howManyTurned) := goodIn_app (goodIn_k _ [[35, 0, 0], [17]] (by rfl) (gw_V _ _ _ _)) ggX11_order_X6_howManyTurned
noncomputable def sX11_order_40 : List Nat := 28 :: 182 :: 1 :: 54 :: 167 :: 0 :: 12 :: 42 :: 180 :: 0 :: 66 :: 27 :: 28 :: 182 :: 1 :: 57 :: 172 :: []
noncomputable def sX11_order_0 : List Nat := 27 :: 184 :: 0 :: 250 :: 153 :: 0 :: 23 :: 28 :: 184 :: 0 :: 250 :: 153 :: 0 :: 16 :: 29 :: 3 :: 4 :: 184 :: 0 :: 96 :: 153 :: 0 :: 7 :: 4 :: 167 :: 0 :: 4 :: 3 :: 184 :: 0 :: 168 :: 29 :: 154 :: 0 :: 15 :: 42 :: 180 :: 0 :: 66 :: 27 :: sX11_order_40
theorem aX11_order_0 : dc_at cX11_order 0 sX11_order_0 := dc_base (by decide +kernel)
theorem aX11_order_40 : dc_at cX11_order 40 sX11_order_40 := dc_nn (k := 40) aX11_order_0 rfl
theorem dX11_order_0 : decode cX11_order 0 = .ok (.iload_n 1, 1) := dc_27 aX11_order_0
theorem dX11_order_1 : decode cX11_order 1 = .ok (.invokestatic 250, 3) := dc_184 (a0 := 0) (b0 := 250) (dc_nn (k := 1) aX11_order_0 rfl)
theorem dX11_order_4 : decode cX11_order 4 = .ok (.ifCond .eq 23, 3) := dc_153 (a0 := 0) (b0 := 23) (dc_nn (k := 4) aX11_order_0 rfl) (by decide)
theorem dX11_order_7 : decode cX11_order 7 = .ok (.iload_n 2, 1) := dc_28 (dc_nn (k := 7) aX11_order_0 rfl)
theorem dX11_order_8 : decode cX11_order 8 = .ok (.invokestatic 250, 3) := dc_184 (a0 := 0) (b0 := 250) (dc_nn (k := 8) aX11_order_0 rfl)
theorem dX11_order_11 : decode cX11_order 11 = .ok (.ifCond .eq 16, 3) := dc_153 (a0 := 0) (b0 := 16) (dc_nn (k := 11) aX11_order_0 rfl) (by decide)
theorem dX11_order_14 : decode cX11_order 14 = .ok (.iload_n 3, 1) := dc_29 (dc_nn (k := 14) aX11_order_0 rfl)
theorem dX11_order_15 : decode cX11_order 15 = .ok (.iconst 0, 1) := dc_3 (dc_nn (k := 15) aX11_order_0 rfl)
theorem dX11_order_16 : decode cX11_order 16 = .ok (.iconst 1, 1) := dc_4 (dc_nn (k := 16) aX11_order_0 rfl)
theorem dX11_order_17 : decode cX11_order 17 = .ok (.invokestatic 96, 3) := dc_184 (a0 := 0) (b0 := 96) (dc_nn (k := 17) aX11_order_0 rfl)
theorem dX11_order_20 : decode cX11_order 20 = .ok (.ifCond .eq 7, 3) := dc_153 (a0 := 0) (b0 := 7) (dc_nn (k := 20) aX11_order_0 rfl) (by decide)
theorem dX11_order_23 : decode cX11_order 23 = .ok (.iconst 1, 1) := dc_4 (dc_nn (k := 23) aX11_order_0 rfl)
theorem dX11_order_24 : decode cX11_order 24 = .ok (.goto 4, 3) := dc_167 (a0 := 0) (b0 := 4) (dc_nn (k := 24) aX11_order_0 rfl) (by decide)
theorem dX11_order_27 : decode cX11_order 27 = .ok (.iconst 0, 1) := dc_3 (dc_nn (k := 27) aX11_order_0 rfl)
theorem dX11_order_28 : decode cX11_order 28 = .ok (.invokestatic 168, 3) := dc_184 (a0 := 0) (b0 := 168) (dc_nn (k := 28) aX11_order_0 rfl)
theorem dX11_order_31 : decode cX11_order 31 = .ok (.iload_n 3, 1) := dc_29 (dc_nn (k := 31) aX11_order_0 rfl)
theorem dX11_order_32 : decode cX11_order 32 = .ok (.ifCond .ne 15, 3) := dc_154 (a0 := 0) (b0 := 15) (dc_nn (k := 32) aX11_order_0 rfl) (by decide)
theorem dX11_order_35 : decode cX11_order 35 = .ok (.aload_n 0, 1) := dc_42 (dc_nn (k := 35) aX11_order_0 rfl)
theorem dX11_order_36 : decode cX11_order 36 = .ok (.getfield 66, 3) := dc_180 (a0 := 0) (b0 := 66) (dc_nn (k := 36) aX11_order_0 rfl)
theorem dX11_order_39 : decode cX11_order 39 = .ok (.iload_n 1, 1) := dc_27 (dc_nn (k := 39) aX11_order_0 rfl)
theorem dX11_order_40 : decode cX11_order 40 = .ok (.iload_n 2, 1) := dc_28 aX11_order_40
theorem dX11_order_41 : decode cX11_order 41 = .ok (.invokevirtual 310, 3) := dc_182 (a0 := 1) (b0 := 54) (dc_nn (k := 1) aX11_order_40 rfl)
theorem dX11_order_44 : decode cX11_order 44 = .ok (.goto 12, 3) := dc_167 (a0 := 0) (b0 := 12) (dc_nn (k := 4) aX11_order_40 rfl) (by decide)
theorem dX11_order_47 : decode cX11_order 47 = .ok (.aload_n 0, 1) := dc_42 (dc_nn (k := 7) aX11_order_40 rfl)
theorem dX11_order_48 : decode cX11_order 48 = .ok (.getfield 66, 3) := dc_180 (a0 := 0) (b0 := 66) (dc_nn (k := 8) aX11_order_40 rfl)
theorem dX11_order_51 : decode cX11_order 51 = .ok (.iload_n 1, 1) := dc_27 (dc_nn (k := 11) aX11_order_40 rfl)
theorem dX11_order_52 : decode cX11_order 52 = .ok (.iload_n 2, 1) := dc_28 (dc_nn (k := 12) aX11_order_40 rfl)
theorem dX11_order_53 : decode cX11_order 53 = .ok (.invokevirtual 313, 3) := dc_182 (a0 := 1) (b0 := 57) (dc_nn (k := 13) aX11_order_40 rfl)
theorem dX11_order_56 : decode cX11_order 56 = .ok (.ireturn, 1) := dc_172 (dc_nn (k := 16) aX11_order_40 rfl)
set_option maxRecDepth 20000 in
theorem ggX11_same_X11_isNumber : GoodIn wsX11_same wsX11_isNumber := goodIn_k _ [[7, 0, 0], [6, 3]] (by rfl) (by decide +kernel)
set_option maxRecDepth 20000 in
theorem gX11_same_X11_isNumber : GoodIn wsX11_same (va_wsS RX11 316 yX11_isNumber wsX11_isNumber) := goodIn_app (goodIn_k _ [[4, 0, 0]] (by rfl) (gw_S _ _ _ _)) ggX11_same_X11_isNumber
set_option maxRecDepth 20000 in
theorem ggX11_same_X11_within : GoodIn wsX11_same wsX11_within := goodIn_k _ [[10]] (by rfl) (by decide +kernel)
set_option maxRecDepth 20000 in
theorem gX11_same_X11_within : GoodIn wsX11_same (va_wsS RX11 96 yX11_within wsX11_within) := goodIn_app (goodIn_k _ [[8, 0], [6]] (by rfl) (gw_S _ _ _ _)) ggX11_same_X11_within
set_option maxRecDepth 20000 in
theorem ggX11_same_X11_need : GoodIn wsX11_same wsX11_need := goodIn_ca (goodIn_k _ [[13, 0, 0]] (by rfl) (by decide +kernel)) (goodIn_sub (fun _ h => List.mem_cons_of_mem _ (List.mem_append_right _ h)) (by decide +kernel))
set_option maxRecDepth 20000 in
theorem gX11_same_X11_need : GoodIn wsX11_same (va_wsS RX11 168 yX11_need wsX11_need) := goodIn_app (goodIn_k _ [[11, 0], [6]] (by rfl) (gw_S _ _ _ _)) ggX11_same_X11_need
set_option maxRecDepth 20000 in
theorem ggX11_same_X0_areOne : GoodIn wsX11_same wsX0_areOne := goodIn_k _ [[19, 0, 0, 0, 0, 0, 0, 0, 0, 0, 0, 0, 0, 0, 0, 0, 0, 0, 0, 0, 0, 19, 0, 0, 0]] (by rfl) (by decide +kernel)
set_option maxRecDepth 20000 in
theorem gX11_same_X0_areOne : GoodIn wsX11_same (va_wsS RX11 319 yX0_areOne wsX0_areOne) := goodIn_app (goodIn_k _ [[16, 0, 0]] (by rfl) (gw_S _ _ _ _)) ggX11_same_X0_areOne
noncomputable def sX11_same_40 : List Nat := 180 :: 0 :: 29 :: 27 :: 28 :: 29 :: 184 :: 1 :: 63 :: 172 :: []
noncomputable def sX11_same_0 : List Nat := 27 :: 184 :: 1 :: 60 :: 153 :: 0 :: 24 :: 28 :: 184 :: 1 :: 60 :: 153 :: 0 :: 17 :: 29 :: 4 :: 16 :: 7 :: 184 :: 0 :: 96 :: 153 :: 0 :: 7 :: 4 :: 167 :: 0 :: 4 :: 3 :: 184 :: 0 :: 168 :: 42 :: 180 :: 0 :: 19 :: 180 :: 0 :: 140 :: 42 :: sX11_same_40
theorem aX11_same_0 : dc_at cX11_same 0 sX11_same_0 := dc_base (by decide +kernel)
theorem aX11_same_40 : dc_at cX11_same 40 sX11_same_40 := dc_nn (k := 40) aX11_same_0 rfl
theorem dX11_same_0 : decode cX11_same 0 = .ok (.iload_n 1, 1) := dc_27 aX11_same_0
theorem dX11_same_1 : decode cX11_same 1 = .ok (.invokestatic 316, 3) := dc_184 (a0 := 1) (b0 := 60) (dc_nn (k := 1) aX11_same_0 rfl)
theorem dX11_same_4 : decode cX11_same 4 = .ok (.ifCond .eq 24, 3) := dc_153 (a0 := 0) (b0 := 24) (dc_nn (k := 4) aX11_same_0 rfl) (by decide)
theorem dX11_same_7 : decode cX11_same 7 = .ok (.iload_n 2, 1) := dc_28 (dc_nn (k := 7) aX11_same_0 rfl)
theorem dX11_same_8 : decode cX11_same 8 = .ok (.invokestatic 316, 3) := dc_184 (a0 := 1) (b0 := 60) (dc_nn (k := 8) aX11_same_0 rfl)
theorem dX11_same_11 : decode cX11_same 11 = .ok (.ifCond .eq 17, 3) := dc_153 (a0 := 0) (b0 := 17) (dc_nn (k := 11) aX11_same_0 rfl) (by decide)
theorem dX11_same_14 : decode cX11_same 14 = .ok (.iload_n 3, 1) := dc_29 (dc_nn (k := 14) aX11_same_0 rfl)
theorem dX11_same_15 : decode cX11_same 15 = .ok (.iconst 1, 1) := dc_4 (dc_nn (k := 15) aX11_same_0 rfl)
theorem dX11_same_16 : decode cX11_same 16 = .ok (.bipush 7, 2) := dc_16 (a0 := 7) (dc_nn (k := 16) aX11_same_0 rfl) (by decide)
theorem dX11_same_18 : decode cX11_same 18 = .ok (.invokestatic 96, 3) := dc_184 (a0 := 0) (b0 := 96) (dc_nn (k := 18) aX11_same_0 rfl)
theorem dX11_same_21 : decode cX11_same 21 = .ok (.ifCond .eq 7, 3) := dc_153 (a0 := 0) (b0 := 7) (dc_nn (k := 21) aX11_same_0 rfl) (by decide)
theorem dX11_same_24 : decode cX11_same 24 = .ok (.iconst 1, 1) := dc_4 (dc_nn (k := 24) aX11_same_0 rfl)
theorem dX11_same_25 : decode cX11_same 25 = .ok (.goto 4, 3) := dc_167 (a0 := 0) (b0 := 4) (dc_nn (k := 25) aX11_same_0 rfl) (by decide)
theorem dX11_same_28 : decode cX11_same 28 = .ok (.iconst 0, 1) := dc_3 (dc_nn (k := 28) aX11_same_0 rfl)
theorem dX11_same_29 : decode cX11_same 29 = .ok (.invokestatic 168, 3) := dc_184 (a0 := 0) (b0 := 168) (dc_nn (k := 29) aX11_same_0 rfl)
theorem dX11_same_32 : decode cX11_same 32 = .ok (.aload_n 0, 1) := dc_42 (dc_nn (k := 32) aX11_same_0 rfl)
theorem dX11_same_33 : decode cX11_same 33 = .ok (.getfield 19, 3) := dc_180 (a0 := 0) (b0 := 19) (dc_nn (k := 33) aX11_same_0 rfl)
theorem dX11_same_36 : decode cX11_same 36 = .ok (.getfield 140, 3) := dc_180 (a0 := 0) (b0 := 140) (dc_nn (k := 36) aX11_same_0 rfl)
theorem dX11_same_39 : decode cX11_same 39 = .ok (.aload_n 0, 1) := dc_42 (dc_nn (k := 39) aX11_same_0 rfl)
theorem dX11_same_40 : decode cX11_same 40 = .ok (.getfield 29, 3) := dc_180 (a0 := 0) (b0 := 29) aX11_same_40
theorem dX11_same_43 : decode cX11_same 43 = .ok (.iload_n 1, 1) := dc_27 (dc_nn (k := 3) aX11_same_40 rfl)
theorem dX11_same_44 : decode cX11_same 44 = .ok (.iload_n 2, 1) := dc_28 (dc_nn (k := 4) aX11_same_40 rfl)
theorem dX11_same_45 : decode cX11_same 45 = .ok (.iload_n 3, 1) := dc_29 (dc_nn (k := 5) aX11_same_40 rfl)
theorem dX11_same_46 : decode cX11_same 46 = .ok (.invokestatic 319, 3) := dc_184 (a0 := 1) (b0 := 63) (dc_nn (k := 6) aX11_same_40 rfl)
theorem dX11_same_49 : decode cX11_same 49 = .ok (.ireturn, 1) := dc_172 (dc_nn (k := 9) aX11_same_40 rfl)
set_option maxRecDepth 20000 in
theorem ggX11_births_X11_isNumber : GoodIn wsX11_births wsX11_isNumber := goodIn_k _ [[8, 0, 0], [7, 3]] (by rfl) (by decide +kernel)
set_option maxRecDepth 20000 in
theorem gX11_births_X11_isNumber : GoodIn wsX11_births (va_wsS RX11 316 yX11_isNumber wsX11_isNumber) := goodIn_app (goodIn_k _ [[5, 0, 0]] (by rfl) (gw_S _ _ _ _)) ggX11_births_X11_isNumber
set_option maxRecDepth 20000 in
theorem ggX11_births_X11_within : GoodIn wsX11_births wsX11_within := goodIn_k _ [[11]] (by rfl) (by decide +kernel)
set_option maxRecDepth 20000 in
theorem gX11_births_X11_within : GoodIn wsX11_births (va_wsS RX11 96 yX11_within wsX11_within) := goodIn_app (goodIn_k _ [[9, 0], [7]] (by rfl) (gw_S _ _ _ _)) ggX11_births_X11_within
set_option maxRecDepth 20000 in
theorem ggX11_births_X11_need : GoodIn wsX11_births wsX11_need := goodIn_ca (goodIn_k _ [[14, 0, 0]] (by rfl) (by decide +kernel)) (goodIn_sub (fun _ h => List.mem_cons_of_mem _ (List.mem_append_right _ h)) (by decide +kernel))
set_option maxRecDepth 20000 in
theorem gX11_births_X11_need : GoodIn wsX11_births (va_wsS RX11 168 yX11_need wsX11_need) := goodIn_app (goodIn_k _ [[12, 0], [7]] (by rfl) (gw_S _ _ _ _)) ggX11_births_X11_need
set_option maxRecDepth 20000 in
theorem ggX11_births_X0_partBy : GoodIn wsX11_births wsX0_partBy := goodIn_k _ [[21, 0, 0, 0], [20, 4, 0, 0, 0, 0, 0, 0, 0, 0, 0, 0, 0, 0, 0, 0, 0, 0, 0, 0, 0, 0, 0, 0, 0, 0, 0, 0, 0, 0, 32, 0, 0, 0, 0]] (by rfl) (by decide +kernel)
set_option maxRecDepth 20000 in
theorem gX11_births_X0_partBy : GoodIn wsX11_births (wsV RX11 323 RX0 yX0_partBy wsX0_partBy) := goodIn_app (goodIn_k _ [[17, 0, 0, 0]] (by rfl) (gw_V _ _ _ _)) ggX11_births_X0_partBy
set_option maxRecDepth 20000 in
theorem ggX11_births_X0_howManyParts : GoodIn wsX11_births wsX0_howManyParts := goodIn_k _ [[57], [22, 35, 0, 0], [29, 31, 0], [27, 0, 1, 0, 54, 0, 0]] (by rfl) (by decide +kernel)
set_option maxRecDepth 20000 in
theorem gX11_births_X0_howManyParts : GoodIn wsX11_births (wsV RX11 327 RX0 yX0_howManyParts wsX0_howManyParts) := goodIn_app (goodIn_k _ [[54, 0, 0], [20]] (by rfl) (gw_V _ _ _ _)) ggX11_births_X0_howManyParts
set_option maxRecDepth 20000 in
theorem ggX11_births_X0_leastOf : GoodIn wsX11_births wsX0_leastOf := goodIn_k _ [[66], [22, 63]] (by rfl) (by decide +kernel)
set_option maxRecDepth 20000 in
theorem gX11_births_X0_leastOf : GoodIn wsX11_births (wsV RX11 331 RX0 yX0_leastOf wsX0_leastOf) := goodIn_app (goodIn_k _ [[63, 0, 0], [20]] (by rfl) (gw_V _ _ _ _)) ggX11_births_X0_leastOf
noncomputable def sX11_births_41 : List Nat := 42 :: 180 :: 0 :: 29 :: 28 :: 182 :: 1 :: 67 :: 27 :: 2 :: 160 :: 0 :: 17 :: 42 :: 180 :: 0 :: 73 :: 42 :: 180 :: 0 :: 29 :: 182 :: 1 :: 71 :: 167 :: 0 :: 11 :: 42 :: 180 :: 0 :: 73 :: 27 :: 182 :: 1 :: 75 :: 172 :: []
noncomputable def sX11_births_0 : List Nat := 27 :: 2 :: 159 :: 0 :: 10 :: 27 :: 184 :: 1 :: 60 :: 153 :: 0 :: 17 :: 28 :: 4 :: 16 :: 7 :: 184 :: 0 :: 96 :: 153 :: 0 :: 7 :: 4 :: 167 :: 0 :: 4 :: 3 :: 184 :: 0 :: 168 :: 42 :: 180 :: 0 :: 73 :: 42 :: 180 :: 0 :: 19 :: 180 :: 0 :: 140 :: sX11_births_41
theorem aX11_births_0 : dc_at cX11_births 0 sX11_births_0 := dc_base (by decide +kernel)
theorem aX11_births_41 : dc_at cX11_births 41 sX11_births_41 := dc_nn (k := 41) aX11_births_0 rfl
theorem dX11_births_0 : decode cX11_births 0 = .ok (.iload_n 1, 1) := dc_27 aX11_births_0
theorem dX11_births_1 : decode cX11_births 1 = .ok (.iconst (-1), 1) := dc_2 (dc_nn (k := 1) aX11_births_0 rfl)
theorem dX11_births_2 : decode cX11_births 2 = .ok (.if_icmp .eq 10, 3) := dc_159 (a0 := 0) (b0 := 10) (dc_nn (k := 2) aX11_births_0 rfl) (by decide)
theorem dX11_births_5 : decode cX11_births 5 = .ok (.iload_n 1, 1) := dc_27 (dc_nn (k := 5) aX11_births_0 rfl)
theorem dX11_births_6 : decode cX11_births 6 = .ok (.invokestatic 316, 3) := dc_184 (a0 := 1) (b0 := 60) (dc_nn (k := 6) aX11_births_0 rfl)
theorem dX11_births_9 : decode cX11_births 9 = .ok (.ifCond .eq 17, 3) := dc_153 (a0 := 0) (b0 := 17) (dc_nn (k := 9) aX11_births_0 rfl) (by decide)
theorem dX11_births_12 : decode cX11_births 12 = .ok (.iload_n 2, 1) := dc_28 (dc_nn (k := 12) aX11_births_0 rfl)
theorem dX11_births_13 : decode cX11_births 13 = .ok (.iconst 1, 1) := dc_4 (dc_nn (k := 13) aX11_births_0 rfl)
theorem dX11_births_14 : decode cX11_births 14 = .ok (.bipush 7, 2) := dc_16 (a0 := 7) (dc_nn (k := 14) aX11_births_0 rfl) (by decide)
theorem dX11_births_16 : decode cX11_births 16 = .ok (.invokestatic 96, 3) := dc_184 (a0 := 0) (b0 := 96) (dc_nn (k := 16) aX11_births_0 rfl)
theorem dX11_births_19 : decode cX11_births 19 = .ok (.ifCond .eq 7, 3) := dc_153 (a0 := 0) (b0 := 7) (dc_nn (k := 19) aX11_births_0 rfl) (by decide)
theorem dX11_births_22 : decode cX11_births 22 = .ok (.iconst 1, 1) := dc_4 (dc_nn (k := 22) aX11_births_0 rfl)
theorem dX11_births_23 : decode cX11_births 23 = .ok (.goto 4, 3) := dc_167 (a0 := 0) (b0 := 4) (dc_nn (k := 23) aX11_births_0 rfl) (by decide)
theorem dX11_births_26 : decode cX11_births 26 = .ok (.iconst 0, 1) := dc_3 (dc_nn (k := 26) aX11_births_0 rfl)
theorem dX11_births_27 : decode cX11_births 27 = .ok (.invokestatic 168, 3) := dc_184 (a0 := 0) (b0 := 168) (dc_nn (k := 27) aX11_births_0 rfl)
theorem dX11_births_30 : decode cX11_births 30 = .ok (.aload_n 0, 1) := dc_42 (dc_nn (k := 30) aX11_births_0 rfl)
theorem dX11_births_31 : decode cX11_births 31 = .ok (.getfield 73, 3) := dc_180 (a0 := 0) (b0 := 73) (dc_nn (k := 31) aX11_births_0 rfl)
theorem dX11_births_34 : decode cX11_births 34 = .ok (.aload_n 0, 1) := dc_42 (dc_nn (k := 34) aX11_births_0 rfl)
theorem dX11_births_35 : decode cX11_births 35 = .ok (.getfield 19, 3) := dc_180 (a0 := 0) (b0 := 19) (dc_nn (k := 35) aX11_births_0 rfl)
theorem dX11_births_38 : decode cX11_births 38 = .ok (.getfield 140, 3) := dc_180 (a0 := 0) (b0 := 140) (dc_nn (k := 38) aX11_births_0 rfl)
theorem dX11_births_41 : decode cX11_births 41 = .ok (.aload_n 0, 1) := dc_42 aX11_births_41
theorem dX11_births_42 : decode cX11_births 42 = .ok (.getfield 29, 3) := dc_180 (a0 := 0) (b0 := 29) (dc_nn (k := 1) aX11_births_41 rfl)
theorem dX11_births_45 : decode cX11_births 45 = .ok (.iload_n 2, 1) := dc_28 (dc_nn (k := 4) aX11_births_41 rfl)
theorem dX11_births_46 : decode cX11_births 46 = .ok (.invokevirtual 323, 3) := dc_182 (a0 := 1) (b0 := 67) (dc_nn (k := 5) aX11_births_41 rfl)
theorem dX11_births_49 : decode cX11_births 49 = .ok (.iload_n 1, 1) := dc_27 (dc_nn (k := 8) aX11_births_41 rfl)
theorem dX11_births_50 : decode cX11_births 50 = .ok (.iconst (-1), 1) := dc_2 (dc_nn (k := 9) aX11_births_41 rfl)
theorem dX11_births_51 : decode cX11_births 51 = .ok (.if_icmp .ne 17, 3) := dc_160 (a0 := 0) (b0 := 17) (dc_nn (k := 10) aX11_births_41 rfl) (by decide)
theorem dX11_births_54 : decode cX11_births 54 = .ok (.aload_n 0, 1) := dc_42 (dc_nn (k := 13) aX11_births_41 rfl)
theorem dX11_births_55 : decode cX11_births 55 = .ok (.getfield 73, 3) := dc_180 (a0 := 0) (b0 := 73) (dc_nn (k := 14) aX11_births_41 rfl)
theorem dX11_births_58 : decode cX11_births 58 = .ok (.aload_n 0, 1) := dc_42 (dc_nn (k := 17) aX11_births_41 rfl)
theorem dX11_births_59 : decode cX11_births 59 = .ok (.getfield 29, 3) := dc_180 (a0 := 0) (b0 := 29) (dc_nn (k := 18) aX11_births_41 rfl)
theorem dX11_births_62 : decode cX11_births 62 = .ok (.invokevirtual 327, 3) := dc_182 (a0 := 1) (b0 := 71) (dc_nn (k := 21) aX11_births_41 rfl)
theorem dX11_births_65 : decode cX11_births 65 = .ok (.goto 11, 3) := dc_167 (a0 := 0) (b0 := 11) (dc_nn (k := 24) aX11_births_41 rfl) (by decide)
theorem dX11_births_68 : decode cX11_births 68 = .ok (.aload_n 0, 1) := dc_42 (dc_nn (k := 27) aX11_births_41 rfl)
theorem dX11_births_69 : decode cX11_births 69 = .ok (.getfield 73, 3) := dc_180 (a0 := 0) (b0 := 73) (dc_nn (k := 28) aX11_births_41 rfl)
theorem dX11_births_72 : decode cX11_births 72 = .ok (.iload_n 1, 1) := dc_27 (dc_nn (k := 31) aX11_births_41 rfl)
theorem dX11_births_73 : decode cX11_births 73 = .ok (.invokevirtual 331, 3) := dc_182 (a0 := 1) (b0 := 75) (dc_nn (k := 32) aX11_births_41 rfl)
theorem dX11_births_76 : decode cX11_births 76 = .ok (.ireturn, 1) := dc_172 (dc_nn (k := 35) aX11_births_41 rfl)
set_option maxRecDepth 20000 in
theorem ggX11_tree_X10_setBooks : GoodIn wsX11_tree wsX10_setBooks := goodIn_k _ [[9, 0, 0, 0, 0, 0, 0, 0, 0, 0, 0, 0, 0, 0, 0, 0, 65, 0, 0, 0, 0, 0, 0]] (by rfl) (by decide +kernel)
set_option maxRecDepth 20000 in
theorem gX11_tree_X10_setBooks : GoodIn wsX11_tree (wsV RX11 334 RX10 yX10_setBooks wsX10_setBooks) := goodIn_app (goodIn_k _ [[5, 0, 0, 0]] (by rfl) (gw_V _ _ _ _)) ggX11_tree_X10_setBooks
set_option maxRecDepth 20000 in
theorem ggX11_tree_X10_setPrices : GoodIn wsX11_tree wsX10_setPrices := goodIn_k _ [[28], [10, 18, 0, 0], [8, 23, 0], [21, 0], [14, 8, 0, 9, 0, 0, 0, 0, 0, 0, 0, 0, 0, 0, 0, 0, 0, 0, 0, 0, 39, 0, 0, 0, 0, 0, 0, 0, 0]] (by rfl) (by decide +kernel)
set_option maxRecDepth 20000 in
theorem gX11_tree_X10_setPrices : GoodIn wsX11_tree (wsV RX11 338 RX10 yX10_setPrices wsX10_setPrices) := goodIn_app (goodIn_k _ [[25, 0, 0], [8]] (by rfl) (gw_V _ _ _ _)) ggX11_tree_X10_setPrices
set_option maxRecDepth 20000 in
theorem ggX11_tree_X10_grow : GoodIn wsX11_tree wsX10_grow := goodIn_k _ [[54, 0, 0, 0, 0, 0, 0], [8, 52], [10, 51, 0, 0, 0, 0], [29, 37, 0, 0, 0, 19, 0, 0, 0, 0]] (by rfl) (by decide +kernel)
set_option maxRecDepth 20000 in
theorem gX11_tree_X10_grow : GoodIn wsX11_tree (wsV RX11 342 RX10 yX10_grow wsX10_grow) := goodIn_app (goodIn_k _ [[51, 0, 0], [8]] (by rfl) (gw_V _ _ _ _)) ggX11_tree_X10_grow
noncomputable def sX11_tree_41 : List Nat := 172 :: []
noncomputable def sX11_tree_0 : List Nat := 42 :: 180 :: 0 :: 59 :: 42 :: 180 :: 0 :: 29 :: 182 :: 1 :: 78 :: 154 :: 0 :: 5 :: 2 :: 172 :: 42 :: 180 :: 0 :: 59 :: 42 :: 180 :: 0 :: 19 :: 180 :: 0 :: 140 :: 42 :: 180 :: 0 :: 29 :: 182 :: 1 :: 82 :: 42 :: 180 :: 0 :: 59 :: 182 :: 1 :: 86 :: sX11_tree_41
theorem aX11_tree_0 : dc_at cX11_tree 0 sX11_tree_0 := dc_base (by decide +kernel)
theorem aX11_tree_41 : dc_at cX11_tree 41 sX11_tree_41 := dc_nn (k := 41) aX11_tree_0 rfl
theorem dX11_tree_0 : decode cX11_tree 0 = .ok (.aload_n 0, 1) := dc_42 aX11_tree_0
theorem dX11_tree_1 : decode cX11_tree 1 = .ok (.getfield 59, 3) := dc_180 (a0 := 0) (b0 := 59) (dc_nn (k := 1) aX11_tree_0 rfl)
theorem dX11_tree_4 : decode cX11_tree 4 = .ok (.aload_n 0, 1) := dc_42 (dc_nn (k := 4) aX11_tree_0 rfl)
theorem dX11_tree_5 : decode cX11_tree 5 = .ok (.getfield 29, 3) := dc_180 (a0 := 0) (b0 := 29) (dc_nn (k := 5) aX11_tree_0 rfl)
theorem dX11_tree_8 : decode cX11_tree 8 = .ok (.invokevirtual 334, 3) := dc_182 (a0 := 1) (b0 := 78) (dc_nn (k := 8) aX11_tree_0 rfl)
theorem dX11_tree_11 : decode cX11_tree 11 = .ok (.ifCond .ne 5, 3) := dc_154 (a0 := 0) (b0 := 5) (dc_nn (k := 11) aX11_tree_0 rfl) (by decide)
theorem dX11_tree_14 : decode cX11_tree 14 = .ok (.iconst (-1), 1) := dc_2 (dc_nn (k := 14) aX11_tree_0 rfl)
theorem dX11_tree_15 : decode cX11_tree 15 = .ok (.ireturn, 1) := dc_172 (dc_nn (k := 15) aX11_tree_0 rfl)
theorem dX11_tree_16 : decode cX11_tree 16 = .ok (.aload_n 0, 1) := dc_42 (dc_nn (k := 16) aX11_tree_0 rfl)
theorem dX11_tree_17 : decode cX11_tree 17 = .ok (.getfield 59, 3) := dc_180 (a0 := 0) (b0 := 59) (dc_nn (k := 17) aX11_tree_0 rfl)
theorem dX11_tree_20 : decode cX11_tree 20 = .ok (.aload_n 0, 1) := dc_42 (dc_nn (k := 20) aX11_tree_0 rfl)
theorem dX11_tree_21 : decode cX11_tree 21 = .ok (.getfield 19, 3) := dc_180 (a0 := 0) (b0 := 19) (dc_nn (k := 21) aX11_tree_0 rfl)
theorem dX11_tree_24 : decode cX11_tree 24 = .ok (.getfield 140, 3) := dc_180 (a0 := 0) (b0 := 140) (dc_nn (k := 24) aX11_tree_0 rfl)
theorem dX11_tree_27 : decode cX11_tree 27 = .ok (.aload_n 0, 1) := dc_42 (dc_nn (k := 27) aX11_tree_0 rfl)
theorem dX11_tree_28 : decode cX11_tree 28 = .ok (.getfield 29, 3) := dc_180 (a0 := 0) (b0 := 29) (dc_nn (k := 28) aX11_tree_0 rfl)
theorem dX11_tree_31 : decode cX11_tree 31 = .ok (.invokevirtual 338, 3) := dc_182 (a0 := 1) (b0 := 82) (dc_nn (k := 31) aX11_tree_0 rfl)
theorem dX11_tree_34 : decode cX11_tree 34 = .ok (.aload_n 0, 1) := dc_42 (dc_nn (k := 34) aX11_tree_0 rfl)
theorem dX11_tree_35 : decode cX11_tree 35 = .ok (.getfield 59, 3) := dc_180 (a0 := 0) (b0 := 59) (dc_nn (k := 35) aX11_tree_0 rfl)
theorem dX11_tree_38 : decode cX11_tree 38 = .ok (.invokevirtual 342, 3) := dc_182 (a0 := 1) (b0 := 86) (dc_nn (k := 38) aX11_tree_0 rfl)
theorem dX11_tree_41 : decode cX11_tree 41 = .ok (.ireturn, 1) := dc_172 aX11_tree_41
set_option maxRecDepth 20000 in
theorem ggX11_whence_X11_isBook : GoodIn wsX11_whence wsX11_isBook := goodIn_k _ [[6, 0, 0], [5, 3]] (by rfl) (by decide +kernel)
set_option maxRecDepth 20000 in
theorem gX11_whence_X11_isBook : GoodIn wsX11_whence (va_wsS RX11 250 yX11_isBook wsX11_isBook) := goodIn_app (goodIn_k _ [[3, 0, 0]] (by rfl) (gw_S _ _ _ _)) ggX11_whence_X11_isBook
set_option maxRecDepth 20000 in
theorem ggX11_whence_X10_holds : GoodIn wsX11_whence wsX10_holds := goodIn_k _ [[14, 0, 22, 0, 0, 0, 0]] (by rfl) (by decide +kernel)
set_option maxRecDepth 20000 in
theorem gX11_whence_X10_holds : GoodIn wsX11_whence (wsV RX11 345 RX10 yX10_holds wsX10_holds) := goodIn_app (goodIn_k _ [[10, 0, 0, 0]] (by rfl) (gw_V _ _ _ _)) ggX11_whence_X10_holds
set_option maxRecDepth 20000 in
theorem ggX11_whence_X11_need : GoodIn wsX11_whence wsX11_need := goodIn_ca (goodIn_k _ [[18, 0, 0]] (by rfl) (by decide +kernel)) (goodIn_sub (fun _ h => List.mem_cons_of_mem _ (List.mem_append_right _ h)) (by decide +kernel))
set_option maxRecDepth 20000 in
theorem gX11_whence_X11_need : GoodIn wsX11_whence (va_wsS RX11 168 yX11_need wsX11_need) := goodIn_app (goodIn_k _ [[16, 0], [5]] (by rfl) (gw_S _ _ _ _)) ggX11_whence_X11_need
set_option maxRecDepth 20000 in
theorem ggX11_whence_X10_parentOf : GoodIn wsX11_whence wsX10_parentOf := goodIn_k _ [[24], [15, 22, 0, 0, 0, 0]] (by rfl) (by decide +kernel)
set_option maxRecDepth 20000 in
theorem gX11_whence_X10_parentOf : GoodIn wsX11_whence (wsV RX11 348 RX10 yX10_parentOf wsX10_parentOf) := goodIn_app (goodIn_k _ [[21, 0, 0], [13]] (by rfl) (gw_V _ _ _ _)) ggX11_whence_X10_parentOf
noncomputable def sX11_whence_40 : List Nat := 27 :: 182 :: 1 :: 92 :: 172 :: []
noncomputable def sX11_whence_0 : List Nat := 27 :: 184 :: 0 :: 250 :: 153 :: 0 :: 28 :: 42 :: 180 :: 0 :: 59 :: 180 :: 1 :: 42 :: 153 :: 0 :: 18 :: 42 :: 180 :: 0 :: 59 :: 27 :: 182 :: 1 :: 89 :: 153 :: 0 :: 7 :: 4 :: 167 :: 0 :: 4 :: 3 :: 184 :: 0 :: 168 :: 42 :: 180 :: 0 :: 59 :: sX11_whence_40
theorem aX11_whence_0 : dc_at cX11_whence 0 sX11_whence_0 := dc_base (by decide +kernel)
theorem aX11_whence_40 : dc_at cX11_whence 40 sX11_whence_40 := dc_nn (k := 40) aX11_whence_0 rfl
theorem dX11_whence_0 : decode cX11_whence 0 = .ok (.iload_n 1, 1) := dc_27 aX11_whence_0
theorem dX11_whence_1 : decode cX11_whence 1 = .ok (.invokestatic 250, 3) := dc_184 (a0 := 0) (b0 := 250) (dc_nn (k := 1) aX11_whence_0 rfl)
theorem dX11_whence_4 : decode cX11_whence 4 = .ok (.ifCond .eq 28, 3) := dc_153 (a0 := 0) (b0 := 28) (dc_nn (k := 4) aX11_whence_0 rfl) (by decide)
theorem dX11_whence_7 : decode cX11_whence 7 = .ok (.aload_n 0, 1) := dc_42 (dc_nn (k := 7) aX11_whence_0 rfl)
theorem dX11_whence_8 : decode cX11_whence 8 = .ok (.getfield 59, 3) := dc_180 (a0 := 0) (b0 := 59) (dc_nn (k := 8) aX11_whence_0 rfl)
theorem dX11_whence_11 : decode cX11_whence 11 = .ok (.getfield 298, 3) := dc_180 (a0 := 1) (b0 := 42) (dc_nn (k := 11) aX11_whence_0 rfl)
theorem dX11_whence_14 : decode cX11_whence 14 = .ok (.ifCond .eq 18, 3) := dc_153 (a0 := 0) (b0 := 18) (dc_nn (k := 14) aX11_whence_0 rfl) (by decide)
theorem dX11_whence_17 : decode cX11_whence 17 = .ok (.aload_n 0, 1) := dc_42 (dc_nn (k := 17) aX11_whence_0 rfl)
theorem dX11_whence_18 : decode cX11_whence 18 = .ok (.getfield 59, 3) := dc_180 (a0 := 0) (b0 := 59) (dc_nn (k := 18) aX11_whence_0 rfl)
theorem dX11_whence_21 : decode cX11_whence 21 = .ok (.iload_n 1, 1) := dc_27 (dc_nn (k := 21) aX11_whence_0 rfl)
theorem dX11_whence_22 : decode cX11_whence 22 = .ok (.invokevirtual 345, 3) := dc_182 (a0 := 1) (b0 := 89) (dc_nn (k := 22) aX11_whence_0 rfl)
theorem dX11_whence_25 : decode cX11_whence 25 = .ok (.ifCond .eq 7, 3) := dc_153 (a0 := 0) (b0 := 7) (dc_nn (k := 25) aX11_whence_0 rfl) (by decide)
theorem dX11_whence_28 : decode cX11_whence 28 = .ok (.iconst 1, 1) := dc_4 (dc_nn (k := 28) aX11_whence_0 rfl)
theorem dX11_whence_29 : decode cX11_whence 29 = .ok (.goto 4, 3) := dc_167 (a0 := 0) (b0 := 4) (dc_nn (k := 29) aX11_whence_0 rfl) (by decide)
theorem dX11_whence_32 : decode cX11_whence 32 = .ok (.iconst 0, 1) := dc_3 (dc_nn (k := 32) aX11_whence_0 rfl)
theorem dX11_whence_33 : decode cX11_whence 33 = .ok (.invokestatic 168, 3) := dc_184 (a0 := 0) (b0 := 168) (dc_nn (k := 33) aX11_whence_0 rfl)
theorem dX11_whence_36 : decode cX11_whence 36 = .ok (.aload_n 0, 1) := dc_42 (dc_nn (k := 36) aX11_whence_0 rfl)
theorem dX11_whence_37 : decode cX11_whence 37 = .ok (.getfield 59, 3) := dc_180 (a0 := 0) (b0 := 59) (dc_nn (k := 37) aX11_whence_0 rfl)
theorem dX11_whence_40 : decode cX11_whence 40 = .ok (.iload_n 1, 1) := dc_27 aX11_whence_40
theorem dX11_whence_41 : decode cX11_whence 41 = .ok (.invokevirtual 348, 3) := dc_182 (a0 := 1) (b0 := 92) (dc_nn (k := 1) aX11_whence_40 rfl)
theorem dX11_whence_44 : decode cX11_whence 44 = .ok (.ireturn, 1) := dc_172 (dc_nn (k := 4) aX11_whence_40 rfl)
set_option maxRecDepth 20000 in
theorem ggX11_life_X11_within : GoodIn wsX11_life wsX11_within := goodIn_k _ [[5]] (by rfl) (by decide +kernel)
set_option maxRecDepth 20000 in
theorem gX11_life_X11_within : GoodIn wsX11_life (va_wsS RX11 96 yX11_within wsX11_within) := goodIn_app (goodIn_k _ [[2, 0, 0]] (by rfl) (gw_S _ _ _ _)) ggX11_life_X11_within
set_option maxRecDepth 20000 in
theorem ggX11_life_X11_need : GoodIn wsX11_life wsX11_need := goodIn_ca (goodIn_k _ [[8, 0, 0]] (by rfl) (by decide +kernel)) (goodIn_sub (fun _ h => List.mem_cons_of_mem _ (List.mem_append_right _ h)) (by decide +kernel))
set_option maxRecDepth 20000 in
theorem gX11_life_X11_need : GoodIn wsX11_life (va_wsS RX11 168 yX11_need wsX11_need) := goodIn_app (goodIn_k _ [[6, 0], [4]] (by rfl) (gw_S _ _ _ _)) ggX11_life_X11_need
set_option maxRecDepth 20000 in
theorem ggX11_life_X7_tellLife : GoodIn wsX11_life wsX7_tellLife := goodIn_k _ [[15, 0, 0, 13, 0, 0, 0, 0, 0]] (by rfl) (by decide +kernel)
set_option maxRecDepth 20000 in
theorem gX11_life_X7_tellLife : GoodIn wsX11_life (wsV RX11 351 RX7 yX7_tellLife wsX7_tellLife) := goodIn_app (goodIn_k _ [[11, 0, 0, 0]] (by rfl) (gw_V _ _ _ _)) ggX11_life_X7_tellLife
noncomputable def sX11_life_42 : List Nat := 4 :: 172 :: []
noncomputable def sX11_life_0 : List Nat := 27 :: 3 :: 16 :: 19 :: 184 :: 0 :: 96 :: 184 :: 0 :: 168 :: 28 :: 3 :: 16 :: 120 :: 184 :: 0 :: 96 :: 153 :: 0 :: 13 :: 29 :: 3 :: 16 :: 120 :: 184 :: 0 :: 96 :: 154 :: 0 :: 5 :: 3 :: 172 :: 42 :: 180 :: 0 :: 80 :: 27 :: 28 :: 29 :: 182 :: 1 :: 95 :: sX11_life_42
theorem aX11_life_0 : dc_at cX11_life 0 sX11_life_0 := dc_base (by decide +kernel)
theorem aX11_life_42 : dc_at cX11_life 42 sX11_life_42 := dc_nn (k := 42) aX11_life_0 rfl
theorem dX11_life_0 : decode cX11_life 0 = .ok (.iload_n 1, 1) := dc_27 aX11_life_0
theorem dX11_life_1 : decode cX11_life 1 = .ok (.iconst 0, 1) := dc_3 (dc_nn (k := 1) aX11_life_0 rfl)
theorem dX11_life_2 : decode cX11_life 2 = .ok (.bipush 19, 2) := dc_16 (a0 := 19) (dc_nn (k := 2) aX11_life_0 rfl) (by decide)
theorem dX11_life_4 : decode cX11_life 4 = .ok (.invokestatic 96, 3) := dc_184 (a0 := 0) (b0 := 96) (dc_nn (k := 4) aX11_life_0 rfl)
theorem dX11_life_7 : decode cX11_life 7 = .ok (.invokestatic 168, 3) := dc_184 (a0 := 0) (b0 := 168) (dc_nn (k := 7) aX11_life_0 rfl)
theorem dX11_life_10 : decode cX11_life 10 = .ok (.iload_n 2, 1) := dc_28 (dc_nn (k := 10) aX11_life_0 rfl)
theorem dX11_life_11 : decode cX11_life 11 = .ok (.iconst 0, 1) := dc_3 (dc_nn (k := 11) aX11_life_0 rfl)
theorem dX11_life_12 : decode cX11_life 12 = .ok (.bipush 120, 2) := dc_16 (a0 := 120) (dc_nn (k := 12) aX11_life_0 rfl) (by decide)
theorem dX11_life_14 : decode cX11_life 14 = .ok (.invokestatic 96, 3) := dc_184 (a0 := 0) (b0 := 96) (dc_nn (k := 14) aX11_life_0 rfl)
theorem dX11_life_17 : decode cX11_life 17 = .ok (.ifCond .eq 13, 3) := dc_153 (a0 := 0) (b0 := 13) (dc_nn (k := 17) aX11_life_0 rfl) (by decide)
theorem dX11_life_20 : decode cX11_life 20 = .ok (.iload_n 3, 1) := dc_29 (dc_nn (k := 20) aX11_life_0 rfl)
theorem dX11_life_21 : decode cX11_life 21 = .ok (.iconst 0, 1) := dc_3 (dc_nn (k := 21) aX11_life_0 rfl)
theorem dX11_life_22 : decode cX11_life 22 = .ok (.bipush 120, 2) := dc_16 (a0 := 120) (dc_nn (k := 22) aX11_life_0 rfl) (by decide)
theorem dX11_life_24 : decode cX11_life 24 = .ok (.invokestatic 96, 3) := dc_184 (a0 := 0) (b0 := 96) (dc_nn (k := 24) aX11_life_0 rfl)
theorem dX11_life_27 : decode cX11_life 27 = .ok (.ifCond .ne 5, 3) := dc_154 (a0 := 0) (b0 := 5) (dc_nn (k := 27) aX11_life_0 rfl) (by decide)
theorem dX11_life_30 : decode cX11_life 30 = .ok (.iconst 0, 1) := dc_3 (dc_nn (k := 30) aX11_life_0 rfl)
theorem dX11_life_31 : decode cX11_life 31 = .ok (.ireturn, 1) := dc_172 (dc_nn (k := 31) aX11_life_0 rfl)
theorem dX11_life_32 : decode cX11_life 32 = .ok (.aload_n 0, 1) := dc_42 (dc_nn (k := 32) aX11_life_0 rfl)
theorem dX11_life_33 : decode cX11_life 33 = .ok (.getfield 80, 3) := dc_180 (a0 := 0) (b0 := 80) (dc_nn (k := 33) aX11_life_0 rfl)
theorem dX11_life_36 : decode cX11_life 36 = .ok (.iload_n 1, 1) := dc_27 (dc_nn (k := 36) aX11_life_0 rfl)
theorem dX11_life_37 : decode cX11_life 37 = .ok (.iload_n 2, 1) := dc_28 (dc_nn (k := 37) aX11_life_0 rfl)
theorem dX11_life_38 : decode cX11_life 38 = .ok (.iload_n 3, 1) := dc_29 (dc_nn (k := 38) aX11_life_0 rfl)
theorem dX11_life_39 : decode cX11_life 39 = .ok (.invokevirtual 351, 3) := dc_182 (a0 := 1) (b0 := 95) (dc_nn (k := 39) aX11_life_0 rfl)
theorem dX11_life_42 : decode cX11_life 42 = .ok (.iconst 1, 1) := dc_4 aX11_life_42
theorem dX11_life_43 : decode cX11_life 43 = .ok (.ireturn, 1) := dc_172 (dc_nn (k := 1) aX11_life_42 rfl)
set_option maxRecDepth 20000 in
theorem ggX11_fate_X11_within : GoodIn wsX11_fate wsX11_within := goodIn_k _ [[5]] (by rfl) (by decide +kernel)
set_option maxRecDepth 20000 in
theorem gX11_fate_X11_within : GoodIn wsX11_fate (va_wsS RX11 96 yX11_within wsX11_within) := goodIn_app (goodIn_k _ [[2, 0, 0]] (by rfl) (gw_S _ _ _ _)) ggX11_fate_X11_within
set_option maxRecDepth 20000 in
theorem ggX11_fate_X11_need : GoodIn wsX11_fate wsX11_need := goodIn_ca (goodIn_k _ [[8, 0, 0]] (by rfl) (by decide +kernel)) (goodIn_sub (fun _ h => List.mem_cons_of_mem _ (List.mem_append_right _ h)) (by decide +kernel))
set_option maxRecDepth 20000 in
theorem gX11_fate_X11_need : GoodIn wsX11_fate (va_wsS RX11 168 yX11_need wsX11_need) := goodIn_app (goodIn_k _ [[6, 0], [4]] (by rfl) (gw_S _ _ _ _)) ggX11_fate_X11_need
set_option maxRecDepth 20000 in
theorem ggX11_fate_X7_tellFate : GoodIn wsX11_fate wsX7_tellFate := goodIn_k _ [[15, 0, 13, 0, 0, 0, 0, 0]] (by rfl) (by decide +kernel)
set_option maxRecDepth 20000 in
theorem gX11_fate_X7_tellFate : GoodIn wsX11_fate (wsV RX11 354 RX7 yX7_tellFate wsX7_tellFate) := goodIn_app (goodIn_k _ [[11, 0, 0, 0]] (by rfl) (gw_V _ _ _ _)) ggX11_fate_X7_tellFate
noncomputable def sX11_fate_0 : List Nat := 27 :: 3 :: 16 :: 19 :: 184 :: 0 :: 96 :: 184 :: 0 :: 168 :: 28 :: 4 :: 16 :: 12 :: 184 :: 0 :: 96 :: 154 :: 0 :: 5 :: 3 :: 172 :: 42 :: 180 :: 0 :: 80 :: 27 :: 28 :: 182 :: 1 :: 98 :: 4 :: 172 :: []
theorem aX11_fate_0 : dc_at cX11_fate 0 sX11_fate_0 := dc_base (by decide +kernel)
theorem dX11_fate_0 : decode cX11_fate 0 = .ok (.iload_n 1, 1) := dc_27 aX11_fate_0
theorem dX11_fate_1 : decode cX11_fate 1 = .ok (.iconst 0, 1) := dc_3 (dc_nn (k := 1) aX11_fate_0 rfl)
theorem dX11_fate_2 : decode cX11_fate 2 = .ok (.bipush 19, 2) := dc_16 (a0 := 19) (dc_nn (k := 2) aX11_fate_0 rfl) (by decide)
theorem dX11_fate_4 : decode cX11_fate 4 = .ok (.invokestatic 96, 3) := dc_184 (a0 := 0) (b0 := 96) (dc_nn (k := 4) aX11_fate_0 rfl)
theorem dX11_fate_7 : decode cX11_fate 7 = .ok (.invokestatic 168, 3) := dc_184 (a0 := 0) (b0 := 168) (dc_nn (k := 7) aX11_fate_0 rfl)
theorem dX11_fate_10 : decode cX11_fate 10 = .ok (.iload_n 2, 1) := dc_28 (dc_nn (k := 10) aX11_fate_0 rfl)
theorem dX11_fate_11 : decode cX11_fate 11 = .ok (.iconst 1, 1) := dc_4 (dc_nn (k := 11) aX11_fate_0 rfl)
theorem dX11_fate_12 : decode cX11_fate 12 = .ok (.bipush 12, 2) := dc_16 (a0 := 12) (dc_nn (k := 12) aX11_fate_0 rfl) (by decide)
theorem dX11_fate_14 : decode cX11_fate 14 = .ok (.invokestatic 96, 3) := dc_184 (a0 := 0) (b0 := 96) (dc_nn (k := 14) aX11_fate_0 rfl)
theorem dX11_fate_17 : decode cX11_fate 17 = .ok (.ifCond .ne 5, 3) := dc_154 (a0 := 0) (b0 := 5) (dc_nn (k := 17) aX11_fate_0 rfl) (by decide)
theorem dX11_fate_20 : decode cX11_fate 20 = .ok (.iconst 0, 1) := dc_3 (dc_nn (k := 20) aX11_fate_0 rfl)
theorem dX11_fate_21 : decode cX11_fate 21 = .ok (.ireturn, 1) := dc_172 (dc_nn (k := 21) aX11_fate_0 rfl)
theorem dX11_fate_22 : decode cX11_fate 22 = .ok (.aload_n 0, 1) := dc_42 (dc_nn (k := 22) aX11_fate_0 rfl)
theorem dX11_fate_23 : decode cX11_fate 23 = .ok (.getfield 80, 3) := dc_180 (a0 := 0) (b0 := 80) (dc_nn (k := 23) aX11_fate_0 rfl)
theorem dX11_fate_26 : decode cX11_fate 26 = .ok (.iload_n 1, 1) := dc_27 (dc_nn (k := 26) aX11_fate_0 rfl)
theorem dX11_fate_27 : decode cX11_fate 27 = .ok (.iload_n 2, 1) := dc_28 (dc_nn (k := 27) aX11_fate_0 rfl)
