noncomputable def sX12_priceOf_42 : List Nat := 172 :: []
noncomputable def sX12_priceOf_41 : List Nat := 6 :: sX12_priceOf_42
noncomputable def sX12_priceOf_38 : List Nat := 167 :: 0 :: 4 :: sX12_priceOf_41
noncomputable def sX12_priceOf_37 : List Nat := 4 :: sX12_priceOf_38
noncomputable def sX12_priceOf_34 : List Nat := 160 :: 0 :: 7 :: sX12_priceOf_37
noncomputable def sX12_priceOf_33 : List Nat := 4 :: sX12_priceOf_34
noncomputable def sX12_priceOf_30 : List Nat := 182 :: 1 :: 27 :: sX12_priceOf_33
noncomputable def sX12_priceOf_29 : List Nat := 27 :: sX12_priceOf_30
noncomputable def sX12_priceOf_28 : List Nat := 28 :: sX12_priceOf_29
noncomputable def sX12_priceOf_27 : List Nat := 42 :: sX12_priceOf_28
noncomputable def sX12_priceOf_24 : List Nat := 159 :: 0 :: 17 :: sX12_priceOf_27
noncomputable def sX12_priceOf_22 : List Nat := 16 :: 21 :: sX12_priceOf_24
noncomputable def sX12_priceOf_21 : List Nat := 29 :: sX12_priceOf_22
noncomputable def sX12_priceOf_20 : List Nat := 172 :: sX12_priceOf_21
noncomputable def sX12_priceOf_19 : List Nat := 7 :: sX12_priceOf_20
noncomputable def sX12_priceOf_16 : List Nat := 160 :: 0 :: 5 :: sX12_priceOf_19
noncomputable def sX12_priceOf_15 : List Nat := 2 :: sX12_priceOf_16
noncomputable def sX12_priceOf_14 : List Nat := 27 :: sX12_priceOf_15
noncomputable def sX12_priceOf_13 : List Nat := 172 :: sX12_priceOf_14
noncomputable def sX12_priceOf_12 : List Nat := 4 :: sX12_priceOf_13
noncomputable def sX12_priceOf_9 : List Nat := 160 :: 0 :: 5 :: sX12_priceOf_12
noncomputable def sX12_priceOf_8 : List Nat := 2 :: sX12_priceOf_9
noncomputable def sX12_priceOf_7 : List Nat := 28 :: sX12_priceOf_8
noncomputable def sX12_priceOf_6 : List Nat := 172 :: sX12_priceOf_7
noncomputable def sX12_priceOf_5 : List Nat := 3 :: sX12_priceOf_6
noncomputable def sX12_priceOf_2 : List Nat := 160 :: 0 :: 5 :: sX12_priceOf_5
noncomputable def sX12_priceOf_1 : List Nat := 28 :: sX12_priceOf_2
noncomputable def sX12_priceOf_0 : List Nat := 27 :: sX12_priceOf_1
theorem aX12_priceOf_0 : dc_at cX12_priceOf 0 sX12_priceOf_0 := dc_base (by decide +kernel)
theorem aX12_priceOf_1 : dc_at cX12_priceOf 1 sX12_priceOf_1 := dc_n1 aX12_priceOf_0
theorem aX12_priceOf_2 : dc_at cX12_priceOf 2 sX12_priceOf_2 := dc_n1 aX12_priceOf_1
theorem aX12_priceOf_5 : dc_at cX12_priceOf 5 sX12_priceOf_5 := dc_n3 aX12_priceOf_2
theorem aX12_priceOf_6 : dc_at cX12_priceOf 6 sX12_priceOf_6 := dc_n1 aX12_priceOf_5
theorem aX12_priceOf_7 : dc_at cX12_priceOf 7 sX12_priceOf_7 := dc_n1 aX12_priceOf_6
theorem aX12_priceOf_8 : dc_at cX12_priceOf 8 sX12_priceOf_8 := dc_n1 aX12_priceOf_7
theorem aX12_priceOf_9 : dc_at cX12_priceOf 9 sX12_priceOf_9 := dc_n1 aX12_priceOf_8
theorem aX12_priceOf_12 : dc_at cX12_priceOf 12 sX12_priceOf_12 := dc_n3 aX12_priceOf_9
theorem aX12_priceOf_13 : dc_at cX12_priceOf 13 sX12_priceOf_13 := dc_n1 aX12_priceOf_12
theorem aX12_priceOf_14 : dc_at cX12_priceOf 14 sX12_priceOf_14 := dc_n1 aX12_priceOf_13
theorem aX12_priceOf_15 : dc_at cX12_priceOf 15 sX12_priceOf_15 := dc_n1 aX12_priceOf_14
theorem aX12_priceOf_16 : dc_at cX12_priceOf 16 sX12_priceOf_16 := dc_n1 aX12_priceOf_15
theorem aX12_priceOf_19 : dc_at cX12_priceOf 19 sX12_priceOf_19 := dc_n3 aX12_priceOf_16
theorem aX12_priceOf_20 : dc_at cX12_priceOf 20 sX12_priceOf_20 := dc_n1 aX12_priceOf_19
theorem aX12_priceOf_21 : dc_at cX12_priceOf 21 sX12_priceOf_21 := dc_n1 aX12_priceOf_20
theorem aX12_priceOf_22 : dc_at cX12_priceOf 22 sX12_priceOf_22 := dc_n1 aX12_priceOf_21
theorem aX12_priceOf_24 : dc_at cX12_priceOf 24 sX12_priceOf_24 := dc_n2 aX12_priceOf_22
theorem aX12_priceOf_27 : dc_at cX12_priceOf 27 sX12_priceOf_27 := dc_n3 aX12_priceOf_24
theorem aX12_priceOf_28 : dc_at cX12_priceOf 28 sX12_priceOf_28 := dc_n1 aX12_priceOf_27
theorem aX12_priceOf_29 : dc_at cX12_priceOf 29 sX12_priceOf_29 := dc_n1 aX12_priceOf_28
theorem aX12_priceOf_30 : dc_at cX12_priceOf 30 sX12_priceOf_30 := dc_n1 aX12_priceOf_29
theorem aX12_priceOf_33 : dc_at cX12_priceOf 33 sX12_priceOf_33 := dc_n3 aX12_priceOf_30
theorem aX12_priceOf_34 : dc_at cX12_priceOf 34 sX12_priceOf_34 := dc_n1 aX12_priceOf_33
theorem aX12_priceOf_37 : dc_at cX12_priceOf 37 sX12_priceOf_37 := dc_n3 aX12_priceOf_34
theorem aX12_priceOf_38 : dc_at cX12_priceOf 38 sX12_priceOf_38 := dc_n1 aX12_priceOf_37
theorem aX12_priceOf_41 : dc_at cX12_priceOf 41 sX12_priceOf_41 := dc_n3 aX12_priceOf_38
theorem aX12_priceOf_42 : dc_at cX12_priceOf 42 sX12_priceOf_42 := dc_n1 aX12_priceOf_41
theorem dX12_priceOf_0 : decode cX12_priceOf 0 = .ok (.iload_n 1, 1) := dc_27 aX12_priceOf_0
theorem dX12_priceOf_1 : decode cX12_priceOf 1 = .ok (.iload_n 2, 1) := dc_28 aX12_priceOf_1
theorem dX12_priceOf_2 : decode cX12_priceOf 2 = .ok (.if_icmp .ne 5, 3) := dc_160 (a0 := 0) (b0 := 5) aX12_priceOf_2 (by decide)
theorem dX12_priceOf_5 : decode cX12_priceOf 5 = .ok (.iconst 0, 1) := dc_3 aX12_priceOf_5
theorem dX12_priceOf_6 : decode cX12_priceOf 6 = .ok (.ireturn, 1) := dc_172 aX12_priceOf_6
theorem dX12_priceOf_7 : decode cX12_priceOf 7 = .ok (.iload_n 2, 1) := dc_28 aX12_priceOf_7
theorem dX12_priceOf_8 : decode cX12_priceOf 8 = .ok (.iconst (-1), 1) := dc_2 aX12_priceOf_8
theorem dX12_priceOf_9 : decode cX12_priceOf 9 = .ok (.if_icmp .ne 5, 3) := dc_160 (a0 := 0) (b0 := 5) aX12_priceOf_9 (by decide)
theorem dX12_priceOf_12 : decode cX12_priceOf 12 = .ok (.iconst 1, 1) := dc_4 aX12_priceOf_12
theorem dX12_priceOf_13 : decode cX12_priceOf 13 = .ok (.ireturn, 1) := dc_172 aX12_priceOf_13
theorem dX12_priceOf_14 : decode cX12_priceOf 14 = .ok (.iload_n 1, 1) := dc_27 aX12_priceOf_14
theorem dX12_priceOf_15 : decode cX12_priceOf 15 = .ok (.iconst (-1), 1) := dc_2 aX12_priceOf_15
theorem dX12_priceOf_16 : decode cX12_priceOf 16 = .ok (.if_icmp .ne 5, 3) := dc_160 (a0 := 0) (b0 := 5) aX12_priceOf_16 (by decide)
theorem dX12_priceOf_19 : decode cX12_priceOf 19 = .ok (.iconst 4, 1) := dc_7 aX12_priceOf_19
theorem dX12_priceOf_20 : decode cX12_priceOf 20 = .ok (.ireturn, 1) := dc_172 aX12_priceOf_20
theorem dX12_priceOf_21 : decode cX12_priceOf 21 = .ok (.iload_n 3, 1) := dc_29 aX12_priceOf_21
theorem dX12_priceOf_22 : decode cX12_priceOf 22 = .ok (.bipush 21, 2) := dc_16 (a0 := 21) aX12_priceOf_22 (by decide)
theorem dX12_priceOf_24 : decode cX12_priceOf 24 = .ok (.if_icmp .eq 17, 3) := dc_159 (a0 := 0) (b0 := 17) aX12_priceOf_24 (by decide)
theorem dX12_priceOf_27 : decode cX12_priceOf 27 = .ok (.aload_n 0, 1) := dc_42 aX12_priceOf_27
theorem dX12_priceOf_28 : decode cX12_priceOf 28 = .ok (.iload_n 2, 1) := dc_28 aX12_priceOf_28
theorem dX12_priceOf_29 : decode cX12_priceOf 29 = .ok (.iload_n 1, 1) := dc_27 aX12_priceOf_29
theorem dX12_priceOf_30 : decode cX12_priceOf 30 = .ok (.invokevirtual 283, 3) := dc_182 (a0 := 1) (b0 := 27) aX12_priceOf_30
theorem dX12_priceOf_33 : decode cX12_priceOf 33 = .ok (.iconst 1, 1) := dc_4 aX12_priceOf_33
theorem dX12_priceOf_34 : decode cX12_priceOf 34 = .ok (.if_icmp .ne 7, 3) := dc_160 (a0 := 0) (b0 := 7) aX12_priceOf_34 (by decide)
theorem dX12_priceOf_37 : decode cX12_priceOf 37 = .ok (.iconst 1, 1) := dc_4 aX12_priceOf_37
theorem dX12_priceOf_38 : decode cX12_priceOf 38 = .ok (.goto 4, 3) := dc_167 (a0 := 0) (b0 := 4) aX12_priceOf_38 (by decide)
theorem dX12_priceOf_41 : decode cX12_priceOf 41 = .ok (.iconst 3, 1) := dc_6 aX12_priceOf_41
theorem dX12_priceOf_42 : decode cX12_priceOf 42 = .ok (.ireturn, 1) := dc_172 aX12_priceOf_42
set_option maxRecDepth 20000 in
theorem ggX12_priceAll_X12_at : GoodIn wsX12_priceAll wsX12_at := goodIn_k _ [[5, 0, 19, 0, 0, 0, 0, 0, 0, 0, 0, 0, 0, 0, 0, 0, 0, 0, 0, 0, 0, 0, 0, 0, 0, 0, 0, 0, 0, 0, 0, 0, 0, 0, 0, 0, 0, 0, 0, 0, 0, 0, 0, 0, 0, 0, 0, 0, 0, 0, 0, 0, 0, 0, 0, 0, 0, 0, 0, 0]] (by rfl) (by decide +kernel)
set_option maxRecDepth 20000 in
theorem gX12_priceAll_X12_at : GoodIn wsX12_priceAll (wsV RX12 254 RX12 yX12_at wsX12_at) := goodIn_app (goodIn_of _ (by decide +kernel)) ggX12_priceAll_X12_at
set_option maxRecDepth 20000 in
theorem ggX12_priceAll_X12_priceOf : GoodIn wsX12_priceAll wsX12_priceOf := goodIn_k _ [[10, 0, 0, 0], [4, 9, 0, 0, 0, 0, 0, 0, 0, 0, 0, 0, 0, 0, 0, 0, 0, 0, 0, 0, 0, 0, 0, 0, 0, 0, 0, 0, 0, 0, 0, 0, 0, 0, 0, 0, 0, 0, 0, 0, 0, 0, 0, 0, 0, 0, 0, 0, 0, 0, 0, 0, 0, 0, 0, 0, 0, 0, 0, 0, 0, 0, 0, 0, 0, 0, 0, 0, 0, 0, 0]] (by rfl) (by decide +kernel)
set_option maxRecDepth 20000 in
theorem gX12_priceAll_X12_priceOf : GoodIn wsX12_priceAll (wsV RX12 335 RX12 yX12_priceOf wsX12_priceOf) := goodIn_app (goodIn_of _ (by decide +kernel)) ggX12_priceAll_X12_priceOf
noncomputable def sX12_priceAll_70 : List Nat := 172 :: []
noncomputable def sX12_priceAll_69 : List Nat := 29 :: sX12_priceAll_70
noncomputable def sX12_priceAll_66 : List Nat := 167 :: 255 :: 195 :: sX12_priceAll_69
noncomputable def sX12_priceAll_63 : List Nat := 132 :: 4 :: 1 :: sX12_priceAll_66
noncomputable def sX12_priceAll_60 : List Nat := 167 :: 255 :: 211 :: sX12_priceAll_63
noncomputable def sX12_priceAll_57 : List Nat := 132 :: 5 :: 1 :: sX12_priceAll_60
noncomputable def sX12_priceAll_56 : List Nat := 62 :: sX12_priceAll_57
noncomputable def sX12_priceAll_55 : List Nat := 96 :: sX12_priceAll_56
noncomputable def sX12_priceAll_52 : List Nat := 182 :: 1 :: 79 :: sX12_priceAll_55
noncomputable def sX12_priceAll_50 : List Nat := 21 :: 5 :: sX12_priceAll_52
noncomputable def sX12_priceAll_47 : List Nat := 182 :: 0 :: 254 :: sX12_priceAll_50
noncomputable def sX12_priceAll_45 : List Nat := 21 :: 5 :: sX12_priceAll_47
noncomputable def sX12_priceAll_44 : List Nat := 96 :: sX12_priceAll_45
noncomputable def sX12_priceAll_42 : List Nat := 21 :: 4 :: sX12_priceAll_44
noncomputable def sX12_priceAll_41 : List Nat := 104 :: sX12_priceAll_42
noncomputable def sX12_priceAll_40 : List Nat := 28 :: sX12_priceAll_41
noncomputable def sX12_priceAll_38 : List Nat := 16 :: 20 :: sX12_priceAll_40
noncomputable def sX12_priceAll_37 : List Nat := 42 :: sX12_priceAll_38
noncomputable def sX12_priceAll_34 : List Nat := 182 :: 0 :: 254 :: sX12_priceAll_37
noncomputable def sX12_priceAll_32 : List Nat := 21 :: 5 :: sX12_priceAll_34
noncomputable def sX12_priceAll_31 : List Nat := 96 :: sX12_priceAll_32
noncomputable def sX12_priceAll_29 : List Nat := 21 :: 4 :: sX12_priceAll_31
noncomputable def sX12_priceAll_28 : List Nat := 104 :: sX12_priceAll_29
noncomputable def sX12_priceAll_27 : List Nat := 27 :: sX12_priceAll_28
noncomputable def sX12_priceAll_25 : List Nat := 16 :: 20 :: sX12_priceAll_27
noncomputable def sX12_priceAll_24 : List Nat := 42 :: sX12_priceAll_25
noncomputable def sX12_priceAll_23 : List Nat := 42 :: sX12_priceAll_24
noncomputable def sX12_priceAll_22 : List Nat := 29 :: sX12_priceAll_23
noncomputable def sX12_priceAll_19 : List Nat := 162 :: 0 :: 44 :: sX12_priceAll_22
noncomputable def sX12_priceAll_17 : List Nat := 16 :: 22 :: sX12_priceAll_19
noncomputable def sX12_priceAll_15 : List Nat := 21 :: 5 :: sX12_priceAll_17
noncomputable def sX12_priceAll_13 : List Nat := 54 :: 5 :: sX12_priceAll_15
noncomputable def sX12_priceAll_12 : List Nat := 3 :: sX12_priceAll_13
noncomputable def sX12_priceAll_9 : List Nat := 162 :: 0 :: 60 :: sX12_priceAll_12
noncomputable def sX12_priceAll_7 : List Nat := 16 :: 20 :: sX12_priceAll_9
noncomputable def sX12_priceAll_5 : List Nat := 21 :: 4 :: sX12_priceAll_7
noncomputable def sX12_priceAll_3 : List Nat := 54 :: 4 :: sX12_priceAll_5
noncomputable def sX12_priceAll_2 : List Nat := 3 :: sX12_priceAll_3
noncomputable def sX12_priceAll_1 : List Nat := 62 :: sX12_priceAll_2
noncomputable def sX12_priceAll_0 : List Nat := 3 :: sX12_priceAll_1
theorem aX12_priceAll_0 : dc_at cX12_priceAll 0 sX12_priceAll_0 := dc_base (by decide +kernel)
theorem aX12_priceAll_1 : dc_at cX12_priceAll 1 sX12_priceAll_1 := dc_n1 aX12_priceAll_0
theorem aX12_priceAll_2 : dc_at cX12_priceAll 2 sX12_priceAll_2 := dc_n1 aX12_priceAll_1
theorem aX12_priceAll_3 : dc_at cX12_priceAll 3 sX12_priceAll_3 := dc_n1 aX12_priceAll_2
theorem aX12_priceAll_5 : dc_at cX12_priceAll 5 sX12_priceAll_5 := dc_n2 aX12_priceAll_3
theorem aX12_priceAll_7 : dc_at cX12_priceAll 7 sX12_priceAll_7 := dc_n2 aX12_priceAll_5
theorem aX12_priceAll_9 : dc_at cX12_priceAll 9 sX12_priceAll_9 := dc_n2 aX12_priceAll_7
theorem aX12_priceAll_12 : dc_at cX12_priceAll 12 sX12_priceAll_12 := dc_n3 aX12_priceAll_9
theorem aX12_priceAll_13 : dc_at cX12_priceAll 13 sX12_priceAll_13 := dc_n1 aX12_priceAll_12
theorem aX12_priceAll_15 : dc_at cX12_priceAll 15 sX12_priceAll_15 := dc_n2 aX12_priceAll_13
theorem aX12_priceAll_17 : dc_at cX12_priceAll 17 sX12_priceAll_17 := dc_n2 aX12_priceAll_15
theorem aX12_priceAll_19 : dc_at cX12_priceAll 19 sX12_priceAll_19 := dc_n2 aX12_priceAll_17
theorem aX12_priceAll_22 : dc_at cX12_priceAll 22 sX12_priceAll_22 := dc_n3 aX12_priceAll_19
theorem aX12_priceAll_23 : dc_at cX12_priceAll 23 sX12_priceAll_23 := dc_n1 aX12_priceAll_22
theorem aX12_priceAll_24 : dc_at cX12_priceAll 24 sX12_priceAll_24 := dc_n1 aX12_priceAll_23
theorem aX12_priceAll_25 : dc_at cX12_priceAll 25 sX12_priceAll_25 := dc_n1 aX12_priceAll_24
theorem aX12_priceAll_27 : dc_at cX12_priceAll 27 sX12_priceAll_27 := dc_n2 aX12_priceAll_25
theorem aX12_priceAll_28 : dc_at cX12_priceAll 28 sX12_priceAll_28 := dc_n1 aX12_priceAll_27
theorem aX12_priceAll_29 : dc_at cX12_priceAll 29 sX12_priceAll_29 := dc_n1 aX12_priceAll_28
theorem aX12_priceAll_31 : dc_at cX12_priceAll 31 sX12_priceAll_31 := dc_n2 aX12_priceAll_29
theorem aX12_priceAll_32 : dc_at cX12_priceAll 32 sX12_priceAll_32 := dc_n1 aX12_priceAll_31
theorem aX12_priceAll_34 : dc_at cX12_priceAll 34 sX12_priceAll_34 := dc_n2 aX12_priceAll_32
theorem aX12_priceAll_37 : dc_at cX12_priceAll 37 sX12_priceAll_37 := dc_n3 aX12_priceAll_34
theorem aX12_priceAll_38 : dc_at cX12_priceAll 38 sX12_priceAll_38 := dc_n1 aX12_priceAll_37
theorem aX12_priceAll_40 : dc_at cX12_priceAll 40 sX12_priceAll_40 := dc_n2 aX12_priceAll_38
theorem aX12_priceAll_41 : dc_at cX12_priceAll 41 sX12_priceAll_41 := dc_n1 aX12_priceAll_40
theorem aX12_priceAll_42 : dc_at cX12_priceAll 42 sX12_priceAll_42 := dc_n1 aX12_priceAll_41
theorem aX12_priceAll_44 : dc_at cX12_priceAll 44 sX12_priceAll_44 := dc_n2 aX12_priceAll_42
theorem aX12_priceAll_45 : dc_at cX12_priceAll 45 sX12_priceAll_45 := dc_n1 aX12_priceAll_44
theorem aX12_priceAll_47 : dc_at cX12_priceAll 47 sX12_priceAll_47 := dc_n2 aX12_priceAll_45
theorem aX12_priceAll_50 : dc_at cX12_priceAll 50 sX12_priceAll_50 := dc_n3 aX12_priceAll_47
theorem aX12_priceAll_52 : dc_at cX12_priceAll 52 sX12_priceAll_52 := dc_n2 aX12_priceAll_50
theorem aX12_priceAll_55 : dc_at cX12_priceAll 55 sX12_priceAll_55 := dc_n3 aX12_priceAll_52
theorem aX12_priceAll_56 : dc_at cX12_priceAll 56 sX12_priceAll_56 := dc_n1 aX12_priceAll_55
theorem aX12_priceAll_57 : dc_at cX12_priceAll 57 sX12_priceAll_57 := dc_n1 aX12_priceAll_56
theorem aX12_priceAll_60 : dc_at cX12_priceAll 60 sX12_priceAll_60 := dc_n3 aX12_priceAll_57
theorem aX12_priceAll_63 : dc_at cX12_priceAll 63 sX12_priceAll_63 := dc_n3 aX12_priceAll_60
theorem aX12_priceAll_66 : dc_at cX12_priceAll 66 sX12_priceAll_66 := dc_n3 aX12_priceAll_63
theorem aX12_priceAll_69 : dc_at cX12_priceAll 69 sX12_priceAll_69 := dc_n3 aX12_priceAll_66
theorem aX12_priceAll_70 : dc_at cX12_priceAll 70 sX12_priceAll_70 := dc_n1 aX12_priceAll_69
theorem dX12_priceAll_0 : decode cX12_priceAll 0 = .ok (.iconst 0, 1) := dc_3 aX12_priceAll_0
theorem dX12_priceAll_1 : decode cX12_priceAll 1 = .ok (.istore_n 3, 1) := dc_62 aX12_priceAll_1
theorem dX12_priceAll_2 : decode cX12_priceAll 2 = .ok (.iconst 0, 1) := dc_3 aX12_priceAll_2
theorem dX12_priceAll_3 : decode cX12_priceAll 3 = .ok (.istore 4, 2) := dc_54 (a0 := 4) aX12_priceAll_3
theorem dX12_priceAll_5 : decode cX12_priceAll 5 = .ok (.iload 4, 2) := dc_21 (a0 := 4) aX12_priceAll_5
theorem dX12_priceAll_7 : decode cX12_priceAll 7 = .ok (.bipush 20, 2) := dc_16 (a0 := 20) aX12_priceAll_7 (by decide)
theorem dX12_priceAll_9 : decode cX12_priceAll 9 = .ok (.if_icmp .ge 60, 3) := dc_162 (a0 := 0) (b0 := 60) aX12_priceAll_9 (by decide)
theorem dX12_priceAll_12 : decode cX12_priceAll 12 = .ok (.iconst 0, 1) := dc_3 aX12_priceAll_12
theorem dX12_priceAll_13 : decode cX12_priceAll 13 = .ok (.istore 5, 2) := dc_54 (a0 := 5) aX12_priceAll_13
theorem dX12_priceAll_15 : decode cX12_priceAll 15 = .ok (.iload 5, 2) := dc_21 (a0 := 5) aX12_priceAll_15
theorem dX12_priceAll_17 : decode cX12_priceAll 17 = .ok (.bipush 22, 2) := dc_16 (a0 := 22) aX12_priceAll_17 (by decide)
theorem dX12_priceAll_19 : decode cX12_priceAll 19 = .ok (.if_icmp .ge 44, 3) := dc_162 (a0 := 0) (b0 := 44) aX12_priceAll_19 (by decide)
theorem dX12_priceAll_22 : decode cX12_priceAll 22 = .ok (.iload_n 3, 1) := dc_29 aX12_priceAll_22
theorem dX12_priceAll_23 : decode cX12_priceAll 23 = .ok (.aload_n 0, 1) := dc_42 aX12_priceAll_23
theorem dX12_priceAll_24 : decode cX12_priceAll 24 = .ok (.aload_n 0, 1) := dc_42 aX12_priceAll_24
theorem dX12_priceAll_25 : decode cX12_priceAll 25 = .ok (.bipush 20, 2) := dc_16 (a0 := 20) aX12_priceAll_25 (by decide)
theorem dX12_priceAll_27 : decode cX12_priceAll 27 = .ok (.iload_n 1, 1) := dc_27 aX12_priceAll_27
theorem dX12_priceAll_28 : decode cX12_priceAll 28 = .ok (.imul, 1) := dc_104 aX12_priceAll_28
theorem dX12_priceAll_29 : decode cX12_priceAll 29 = .ok (.iload 4, 2) := dc_21 (a0 := 4) aX12_priceAll_29
theorem dX12_priceAll_31 : decode cX12_priceAll 31 = .ok (.iadd, 1) := dc_96 aX12_priceAll_31
theorem dX12_priceAll_32 : decode cX12_priceAll 32 = .ok (.iload 5, 2) := dc_21 (a0 := 5) aX12_priceAll_32
theorem dX12_priceAll_34 : decode cX12_priceAll 34 = .ok (.invokevirtual 254, 3) := dc_182 (a0 := 0) (b0 := 254) aX12_priceAll_34
theorem dX12_priceAll_37 : decode cX12_priceAll 37 = .ok (.aload_n 0, 1) := dc_42 aX12_priceAll_37
theorem dX12_priceAll_38 : decode cX12_priceAll 38 = .ok (.bipush 20, 2) := dc_16 (a0 := 20) aX12_priceAll_38 (by decide)
theorem dX12_priceAll_40 : decode cX12_priceAll 40 = .ok (.iload_n 2, 1) := dc_28 aX12_priceAll_40
theorem dX12_priceAll_41 : decode cX12_priceAll 41 = .ok (.imul, 1) := dc_104 aX12_priceAll_41
theorem dX12_priceAll_42 : decode cX12_priceAll 42 = .ok (.iload 4, 2) := dc_21 (a0 := 4) aX12_priceAll_42
theorem dX12_priceAll_44 : decode cX12_priceAll 44 = .ok (.iadd, 1) := dc_96 aX12_priceAll_44
theorem dX12_priceAll_45 : decode cX12_priceAll 45 = .ok (.iload 5, 2) := dc_21 (a0 := 5) aX12_priceAll_45
theorem dX12_priceAll_47 : decode cX12_priceAll 47 = .ok (.invokevirtual 254, 3) := dc_182 (a0 := 0) (b0 := 254) aX12_priceAll_47
theorem dX12_priceAll_50 : decode cX12_priceAll 50 = .ok (.iload 5, 2) := dc_21 (a0 := 5) aX12_priceAll_50
theorem dX12_priceAll_52 : decode cX12_priceAll 52 = .ok (.invokevirtual 335, 3) := dc_182 (a0 := 1) (b0 := 79) aX12_priceAll_52
theorem dX12_priceAll_55 : decode cX12_priceAll 55 = .ok (.iadd, 1) := dc_96 aX12_priceAll_55
theorem dX12_priceAll_56 : decode cX12_priceAll 56 = .ok (.istore_n 3, 1) := dc_62 aX12_priceAll_56
theorem dX12_priceAll_57 : decode cX12_priceAll 57 = .ok (.iinc 5 1, 3) := dc_132 (a0 := 5) (a1 := 1) aX12_priceAll_57 (by decide)
theorem dX12_priceAll_60 : decode cX12_priceAll 60 = .ok (.goto (-45), 3) := dc_167 (a0 := 255) (b0 := 211) aX12_priceAll_60 (by decide)
theorem dX12_priceAll_63 : decode cX12_priceAll 63 = .ok (.iinc 4 1, 3) := dc_132 (a0 := 4) (a1 := 1) aX12_priceAll_63 (by decide)
theorem dX12_priceAll_66 : decode cX12_priceAll 66 = .ok (.goto (-61), 3) := dc_167 (a0 := 255) (b0 := 195) aX12_priceAll_66 (by decide)
theorem dX12_priceAll_69 : decode cX12_priceAll 69 = .ok (.iload_n 3, 1) := dc_29 aX12_priceAll_69
theorem dX12_priceAll_70 : decode cX12_priceAll 70 = .ok (.ireturn, 1) := dc_172 aX12_priceAll_70
set_option maxRecDepth 20000 in
theorem ggX12_price_X12_isBook : GoodIn wsX12_price wsX12_isBook := goodIn_k _ [[6, 0, 0, 0], [5, 4], [1, 37, 0, 0, 0, 0, 0, 0, 0, 0, 0, 0, 0, 0, 0, 0, 0, 0, 0, 0, 0, 0, 0, 0, 0, 0, 0, 0, 0, 0, 0, 0, 0, 0, 0, 0, 0, 0, 0, 0, 0, 0, 0, 0, 0, 0, 0, 0, 0, 0, 0, 0, 0, 0, 0, 0, 0, 0, 0]] (by rfl) (by decide +kernel)
set_option maxRecDepth 20000 in
theorem gX12_price_X12_isBook : GoodIn wsX12_price (wsV RX12 338 RX12 yX12_isBook wsX12_isBook) := goodIn_app (goodIn_of _ (by decide +kernel)) ggX12_price_X12_isBook
set_option maxRecDepth 20000 in
theorem ggX12_price_X12_priceAll : GoodIn wsX12_price wsX12_priceAll := goodIn_k _ [[14, 0, 0, 0], [5, 12, 0, 0, 0, 0, 0, 0, 0, 0, 0, 0, 0, 0, 0, 0, 0, 0, 0, 0, 0, 0, 0, 0, 0, 0, 0, 0, 0, 0, 0, 0, 0, 0, 0, 0, 0, 0, 0, 0, 0, 0, 0, 0, 0, 0, 0, 0, 0, 0, 0, 0, 0, 0, 0, 0, 0, 0, 0, 0, 0, 0, 0, 0, 0, 0, 0, 0, 0, 0, 0, 0, 0, 0, 0, 0, 0, 0, 0, 0]] (by rfl) (by decide +kernel)
set_option maxRecDepth 20000 in
theorem gX12_price_X12_priceAll : GoodIn wsX12_price (wsV RX12 341 RX12 yX12_priceAll wsX12_priceAll) := goodIn_app (goodIn_of _ (by decide +kernel)) ggX12_price_X12_priceAll
noncomputable def sX12_price_29 : List Nat := 172 :: []
noncomputable def sX12_price_26 : List Nat := 182 :: 1 :: 85 :: sX12_price_29
noncomputable def sX12_price_25 : List Nat := 28 :: sX12_price_26
noncomputable def sX12_price_24 : List Nat := 27 :: sX12_price_25
noncomputable def sX12_price_23 : List Nat := 42 :: sX12_price_24
noncomputable def sX12_price_22 : List Nat := 172 :: sX12_price_23
noncomputable def sX12_price_21 : List Nat := 3 :: sX12_price_22
noncomputable def sX12_price_18 : List Nat := 154 :: 0 :: 5 :: sX12_price_21
noncomputable def sX12_price_15 : List Nat := 182 :: 1 :: 82 :: sX12_price_18
noncomputable def sX12_price_14 : List Nat := 28 :: sX12_price_15
noncomputable def sX12_price_13 : List Nat := 42 :: sX12_price_14
noncomputable def sX12_price_10 : List Nat := 153 :: 0 :: 11 :: sX12_price_13
noncomputable def sX12_price_7 : List Nat := 182 :: 1 :: 82 :: sX12_price_10
noncomputable def sX12_price_6 : List Nat := 27 :: sX12_price_7
noncomputable def sX12_price_5 : List Nat := 42 :: sX12_price_6
noncomputable def sX12_price_2 : List Nat := 181 :: 0 :: 129 :: sX12_price_5
noncomputable def sX12_price_1 : List Nat := 3 :: sX12_price_2
noncomputable def sX12_price_0 : List Nat := 42 :: sX12_price_1
theorem aX12_price_0 : dc_at cX12_price 0 sX12_price_0 := dc_base (by decide +kernel)
theorem aX12_price_1 : dc_at cX12_price 1 sX12_price_1 := dc_n1 aX12_price_0
theorem aX12_price_2 : dc_at cX12_price 2 sX12_price_2 := dc_n1 aX12_price_1
theorem aX12_price_5 : dc_at cX12_price 5 sX12_price_5 := dc_n3 aX12_price_2
theorem aX12_price_6 : dc_at cX12_price 6 sX12_price_6 := dc_n1 aX12_price_5
theorem aX12_price_7 : dc_at cX12_price 7 sX12_price_7 := dc_n1 aX12_price_6
theorem aX12_price_10 : dc_at cX12_price 10 sX12_price_10 := dc_n3 aX12_price_7
theorem aX12_price_13 : dc_at cX12_price 13 sX12_price_13 := dc_n3 aX12_price_10
theorem aX12_price_14 : dc_at cX12_price 14 sX12_price_14 := dc_n1 aX12_price_13
theorem aX12_price_15 : dc_at cX12_price 15 sX12_price_15 := dc_n1 aX12_price_14
theorem aX12_price_18 : dc_at cX12_price 18 sX12_price_18 := dc_n3 aX12_price_15
theorem aX12_price_21 : dc_at cX12_price 21 sX12_price_21 := dc_n3 aX12_price_18
theorem aX12_price_22 : dc_at cX12_price 22 sX12_price_22 := dc_n1 aX12_price_21
theorem aX12_price_23 : dc_at cX12_price 23 sX12_price_23 := dc_n1 aX12_price_22
theorem aX12_price_24 : dc_at cX12_price 24 sX12_price_24 := dc_n1 aX12_price_23
theorem aX12_price_25 : dc_at cX12_price 25 sX12_price_25 := dc_n1 aX12_price_24
theorem aX12_price_26 : dc_at cX12_price 26 sX12_price_26 := dc_n1 aX12_price_25
theorem aX12_price_29 : dc_at cX12_price 29 sX12_price_29 := dc_n3 aX12_price_26
theorem dX12_price_0 : decode cX12_price 0 = .ok (.aload_n 0, 1) := dc_42 aX12_price_0
theorem dX12_price_1 : decode cX12_price 1 = .ok (.iconst 0, 1) := dc_3 aX12_price_1
theorem dX12_price_2 : decode cX12_price 2 = .ok (.putfield 129, 3) := dc_181 (a0 := 0) (b0 := 129) aX12_price_2
theorem dX12_price_5 : decode cX12_price 5 = .ok (.aload_n 0, 1) := dc_42 aX12_price_5
theorem dX12_price_6 : decode cX12_price 6 = .ok (.iload_n 1, 1) := dc_27 aX12_price_6
theorem dX12_price_7 : decode cX12_price 7 = .ok (.invokevirtual 338, 3) := dc_182 (a0 := 1) (b0 := 82) aX12_price_7
theorem dX12_price_10 : decode cX12_price 10 = .ok (.ifCond .eq 11, 3) := dc_153 (a0 := 0) (b0 := 11) aX12_price_10 (by decide)
theorem dX12_price_13 : decode cX12_price 13 = .ok (.aload_n 0, 1) := dc_42 aX12_price_13
theorem dX12_price_14 : decode cX12_price 14 = .ok (.iload_n 2, 1) := dc_28 aX12_price_14
theorem dX12_price_15 : decode cX12_price 15 = .ok (.invokevirtual 338, 3) := dc_182 (a0 := 1) (b0 := 82) aX12_price_15
theorem dX12_price_18 : decode cX12_price 18 = .ok (.ifCond .ne 5, 3) := dc_154 (a0 := 0) (b0 := 5) aX12_price_18 (by decide)
theorem dX12_price_21 : decode cX12_price 21 = .ok (.iconst 0, 1) := dc_3 aX12_price_21
theorem dX12_price_22 : decode cX12_price 22 = .ok (.ireturn, 1) := dc_172 aX12_price_22
theorem dX12_price_23 : decode cX12_price 23 = .ok (.aload_n 0, 1) := dc_42 aX12_price_23
theorem dX12_price_24 : decode cX12_price 24 = .ok (.iload_n 1, 1) := dc_27 aX12_price_24
theorem dX12_price_25 : decode cX12_price 25 = .ok (.iload_n 2, 1) := dc_28 aX12_price_25
theorem dX12_price_26 : decode cX12_price 26 = .ok (.invokevirtual 341, 3) := dc_182 (a0 := 1) (b0 := 85) aX12_price_26
theorem dX12_price_29 : decode cX12_price 29 = .ok (.ireturn, 1) := dc_172 aX12_price_29
noncomputable def sX12_isTree_142 : List Nat := 172 :: []
noncomputable def sX12_isTree_141 : List Nat := 3 :: sX12_isTree_142
noncomputable def sX12_isTree_138 : List Nat := 167 :: 0 :: 4 :: sX12_isTree_141
noncomputable def sX12_isTree_137 : List Nat := 4 :: sX12_isTree_138
noncomputable def sX12_isTree_134 : List Nat := 160 :: 0 :: 7 :: sX12_isTree_137
noncomputable def sX12_isTree_133 : List Nat := 4 :: sX12_isTree_134
noncomputable def sX12_isTree_132 : List Nat := 27 :: sX12_isTree_133
noncomputable def sX12_isTree_129 : List Nat := 167 :: 255 :: 131 :: sX12_isTree_132
noncomputable def sX12_isTree_126 : List Nat := 132 :: 2 :: 1 :: sX12_isTree_129
noncomputable def sX12_isTree_125 : List Nat := 172 :: sX12_isTree_126
noncomputable def sX12_isTree_124 : List Nat := 3 :: sX12_isTree_125
noncomputable def sX12_isTree_121 : List Nat := 159 :: 0 :: 5 :: sX12_isTree_124
noncomputable def sX12_isTree_120 : List Nat := 2 :: sX12_isTree_121
noncomputable def sX12_isTree_119 : List Nat := 46 :: sX12_isTree_120
noncomputable def sX12_isTree_118 : List Nat := 29 :: sX12_isTree_119
noncomputable def sX12_isTree_115 : List Nat := 180 :: 0 :: 89 :: sX12_isTree_118
noncomputable def sX12_isTree_114 : List Nat := 42 :: sX12_isTree_115
noncomputable def sX12_isTree_113 : List Nat := 172 :: sX12_isTree_114
noncomputable def sX12_isTree_112 : List Nat := 3 :: sX12_isTree_113
noncomputable def sX12_isTree_109 : List Nat := 154 :: 255 :: 223 :: sX12_isTree_112
noncomputable def sX12_isTree_108 : List Nat := 51 :: sX12_isTree_109
noncomputable def sX12_isTree_107 : List Nat := 29 :: sX12_isTree_108
noncomputable def sX12_isTree_104 : List Nat := 180 :: 0 :: 95 :: sX12_isTree_107
noncomputable def sX12_isTree_103 : List Nat := 42 :: sX12_isTree_104
noncomputable def sX12_isTree_100 : List Nat := 132 :: 4 :: 1 :: sX12_isTree_103
noncomputable def sX12_isTree_99 : List Nat := 62 :: sX12_isTree_100
noncomputable def sX12_isTree_98 : List Nat := 46 :: sX12_isTree_99
noncomputable def sX12_isTree_97 : List Nat := 29 :: sX12_isTree_98
noncomputable def sX12_isTree_94 : List Nat := 180 :: 0 :: 89 :: sX12_isTree_97
noncomputable def sX12_isTree_93 : List Nat := 42 :: sX12_isTree_94
noncomputable def sX12_isTree_90 : List Nat := 162 :: 0 :: 24 :: sX12_isTree_93
noncomputable def sX12_isTree_88 : List Nat := 16 :: 6 :: sX12_isTree_90
noncomputable def sX12_isTree_86 : List Nat := 21 :: 4 :: sX12_isTree_88
noncomputable def sX12_isTree_83 : List Nat := 159 :: 0 :: 31 :: sX12_isTree_86
noncomputable def sX12_isTree_82 : List Nat := 2 :: sX12_isTree_83
noncomputable def sX12_isTree_81 : List Nat := 46 :: sX12_isTree_82
noncomputable def sX12_isTree_80 : List Nat := 29 :: sX12_isTree_81
noncomputable def sX12_isTree_77 : List Nat := 180 :: 0 :: 89 :: sX12_isTree_80
noncomputable def sX12_isTree_76 : List Nat := 42 :: sX12_isTree_77
noncomputable def sX12_isTree_74 : List Nat := 54 :: 4 :: sX12_isTree_76
noncomputable def sX12_isTree_73 : List Nat := 3 :: sX12_isTree_74
noncomputable def sX12_isTree_72 : List Nat := 62 :: sX12_isTree_73
noncomputable def sX12_isTree_71 : List Nat := 28 :: sX12_isTree_72
noncomputable def sX12_isTree_70 : List Nat := 172 :: sX12_isTree_71
noncomputable def sX12_isTree_69 : List Nat := 3 :: sX12_isTree_70
noncomputable def sX12_isTree_66 : List Nat := 160 :: 0 :: 5 :: sX12_isTree_69
noncomputable def sX12_isTree_65 : List Nat := 28 :: sX12_isTree_66
noncomputable def sX12_isTree_64 : List Nat := 46 :: sX12_isTree_65
noncomputable def sX12_isTree_63 : List Nat := 28 :: sX12_isTree_64
noncomputable def sX12_isTree_60 : List Nat := 180 :: 0 :: 89 :: sX12_isTree_63
noncomputable def sX12_isTree_59 : List Nat := 42 :: sX12_isTree_60
noncomputable def sX12_isTree_56 : List Nat := 153 :: 0 :: 13 :: sX12_isTree_59
noncomputable def sX12_isTree_55 : List Nat := 51 :: sX12_isTree_56
noncomputable def sX12_isTree_54 : List Nat := 46 :: sX12_isTree_55
noncomputable def sX12_isTree_53 : List Nat := 28 :: sX12_isTree_54
noncomputable def sX12_isTree_50 : List Nat := 180 :: 0 :: 89 :: sX12_isTree_53
noncomputable def sX12_isTree_49 : List Nat := 42 :: sX12_isTree_50
noncomputable def sX12_isTree_46 : List Nat := 180 :: 0 :: 95 :: sX12_isTree_49
noncomputable def sX12_isTree_45 : List Nat := 42 :: sX12_isTree_46
noncomputable def sX12_isTree_42 : List Nat := 159 :: 0 :: 29 :: sX12_isTree_45
noncomputable def sX12_isTree_41 : List Nat := 2 :: sX12_isTree_42
noncomputable def sX12_isTree_40 : List Nat := 46 :: sX12_isTree_41
noncomputable def sX12_isTree_39 : List Nat := 28 :: sX12_isTree_40
noncomputable def sX12_isTree_36 : List Nat := 180 :: 0 :: 89 :: sX12_isTree_39
noncomputable def sX12_isTree_35 : List Nat := 42 :: sX12_isTree_36
noncomputable def sX12_isTree_32 : List Nat := 132 :: 1 :: 1 :: sX12_isTree_35
noncomputable def sX12_isTree_29 : List Nat := 160 :: 0 :: 6 :: sX12_isTree_32
noncomputable def sX12_isTree_28 : List Nat := 2 :: sX12_isTree_29
noncomputable def sX12_isTree_27 : List Nat := 46 :: sX12_isTree_28
noncomputable def sX12_isTree_26 : List Nat := 28 :: sX12_isTree_27
noncomputable def sX12_isTree_23 : List Nat := 180 :: 0 :: 89 :: sX12_isTree_26
noncomputable def sX12_isTree_22 : List Nat := 42 :: sX12_isTree_23
noncomputable def sX12_isTree_19 : List Nat := 167 :: 0 :: 107 :: sX12_isTree_22
noncomputable def sX12_isTree_16 : List Nat := 154 :: 0 :: 6 :: sX12_isTree_19
noncomputable def sX12_isTree_15 : List Nat := 51 :: sX12_isTree_16
noncomputable def sX12_isTree_14 : List Nat := 28 :: sX12_isTree_15
noncomputable def sX12_isTree_11 : List Nat := 180 :: 0 :: 95 :: sX12_isTree_14
noncomputable def sX12_isTree_10 : List Nat := 42 :: sX12_isTree_11
noncomputable def sX12_isTree_7 : List Nat := 162 :: 0 :: 125 :: sX12_isTree_10
noncomputable def sX12_isTree_5 : List Nat := 16 :: 6 :: sX12_isTree_7
noncomputable def sX12_isTree_4 : List Nat := 28 :: sX12_isTree_5
noncomputable def sX12_isTree_3 : List Nat := 61 :: sX12_isTree_4
noncomputable def sX12_isTree_2 : List Nat := 3 :: sX12_isTree_3
noncomputable def sX12_isTree_1 : List Nat := 60 :: sX12_isTree_2
noncomputable def sX12_isTree_0 : List Nat := 3 :: sX12_isTree_1
theorem aX12_isTree_0 : dc_at cX12_isTree 0 sX12_isTree_0 := dc_base (by decide +kernel)
theorem aX12_isTree_1 : dc_at cX12_isTree 1 sX12_isTree_1 := dc_n1 aX12_isTree_0
theorem aX12_isTree_2 : dc_at cX12_isTree 2 sX12_isTree_2 := dc_n1 aX12_isTree_1
theorem aX12_isTree_3 : dc_at cX12_isTree 3 sX12_isTree_3 := dc_n1 aX12_isTree_2
theorem aX12_isTree_4 : dc_at cX12_isTree 4 sX12_isTree_4 := dc_n1 aX12_isTree_3
theorem aX12_isTree_5 : dc_at cX12_isTree 5 sX12_isTree_5 := dc_n1 aX12_isTree_4
theorem aX12_isTree_7 : dc_at cX12_isTree 7 sX12_isTree_7 := dc_n2 aX12_isTree_5
theorem aX12_isTree_10 : dc_at cX12_isTree 10 sX12_isTree_10 := dc_n3 aX12_isTree_7
theorem aX12_isTree_11 : dc_at cX12_isTree 11 sX12_isTree_11 := dc_n1 aX12_isTree_10
theorem aX12_isTree_14 : dc_at cX12_isTree 14 sX12_isTree_14 := dc_n3 aX12_isTree_11
theorem aX12_isTree_15 : dc_at cX12_isTree 15 sX12_isTree_15 := dc_n1 aX12_isTree_14
theorem aX12_isTree_16 : dc_at cX12_isTree 16 sX12_isTree_16 := dc_n1 aX12_isTree_15
theorem aX12_isTree_19 : dc_at cX12_isTree 19 sX12_isTree_19 := dc_n3 aX12_isTree_16
theorem aX12_isTree_22 : dc_at cX12_isTree 22 sX12_isTree_22 := dc_n3 aX12_isTree_19
theorem aX12_isTree_23 : dc_at cX12_isTree 23 sX12_isTree_23 := dc_n1 aX12_isTree_22
theorem aX12_isTree_26 : dc_at cX12_isTree 26 sX12_isTree_26 := dc_n3 aX12_isTree_23
theorem aX12_isTree_27 : dc_at cX12_isTree 27 sX12_isTree_27 := dc_n1 aX12_isTree_26
theorem aX12_isTree_28 : dc_at cX12_isTree 28 sX12_isTree_28 := dc_n1 aX12_isTree_27
theorem aX12_isTree_29 : dc_at cX12_isTree 29 sX12_isTree_29 := dc_n1 aX12_isTree_28
theorem aX12_isTree_32 : dc_at cX12_isTree 32 sX12_isTree_32 := dc_n3 aX12_isTree_29
theorem aX12_isTree_35 : dc_at cX12_isTree 35 sX12_isTree_35 := dc_n3 aX12_isTree_32
theorem aX12_isTree_36 : dc_at cX12_isTree 36 sX12_isTree_36 := dc_n1 aX12_isTree_35
theorem aX12_isTree_39 : dc_at cX12_isTree 39 sX12_isTree_39 := dc_n3 aX12_isTree_36
theorem aX12_isTree_40 : dc_at cX12_isTree 40 sX12_isTree_40 := dc_n1 aX12_isTree_39
theorem aX12_isTree_41 : dc_at cX12_isTree 41 sX12_isTree_41 := dc_n1 aX12_isTree_40
theorem aX12_isTree_42 : dc_at cX12_isTree 42 sX12_isTree_42 := dc_n1 aX12_isTree_41
theorem aX12_isTree_45 : dc_at cX12_isTree 45 sX12_isTree_45 := dc_n3 aX12_isTree_42
theorem aX12_isTree_46 : dc_at cX12_isTree 46 sX12_isTree_46 := dc_n1 aX12_isTree_45
theorem aX12_isTree_49 : dc_at cX12_isTree 49 sX12_isTree_49 := dc_n3 aX12_isTree_46
theorem aX12_isTree_50 : dc_at cX12_isTree 50 sX12_isTree_50 := dc_n1 aX12_isTree_49
theorem aX12_isTree_53 : dc_at cX12_isTree 53 sX12_isTree_53 := dc_n3 aX12_isTree_50
theorem aX12_isTree_54 : dc_at cX12_isTree 54 sX12_isTree_54 := dc_n1 aX12_isTree_53
theorem aX12_isTree_55 : dc_at cX12_isTree 55 sX12_isTree_55 := dc_n1 aX12_isTree_54
theorem aX12_isTree_56 : dc_at cX12_isTree 56 sX12_isTree_56 := dc_n1 aX12_isTree_55
theorem aX12_isTree_59 : dc_at cX12_isTree 59 sX12_isTree_59 := dc_n3 aX12_isTree_56
theorem aX12_isTree_60 : dc_at cX12_isTree 60 sX12_isTree_60 := dc_n1 aX12_isTree_59
theorem aX12_isTree_63 : dc_at cX12_isTree 63 sX12_isTree_63 := dc_n3 aX12_isTree_60
theorem aX12_isTree_64 : dc_at cX12_isTree 64 sX12_isTree_64 := dc_n1 aX12_isTree_63
theorem aX12_isTree_65 : dc_at cX12_isTree 65 sX12_isTree_65 := dc_n1 aX12_isTree_64
theorem aX12_isTree_66 : dc_at cX12_isTree 66 sX12_isTree_66 := dc_n1 aX12_isTree_65
theorem aX12_isTree_69 : dc_at cX12_isTree 69 sX12_isTree_69 := dc_n3 aX12_isTree_66
theorem aX12_isTree_70 : dc_at cX12_isTree 70 sX12_isTree_70 := dc_n1 aX12_isTree_69
theorem aX12_isTree_71 : dc_at cX12_isTree 71 sX12_isTree_71 := dc_n1 aX12_isTree_70
theorem aX12_isTree_72 : dc_at cX12_isTree 72 sX12_isTree_72 := dc_n1 aX12_isTree_71
theorem aX12_isTree_73 : dc_at cX12_isTree 73 sX12_isTree_73 := dc_n1 aX12_isTree_72
theorem aX12_isTree_74 : dc_at cX12_isTree 74 sX12_isTree_74 := dc_n1 aX12_isTree_73
theorem aX12_isTree_76 : dc_at cX12_isTree 76 sX12_isTree_76 := dc_n2 aX12_isTree_74
theorem aX12_isTree_77 : dc_at cX12_isTree 77 sX12_isTree_77 := dc_n1 aX12_isTree_76
theorem aX12_isTree_80 : dc_at cX12_isTree 80 sX12_isTree_80 := dc_n3 aX12_isTree_77
theorem aX12_isTree_81 : dc_at cX12_isTree 81 sX12_isTree_81 := dc_n1 aX12_isTree_80
theorem aX12_isTree_82 : dc_at cX12_isTree 82 sX12_isTree_82 := dc_n1 aX12_isTree_81
theorem aX12_isTree_83 : dc_at cX12_isTree 83 sX12_isTree_83 := dc_n1 aX12_isTree_82
theorem aX12_isTree_86 : dc_at cX12_isTree 86 sX12_isTree_86 := dc_n3 aX12_isTree_83
theorem aX12_isTree_88 : dc_at cX12_isTree 88 sX12_isTree_88 := dc_n2 aX12_isTree_86
theorem aX12_isTree_90 : dc_at cX12_isTree 90 sX12_isTree_90 := dc_n2 aX12_isTree_88
theorem aX12_isTree_93 : dc_at cX12_isTree 93 sX12_isTree_93 := dc_n3 aX12_isTree_90
theorem aX12_isTree_94 : dc_at cX12_isTree 94 sX12_isTree_94 := dc_n1 aX12_isTree_93
theorem aX12_isTree_97 : dc_at cX12_isTree 97 sX12_isTree_97 := dc_n3 aX12_isTree_94
theorem aX12_isTree_98 : dc_at cX12_isTree 98 sX12_isTree_98 := dc_n1 aX12_isTree_97
theorem aX12_isTree_99 : dc_at cX12_isTree 99 sX12_isTree_99 := dc_n1 aX12_isTree_98
theorem aX12_isTree_100 : dc_at cX12_isTree 100 sX12_isTree_100 := dc_n1 aX12_isTree_99
theorem aX12_isTree_103 : dc_at cX12_isTree 103 sX12_isTree_103 := dc_n3 aX12_isTree_100
theorem aX12_isTree_104 : dc_at cX12_isTree 104 sX12_isTree_104 := dc_n1 aX12_isTree_103
theorem aX12_isTree_107 : dc_at cX12_isTree 107 sX12_isTree_107 := dc_n3 aX12_isTree_104
theorem aX12_isTree_108 : dc_at cX12_isTree 108 sX12_isTree_108 := dc_n1 aX12_isTree_107
theorem aX12_isTree_109 : dc_at cX12_isTree 109 sX12_isTree_109 := dc_n1 aX12_isTree_108
theorem aX12_isTree_112 : dc_at cX12_isTree 112 sX12_isTree_112 := dc_n3 aX12_isTree_109
theorem aX12_isTree_113 : dc_at cX12_isTree 113 sX12_isTree_113 := dc_n1 aX12_isTree_112
theorem aX12_isTree_114 : dc_at cX12_isTree 114 sX12_isTree_114 := dc_n1 aX12_isTree_113
theorem aX12_isTree_115 : dc_at cX12_isTree 115 sX12_isTree_115 := dc_n1 aX12_isTree_114
theorem aX12_isTree_118 : dc_at cX12_isTree 118 sX12_isTree_118 := dc_n3 aX12_isTree_115
theorem aX12_isTree_119 : dc_at cX12_isTree 119 sX12_isTree_119 := dc_n1 aX12_isTree_118
theorem aX12_isTree_120 : dc_at cX12_isTree 120 sX12_isTree_120 := dc_n1 aX12_isTree_119
theorem aX12_isTree_121 : dc_at cX12_isTree 121 sX12_isTree_121 := dc_n1 aX12_isTree_120
theorem aX12_isTree_124 : dc_at cX12_isTree 124 sX12_isTree_124 := dc_n3 aX12_isTree_121
theorem aX12_isTree_125 : dc_at cX12_isTree 125 sX12_isTree_125 := dc_n1 aX12_isTree_124
theorem aX12_isTree_126 : dc_at cX12_isTree 126 sX12_isTree_126 := dc_n1 aX12_isTree_125
theorem aX12_isTree_129 : dc_at cX12_isTree 129 sX12_isTree_129 := dc_n3 aX12_isTree_126
theorem aX12_isTree_132 : dc_at cX12_isTree 132 sX12_isTree_132 := dc_n3 aX12_isTree_129
theorem aX12_isTree_133 : dc_at cX12_isTree 133 sX12_isTree_133 := dc_n1 aX12_isTree_132
theorem aX12_isTree_134 : dc_at cX12_isTree 134 sX12_isTree_134 := dc_n1 aX12_isTree_133
theorem aX12_isTree_137 : dc_at cX12_isTree 137 sX12_isTree_137 := dc_n3 aX12_isTree_134
theorem aX12_isTree_138 : dc_at cX12_isTree 138 sX12_isTree_138 := dc_n1 aX12_isTree_137
theorem aX12_isTree_141 : dc_at cX12_isTree 141 sX12_isTree_141 := dc_n3 aX12_isTree_138
theorem aX12_isTree_142 : dc_at cX12_isTree 142 sX12_isTree_142 := dc_n1 aX12_isTree_141
theorem dX12_isTree_0 : decode cX12_isTree 0 = .ok (.iconst 0, 1) := dc_3 aX12_isTree_0
theorem dX12_isTree_1 : decode cX12_isTree 1 = .ok (.istore_n 1, 1) := dc_60 aX12_isTree_1
theorem dX12_isTree_2 : decode cX12_isTree 2 = .ok (.iconst 0, 1) := dc_3 aX12_isTree_2
theorem dX12_isTree_3 : decode cX12_isTree 3 = .ok (.istore_n 2, 1) := dc_61 aX12_isTree_3
theorem dX12_isTree_4 : decode cX12_isTree 4 = .ok (.iload_n 2, 1) := dc_28 aX12_isTree_4
theorem dX12_isTree_5 : decode cX12_isTree 5 = .ok (.bipush 6, 2) := dc_16 (a0 := 6) aX12_isTree_5 (by decide)
theorem dX12_isTree_7 : decode cX12_isTree 7 = .ok (.if_icmp .ge 125, 3) := dc_162 (a0 := 0) (b0 := 125) aX12_isTree_7 (by decide)
theorem dX12_isTree_10 : decode cX12_isTree 10 = .ok (.aload_n 0, 1) := dc_42 aX12_isTree_10
theorem dX12_isTree_11 : decode cX12_isTree 11 = .ok (.getfield 95, 3) := dc_180 (a0 := 0) (b0 := 95) aX12_isTree_11
theorem dX12_isTree_14 : decode cX12_isTree 14 = .ok (.iload_n 2, 1) := dc_28 aX12_isTree_14
theorem dX12_isTree_15 : decode cX12_isTree 15 = .ok (.baload, 1) := dc_51 aX12_isTree_15
theorem dX12_isTree_16 : decode cX12_isTree 16 = .ok (.ifCond .ne 6, 3) := dc_154 (a0 := 0) (b0 := 6) aX12_isTree_16 (by decide)
theorem dX12_isTree_19 : decode cX12_isTree 19 = .ok (.goto 107, 3) := dc_167 (a0 := 0) (b0 := 107) aX12_isTree_19 (by decide)
theorem dX12_isTree_22 : decode cX12_isTree 22 = .ok (.aload_n 0, 1) := dc_42 aX12_isTree_22
theorem dX12_isTree_23 : decode cX12_isTree 23 = .ok (.getfield 89, 3) := dc_180 (a0 := 0) (b0 := 89) aX12_isTree_23
theorem dX12_isTree_26 : decode cX12_isTree 26 = .ok (.iload_n 2, 1) := dc_28 aX12_isTree_26
theorem dX12_isTree_27 : decode cX12_isTree 27 = .ok (.iaload, 1) := dc_46 aX12_isTree_27
theorem dX12_isTree_28 : decode cX12_isTree 28 = .ok (.iconst (-1), 1) := dc_2 aX12_isTree_28
theorem dX12_isTree_29 : decode cX12_isTree 29 = .ok (.if_icmp .ne 6, 3) := dc_160 (a0 := 0) (b0 := 6) aX12_isTree_29 (by decide)
theorem dX12_isTree_32 : decode cX12_isTree 32 = .ok (.iinc 1 1, 3) := dc_132 (a0 := 1) (a1 := 1) aX12_isTree_32 (by decide)
theorem dX12_isTree_35 : decode cX12_isTree 35 = .ok (.aload_n 0, 1) := dc_42 aX12_isTree_35
theorem dX12_isTree_36 : decode cX12_isTree 36 = .ok (.getfield 89, 3) := dc_180 (a0 := 0) (b0 := 89) aX12_isTree_36
theorem dX12_isTree_39 : decode cX12_isTree 39 = .ok (.iload_n 2, 1) := dc_28 aX12_isTree_39
theorem dX12_isTree_40 : decode cX12_isTree 40 = .ok (.iaload, 1) := dc_46 aX12_isTree_40
theorem dX12_isTree_41 : decode cX12_isTree 41 = .ok (.iconst (-1), 1) := dc_2 aX12_isTree_41
theorem dX12_isTree_42 : decode cX12_isTree 42 = .ok (.if_icmp .eq 29, 3) := dc_159 (a0 := 0) (b0 := 29) aX12_isTree_42 (by decide)
theorem dX12_isTree_45 : decode cX12_isTree 45 = .ok (.aload_n 0, 1) := dc_42 aX12_isTree_45
theorem dX12_isTree_46 : decode cX12_isTree 46 = .ok (.getfield 95, 3) := dc_180 (a0 := 0) (b0 := 95) aX12_isTree_46
theorem dX12_isTree_49 : decode cX12_isTree 49 = .ok (.aload_n 0, 1) := dc_42 aX12_isTree_49
theorem dX12_isTree_50 : decode cX12_isTree 50 = .ok (.getfield 89, 3) := dc_180 (a0 := 0) (b0 := 89) aX12_isTree_50
theorem dX12_isTree_53 : decode cX12_isTree 53 = .ok (.iload_n 2, 1) := dc_28 aX12_isTree_53
theorem dX12_isTree_54 : decode cX12_isTree 54 = .ok (.iaload, 1) := dc_46 aX12_isTree_54
theorem dX12_isTree_55 : decode cX12_isTree 55 = .ok (.baload, 1) := dc_51 aX12_isTree_55
theorem dX12_isTree_56 : decode cX12_isTree 56 = .ok (.ifCond .eq 13, 3) := dc_153 (a0 := 0) (b0 := 13) aX12_isTree_56 (by decide)
theorem dX12_isTree_59 : decode cX12_isTree 59 = .ok (.aload_n 0, 1) := dc_42 aX12_isTree_59
theorem dX12_isTree_60 : decode cX12_isTree 60 = .ok (.getfield 89, 3) := dc_180 (a0 := 0) (b0 := 89) aX12_isTree_60
theorem dX12_isTree_63 : decode cX12_isTree 63 = .ok (.iload_n 2, 1) := dc_28 aX12_isTree_63
theorem dX12_isTree_64 : decode cX12_isTree 64 = .ok (.iaload, 1) := dc_46 aX12_isTree_64
theorem dX12_isTree_65 : decode cX12_isTree 65 = .ok (.iload_n 2, 1) := dc_28 aX12_isTree_65
theorem dX12_isTree_66 : decode cX12_isTree 66 = .ok (.if_icmp .ne 5, 3) := dc_160 (a0 := 0) (b0 := 5) aX12_isTree_66 (by decide)
theorem dX12_isTree_69 : decode cX12_isTree 69 = .ok (.iconst 0, 1) := dc_3 aX12_isTree_69
theorem dX12_isTree_70 : decode cX12_isTree 70 = .ok (.ireturn, 1) := dc_172 aX12_isTree_70
theorem dX12_isTree_71 : decode cX12_isTree 71 = .ok (.iload_n 2, 1) := dc_28 aX12_isTree_71
theorem dX12_isTree_72 : decode cX12_isTree 72 = .ok (.istore_n 3, 1) := dc_62 aX12_isTree_72
theorem dX12_isTree_73 : decode cX12_isTree 73 = .ok (.iconst 0, 1) := dc_3 aX12_isTree_73
theorem dX12_isTree_74 : decode cX12_isTree 74 = .ok (.istore 4, 2) := dc_54 (a0 := 4) aX12_isTree_74
theorem dX12_isTree_76 : decode cX12_isTree 76 = .ok (.aload_n 0, 1) := dc_42 aX12_isTree_76
theorem dX12_isTree_77 : decode cX12_isTree 77 = .ok (.getfield 89, 3) := dc_180 (a0 := 0) (b0 := 89) aX12_isTree_77
theorem dX12_isTree_80 : decode cX12_isTree 80 = .ok (.iload_n 3, 1) := dc_29 aX12_isTree_80
theorem dX12_isTree_81 : decode cX12_isTree 81 = .ok (.iaload, 1) := dc_46 aX12_isTree_81
theorem dX12_isTree_82 : decode cX12_isTree 82 = .ok (.iconst (-1), 1) := dc_2 aX12_isTree_82
theorem dX12_isTree_83 : decode cX12_isTree 83 = .ok (.if_icmp .eq 31, 3) := dc_159 (a0 := 0) (b0 := 31) aX12_isTree_83 (by decide)
theorem dX12_isTree_86 : decode cX12_isTree 86 = .ok (.iload 4, 2) := dc_21 (a0 := 4) aX12_isTree_86
theorem dX12_isTree_88 : decode cX12_isTree 88 = .ok (.bipush 6, 2) := dc_16 (a0 := 6) aX12_isTree_88 (by decide)
theorem dX12_isTree_90 : decode cX12_isTree 90 = .ok (.if_icmp .ge 24, 3) := dc_162 (a0 := 0) (b0 := 24) aX12_isTree_90 (by decide)
theorem dX12_isTree_93 : decode cX12_isTree 93 = .ok (.aload_n 0, 1) := dc_42 aX12_isTree_93
theorem dX12_isTree_94 : decode cX12_isTree 94 = .ok (.getfield 89, 3) := dc_180 (a0 := 0) (b0 := 89) aX12_isTree_94
theorem dX12_isTree_97 : decode cX12_isTree 97 = .ok (.iload_n 3, 1) := dc_29 aX12_isTree_97
theorem dX12_isTree_98 : decode cX12_isTree 98 = .ok (.iaload, 1) := dc_46 aX12_isTree_98
theorem dX12_isTree_99 : decode cX12_isTree 99 = .ok (.istore_n 3, 1) := dc_62 aX12_isTree_99
theorem dX12_isTree_100 : decode cX12_isTree 100 = .ok (.iinc 4 1, 3) := dc_132 (a0 := 4) (a1 := 1) aX12_isTree_100 (by decide)
theorem dX12_isTree_103 : decode cX12_isTree 103 = .ok (.aload_n 0, 1) := dc_42 aX12_isTree_103
theorem dX12_isTree_104 : decode cX12_isTree 104 = .ok (.getfield 95, 3) := dc_180 (a0 := 0) (b0 := 95) aX12_isTree_104
theorem dX12_isTree_107 : decode cX12_isTree 107 = .ok (.iload_n 3, 1) := dc_29 aX12_isTree_107
theorem dX12_isTree_108 : decode cX12_isTree 108 = .ok (.baload, 1) := dc_51 aX12_isTree_108
theorem dX12_isTree_109 : decode cX12_isTree 109 = .ok (.ifCond .ne (-33), 3) := dc_154 (a0 := 255) (b0 := 223) aX12_isTree_109 (by decide)
theorem dX12_isTree_112 : decode cX12_isTree 112 = .ok (.iconst 0, 1) := dc_3 aX12_isTree_112
theorem dX12_isTree_113 : decode cX12_isTree 113 = .ok (.ireturn, 1) := dc_172 aX12_isTree_113
theorem dX12_isTree_114 : decode cX12_isTree 114 = .ok (.aload_n 0, 1) := dc_42 aX12_isTree_114
theorem dX12_isTree_115 : decode cX12_isTree 115 = .ok (.getfield 89, 3) := dc_180 (a0 := 0) (b0 := 89) aX12_isTree_115
theorem dX12_isTree_118 : decode cX12_isTree 118 = .ok (.iload_n 3, 1) := dc_29 aX12_isTree_118
theorem dX12_isTree_119 : decode cX12_isTree 119 = .ok (.iaload, 1) := dc_46 aX12_isTree_119
theorem dX12_isTree_120 : decode cX12_isTree 120 = .ok (.iconst (-1), 1) := dc_2 aX12_isTree_120
theorem dX12_isTree_121 : decode cX12_isTree 121 = .ok (.if_icmp .eq 5, 3) := dc_159 (a0 := 0) (b0 := 5) aX12_isTree_121 (by decide)
theorem dX12_isTree_124 : decode cX12_isTree 124 = .ok (.iconst 0, 1) := dc_3 aX12_isTree_124
theorem dX12_isTree_125 : decode cX12_isTree 125 = .ok (.ireturn, 1) := dc_172 aX12_isTree_125
theorem dX12_isTree_126 : decode cX12_isTree 126 = .ok (.iinc 2 1, 3) := dc_132 (a0 := 2) (a1 := 1) aX12_isTree_126 (by decide)
theorem dX12_isTree_129 : decode cX12_isTree 129 = .ok (.goto (-125), 3) := dc_167 (a0 := 255) (b0 := 131) aX12_isTree_129 (by decide)
theorem dX12_isTree_132 : decode cX12_isTree 132 = .ok (.iload_n 1, 1) := dc_27 aX12_isTree_132
theorem dX12_isTree_133 : decode cX12_isTree 133 = .ok (.iconst 1, 1) := dc_4 aX12_isTree_133
theorem dX12_isTree_134 : decode cX12_isTree 134 = .ok (.if_icmp .ne 7, 3) := dc_160 (a0 := 0) (b0 := 7) aX12_isTree_134 (by decide)
theorem dX12_isTree_137 : decode cX12_isTree 137 = .ok (.iconst 1, 1) := dc_4 aX12_isTree_137
theorem dX12_isTree_138 : decode cX12_isTree 138 = .ok (.goto 4, 3) := dc_167 (a0 := 0) (b0 := 4) aX12_isTree_138 (by decide)
theorem dX12_isTree_141 : decode cX12_isTree 141 = .ok (.iconst 0, 1) := dc_3 aX12_isTree_141
theorem dX12_isTree_142 : decode cX12_isTree 142 = .ok (.ireturn, 1) := dc_172 aX12_isTree_142
set_option maxRecDepth 20000 in
theorem ggX12_tree_X12_bookTells : GoodIn wsX12_tree wsX12_bookTells := goodIn_k _ [[11, 0, 0, 0], [10, 4, 0, 0, 0, 0, 0, 27, 0, 0, 0, 0, 0, 0, 0, 0, 0, 0, 0, 0, 0, 0, 0, 0, 0, 0, 0, 0, 0, 0, 0, 0, 0, 0, 0, 0, 0, 0, 0, 0, 0, 0, 0, 0, 0, 0, 0, 0, 0, 0, 0, 0, 0, 0, 0, 0, 0, 0, 0, 0, 0, 0, 0, 0, 0]] (by rfl) (by decide +kernel)
set_option maxRecDepth 20000 in
theorem gX12_tree_X12_bookTells : GoodIn wsX12_tree (wsV RX12 344 RX12 yX12_bookTells wsX12_bookTells) := goodIn_app (goodIn_of _ (by decide +kernel)) ggX12_tree_X12_bookTells
set_option maxRecDepth 20000 in
theorem ggX12_tree_X12_priceAll : GoodIn wsX12_tree wsX12_priceAll := goodIn_k _ [[24], [16, 0, 0], [10, 8, 0, 4, 0, 0, 0, 0, 0, 0, 0, 0, 0, 0, 0, 0, 0, 0, 0, 0, 0, 0, 4, 0, 0, 0, 0, 0, 0, 0, 0, 0, 0, 0, 0, 0, 0, 0, 0, 0, 0, 0, 0, 0, 0, 0, 0, 0, 0, 0, 0, 0, 0, 0, 0, 0, 0, 0, 0, 0, 0, 0, 0, 0, 0, 0, 0, 0, 0, 0, 0, 0, 0, 0, 0, 0, 0, 0, 0, 0]] (by rfl) (by decide +kernel)
set_option maxRecDepth 20000 in
theorem gX12_tree_X12_priceAll : GoodIn wsX12_tree (wsV RX12 341 RX12 yX12_priceAll wsX12_priceAll) := goodIn_app (goodIn_of _ (by decide +kernel)) ggX12_tree_X12_priceAll
set_option maxRecDepth 20000 in
theorem ggX12_tree_X12_isTree : GoodIn wsX12_tree wsX12_isTree := goodIn_k _ [[47], [2, 1, 43, 0, 0, 0, 0, 0, 0, 0, 0, 0, 0, 0, 0, 0, 0, 0, 0, 0, 0, 0, 0, 0, 0, 0, 0, 0, 0, 0, 0, 0, 0, 0, 0, 0, 0, 0, 0, 0, 0, 0, 0, 0, 0, 0, 0, 0, 0, 0, 0, 0, 0, 0, 0, 0, 0, 0, 0, 0]] (by rfl) (by decide +kernel)
set_option maxRecDepth 20000 in
theorem gX12_tree_X12_isTree : GoodIn wsX12_tree (wsV RX12 347 RX12 yX12_isTree wsX12_isTree) := goodIn_app (goodIn_of _ (by decide +kernel)) ggX12_tree_X12_isTree
noncomputable def sX12_tree_328 : List Nat := 172 :: []
noncomputable def sX12_tree_327 : List Nat := 28 :: sX12_tree_328
noncomputable def sX12_tree_324 : List Nat := 181 :: 1 :: 94 :: sX12_tree_327
noncomputable def sX12_tree_323 : List Nat := 4 :: sX12_tree_324
noncomputable def sX12_tree_322 : List Nat := 42 :: sX12_tree_323
noncomputable def sX12_tree_319 : List Nat := 167 :: 255 :: 52 :: sX12_tree_322
noncomputable def sX12_tree_316 : List Nat := 132 :: 4 :: 1 :: sX12_tree_319
noncomputable def sX12_tree_313 : List Nat := 167 :: 255 :: 217 :: sX12_tree_316
noncomputable def sX12_tree_310 : List Nat := 132 :: 8 :: 1 :: sX12_tree_313
noncomputable def sX12_tree_309 : List Nat := 79 :: sX12_tree_310
noncomputable def sX12_tree_307 : List Nat := 16 :: 254 :: sX12_tree_309
noncomputable def sX12_tree_304 : List Nat := 167 :: 0 :: 5 :: sX12_tree_307
noncomputable def sX12_tree_303 : List Nat := 46 :: sX12_tree_304
noncomputable def sX12_tree_301 : List Nat := 21 :: 8 :: sX12_tree_303
noncomputable def sX12_tree_298 : List Nat := 180 :: 0 :: 89 :: sX12_tree_301
noncomputable def sX12_tree_297 : List Nat := 42 :: sX12_tree_298
noncomputable def sX12_tree_294 : List Nat := 153 :: 0 :: 13 :: sX12_tree_297
noncomputable def sX12_tree_293 : List Nat := 51 :: sX12_tree_294
noncomputable def sX12_tree_291 : List Nat := 21 :: 8 :: sX12_tree_293
noncomputable def sX12_tree_288 : List Nat := 180 :: 0 :: 95 :: sX12_tree_291
noncomputable def sX12_tree_287 : List Nat := 42 :: sX12_tree_288
noncomputable def sX12_tree_285 : List Nat := 21 :: 8 :: sX12_tree_287
noncomputable def sX12_tree_282 : List Nat := 180 :: 0 :: 86 :: sX12_tree_285
noncomputable def sX12_tree_281 : List Nat := 42 :: sX12_tree_282
noncomputable def sX12_tree_278 : List Nat := 162 :: 0 :: 38 :: sX12_tree_281
noncomputable def sX12_tree_276 : List Nat := 16 :: 6 :: sX12_tree_278
noncomputable def sX12_tree_274 : List Nat := 21 :: 8 :: sX12_tree_276
noncomputable def sX12_tree_272 : List Nat := 54 :: 8 :: sX12_tree_274
noncomputable def sX12_tree_271 : List Nat := 3 :: sX12_tree_272
noncomputable def sX12_tree_270 : List Nat := 61 :: sX12_tree_271
noncomputable def sX12_tree_268 : List Nat := 21 :: 7 :: sX12_tree_270
noncomputable def sX12_tree_265 : List Nat := 167 :: 0 :: 51 :: sX12_tree_268
noncomputable def sX12_tree_262 : List Nat := 154 :: 0 :: 6 :: sX12_tree_265
noncomputable def sX12_tree_259 : List Nat := 182 :: 1 :: 91 :: sX12_tree_262
noncomputable def sX12_tree_258 : List Nat := 42 :: sX12_tree_259
noncomputable def sX12_tree_255 : List Nat := 162 :: 0 :: 61 :: sX12_tree_258
noncomputable def sX12_tree_254 : List Nat := 28 :: sX12_tree_255
noncomputable def sX12_tree_252 : List Nat := 21 :: 7 :: sX12_tree_254
noncomputable def sX12_tree_249 : List Nat := 159 :: 0 :: 9 :: sX12_tree_252
noncomputable def sX12_tree_248 : List Nat := 2 :: sX12_tree_249
noncomputable def sX12_tree_247 : List Nat := 28 :: sX12_tree_248
noncomputable def sX12_tree_244 : List Nat := 153 :: 0 :: 72 :: sX12_tree_247
noncomputable def sX12_tree_242 : List Nat := 21 :: 6 :: sX12_tree_244
noncomputable def sX12_tree_239 : List Nat := 167 :: 255 :: 151 :: sX12_tree_242
noncomputable def sX12_tree_236 : List Nat := 132 :: 8 :: 255 :: sX12_tree_239
noncomputable def sX12_tree_234 : List Nat := 54 :: 7 :: sX12_tree_236
noncomputable def sX12_tree_233 : List Nat := 96 :: sX12_tree_234
noncomputable def sX12_tree_232 : List Nat := 46 :: sX12_tree_233
noncomputable def sX12_tree_231 : List Nat := 96 :: sX12_tree_232
noncomputable def sX12_tree_229 : List Nat := 21 :: 8 :: sX12_tree_231
noncomputable def sX12_tree_228 : List Nat := 104 :: sX12_tree_229
noncomputable def sX12_tree_227 : List Nat := 46 :: sX12_tree_228
noncomputable def sX12_tree_225 : List Nat := 21 :: 8 :: sX12_tree_227
noncomputable def sX12_tree_222 : List Nat := 180 :: 0 :: 89 :: sX12_tree_225
noncomputable def sX12_tree_221 : List Nat := 42 :: sX12_tree_222
noncomputable def sX12_tree_219 : List Nat := 16 :: 6 :: sX12_tree_221
noncomputable def sX12_tree_216 : List Nat := 180 :: 0 :: 92 :: sX12_tree_219
noncomputable def sX12_tree_215 : List Nat := 42 :: sX12_tree_216
noncomputable def sX12_tree_212 : List Nat := 167 :: 0 :: 21 :: sX12_tree_215
noncomputable def sX12_tree_211 : List Nat := 3 :: sX12_tree_212
noncomputable def sX12_tree_208 : List Nat := 154 :: 0 :: 7 :: sX12_tree_211
noncomputable def sX12_tree_206 : List Nat := 21 :: 6 :: sX12_tree_208
noncomputable def sX12_tree_203 : List Nat := 159 :: 0 :: 8 :: sX12_tree_206
noncomputable def sX12_tree_202 : List Nat := 2 :: sX12_tree_203
noncomputable def sX12_tree_201 : List Nat := 46 :: sX12_tree_202
noncomputable def sX12_tree_199 : List Nat := 21 :: 8 :: sX12_tree_201
noncomputable def sX12_tree_196 : List Nat := 180 :: 0 :: 89 :: sX12_tree_199
noncomputable def sX12_tree_195 : List Nat := 42 :: sX12_tree_196
noncomputable def sX12_tree_193 : List Nat := 21 :: 7 :: sX12_tree_195
noncomputable def sX12_tree_191 : List Nat := 54 :: 6 :: sX12_tree_193
noncomputable def sX12_tree_190 : List Nat := 3 :: sX12_tree_191
noncomputable def sX12_tree_187 : List Nat := 167 :: 0 :: 4 :: sX12_tree_190
noncomputable def sX12_tree_186 : List Nat := 4 :: sX12_tree_187
noncomputable def sX12_tree_183 : List Nat := 160 :: 0 :: 7 :: sX12_tree_186
noncomputable def sX12_tree_182 : List Nat := 2 :: sX12_tree_183
noncomputable def sX12_tree_181 : List Nat := 46 :: sX12_tree_182
noncomputable def sX12_tree_179 : List Nat := 21 :: 8 :: sX12_tree_181
noncomputable def sX12_tree_176 : List Nat := 180 :: 0 :: 89 :: sX12_tree_179
noncomputable def sX12_tree_175 : List Nat := 42 :: sX12_tree_176
noncomputable def sX12_tree_172 : List Nat := 154 :: 0 :: 14 :: sX12_tree_175
noncomputable def sX12_tree_171 : List Nat := 51 :: sX12_tree_172
noncomputable def sX12_tree_169 : List Nat := 21 :: 8 :: sX12_tree_171
noncomputable def sX12_tree_166 : List Nat := 180 :: 0 :: 95 :: sX12_tree_169
noncomputable def sX12_tree_165 : List Nat := 42 :: sX12_tree_166
noncomputable def sX12_tree_162 : List Nat := 153 :: 0 :: 28 :: sX12_tree_165
noncomputable def sX12_tree_160 : List Nat := 21 :: 6 :: sX12_tree_162
noncomputable def sX12_tree_158 : List Nat := 54 :: 5 :: sX12_tree_160
noncomputable def sX12_tree_157 : List Nat := 108 :: sX12_tree_158
noncomputable def sX12_tree_155 : List Nat := 16 :: 7 :: sX12_tree_157
noncomputable def sX12_tree_153 : List Nat := 21 :: 5 :: sX12_tree_155
noncomputable def sX12_tree_152 : List Nat := 79 :: sX12_tree_153
noncomputable def sX12_tree_151 : List Nat := 100 :: sX12_tree_152
noncomputable def sX12_tree_150 : List Nat := 4 :: sX12_tree_151
noncomputable def sX12_tree_149 : List Nat := 112 :: sX12_tree_150
noncomputable def sX12_tree_147 : List Nat := 16 :: 7 :: sX12_tree_149
noncomputable def sX12_tree_145 : List Nat := 21 :: 5 :: sX12_tree_147
noncomputable def sX12_tree_143 : List Nat := 21 :: 8 :: sX12_tree_145
noncomputable def sX12_tree_140 : List Nat := 180 :: 0 :: 89 :: sX12_tree_143
noncomputable def sX12_tree_139 : List Nat := 42 :: sX12_tree_140
noncomputable def sX12_tree_136 : List Nat := 155 :: 0 :: 106 :: sX12_tree_139
noncomputable def sX12_tree_134 : List Nat := 21 :: 8 :: sX12_tree_136
noncomputable def sX12_tree_132 : List Nat := 54 :: 8 :: sX12_tree_134
noncomputable def sX12_tree_131 : List Nat := 8 :: sX12_tree_132
noncomputable def sX12_tree_129 : List Nat := 54 :: 7 :: sX12_tree_131
noncomputable def sX12_tree_128 : List Nat := 3 :: sX12_tree_129
noncomputable def sX12_tree_126 : List Nat := 54 :: 6 :: sX12_tree_128
noncomputable def sX12_tree_125 : List Nat := 4 :: sX12_tree_126
noncomputable def sX12_tree_123 : List Nat := 54 :: 5 :: sX12_tree_125
noncomputable def sX12_tree_121 : List Nat := 21 :: 4 :: sX12_tree_123
noncomputable def sX12_tree_118 : List Nat := 162 :: 0 :: 204 :: sX12_tree_121
noncomputable def sX12_tree_117 : List Nat := 29 :: sX12_tree_118
noncomputable def sX12_tree_115 : List Nat := 21 :: 4 :: sX12_tree_117
noncomputable def sX12_tree_113 : List Nat := 54 :: 4 :: sX12_tree_115
noncomputable def sX12_tree_112 : List Nat := 3 :: sX12_tree_113
noncomputable def sX12_tree_109 : List Nat := 167 :: 255 :: 241 :: sX12_tree_112
noncomputable def sX12_tree_106 : List Nat := 132 :: 4 :: 1 :: sX12_tree_109
noncomputable def sX12_tree_105 : List Nat := 62 :: sX12_tree_106
noncomputable def sX12_tree_104 : List Nat := 104 :: sX12_tree_105
noncomputable def sX12_tree_102 : List Nat := 16 :: 7 :: sX12_tree_104
noncomputable def sX12_tree_101 : List Nat := 29 :: sX12_tree_102
noncomputable def sX12_tree_98 : List Nat := 162 :: 0 :: 14 :: sX12_tree_101
noncomputable def sX12_tree_96 : List Nat := 16 :: 6 :: sX12_tree_98
noncomputable def sX12_tree_94 : List Nat := 21 :: 4 :: sX12_tree_96
noncomputable def sX12_tree_92 : List Nat := 54 :: 4 :: sX12_tree_94
noncomputable def sX12_tree_91 : List Nat := 3 :: sX12_tree_92
noncomputable def sX12_tree_90 : List Nat := 62 :: sX12_tree_91
noncomputable def sX12_tree_89 : List Nat := 4 :: sX12_tree_90
noncomputable def sX12_tree_88 : List Nat := 61 :: sX12_tree_89
noncomputable def sX12_tree_87 : List Nat := 2 :: sX12_tree_88
noncomputable def sX12_tree_84 : List Nat := 167 :: 255 :: 229 :: sX12_tree_87
noncomputable def sX12_tree_81 : List Nat := 132 :: 2 :: 1 :: sX12_tree_84
noncomputable def sX12_tree_80 : List Nat := 79 :: sX12_tree_81
noncomputable def sX12_tree_77 : List Nat := 182 :: 1 :: 85 :: sX12_tree_80
noncomputable def sX12_tree_76 : List Nat := 112 :: sX12_tree_77
noncomputable def sX12_tree_74 : List Nat := 16 :: 6 :: sX12_tree_76
noncomputable def sX12_tree_73 : List Nat := 28 :: sX12_tree_74
noncomputable def sX12_tree_72 : List Nat := 108 :: sX12_tree_73
noncomputable def sX12_tree_70 : List Nat := 16 :: 6 :: sX12_tree_72
noncomputable def sX12_tree_69 : List Nat := 28 :: sX12_tree_70
noncomputable def sX12_tree_68 : List Nat := 42 :: sX12_tree_69
noncomputable def sX12_tree_67 : List Nat := 28 :: sX12_tree_68
noncomputable def sX12_tree_64 : List Nat := 180 :: 0 :: 92 :: sX12_tree_67
noncomputable def sX12_tree_63 : List Nat := 42 :: sX12_tree_64
noncomputable def sX12_tree_60 : List Nat := 162 :: 0 :: 27 :: sX12_tree_63
noncomputable def sX12_tree_58 : List Nat := 16 :: 36 :: sX12_tree_60
noncomputable def sX12_tree_57 : List Nat := 28 :: sX12_tree_58
noncomputable def sX12_tree_56 : List Nat := 61 :: sX12_tree_57
noncomputable def sX12_tree_55 : List Nat := 3 :: sX12_tree_56
noncomputable def sX12_tree_54 : List Nat := 172 :: sX12_tree_55
noncomputable def sX12_tree_53 : List Nat := 2 :: sX12_tree_54
noncomputable def sX12_tree_50 : List Nat := 154 :: 0 :: 5 :: sX12_tree_53
noncomputable def sX12_tree_49 : List Nat := 27 :: sX12_tree_50
noncomputable def sX12_tree_46 : List Nat := 167 :: 255 :: 219 :: sX12_tree_49
noncomputable def sX12_tree_43 : List Nat := 132 :: 2 :: 1 :: sX12_tree_46
noncomputable def sX12_tree_42 : List Nat := 60 :: sX12_tree_43
noncomputable def sX12_tree_41 : List Nat := 96 :: sX12_tree_42
noncomputable def sX12_tree_40 : List Nat := 3 :: sX12_tree_41
noncomputable def sX12_tree_37 : List Nat := 167 :: 0 :: 4 :: sX12_tree_40
noncomputable def sX12_tree_36 : List Nat := 4 :: sX12_tree_37
noncomputable def sX12_tree_33 : List Nat := 153 :: 0 :: 7 :: sX12_tree_36
noncomputable def sX12_tree_32 : List Nat := 51 :: sX12_tree_33
noncomputable def sX12_tree_31 : List Nat := 28 :: sX12_tree_32
noncomputable def sX12_tree_28 : List Nat := 180 :: 0 :: 95 :: sX12_tree_31
noncomputable def sX12_tree_27 : List Nat := 42 :: sX12_tree_28
noncomputable def sX12_tree_26 : List Nat := 27 :: sX12_tree_27
noncomputable def sX12_tree_25 : List Nat := 84 :: sX12_tree_26
noncomputable def sX12_tree_22 : List Nat := 182 :: 1 :: 88 :: sX12_tree_25
noncomputable def sX12_tree_21 : List Nat := 28 :: sX12_tree_22
noncomputable def sX12_tree_20 : List Nat := 42 :: sX12_tree_21
noncomputable def sX12_tree_19 : List Nat := 28 :: sX12_tree_20
noncomputable def sX12_tree_16 : List Nat := 180 :: 0 :: 95 :: sX12_tree_19
noncomputable def sX12_tree_15 : List Nat := 42 :: sX12_tree_16
noncomputable def sX12_tree_12 : List Nat := 162 :: 0 :: 37 :: sX12_tree_15
noncomputable def sX12_tree_10 : List Nat := 16 :: 6 :: sX12_tree_12
noncomputable def sX12_tree_9 : List Nat := 28 :: sX12_tree_10
noncomputable def sX12_tree_8 : List Nat := 61 :: sX12_tree_9
noncomputable def sX12_tree_7 : List Nat := 3 :: sX12_tree_8
noncomputable def sX12_tree_6 : List Nat := 60 :: sX12_tree_7
noncomputable def sX12_tree_5 : List Nat := 3 :: sX12_tree_6
noncomputable def sX12_tree_2 : List Nat := 181 :: 0 :: 129 :: sX12_tree_5
noncomputable def sX12_tree_1 : List Nat := 3 :: sX12_tree_2
noncomputable def sX12_tree_0 : List Nat := 42 :: sX12_tree_1
theorem aX12_tree_0 : dc_at cX12_tree 0 sX12_tree_0 := dc_base (by decide +kernel)
theorem aX12_tree_1 : dc_at cX12_tree 1 sX12_tree_1 := dc_n1 aX12_tree_0
theorem aX12_tree_2 : dc_at cX12_tree 2 sX12_tree_2 := dc_n1 aX12_tree_1
theorem aX12_tree_5 : dc_at cX12_tree 5 sX12_tree_5 := dc_n3 aX12_tree_2
theorem aX12_tree_6 : dc_at cX12_tree 6 sX12_tree_6 := dc_n1 aX12_tree_5
theorem aX12_tree_7 : dc_at cX12_tree 7 sX12_tree_7 := dc_n1 aX12_tree_6
theorem aX12_tree_8 : dc_at cX12_tree 8 sX12_tree_8 := dc_n1 aX12_tree_7
theorem aX12_tree_9 : dc_at cX12_tree 9 sX12_tree_9 := dc_n1 aX12_tree_8
theorem aX12_tree_10 : dc_at cX12_tree 10 sX12_tree_10 := dc_n1 aX12_tree_9
theorem aX12_tree_12 : dc_at cX12_tree 12 sX12_tree_12 := dc_n2 aX12_tree_10
theorem aX12_tree_15 : dc_at cX12_tree 15 sX12_tree_15 := dc_n3 aX12_tree_12
theorem aX12_tree_16 : dc_at cX12_tree 16 sX12_tree_16 := dc_n1 aX12_tree_15
theorem aX12_tree_19 : dc_at cX12_tree 19 sX12_tree_19 := dc_n3 aX12_tree_16
theorem aX12_tree_20 : dc_at cX12_tree 20 sX12_tree_20 := dc_n1 aX12_tree_19
theorem aX12_tree_21 : dc_at cX12_tree 21 sX12_tree_21 := dc_n1 aX12_tree_20
theorem aX12_tree_22 : dc_at cX12_tree 22 sX12_tree_22 := dc_n1 aX12_tree_21
theorem aX12_tree_25 : dc_at cX12_tree 25 sX12_tree_25 := dc_n3 aX12_tree_22
theorem aX12_tree_26 : dc_at cX12_tree 26 sX12_tree_26 := dc_n1 aX12_tree_25
theorem aX12_tree_27 : dc_at cX12_tree 27 sX12_tree_27 := dc_n1 aX12_tree_26
theorem aX12_tree_28 : dc_at cX12_tree 28 sX12_tree_28 := dc_n1 aX12_tree_27
theorem aX12_tree_31 : dc_at cX12_tree 31 sX12_tree_31 := dc_n3 aX12_tree_28
theorem aX12_tree_32 : dc_at cX12_tree 32 sX12_tree_32 := dc_n1 aX12_tree_31
theorem aX12_tree_33 : dc_at cX12_tree 33 sX12_tree_33 := dc_n1 aX12_tree_32
theorem aX12_tree_36 : dc_at cX12_tree 36 sX12_tree_36 := dc_n3 aX12_tree_33
theorem aX12_tree_37 : dc_at cX12_tree 37 sX12_tree_37 := dc_n1 aX12_tree_36
theorem aX12_tree_40 : dc_at cX12_tree 40 sX12_tree_40 := dc_n3 aX12_tree_37
theorem aX12_tree_41 : dc_at cX12_tree 41 sX12_tree_41 := dc_n1 aX12_tree_40
theorem aX12_tree_42 : dc_at cX12_tree 42 sX12_tree_42 := dc_n1 aX12_tree_41
theorem aX12_tree_43 : dc_at cX12_tree 43 sX12_tree_43 := dc_n1 aX12_tree_42
theorem aX12_tree_46 : dc_at cX12_tree 46 sX12_tree_46 := dc_n3 aX12_tree_43
theorem aX12_tree_49 : dc_at cX12_tree 49 sX12_tree_49 := dc_n3 aX12_tree_46
theorem aX12_tree_50 : dc_at cX12_tree 50 sX12_tree_50 := dc_n1 aX12_tree_49
theorem aX12_tree_53 : dc_at cX12_tree 53 sX12_tree_53 := dc_n3 aX12_tree_50
theorem aX12_tree_54 : dc_at cX12_tree 54 sX12_tree_54 := dc_n1 aX12_tree_53
theorem aX12_tree_55 : dc_at cX12_tree 55 sX12_tree_55 := dc_n1 aX12_tree_54
theorem aX12_tree_56 : dc_at cX12_tree 56 sX12_tree_56 := dc_n1 aX12_tree_55
theorem aX12_tree_57 : dc_at cX12_tree 57 sX12_tree_57 := dc_n1 aX12_tree_56
theorem aX12_tree_58 : dc_at cX12_tree 58 sX12_tree_58 := dc_n1 aX12_tree_57
theorem aX12_tree_60 : dc_at cX12_tree 60 sX12_tree_60 := dc_n2 aX12_tree_58
theorem aX12_tree_63 : dc_at cX12_tree 63 sX12_tree_63 := dc_n3 aX12_tree_60
theorem aX12_tree_64 : dc_at cX12_tree 64 sX12_tree_64 := dc_n1 aX12_tree_63
theorem aX12_tree_67 : dc_at cX12_tree 67 sX12_tree_67 := dc_n3 aX12_tree_64
theorem aX12_tree_68 : dc_at cX12_tree 68 sX12_tree_68 := dc_n1 aX12_tree_67
theorem aX12_tree_69 : dc_at cX12_tree 69 sX12_tree_69 := dc_n1 aX12_tree_68
theorem aX12_tree_70 : dc_at cX12_tree 70 sX12_tree_70 := dc_n1 aX12_tree_69
theorem aX12_tree_72 : dc_at cX12_tree 72 sX12_tree_72 := dc_n2 aX12_tree_70
theorem aX12_tree_73 : dc_at cX12_tree 73 sX12_tree_73 := dc_n1 aX12_tree_72
theorem aX12_tree_74 : dc_at cX12_tree 74 sX12_tree_74 := dc_n1 aX12_tree_73
theorem aX12_tree_76 : dc_at cX12_tree 76 sX12_tree_76 := dc_n2 aX12_tree_74
theorem aX12_tree_77 : dc_at cX12_tree 77 sX12_tree_77 := dc_n1 aX12_tree_76
theorem aX12_tree_80 : dc_at cX12_tree 80 sX12_tree_80 := dc_n3 aX12_tree_77
theorem aX12_tree_81 : dc_at cX12_tree 81 sX12_tree_81 := dc_n1 aX12_tree_80
theorem aX12_tree_84 : dc_at cX12_tree 84 sX12_tree_84 := dc_n3 aX12_tree_81
theorem aX12_tree_87 : dc_at cX12_tree 87 sX12_tree_87 := dc_n3 aX12_tree_84
theorem aX12_tree_88 : dc_at cX12_tree 88 sX12_tree_88 := dc_n1 aX12_tree_87
theorem aX12_tree_89 : dc_at cX12_tree 89 sX12_tree_89 := dc_n1 aX12_tree_88
theorem aX12_tree_90 : dc_at cX12_tree 90 sX12_tree_90 := dc_n1 aX12_tree_89
theorem aX12_tree_91 : dc_at cX12_tree 91 sX12_tree_91 := dc_n1 aX12_tree_90
theorem aX12_tree_92 : dc_at cX12_tree 92 sX12_tree_92 := dc_n1 aX12_tree_91
theorem aX12_tree_94 : dc_at cX12_tree 94 sX12_tree_94 := dc_n2 aX12_tree_92
theorem aX12_tree_96 : dc_at cX12_tree 96 sX12_tree_96 := dc_n2 aX12_tree_94
theorem aX12_tree_98 : dc_at cX12_tree 98 sX12_tree_98 := dc_n2 aX12_tree_96
theorem aX12_tree_101 : dc_at cX12_tree 101 sX12_tree_101 := dc_n3 aX12_tree_98
theorem aX12_tree_102 : dc_at cX12_tree 102 sX12_tree_102 := dc_n1 aX12_tree_101
theorem aX12_tree_104 : dc_at cX12_tree 104 sX12_tree_104 := dc_n2 aX12_tree_102
theorem aX12_tree_105 : dc_at cX12_tree 105 sX12_tree_105 := dc_n1 aX12_tree_104
theorem aX12_tree_106 : dc_at cX12_tree 106 sX12_tree_106 := dc_n1 aX12_tree_105
theorem aX12_tree_109 : dc_at cX12_tree 109 sX12_tree_109 := dc_n3 aX12_tree_106
theorem aX12_tree_112 : dc_at cX12_tree 112 sX12_tree_112 := dc_n3 aX12_tree_109
theorem aX12_tree_113 : dc_at cX12_tree 113 sX12_tree_113 := dc_n1 aX12_tree_112
theorem aX12_tree_115 : dc_at cX12_tree 115 sX12_tree_115 := dc_n2 aX12_tree_113
theorem aX12_tree_117 : dc_at cX12_tree 117 sX12_tree_117 := dc_n2 aX12_tree_115
theorem aX12_tree_118 : dc_at cX12_tree 118 sX12_tree_118 := dc_n1 aX12_tree_117
theorem aX12_tree_121 : dc_at cX12_tree 121 sX12_tree_121 := dc_n3 aX12_tree_118
theorem aX12_tree_123 : dc_at cX12_tree 123 sX12_tree_123 := dc_n2 aX12_tree_121
theorem aX12_tree_125 : dc_at cX12_tree 125 sX12_tree_125 := dc_n2 aX12_tree_123
theorem aX12_tree_126 : dc_at cX12_tree 126 sX12_tree_126 := dc_n1 aX12_tree_125
theorem aX12_tree_128 : dc_at cX12_tree 128 sX12_tree_128 := dc_n2 aX12_tree_126
theorem aX12_tree_129 : dc_at cX12_tree 129 sX12_tree_129 := dc_n1 aX12_tree_128
theorem aX12_tree_131 : dc_at cX12_tree 131 sX12_tree_131 := dc_n2 aX12_tree_129
theorem aX12_tree_132 : dc_at cX12_tree 132 sX12_tree_132 := dc_n1 aX12_tree_131
theorem aX12_tree_134 : dc_at cX12_tree 134 sX12_tree_134 := dc_n2 aX12_tree_132
theorem aX12_tree_136 : dc_at cX12_tree 136 sX12_tree_136 := dc_n2 aX12_tree_134
theorem aX12_tree_139 : dc_at cX12_tree 139 sX12_tree_139 := dc_n3 aX12_tree_136
theorem aX12_tree_140 : dc_at cX12_tree 140 sX12_tree_140 := dc_n1 aX12_tree_139
theorem aX12_tree_143 : dc_at cX12_tree 143 sX12_tree_143 := dc_n3 aX12_tree_140
theorem aX12_tree_145 : dc_at cX12_tree 145 sX12_tree_145 := dc_n2 aX12_tree_143
theorem aX12_tree_147 : dc_at cX12_tree 147 sX12_tree_147 := dc_n2 aX12_tree_145
theorem aX12_tree_149 : dc_at cX12_tree 149 sX12_tree_149 := dc_n2 aX12_tree_147
theorem aX12_tree_150 : dc_at cX12_tree 150 sX12_tree_150 := dc_n1 aX12_tree_149
theorem aX12_tree_151 : dc_at cX12_tree 151 sX12_tree_151 := dc_n1 aX12_tree_150
theorem aX12_tree_152 : dc_at cX12_tree 152 sX12_tree_152 := dc_n1 aX12_tree_151
theorem aX12_tree_153 : dc_at cX12_tree 153 sX12_tree_153 := dc_n1 aX12_tree_152
theorem aX12_tree_155 : dc_at cX12_tree 155 sX12_tree_155 := dc_n2 aX12_tree_153
theorem aX12_tree_157 : dc_at cX12_tree 157 sX12_tree_157 := dc_n2 aX12_tree_155
theorem aX12_tree_158 : dc_at cX12_tree 158 sX12_tree_158 := dc_n1 aX12_tree_157
theorem aX12_tree_160 : dc_at cX12_tree 160 sX12_tree_160 := dc_n2 aX12_tree_158
theorem aX12_tree_162 : dc_at cX12_tree 162 sX12_tree_162 := dc_n2 aX12_tree_160
theorem aX12_tree_165 : dc_at cX12_tree 165 sX12_tree_165 := dc_n3 aX12_tree_162
theorem aX12_tree_166 : dc_at cX12_tree 166 sX12_tree_166 := dc_n1 aX12_tree_165
theorem aX12_tree_169 : dc_at cX12_tree 169 sX12_tree_169 := dc_n3 aX12_tree_166
theorem aX12_tree_171 : dc_at cX12_tree 171 sX12_tree_171 := dc_n2 aX12_tree_169
theorem aX12_tree_172 : dc_at cX12_tree 172 sX12_tree_172 := dc_n1 aX12_tree_171
theorem aX12_tree_175 : dc_at cX12_tree 175 sX12_tree_175 := dc_n3 aX12_tree_172
theorem aX12_tree_176 : dc_at cX12_tree 176 sX12_tree_176 := dc_n1 aX12_tree_175
theorem aX12_tree_179 : dc_at cX12_tree 179 sX12_tree_179 := dc_n3 aX12_tree_176
theorem aX12_tree_181 : dc_at cX12_tree 181 sX12_tree_181 := dc_n2 aX12_tree_179
theorem aX12_tree_182 : dc_at cX12_tree 182 sX12_tree_182 := dc_n1 aX12_tree_181
theorem aX12_tree_183 : dc_at cX12_tree 183 sX12_tree_183 := dc_n1 aX12_tree_182
theorem aX12_tree_186 : dc_at cX12_tree 186 sX12_tree_186 := dc_n3 aX12_tree_183
theorem aX12_tree_187 : dc_at cX12_tree 187 sX12_tree_187 := dc_n1 aX12_tree_186
theorem aX12_tree_190 : dc_at cX12_tree 190 sX12_tree_190 := dc_n3 aX12_tree_187
theorem aX12_tree_191 : dc_at cX12_tree 191 sX12_tree_191 := dc_n1 aX12_tree_190
theorem aX12_tree_193 : dc_at cX12_tree 193 sX12_tree_193 := dc_n2 aX12_tree_191
theorem aX12_tree_195 : dc_at cX12_tree 195 sX12_tree_195 := dc_n2 aX12_tree_193
theorem aX12_tree_196 : dc_at cX12_tree 196 sX12_tree_196 := dc_n1 aX12_tree_195
theorem aX12_tree_199 : dc_at cX12_tree 199 sX12_tree_199 := dc_n3 aX12_tree_196
theorem aX12_tree_201 : dc_at cX12_tree 201 sX12_tree_201 := dc_n2 aX12_tree_199
theorem aX12_tree_202 : dc_at cX12_tree 202 sX12_tree_202 := dc_n1 aX12_tree_201
theorem aX12_tree_203 : dc_at cX12_tree 203 sX12_tree_203 := dc_n1 aX12_tree_202
theorem aX12_tree_206 : dc_at cX12_tree 206 sX12_tree_206 := dc_n3 aX12_tree_203
theorem aX12_tree_208 : dc_at cX12_tree 208 sX12_tree_208 := dc_n2 aX12_tree_206
theorem aX12_tree_211 : dc_at cX12_tree 211 sX12_tree_211 := dc_n3 aX12_tree_208
theorem aX12_tree_212 : dc_at cX12_tree 212 sX12_tree_212 := dc_n1 aX12_tree_211
theorem aX12_tree_215 : dc_at cX12_tree 215 sX12_tree_215 := dc_n3 aX12_tree_212
theorem aX12_tree_216 : dc_at cX12_tree 216 sX12_tree_216 := dc_n1 aX12_tree_215
theorem aX12_tree_219 : dc_at cX12_tree 219 sX12_tree_219 := dc_n3 aX12_tree_216
theorem aX12_tree_221 : dc_at cX12_tree 221 sX12_tree_221 := dc_n2 aX12_tree_219
theorem aX12_tree_222 : dc_at cX12_tree 222 sX12_tree_222 := dc_n1 aX12_tree_221
theorem aX12_tree_225 : dc_at cX12_tree 225 sX12_tree_225 := dc_n3 aX12_tree_222
theorem aX12_tree_227 : dc_at cX12_tree 227 sX12_tree_227 := dc_n2 aX12_tree_225
theorem aX12_tree_228 : dc_at cX12_tree 228 sX12_tree_228 := dc_n1 aX12_tree_227
theorem aX12_tree_229 : dc_at cX12_tree 229 sX12_tree_229 := dc_n1 aX12_tree_228
theorem aX12_tree_231 : dc_at cX12_tree 231 sX12_tree_231 := dc_n2 aX12_tree_229
theorem aX12_tree_232 : dc_at cX12_tree 232 sX12_tree_232 := dc_n1 aX12_tree_231
theorem aX12_tree_233 : dc_at cX12_tree 233 sX12_tree_233 := dc_n1 aX12_tree_232
theorem aX12_tree_234 : dc_at cX12_tree 234 sX12_tree_234 := dc_n1 aX12_tree_233
theorem aX12_tree_236 : dc_at cX12_tree 236 sX12_tree_236 := dc_n2 aX12_tree_234
theorem aX12_tree_239 : dc_at cX12_tree 239 sX12_tree_239 := dc_n3 aX12_tree_236
theorem aX12_tree_242 : dc_at cX12_tree 242 sX12_tree_242 := dc_n3 aX12_tree_239
theorem aX12_tree_244 : dc_at cX12_tree 244 sX12_tree_244 := dc_n2 aX12_tree_242
theorem aX12_tree_247 : dc_at cX12_tree 247 sX12_tree_247 := dc_n3 aX12_tree_244
theorem aX12_tree_248 : dc_at cX12_tree 248 sX12_tree_248 := dc_n1 aX12_tree_247
theorem aX12_tree_249 : dc_at cX12_tree 249 sX12_tree_249 := dc_n1 aX12_tree_248
theorem aX12_tree_252 : dc_at cX12_tree 252 sX12_tree_252 := dc_n3 aX12_tree_249
theorem aX12_tree_254 : dc_at cX12_tree 254 sX12_tree_254 := dc_n2 aX12_tree_252
theorem aX12_tree_255 : dc_at cX12_tree 255 sX12_tree_255 := dc_n1 aX12_tree_254
theorem aX12_tree_258 : dc_at cX12_tree 258 sX12_tree_258 := dc_n3 aX12_tree_255
theorem aX12_tree_259 : dc_at cX12_tree 259 sX12_tree_259 := dc_n1 aX12_tree_258
theorem aX12_tree_262 : dc_at cX12_tree 262 sX12_tree_262 := dc_n3 aX12_tree_259
theorem aX12_tree_265 : dc_at cX12_tree 265 sX12_tree_265 := dc_n3 aX12_tree_262
theorem aX12_tree_268 : dc_at cX12_tree 268 sX12_tree_268 := dc_n3 aX12_tree_265
theorem aX12_tree_270 : dc_at cX12_tree 270 sX12_tree_270 := dc_n2 aX12_tree_268
theorem aX12_tree_271 : dc_at cX12_tree 271 sX12_tree_271 := dc_n1 aX12_tree_270
theorem aX12_tree_272 : dc_at cX12_tree 272 sX12_tree_272 := dc_n1 aX12_tree_271
theorem aX12_tree_274 : dc_at cX12_tree 274 sX12_tree_274 := dc_n2 aX12_tree_272
theorem aX12_tree_276 : dc_at cX12_tree 276 sX12_tree_276 := dc_n2 aX12_tree_274
theorem aX12_tree_278 : dc_at cX12_tree 278 sX12_tree_278 := dc_n2 aX12_tree_276
theorem aX12_tree_281 : dc_at cX12_tree 281 sX12_tree_281 := dc_n3 aX12_tree_278
theorem aX12_tree_282 : dc_at cX12_tree 282 sX12_tree_282 := dc_n1 aX12_tree_281
theorem aX12_tree_285 : dc_at cX12_tree 285 sX12_tree_285 := dc_n3 aX12_tree_282
theorem aX12_tree_287 : dc_at cX12_tree 287 sX12_tree_287 := dc_n2 aX12_tree_285
theorem aX12_tree_288 : dc_at cX12_tree 288 sX12_tree_288 := dc_n1 aX12_tree_287
theorem aX12_tree_291 : dc_at cX12_tree 291 sX12_tree_291 := dc_n3 aX12_tree_288
theorem aX12_tree_293 : dc_at cX12_tree 293 sX12_tree_293 := dc_n2 aX12_tree_291
theorem aX12_tree_294 : dc_at cX12_tree 294 sX12_tree_294 := dc_n1 aX12_tree_293
theorem aX12_tree_297 : dc_at cX12_tree 297 sX12_tree_297 := dc_n3 aX12_tree_294
theorem aX12_tree_298 : dc_at cX12_tree 298 sX12_tree_298 := dc_n1 aX12_tree_297
theorem aX12_tree_301 : dc_at cX12_tree 301 sX12_tree_301 := dc_n3 aX12_tree_298
theorem aX12_tree_303 : dc_at cX12_tree 303 sX12_tree_303 := dc_n2 aX12_tree_301
theorem aX12_tree_304 : dc_at cX12_tree 304 sX12_tree_304 := dc_n1 aX12_tree_303
theorem aX12_tree_307 : dc_at cX12_tree 307 sX12_tree_307 := dc_n3 aX12_tree_304
theorem aX12_tree_309 : dc_at cX12_tree 309 sX12_tree_309 := dc_n2 aX12_tree_307
theorem aX12_tree_310 : dc_at cX12_tree 310 sX12_tree_310 := dc_n1 aX12_tree_309
theorem aX12_tree_313 : dc_at cX12_tree 313 sX12_tree_313 := dc_n3 aX12_tree_310
theorem aX12_tree_316 : dc_at cX12_tree 316 sX12_tree_316 := dc_n3 aX12_tree_313
theorem aX12_tree_319 : dc_at cX12_tree 319 sX12_tree_319 := dc_n3 aX12_tree_316
theorem aX12_tree_322 : dc_at cX12_tree 322 sX12_tree_322 := dc_n3 aX12_tree_319
theorem aX12_tree_323 : dc_at cX12_tree 323 sX12_tree_323 := dc_n1 aX12_tree_322
theorem aX12_tree_324 : dc_at cX12_tree 324 sX12_tree_324 := dc_n1 aX12_tree_323
theorem aX12_tree_327 : dc_at cX12_tree 327 sX12_tree_327 := dc_n3 aX12_tree_324
theorem aX12_tree_328 : dc_at cX12_tree 328 sX12_tree_328 := dc_n1 aX12_tree_327
theorem dX12_tree_0 : decode cX12_tree 0 = .ok (.aload_n 0, 1) := dc_42 aX12_tree_0
theorem dX12_tree_1 : decode cX12_tree 1 = .ok (.iconst 0, 1) := dc_3 aX12_tree_1
theorem dX12_tree_2 : decode cX12_tree 2 = .ok (.putfield 129, 3) := dc_181 (a0 := 0) (b0 := 129) aX12_tree_2
theorem dX12_tree_5 : decode cX12_tree 5 = .ok (.iconst 0, 1) := dc_3 aX12_tree_5
theorem dX12_tree_6 : decode cX12_tree 6 = .ok (.istore_n 1, 1) := dc_60 aX12_tree_6
theorem dX12_tree_7 : decode cX12_tree 7 = .ok (.iconst 0, 1) := dc_3 aX12_tree_7
theorem dX12_tree_8 : decode cX12_tree 8 = .ok (.istore_n 2, 1) := dc_61 aX12_tree_8
theorem dX12_tree_9 : decode cX12_tree 9 = .ok (.iload_n 2, 1) := dc_28 aX12_tree_9
theorem dX12_tree_10 : decode cX12_tree 10 = .ok (.bipush 6, 2) := dc_16 (a0 := 6) aX12_tree_10 (by decide)
theorem dX12_tree_12 : decode cX12_tree 12 = .ok (.if_icmp .ge 37, 3) := dc_162 (a0 := 0) (b0 := 37) aX12_tree_12 (by decide)
theorem dX12_tree_15 : decode cX12_tree 15 = .ok (.aload_n 0, 1) := dc_42 aX12_tree_15
theorem dX12_tree_16 : decode cX12_tree 16 = .ok (.getfield 95, 3) := dc_180 (a0 := 0) (b0 := 95) aX12_tree_16
theorem dX12_tree_19 : decode cX12_tree 19 = .ok (.iload_n 2, 1) := dc_28 aX12_tree_19
theorem dX12_tree_20 : decode cX12_tree 20 = .ok (.aload_n 0, 1) := dc_42 aX12_tree_20
theorem dX12_tree_21 : decode cX12_tree 21 = .ok (.iload_n 2, 1) := dc_28 aX12_tree_21
theorem dX12_tree_22 : decode cX12_tree 22 = .ok (.invokevirtual 344, 3) := dc_182 (a0 := 1) (b0 := 88) aX12_tree_22
theorem dX12_tree_25 : decode cX12_tree 25 = .ok (.bastore, 1) := dc_84 aX12_tree_25
theorem dX12_tree_26 : decode cX12_tree 26 = .ok (.iload_n 1, 1) := dc_27 aX12_tree_26
theorem dX12_tree_27 : decode cX12_tree 27 = .ok (.aload_n 0, 1) := dc_42 aX12_tree_27
theorem dX12_tree_28 : decode cX12_tree 28 = .ok (.getfield 95, 3) := dc_180 (a0 := 0) (b0 := 95) aX12_tree_28
theorem dX12_tree_31 : decode cX12_tree 31 = .ok (.iload_n 2, 1) := dc_28 aX12_tree_31
theorem dX12_tree_32 : decode cX12_tree 32 = .ok (.baload, 1) := dc_51 aX12_tree_32
theorem dX12_tree_33 : decode cX12_tree 33 = .ok (.ifCond .eq 7, 3) := dc_153 (a0 := 0) (b0 := 7) aX12_tree_33 (by decide)
theorem dX12_tree_36 : decode cX12_tree 36 = .ok (.iconst 1, 1) := dc_4 aX12_tree_36
theorem dX12_tree_37 : decode cX12_tree 37 = .ok (.goto 4, 3) := dc_167 (a0 := 0) (b0 := 4) aX12_tree_37 (by decide)
theorem dX12_tree_40 : decode cX12_tree 40 = .ok (.iconst 0, 1) := dc_3 aX12_tree_40
theorem dX12_tree_41 : decode cX12_tree 41 = .ok (.iadd, 1) := dc_96 aX12_tree_41
theorem dX12_tree_42 : decode cX12_tree 42 = .ok (.istore_n 1, 1) := dc_60 aX12_tree_42
theorem dX12_tree_43 : decode cX12_tree 43 = .ok (.iinc 2 1, 3) := dc_132 (a0 := 2) (a1 := 1) aX12_tree_43 (by decide)
theorem dX12_tree_46 : decode cX12_tree 46 = .ok (.goto (-37), 3) := dc_167 (a0 := 255) (b0 := 219) aX12_tree_46 (by decide)
theorem dX12_tree_49 : decode cX12_tree 49 = .ok (.iload_n 1, 1) := dc_27 aX12_tree_49
theorem dX12_tree_50 : decode cX12_tree 50 = .ok (.ifCond .ne 5, 3) := dc_154 (a0 := 0) (b0 := 5) aX12_tree_50 (by decide)
theorem dX12_tree_53 : decode cX12_tree 53 = .ok (.iconst (-1), 1) := dc_2 aX12_tree_53
theorem dX12_tree_54 : decode cX12_tree 54 = .ok (.ireturn, 1) := dc_172 aX12_tree_54
theorem dX12_tree_55 : decode cX12_tree 55 = .ok (.iconst 0, 1) := dc_3 aX12_tree_55
theorem dX12_tree_56 : decode cX12_tree 56 = .ok (.istore_n 2, 1) := dc_61 aX12_tree_56
theorem dX12_tree_57 : decode cX12_tree 57 = .ok (.iload_n 2, 1) := dc_28 aX12_tree_57
theorem dX12_tree_58 : decode cX12_tree 58 = .ok (.bipush 36, 2) := dc_16 (a0 := 36) aX12_tree_58 (by decide)
theorem dX12_tree_60 : decode cX12_tree 60 = .ok (.if_icmp .ge 27, 3) := dc_162 (a0 := 0) (b0 := 27) aX12_tree_60 (by decide)
theorem dX12_tree_63 : decode cX12_tree 63 = .ok (.aload_n 0, 1) := dc_42 aX12_tree_63
theorem dX12_tree_64 : decode cX12_tree 64 = .ok (.getfield 92, 3) := dc_180 (a0 := 0) (b0 := 92) aX12_tree_64
theorem dX12_tree_67 : decode cX12_tree 67 = .ok (.iload_n 2, 1) := dc_28 aX12_tree_67
theorem dX12_tree_68 : decode cX12_tree 68 = .ok (.aload_n 0, 1) := dc_42 aX12_tree_68
theorem dX12_tree_69 : decode cX12_tree 69 = .ok (.iload_n 2, 1) := dc_28 aX12_tree_69
theorem dX12_tree_70 : decode cX12_tree 70 = .ok (.bipush 6, 2) := dc_16 (a0 := 6) aX12_tree_70 (by decide)
theorem dX12_tree_72 : decode cX12_tree 72 = .ok (.idiv, 1) := dc_108 aX12_tree_72
theorem dX12_tree_73 : decode cX12_tree 73 = .ok (.iload_n 2, 1) := dc_28 aX12_tree_73
theorem dX12_tree_74 : decode cX12_tree 74 = .ok (.bipush 6, 2) := dc_16 (a0 := 6) aX12_tree_74 (by decide)
theorem dX12_tree_76 : decode cX12_tree 76 = .ok (.irem, 1) := dc_112 aX12_tree_76
theorem dX12_tree_77 : decode cX12_tree 77 = .ok (.invokevirtual 341, 3) := dc_182 (a0 := 1) (b0 := 85) aX12_tree_77
theorem dX12_tree_80 : decode cX12_tree 80 = .ok (.iastore, 1) := dc_79 aX12_tree_80
theorem dX12_tree_81 : decode cX12_tree 81 = .ok (.iinc 2 1, 3) := dc_132 (a0 := 2) (a1 := 1) aX12_tree_81 (by decide)
theorem dX12_tree_84 : decode cX12_tree 84 = .ok (.goto (-27), 3) := dc_167 (a0 := 255) (b0 := 229) aX12_tree_84 (by decide)
theorem dX12_tree_87 : decode cX12_tree 87 = .ok (.iconst (-1), 1) := dc_2 aX12_tree_87
theorem dX12_tree_88 : decode cX12_tree 88 = .ok (.istore_n 2, 1) := dc_61 aX12_tree_88
theorem dX12_tree_89 : decode cX12_tree 89 = .ok (.iconst 1, 1) := dc_4 aX12_tree_89
theorem dX12_tree_90 : decode cX12_tree 90 = .ok (.istore_n 3, 1) := dc_62 aX12_tree_90
theorem dX12_tree_91 : decode cX12_tree 91 = .ok (.iconst 0, 1) := dc_3 aX12_tree_91
theorem dX12_tree_92 : decode cX12_tree 92 = .ok (.istore 4, 2) := dc_54 (a0 := 4) aX12_tree_92
theorem dX12_tree_94 : decode cX12_tree 94 = .ok (.iload 4, 2) := dc_21 (a0 := 4) aX12_tree_94
theorem dX12_tree_96 : decode cX12_tree 96 = .ok (.bipush 6, 2) := dc_16 (a0 := 6) aX12_tree_96 (by decide)
theorem dX12_tree_98 : decode cX12_tree 98 = .ok (.if_icmp .ge 14, 3) := dc_162 (a0 := 0) (b0 := 14) aX12_tree_98 (by decide)
theorem dX12_tree_101 : decode cX12_tree 101 = .ok (.iload_n 3, 1) := dc_29 aX12_tree_101
theorem dX12_tree_102 : decode cX12_tree 102 = .ok (.bipush 7, 2) := dc_16 (a0 := 7) aX12_tree_102 (by decide)
theorem dX12_tree_104 : decode cX12_tree 104 = .ok (.imul, 1) := dc_104 aX12_tree_104
theorem dX12_tree_105 : decode cX12_tree 105 = .ok (.istore_n 3, 1) := dc_62 aX12_tree_105
theorem dX12_tree_106 : decode cX12_tree 106 = .ok (.iinc 4 1, 3) := dc_132 (a0 := 4) (a1 := 1) aX12_tree_106 (by decide)
theorem dX12_tree_109 : decode cX12_tree 109 = .ok (.goto (-15), 3) := dc_167 (a0 := 255) (b0 := 241) aX12_tree_109 (by decide)
theorem dX12_tree_112 : decode cX12_tree 112 = .ok (.iconst 0, 1) := dc_3 aX12_tree_112
theorem dX12_tree_113 : decode cX12_tree 113 = .ok (.istore 4, 2) := dc_54 (a0 := 4) aX12_tree_113
theorem dX12_tree_115 : decode cX12_tree 115 = .ok (.iload 4, 2) := dc_21 (a0 := 4) aX12_tree_115
theorem dX12_tree_117 : decode cX12_tree 117 = .ok (.iload_n 3, 1) := dc_29 aX12_tree_117
theorem dX12_tree_118 : decode cX12_tree 118 = .ok (.if_icmp .ge 204, 3) := dc_162 (a0 := 0) (b0 := 204) aX12_tree_118 (by decide)
theorem dX12_tree_121 : decode cX12_tree 121 = .ok (.iload 4, 2) := dc_21 (a0 := 4) aX12_tree_121
theorem dX12_tree_123 : decode cX12_tree 123 = .ok (.istore 5, 2) := dc_54 (a0 := 5) aX12_tree_123
theorem dX12_tree_125 : decode cX12_tree 125 = .ok (.iconst 1, 1) := dc_4 aX12_tree_125
theorem dX12_tree_126 : decode cX12_tree 126 = .ok (.istore 6, 2) := dc_54 (a0 := 6) aX12_tree_126
theorem dX12_tree_128 : decode cX12_tree 128 = .ok (.iconst 0, 1) := dc_3 aX12_tree_128
theorem dX12_tree_129 : decode cX12_tree 129 = .ok (.istore 7, 2) := dc_54 (a0 := 7) aX12_tree_129
theorem dX12_tree_131 : decode cX12_tree 131 = .ok (.iconst 5, 1) := dc_8 aX12_tree_131
theorem dX12_tree_132 : decode cX12_tree 132 = .ok (.istore 8, 2) := dc_54 (a0 := 8) aX12_tree_132
theorem dX12_tree_134 : decode cX12_tree 134 = .ok (.iload 8, 2) := dc_21 (a0 := 8) aX12_tree_134
theorem dX12_tree_136 : decode cX12_tree 136 = .ok (.ifCond .lt 106, 3) := dc_155 (a0 := 0) (b0 := 106) aX12_tree_136 (by decide)
theorem dX12_tree_139 : decode cX12_tree 139 = .ok (.aload_n 0, 1) := dc_42 aX12_tree_139
theorem dX12_tree_140 : decode cX12_tree 140 = .ok (.getfield 89, 3) := dc_180 (a0 := 0) (b0 := 89) aX12_tree_140
theorem dX12_tree_143 : decode cX12_tree 143 = .ok (.iload 8, 2) := dc_21 (a0 := 8) aX12_tree_143
theorem dX12_tree_145 : decode cX12_tree 145 = .ok (.iload 5, 2) := dc_21 (a0 := 5) aX12_tree_145
theorem dX12_tree_147 : decode cX12_tree 147 = .ok (.bipush 7, 2) := dc_16 (a0 := 7) aX12_tree_147 (by decide)
theorem dX12_tree_149 : decode cX12_tree 149 = .ok (.irem, 1) := dc_112 aX12_tree_149
theorem dX12_tree_150 : decode cX12_tree 150 = .ok (.iconst 1, 1) := dc_4 aX12_tree_150
theorem dX12_tree_151 : decode cX12_tree 151 = .ok (.isub, 1) := dc_100 aX12_tree_151
theorem dX12_tree_152 : decode cX12_tree 152 = .ok (.iastore, 1) := dc_79 aX12_tree_152
theorem dX12_tree_153 : decode cX12_tree 153 = .ok (.iload 5, 2) := dc_21 (a0 := 5) aX12_tree_153
theorem dX12_tree_155 : decode cX12_tree 155 = .ok (.bipush 7, 2) := dc_16 (a0 := 7) aX12_tree_155 (by decide)
theorem dX12_tree_157 : decode cX12_tree 157 = .ok (.idiv, 1) := dc_108 aX12_tree_157
theorem dX12_tree_158 : decode cX12_tree 158 = .ok (.istore 5, 2) := dc_54 (a0 := 5) aX12_tree_158
theorem dX12_tree_160 : decode cX12_tree 160 = .ok (.iload 6, 2) := dc_21 (a0 := 6) aX12_tree_160
theorem dX12_tree_162 : decode cX12_tree 162 = .ok (.ifCond .eq 28, 3) := dc_153 (a0 := 0) (b0 := 28) aX12_tree_162 (by decide)
theorem dX12_tree_165 : decode cX12_tree 165 = .ok (.aload_n 0, 1) := dc_42 aX12_tree_165
theorem dX12_tree_166 : decode cX12_tree 166 = .ok (.getfield 95, 3) := dc_180 (a0 := 0) (b0 := 95) aX12_tree_166
theorem dX12_tree_169 : decode cX12_tree 169 = .ok (.iload 8, 2) := dc_21 (a0 := 8) aX12_tree_169
theorem dX12_tree_171 : decode cX12_tree 171 = .ok (.baload, 1) := dc_51 aX12_tree_171
theorem dX12_tree_172 : decode cX12_tree 172 = .ok (.ifCond .ne 14, 3) := dc_154 (a0 := 0) (b0 := 14) aX12_tree_172 (by decide)
theorem dX12_tree_175 : decode cX12_tree 175 = .ok (.aload_n 0, 1) := dc_42 aX12_tree_175
theorem dX12_tree_176 : decode cX12_tree 176 = .ok (.getfield 89, 3) := dc_180 (a0 := 0) (b0 := 89) aX12_tree_176
theorem dX12_tree_179 : decode cX12_tree 179 = .ok (.iload 8, 2) := dc_21 (a0 := 8) aX12_tree_179
theorem dX12_tree_181 : decode cX12_tree 181 = .ok (.iaload, 1) := dc_46 aX12_tree_181
theorem dX12_tree_182 : decode cX12_tree 182 = .ok (.iconst (-1), 1) := dc_2 aX12_tree_182
theorem dX12_tree_183 : decode cX12_tree 183 = .ok (.if_icmp .ne 7, 3) := dc_160 (a0 := 0) (b0 := 7) aX12_tree_183 (by decide)
theorem dX12_tree_186 : decode cX12_tree 186 = .ok (.iconst 1, 1) := dc_4 aX12_tree_186
theorem dX12_tree_187 : decode cX12_tree 187 = .ok (.goto 4, 3) := dc_167 (a0 := 0) (b0 := 4) aX12_tree_187 (by decide)
theorem dX12_tree_190 : decode cX12_tree 190 = .ok (.iconst 0, 1) := dc_3 aX12_tree_190
theorem dX12_tree_191 : decode cX12_tree 191 = .ok (.istore 6, 2) := dc_54 (a0 := 6) aX12_tree_191
theorem dX12_tree_193 : decode cX12_tree 193 = .ok (.iload 7, 2) := dc_21 (a0 := 7) aX12_tree_193
theorem dX12_tree_195 : decode cX12_tree 195 = .ok (.aload_n 0, 1) := dc_42 aX12_tree_195
theorem dX12_tree_196 : decode cX12_tree 196 = .ok (.getfield 89, 3) := dc_180 (a0 := 0) (b0 := 89) aX12_tree_196
theorem dX12_tree_199 : decode cX12_tree 199 = .ok (.iload 8, 2) := dc_21 (a0 := 8) aX12_tree_199
theorem dX12_tree_201 : decode cX12_tree 201 = .ok (.iaload, 1) := dc_46 aX12_tree_201
theorem dX12_tree_202 : decode cX12_tree 202 = .ok (.iconst (-1), 1) := dc_2 aX12_tree_202
theorem dX12_tree_203 : decode cX12_tree 203 = .ok (.if_icmp .eq 8, 3) := dc_159 (a0 := 0) (b0 := 8) aX12_tree_203 (by decide)
theorem dX12_tree_206 : decode cX12_tree 206 = .ok (.iload 6, 2) := dc_21 (a0 := 6) aX12_tree_206
theorem dX12_tree_208 : decode cX12_tree 208 = .ok (.ifCond .ne 7, 3) := dc_154 (a0 := 0) (b0 := 7) aX12_tree_208 (by decide)
theorem dX12_tree_211 : decode cX12_tree 211 = .ok (.iconst 0, 1) := dc_3 aX12_tree_211
theorem dX12_tree_212 : decode cX12_tree 212 = .ok (.goto 21, 3) := dc_167 (a0 := 0) (b0 := 21) aX12_tree_212 (by decide)
theorem dX12_tree_215 : decode cX12_tree 215 = .ok (.aload_n 0, 1) := dc_42 aX12_tree_215
theorem dX12_tree_216 : decode cX12_tree 216 = .ok (.getfield 92, 3) := dc_180 (a0 := 0) (b0 := 92) aX12_tree_216
theorem dX12_tree_219 : decode cX12_tree 219 = .ok (.bipush 6, 2) := dc_16 (a0 := 6) aX12_tree_219 (by decide)
theorem dX12_tree_221 : decode cX12_tree 221 = .ok (.aload_n 0, 1) := dc_42 aX12_tree_221
theorem dX12_tree_222 : decode cX12_tree 222 = .ok (.getfield 89, 3) := dc_180 (a0 := 0) (b0 := 89) aX12_tree_222
theorem dX12_tree_225 : decode cX12_tree 225 = .ok (.iload 8, 2) := dc_21 (a0 := 8) aX12_tree_225
theorem dX12_tree_227 : decode cX12_tree 227 = .ok (.iaload, 1) := dc_46 aX12_tree_227
theorem dX12_tree_228 : decode cX12_tree 228 = .ok (.imul, 1) := dc_104 aX12_tree_228
theorem dX12_tree_229 : decode cX12_tree 229 = .ok (.iload 8, 2) := dc_21 (a0 := 8) aX12_tree_229
theorem dX12_tree_231 : decode cX12_tree 231 = .ok (.iadd, 1) := dc_96 aX12_tree_231
theorem dX12_tree_232 : decode cX12_tree 232 = .ok (.iaload, 1) := dc_46 aX12_tree_232
theorem dX12_tree_233 : decode cX12_tree 233 = .ok (.iadd, 1) := dc_96 aX12_tree_233
theorem dX12_tree_234 : decode cX12_tree 234 = .ok (.istore 7, 2) := dc_54 (a0 := 7) aX12_tree_234
theorem dX12_tree_236 : decode cX12_tree 236 = .ok (.iinc 8 (-1), 3) := dc_132 (a0 := 8) (a1 := 255) aX12_tree_236 (by decide)
theorem dX12_tree_239 : decode cX12_tree 239 = .ok (.goto (-105), 3) := dc_167 (a0 := 255) (b0 := 151) aX12_tree_239 (by decide)
theorem dX12_tree_242 : decode cX12_tree 242 = .ok (.iload 6, 2) := dc_21 (a0 := 6) aX12_tree_242
theorem dX12_tree_244 : decode cX12_tree 244 = .ok (.ifCond .eq 72, 3) := dc_153 (a0 := 0) (b0 := 72) aX12_tree_244 (by decide)
theorem dX12_tree_247 : decode cX12_tree 247 = .ok (.iload_n 2, 1) := dc_28 aX12_tree_247
theorem dX12_tree_248 : decode cX12_tree 248 = .ok (.iconst (-1), 1) := dc_2 aX12_tree_248
theorem dX12_tree_249 : decode cX12_tree 249 = .ok (.if_icmp .eq 9, 3) := dc_159 (a0 := 0) (b0 := 9) aX12_tree_249 (by decide)
theorem dX12_tree_252 : decode cX12_tree 252 = .ok (.iload 7, 2) := dc_21 (a0 := 7) aX12_tree_252
theorem dX12_tree_254 : decode cX12_tree 254 = .ok (.iload_n 2, 1) := dc_28 aX12_tree_254
theorem dX12_tree_255 : decode cX12_tree 255 = .ok (.if_icmp .ge 61, 3) := dc_162 (a0 := 0) (b0 := 61) aX12_tree_255 (by decide)
theorem dX12_tree_258 : decode cX12_tree 258 = .ok (.aload_n 0, 1) := dc_42 aX12_tree_258
theorem dX12_tree_259 : decode cX12_tree 259 = .ok (.invokevirtual 347, 3) := dc_182 (a0 := 1) (b0 := 91) aX12_tree_259
theorem dX12_tree_262 : decode cX12_tree 262 = .ok (.ifCond .ne 6, 3) := dc_154 (a0 := 0) (b0 := 6) aX12_tree_262 (by decide)
theorem dX12_tree_265 : decode cX12_tree 265 = .ok (.goto 51, 3) := dc_167 (a0 := 0) (b0 := 51) aX12_tree_265 (by decide)
theorem dX12_tree_268 : decode cX12_tree 268 = .ok (.iload 7, 2) := dc_21 (a0 := 7) aX12_tree_268
theorem dX12_tree_270 : decode cX12_tree 270 = .ok (.istore_n 2, 1) := dc_61 aX12_tree_270
theorem dX12_tree_271 : decode cX12_tree 271 = .ok (.iconst 0, 1) := dc_3 aX12_tree_271
theorem dX12_tree_272 : decode cX12_tree 272 = .ok (.istore 8, 2) := dc_54 (a0 := 8) aX12_tree_272
theorem dX12_tree_274 : decode cX12_tree 274 = .ok (.iload 8, 2) := dc_21 (a0 := 8) aX12_tree_274
theorem dX12_tree_276 : decode cX12_tree 276 = .ok (.bipush 6, 2) := dc_16 (a0 := 6) aX12_tree_276 (by decide)
theorem dX12_tree_278 : decode cX12_tree 278 = .ok (.if_icmp .ge 38, 3) := dc_162 (a0 := 0) (b0 := 38) aX12_tree_278 (by decide)
theorem dX12_tree_281 : decode cX12_tree 281 = .ok (.aload_n 0, 1) := dc_42 aX12_tree_281
theorem dX12_tree_282 : decode cX12_tree 282 = .ok (.getfield 86, 3) := dc_180 (a0 := 0) (b0 := 86) aX12_tree_282
theorem dX12_tree_285 : decode cX12_tree 285 = .ok (.iload 8, 2) := dc_21 (a0 := 8) aX12_tree_285
theorem dX12_tree_287 : decode cX12_tree 287 = .ok (.aload_n 0, 1) := dc_42 aX12_tree_287
theorem dX12_tree_288 : decode cX12_tree 288 = .ok (.getfield 95, 3) := dc_180 (a0 := 0) (b0 := 95) aX12_tree_288
theorem dX12_tree_291 : decode cX12_tree 291 = .ok (.iload 8, 2) := dc_21 (a0 := 8) aX12_tree_291
theorem dX12_tree_293 : decode cX12_tree 293 = .ok (.baload, 1) := dc_51 aX12_tree_293
theorem dX12_tree_294 : decode cX12_tree 294 = .ok (.ifCond .eq 13, 3) := dc_153 (a0 := 0) (b0 := 13) aX12_tree_294 (by decide)
theorem dX12_tree_297 : decode cX12_tree 297 = .ok (.aload_n 0, 1) := dc_42 aX12_tree_297
theorem dX12_tree_298 : decode cX12_tree 298 = .ok (.getfield 89, 3) := dc_180 (a0 := 0) (b0 := 89) aX12_tree_298
theorem dX12_tree_301 : decode cX12_tree 301 = .ok (.iload 8, 2) := dc_21 (a0 := 8) aX12_tree_301
theorem dX12_tree_303 : decode cX12_tree 303 = .ok (.iaload, 1) := dc_46 aX12_tree_303
theorem dX12_tree_304 : decode cX12_tree 304 = .ok (.goto 5, 3) := dc_167 (a0 := 0) (b0 := 5) aX12_tree_304 (by decide)
theorem dX12_tree_307 : decode cX12_tree 307 = .ok (.bipush (-2), 2) := dc_16 (a0 := 254) aX12_tree_307 (by decide)
theorem dX12_tree_309 : decode cX12_tree 309 = .ok (.iastore, 1) := dc_79 aX12_tree_309
theorem dX12_tree_310 : decode cX12_tree 310 = .ok (.iinc 8 1, 3) := dc_132 (a0 := 8) (a1 := 1) aX12_tree_310 (by decide)
theorem dX12_tree_313 : decode cX12_tree 313 = .ok (.goto (-39), 3) := dc_167 (a0 := 255) (b0 := 217) aX12_tree_313 (by decide)
theorem dX12_tree_316 : decode cX12_tree 316 = .ok (.iinc 4 1, 3) := dc_132 (a0 := 4) (a1 := 1) aX12_tree_316 (by decide)
theorem dX12_tree_319 : decode cX12_tree 319 = .ok (.goto (-204), 3) := dc_167 (a0 := 255) (b0 := 52) aX12_tree_319 (by decide)
theorem dX12_tree_322 : decode cX12_tree 322 = .ok (.aload_n 0, 1) := dc_42 aX12_tree_322
theorem dX12_tree_323 : decode cX12_tree 323 = .ok (.iconst 1, 1) := dc_4 aX12_tree_323
theorem dX12_tree_324 : decode cX12_tree 324 = .ok (.putfield 350, 3) := dc_181 (a0 := 1) (b0 := 94) aX12_tree_324
theorem dX12_tree_327 : decode cX12_tree 327 = .ok (.iload_n 2, 1) := dc_28 aX12_tree_327
theorem dX12_tree_328 : decode cX12_tree 328 = .ok (.ireturn, 1) := dc_172 aX12_tree_328
set_option maxRecDepth 20000 in
theorem ggX12_whence_X12_isBook : GoodIn wsX12_whence wsX12_isBook := goodIn_k _ [[8, 0, 0, 0], [7, 4], [1, 11, 0, 0, 0, 0, 0, 0, 0, 0, 0, 0, 0, 0, 0, 0, 0, 0, 0, 0, 0, 0, 0, 0, 0, 0, 0, 0, 0, 0, 0, 0, 0, 0, 0, 0, 0, 0, 0, 0, 0, 0, 0, 0, 0, 0, 0, 0, 0, 0, 0, 0, 0, 0, 0, 0, 0, 0, 0]] (by rfl) (by decide +kernel)
set_option maxRecDepth 20000 in
theorem gX12_whence_X12_isBook : GoodIn wsX12_whence (wsV RX12 338 RX12 yX12_isBook wsX12_isBook) := goodIn_app (goodIn_of _ (by decide +kernel)) ggX12_whence_X12_isBook
set_option maxRecDepth 20000 in
theorem ggX12_whence_X12_right : GoodIn wsX12_whence wsX12_right := goodIn_k _ [[12], [1, 11, 0, 0, 0, 0, 0, 0, 0, 0, 0, 0, 0, 0, 0, 0, 0, 0, 0, 0, 0, 0, 0, 0, 0, 0, 0, 0, 0, 0, 0, 0, 0, 0, 0, 0, 0, 0, 0, 0, 0, 0, 0, 0, 0, 0, 0, 0, 0, 0, 0, 0, 0, 0, 0, 0, 0, 0, 0]] (by rfl) (by decide +kernel)
set_option maxRecDepth 20000 in
theorem gX12_whence_X12_right : GoodIn wsX12_whence (wsV RX12 209 RX12 yX12_right wsX12_right) := goodIn_app (goodIn_of _ (by decide +kernel)) ggX12_whence_X12_right
noncomputable def sX12_whence_52 : List Nat := 172 :: []
noncomputable def sX12_whence_51 : List Nat := 46 :: sX12_whence_52
noncomputable def sX12_whence_50 : List Nat := 27 :: sX12_whence_51
noncomputable def sX12_whence_47 : List Nat := 180 :: 0 :: 86 :: sX12_whence_50
noncomputable def sX12_whence_46 : List Nat := 42 :: sX12_whence_47
noncomputable def sX12_whence_45 : List Nat := 172 :: sX12_whence_46
noncomputable def sX12_whence_44 : List Nat := 3 :: sX12_whence_45
noncomputable def sX12_whence_41 : List Nat := 154 :: 0 :: 5 :: sX12_whence_44
noncomputable def sX12_whence_38 : List Nat := 182 :: 0 :: 209 :: sX12_whence_41
noncomputable def sX12_whence_37 : List Nat := 4 :: sX12_whence_38
noncomputable def sX12_whence_36 : List Nat := 3 :: sX12_whence_37
noncomputable def sX12_whence_33 : List Nat := 167 :: 0 :: 4 :: sX12_whence_36
noncomputable def sX12_whence_32 : List Nat := 4 :: sX12_whence_33
noncomputable def sX12_whence_29 : List Nat := 159 :: 0 :: 7 :: sX12_whence_32
noncomputable def sX12_whence_27 : List Nat := 16 :: 254 :: sX12_whence_29
noncomputable def sX12_whence_26 : List Nat := 46 :: sX12_whence_27
noncomputable def sX12_whence_25 : List Nat := 27 :: sX12_whence_26
noncomputable def sX12_whence_22 : List Nat := 180 :: 0 :: 86 :: sX12_whence_25
noncomputable def sX12_whence_21 : List Nat := 42 :: sX12_whence_22
noncomputable def sX12_whence_18 : List Nat := 153 :: 0 :: 18 :: sX12_whence_21
noncomputable def sX12_whence_15 : List Nat := 180 :: 1 :: 94 :: sX12_whence_18
noncomputable def sX12_whence_14 : List Nat := 42 :: sX12_whence_15
noncomputable def sX12_whence_13 : List Nat := 42 :: sX12_whence_14
noncomputable def sX12_whence_10 : List Nat := 153 :: 0 :: 34 :: sX12_whence_13
noncomputable def sX12_whence_7 : List Nat := 182 :: 1 :: 82 :: sX12_whence_10
noncomputable def sX12_whence_6 : List Nat := 27 :: sX12_whence_7
noncomputable def sX12_whence_5 : List Nat := 42 :: sX12_whence_6
noncomputable def sX12_whence_2 : List Nat := 181 :: 0 :: 129 :: sX12_whence_5
noncomputable def sX12_whence_1 : List Nat := 3 :: sX12_whence_2
noncomputable def sX12_whence_0 : List Nat := 42 :: sX12_whence_1
theorem aX12_whence_0 : dc_at cX12_whence 0 sX12_whence_0 := dc_base (by decide +kernel)
theorem aX12_whence_1 : dc_at cX12_whence 1 sX12_whence_1 := dc_n1 aX12_whence_0
theorem aX12_whence_2 : dc_at cX12_whence 2 sX12_whence_2 := dc_n1 aX12_whence_1
theorem aX12_whence_5 : dc_at cX12_whence 5 sX12_whence_5 := dc_n3 aX12_whence_2
theorem aX12_whence_6 : dc_at cX12_whence 6 sX12_whence_6 := dc_n1 aX12_whence_5
theorem aX12_whence_7 : dc_at cX12_whence 7 sX12_whence_7 := dc_n1 aX12_whence_6
theorem aX12_whence_10 : dc_at cX12_whence 10 sX12_whence_10 := dc_n3 aX12_whence_7
theorem aX12_whence_13 : dc_at cX12_whence 13 sX12_whence_13 := dc_n3 aX12_whence_10
theorem aX12_whence_14 : dc_at cX12_whence 14 sX12_whence_14 := dc_n1 aX12_whence_13
theorem aX12_whence_15 : dc_at cX12_whence 15 sX12_whence_15 := dc_n1 aX12_whence_14
theorem aX12_whence_18 : dc_at cX12_whence 18 sX12_whence_18 := dc_n3 aX12_whence_15
theorem aX12_whence_21 : dc_at cX12_whence 21 sX12_whence_21 := dc_n3 aX12_whence_18
theorem aX12_whence_22 : dc_at cX12_whence 22 sX12_whence_22 := dc_n1 aX12_whence_21
theorem aX12_whence_25 : dc_at cX12_whence 25 sX12_whence_25 := dc_n3 aX12_whence_22
theorem aX12_whence_26 : dc_at cX12_whence 26 sX12_whence_26 := dc_n1 aX12_whence_25
theorem aX12_whence_27 : dc_at cX12_whence 27 sX12_whence_27 := dc_n1 aX12_whence_26
theorem aX12_whence_29 : dc_at cX12_whence 29 sX12_whence_29 := dc_n2 aX12_whence_27
theorem aX12_whence_32 : dc_at cX12_whence 32 sX12_whence_32 := dc_n3 aX12_whence_29
theorem aX12_whence_33 : dc_at cX12_whence 33 sX12_whence_33 := dc_n1 aX12_whence_32
theorem aX12_whence_36 : dc_at cX12_whence 36 sX12_whence_36 := dc_n3 aX12_whence_33
theorem aX12_whence_37 : dc_at cX12_whence 37 sX12_whence_37 := dc_n1 aX12_whence_36
theorem aX12_whence_38 : dc_at cX12_whence 38 sX12_whence_38 := dc_n1 aX12_whence_37
theorem aX12_whence_41 : dc_at cX12_whence 41 sX12_whence_41 := dc_n3 aX12_whence_38
theorem aX12_whence_44 : dc_at cX12_whence 44 sX12_whence_44 := dc_n3 aX12_whence_41
theorem aX12_whence_45 : dc_at cX12_whence 45 sX12_whence_45 := dc_n1 aX12_whence_44
theorem aX12_whence_46 : dc_at cX12_whence 46 sX12_whence_46 := dc_n1 aX12_whence_45
theorem aX12_whence_47 : dc_at cX12_whence 47 sX12_whence_47 := dc_n1 aX12_whence_46
theorem aX12_whence_50 : dc_at cX12_whence 50 sX12_whence_50 := dc_n3 aX12_whence_47
theorem aX12_whence_51 : dc_at cX12_whence 51 sX12_whence_51 := dc_n1 aX12_whence_50
theorem aX12_whence_52 : dc_at cX12_whence 52 sX12_whence_52 := dc_n1 aX12_whence_51
theorem dX12_whence_0 : decode cX12_whence 0 = .ok (.aload_n 0, 1) := dc_42 aX12_whence_0
theorem dX12_whence_1 : decode cX12_whence 1 = .ok (.iconst 0, 1) := dc_3 aX12_whence_1
theorem dX12_whence_2 : decode cX12_whence 2 = .ok (.putfield 129, 3) := dc_181 (a0 := 0) (b0 := 129) aX12_whence_2
theorem dX12_whence_5 : decode cX12_whence 5 = .ok (.aload_n 0, 1) := dc_42 aX12_whence_5
theorem dX12_whence_6 : decode cX12_whence 6 = .ok (.iload_n 1, 1) := dc_27 aX12_whence_6
theorem dX12_whence_7 : decode cX12_whence 7 = .ok (.invokevirtual 338, 3) := dc_182 (a0 := 1) (b0 := 82) aX12_whence_7
theorem dX12_whence_10 : decode cX12_whence 10 = .ok (.ifCond .eq 34, 3) := dc_153 (a0 := 0) (b0 := 34) aX12_whence_10 (by decide)
theorem dX12_whence_13 : decode cX12_whence 13 = .ok (.aload_n 0, 1) := dc_42 aX12_whence_13
theorem dX12_whence_14 : decode cX12_whence 14 = .ok (.aload_n 0, 1) := dc_42 aX12_whence_14
theorem dX12_whence_15 : decode cX12_whence 15 = .ok (.getfield 350, 3) := dc_180 (a0 := 1) (b0 := 94) aX12_whence_15
theorem dX12_whence_18 : decode cX12_whence 18 = .ok (.ifCond .eq 18, 3) := dc_153 (a0 := 0) (b0 := 18) aX12_whence_18 (by decide)
theorem dX12_whence_21 : decode cX12_whence 21 = .ok (.aload_n 0, 1) := dc_42 aX12_whence_21
theorem dX12_whence_22 : decode cX12_whence 22 = .ok (.getfield 86, 3) := dc_180 (a0 := 0) (b0 := 86) aX12_whence_22
theorem dX12_whence_25 : decode cX12_whence 25 = .ok (.iload_n 1, 1) := dc_27 aX12_whence_25
theorem dX12_whence_26 : decode cX12_whence 26 = .ok (.iaload, 1) := dc_46 aX12_whence_26
theorem dX12_whence_27 : decode cX12_whence 27 = .ok (.bipush (-2), 2) := dc_16 (a0 := 254) aX12_whence_27 (by decide)
theorem dX12_whence_29 : decode cX12_whence 29 = .ok (.if_icmp .eq 7, 3) := dc_159 (a0 := 0) (b0 := 7) aX12_whence_29 (by decide)
theorem dX12_whence_32 : decode cX12_whence 32 = .ok (.iconst 1, 1) := dc_4 aX12_whence_32
theorem dX12_whence_33 : decode cX12_whence 33 = .ok (.goto 4, 3) := dc_167 (a0 := 0) (b0 := 4) aX12_whence_33 (by decide)
theorem dX12_whence_36 : decode cX12_whence 36 = .ok (.iconst 0, 1) := dc_3 aX12_whence_36
theorem dX12_whence_37 : decode cX12_whence 37 = .ok (.iconst 1, 1) := dc_4 aX12_whence_37
theorem dX12_whence_38 : decode cX12_whence 38 = .ok (.invokevirtual 209, 3) := dc_182 (a0 := 0) (b0 := 209) aX12_whence_38
theorem dX12_whence_41 : decode cX12_whence 41 = .ok (.ifCond .ne 5, 3) := dc_154 (a0 := 0) (b0 := 5) aX12_whence_41 (by decide)
theorem dX12_whence_44 : decode cX12_whence 44 = .ok (.iconst 0, 1) := dc_3 aX12_whence_44
theorem dX12_whence_45 : decode cX12_whence 45 = .ok (.ireturn, 1) := dc_172 aX12_whence_45
theorem dX12_whence_46 : decode cX12_whence 46 = .ok (.aload_n 0, 1) := dc_42 aX12_whence_46
theorem dX12_whence_47 : decode cX12_whence 47 = .ok (.getfield 86, 3) := dc_180 (a0 := 0) (b0 := 86) aX12_whence_47
theorem dX12_whence_50 : decode cX12_whence 50 = .ok (.iload_n 1, 1) := dc_27 aX12_whence_50
theorem dX12_whence_51 : decode cX12_whence 51 = .ok (.iaload, 1) := dc_46 aX12_whence_51
theorem dX12_whence_52 : decode cX12_whence 52 = .ok (.ireturn, 1) := dc_172 aX12_whence_52
set_option maxRecDepth 20000 in
theorem ggX12_slips_X12_within : GoodIn wsX12_slips wsX12_within := goodIn_k _ [[7]] (by rfl) (by decide +kernel)
set_option maxRecDepth 20000 in
theorem gX12_slips_X12_within : GoodIn wsX12_slips (va_wsS RX12 270 yX12_within wsX12_within) := goodIn_app (goodIn_of _ (by decide +kernel)) ggX12_slips_X12_within
set_option maxRecDepth 20000 in
theorem ggX12_slips_X12_right : GoodIn wsX12_slips wsX12_right := goodIn_k _ [[11], [1, 26, 0, 0, 0, 0, 0, 0, 0, 0, 0, 0, 0, 0, 0, 0, 0, 0, 0, 0, 0, 0, 0, 0, 0, 0, 0, 0, 0, 0, 0, 0, 0, 0, 0, 0, 0, 0, 0, 0, 0, 0, 0, 0, 0, 0, 0, 0, 0, 0, 0, 0, 0, 0, 0, 0, 0, 0, 0]] (by rfl) (by decide +kernel)
set_option maxRecDepth 20000 in
theorem gX12_slips_X12_right : GoodIn wsX12_slips (wsV RX12 209 RX12 yX12_right wsX12_right) := goodIn_app (goodIn_of _ (by decide +kernel)) ggX12_slips_X12_right
set_option maxRecDepth 20000 in
theorem ggX12_slips_X12_at : GoodIn wsX12_slips wsX12_at := goodIn_k _ [[15, 0, 11, 0, 0, 0, 0, 0, 0, 0, 0, 0, 0, 0, 0, 0, 0, 0, 0, 0, 0, 0, 0, 0, 0, 0, 0, 0, 0, 0, 0, 0, 0, 0, 0, 0, 0, 0, 0, 0, 0, 0, 0, 0, 0, 0, 0, 0, 0, 0, 0, 0, 0, 0, 0, 0, 0, 0, 0, 0]] (by rfl) (by decide +kernel)
set_option maxRecDepth 20000 in
theorem gX12_slips_X12_at : GoodIn wsX12_slips (wsV RX12 254 RX12 yX12_at wsX12_at) := goodIn_app (goodIn_of _ (by decide +kernel)) ggX12_slips_X12_at
set_option maxRecDepth 20000 in
theorem ggX12_slips_X12_beside : GoodIn wsX12_slips wsX12_beside := goodIn_k _ [[20, 0, 0, 0], [6, 17, 0, 0, 0, 0, 0, 0, 0, 0, 0, 0, 0, 0, 0, 0, 0, 0, 0, 0, 0, 0, 0, 0, 0, 0, 0, 0, 0, 0, 0, 0, 0, 0, 0, 0, 0, 0, 0, 0, 0, 0, 0, 0, 0, 0, 0, 0, 0, 0, 0, 0, 0, 0, 0, 0, 0, 0, 0, 0, 0, 0, 0]] (by rfl) (by decide +kernel)
set_option maxRecDepth 20000 in
theorem gX12_slips_X12_beside : GoodIn wsX12_slips (wsV RX12 280 RX12 yX12_beside wsX12_beside) := goodIn_app (goodIn_of _ (by decide +kernel)) ggX12_slips_X12_beside
noncomputable def sX12_slips_218 : List Nat := 172 :: []
noncomputable def sX12_slips_217 : List Nat := 29 :: sX12_slips_218
noncomputable def sX12_slips_214 : List Nat := 167 :: 255 :: 94 :: sX12_slips_217
noncomputable def sX12_slips_211 : List Nat := 132 :: 4 :: 1 :: sX12_slips_214
noncomputable def sX12_slips_208 : List Nat := 167 :: 255 :: 110 :: sX12_slips_211
noncomputable def sX12_slips_205 : List Nat := 132 :: 5 :: 1 :: sX12_slips_208
noncomputable def sX12_slips_202 : List Nat := 132 :: 3 :: 1 :: sX12_slips_205
noncomputable def sX12_slips_199 : List Nat := 160 :: 0 :: 6 :: sX12_slips_202
noncomputable def sX12_slips_198 : List Nat := 28 :: sX12_slips_199
noncomputable def sX12_slips_197 : List Nat := 108 :: sX12_slips_198
noncomputable def sX12_slips_195 : List Nat := 16 :: 30 :: sX12_slips_197
noncomputable def sX12_slips_193 : List Nat := 21 :: 7 :: sX12_slips_195
noncomputable def sX12_slips_190 : List Nat := 160 :: 0 :: 15 :: sX12_slips_193
noncomputable def sX12_slips_189 : List Nat := 27 :: sX12_slips_190
noncomputable def sX12_slips_188 : List Nat := 108 :: sX12_slips_189
noncomputable def sX12_slips_186 : List Nat := 16 :: 30 :: sX12_slips_188
noncomputable def sX12_slips_184 : List Nat := 21 :: 6 :: sX12_slips_186
noncomputable def sX12_slips_181 : List Nat := 160 :: 0 :: 24 :: sX12_slips_184
noncomputable def sX12_slips_180 : List Nat := 5 :: sX12_slips_181
noncomputable def sX12_slips_178 : List Nat := 21 :: 8 :: sX12_slips_180
noncomputable def sX12_slips_175 : List Nat := 159 :: 0 :: 27 :: sX12_slips_178
noncomputable def sX12_slips_174 : List Nat := 28 :: sX12_slips_175
noncomputable def sX12_slips_173 : List Nat := 112 :: sX12_slips_174
noncomputable def sX12_slips_171 : List Nat := 16 :: 30 :: sX12_slips_173
noncomputable def sX12_slips_169 : List Nat := 21 :: 7 :: sX12_slips_171
noncomputable def sX12_slips_166 : List Nat := 160 :: 0 :: 12 :: sX12_slips_169
noncomputable def sX12_slips_165 : List Nat := 27 :: sX12_slips_166
noncomputable def sX12_slips_164 : List Nat := 112 :: sX12_slips_165
noncomputable def sX12_slips_162 : List Nat := 16 :: 30 :: sX12_slips_164
noncomputable def sX12_slips_160 : List Nat := 21 :: 6 :: sX12_slips_162
noncomputable def sX12_slips_157 : List Nat := 160 :: 0 :: 21 :: sX12_slips_160
noncomputable def sX12_slips_156 : List Nat := 4 :: sX12_slips_157
noncomputable def sX12_slips_154 : List Nat := 21 :: 8 :: sX12_slips_156
noncomputable def sX12_slips_152 : List Nat := 54 :: 8 :: sX12_slips_154
noncomputable def sX12_slips_149 : List Nat := 182 :: 1 :: 24 :: sX12_slips_152
noncomputable def sX12_slips_147 : List Nat := 21 :: 7 :: sX12_slips_149
noncomputable def sX12_slips_145 : List Nat := 21 :: 6 :: sX12_slips_147
noncomputable def sX12_slips_144 : List Nat := 42 :: sX12_slips_145
noncomputable def sX12_slips_141 : List Nat := 167 :: 0 :: 64 :: sX12_slips_144
noncomputable def sX12_slips_138 : List Nat := 160 :: 0 :: 6 :: sX12_slips_141
noncomputable def sX12_slips_137 : List Nat := 2 :: sX12_slips_138
noncomputable def sX12_slips_135 : List Nat := 21 :: 7 :: sX12_slips_137
noncomputable def sX12_slips_132 : List Nat := 159 :: 0 :: 73 :: sX12_slips_135
noncomputable def sX12_slips_131 : List Nat := 2 :: sX12_slips_132
noncomputable def sX12_slips_129 : List Nat := 21 :: 6 :: sX12_slips_131
noncomputable def sX12_slips_127 : List Nat := 54 :: 7 :: sX12_slips_129
noncomputable def sX12_slips_124 : List Nat := 182 :: 0 :: 254 :: sX12_slips_127
noncomputable def sX12_slips_123 : List Nat := 112 :: sX12_slips_124
noncomputable def sX12_slips_121 : List Nat := 16 :: 21 :: sX12_slips_123
noncomputable def sX12_slips_119 : List Nat := 21 :: 5 :: sX12_slips_121
noncomputable def sX12_slips_118 : List Nat := 96 :: sX12_slips_119
noncomputable def sX12_slips_117 : List Nat := 108 :: sX12_slips_118
noncomputable def sX12_slips_115 : List Nat := 16 :: 21 :: sX12_slips_117
noncomputable def sX12_slips_113 : List Nat := 21 :: 5 :: sX12_slips_115
noncomputable def sX12_slips_112 : List Nat := 104 :: sX12_slips_113
noncomputable def sX12_slips_111 : List Nat := 46 :: sX12_slips_112
noncomputable def sX12_slips_109 : List Nat := 21 :: 4 :: sX12_slips_111
noncomputable def sX12_slips_106 : List Nat := 180 :: 0 :: 86 :: sX12_slips_109
noncomputable def sX12_slips_105 : List Nat := 42 :: sX12_slips_106
noncomputable def sX12_slips_103 : List Nat := 16 :: 20 :: sX12_slips_105
noncomputable def sX12_slips_102 : List Nat := 42 :: sX12_slips_103
noncomputable def sX12_slips_100 : List Nat := 54 :: 6 :: sX12_slips_102
noncomputable def sX12_slips_97 : List Nat := 182 :: 0 :: 254 :: sX12_slips_100
noncomputable def sX12_slips_96 : List Nat := 112 :: sX12_slips_97
noncomputable def sX12_slips_94 : List Nat := 16 :: 21 :: sX12_slips_96
noncomputable def sX12_slips_92 : List Nat := 21 :: 5 :: sX12_slips_94
noncomputable def sX12_slips_91 : List Nat := 96 :: sX12_slips_92
noncomputable def sX12_slips_90 : List Nat := 108 :: sX12_slips_91
noncomputable def sX12_slips_88 : List Nat := 16 :: 21 :: sX12_slips_90
noncomputable def sX12_slips_86 : List Nat := 21 :: 5 :: sX12_slips_88
noncomputable def sX12_slips_85 : List Nat := 104 :: sX12_slips_86
noncomputable def sX12_slips_83 : List Nat := 21 :: 4 :: sX12_slips_85
noncomputable def sX12_slips_81 : List Nat := 16 :: 20 :: sX12_slips_83
noncomputable def sX12_slips_80 : List Nat := 42 :: sX12_slips_81
noncomputable def sX12_slips_77 : List Nat := 155 :: 0 :: 134 :: sX12_slips_80
noncomputable def sX12_slips_76 : List Nat := 46 :: sX12_slips_77
noncomputable def sX12_slips_74 : List Nat := 21 :: 4 :: sX12_slips_76
noncomputable def sX12_slips_71 : List Nat := 180 :: 0 :: 86 :: sX12_slips_74
noncomputable def sX12_slips_70 : List Nat := 42 :: sX12_slips_71
noncomputable def sX12_slips_67 : List Nat := 162 :: 0 :: 144 :: sX12_slips_70
noncomputable def sX12_slips_64 : List Nat := 17 :: 1 :: 164 :: sX12_slips_67
noncomputable def sX12_slips_62 : List Nat := 21 :: 5 :: sX12_slips_64
noncomputable def sX12_slips_60 : List Nat := 54 :: 5 :: sX12_slips_62
noncomputable def sX12_slips_59 : List Nat := 3 :: sX12_slips_60
noncomputable def sX12_slips_56 : List Nat := 162 :: 0 :: 161 :: sX12_slips_59
noncomputable def sX12_slips_54 : List Nat := 16 :: 6 :: sX12_slips_56
noncomputable def sX12_slips_52 : List Nat := 21 :: 4 :: sX12_slips_54
noncomputable def sX12_slips_50 : List Nat := 54 :: 4 :: sX12_slips_52
noncomputable def sX12_slips_49 : List Nat := 3 :: sX12_slips_50
noncomputable def sX12_slips_48 : List Nat := 62 :: sX12_slips_49
noncomputable def sX12_slips_47 : List Nat := 3 :: sX12_slips_48
noncomputable def sX12_slips_46 : List Nat := 172 :: sX12_slips_47
noncomputable def sX12_slips_45 : List Nat := 3 :: sX12_slips_46
noncomputable def sX12_slips_42 : List Nat := 154 :: 0 :: 5 :: sX12_slips_45
noncomputable def sX12_slips_39 : List Nat := 182 :: 0 :: 209 :: sX12_slips_42
noncomputable def sX12_slips_38 : List Nat := 4 :: sX12_slips_39
noncomputable def sX12_slips_37 : List Nat := 3 :: sX12_slips_38
noncomputable def sX12_slips_34 : List Nat := 167 :: 0 :: 4 :: sX12_slips_37
noncomputable def sX12_slips_33 : List Nat := 4 :: sX12_slips_34
noncomputable def sX12_slips_30 : List Nat := 153 :: 0 :: 7 :: sX12_slips_33
noncomputable def sX12_slips_27 : List Nat := 180 :: 1 :: 94 :: sX12_slips_30
noncomputable def sX12_slips_26 : List Nat := 42 :: sX12_slips_27
noncomputable def sX12_slips_23 : List Nat := 153 :: 0 :: 14 :: sX12_slips_26
noncomputable def sX12_slips_20 : List Nat := 184 :: 1 :: 14 :: sX12_slips_23
noncomputable def sX12_slips_18 : List Nat := 16 :: 29 :: sX12_slips_20
noncomputable def sX12_slips_17 : List Nat := 3 :: sX12_slips_18
noncomputable def sX12_slips_16 : List Nat := 28 :: sX12_slips_17
noncomputable def sX12_slips_13 : List Nat := 153 :: 0 :: 24 :: sX12_slips_16
noncomputable def sX12_slips_10 : List Nat := 184 :: 1 :: 14 :: sX12_slips_13
noncomputable def sX12_slips_8 : List Nat := 16 :: 29 :: sX12_slips_10
noncomputable def sX12_slips_7 : List Nat := 3 :: sX12_slips_8
noncomputable def sX12_slips_6 : List Nat := 27 :: sX12_slips_7
noncomputable def sX12_slips_5 : List Nat := 42 :: sX12_slips_6
noncomputable def sX12_slips_2 : List Nat := 181 :: 0 :: 129 :: sX12_slips_5
noncomputable def sX12_slips_1 : List Nat := 3 :: sX12_slips_2
noncomputable def sX12_slips_0 : List Nat := 42 :: sX12_slips_1
theorem aX12_slips_0 : dc_at cX12_slips 0 sX12_slips_0 := dc_base (by decide +kernel)
theorem aX12_slips_1 : dc_at cX12_slips 1 sX12_slips_1 := dc_n1 aX12_slips_0
theorem aX12_slips_2 : dc_at cX12_slips 2 sX12_slips_2 := dc_n1 aX12_slips_1
theorem aX12_slips_5 : dc_at cX12_slips 5 sX12_slips_5 := dc_n3 aX12_slips_2
theorem aX12_slips_6 : dc_at cX12_slips 6 sX12_slips_6 := dc_n1 aX12_slips_5
theorem aX12_slips_7 : dc_at cX12_slips 7 sX12_slips_7 := dc_n1 aX12_slips_6
theorem aX12_slips_8 : dc_at cX12_slips 8 sX12_slips_8 := dc_n1 aX12_slips_7
theorem aX12_slips_10 : dc_at cX12_slips 10 sX12_slips_10 := dc_n2 aX12_slips_8
theorem aX12_slips_13 : dc_at cX12_slips 13 sX12_slips_13 := dc_n3 aX12_slips_10
theorem aX12_slips_16 : dc_at cX12_slips 16 sX12_slips_16 := dc_n3 aX12_slips_13
theorem aX12_slips_17 : dc_at cX12_slips 17 sX12_slips_17 := dc_n1 aX12_slips_16
theorem aX12_slips_18 : dc_at cX12_slips 18 sX12_slips_18 := dc_n1 aX12_slips_17
theorem aX12_slips_20 : dc_at cX12_slips 20 sX12_slips_20 := dc_n2 aX12_slips_18
theorem aX12_slips_23 : dc_at cX12_slips 23 sX12_slips_23 := dc_n3 aX12_slips_20
theorem aX12_slips_26 : dc_at cX12_slips 26 sX12_slips_26 := dc_n3 aX12_slips_23
theorem aX12_slips_27 : dc_at cX12_slips 27 sX12_slips_27 := dc_n1 aX12_slips_26
theorem aX12_slips_30 : dc_at cX12_slips 30 sX12_slips_30 := dc_n3 aX12_slips_27
theorem aX12_slips_33 : dc_at cX12_slips 33 sX12_slips_33 := dc_n3 aX12_slips_30
theorem aX12_slips_34 : dc_at cX12_slips 34 sX12_slips_34 := dc_n1 aX12_slips_33
theorem aX12_slips_37 : dc_at cX12_slips 37 sX12_slips_37 := dc_n3 aX12_slips_34
theorem aX12_slips_38 : dc_at cX12_slips 38 sX12_slips_38 := dc_n1 aX12_slips_37
theorem aX12_slips_39 : dc_at cX12_slips 39 sX12_slips_39 := dc_n1 aX12_slips_38
theorem aX12_slips_42 : dc_at cX12_slips 42 sX12_slips_42 := dc_n3 aX12_slips_39
theorem aX12_slips_45 : dc_at cX12_slips 45 sX12_slips_45 := dc_n3 aX12_slips_42
theorem aX12_slips_46 : dc_at cX12_slips 46 sX12_slips_46 := dc_n1 aX12_slips_45
theorem aX12_slips_47 : dc_at cX12_slips 47 sX12_slips_47 := dc_n1 aX12_slips_46
theorem aX12_slips_48 : dc_at cX12_slips 48 sX12_slips_48 := dc_n1 aX12_slips_47
theorem aX12_slips_49 : dc_at cX12_slips 49 sX12_slips_49 := dc_n1 aX12_slips_48
theorem aX12_slips_50 : dc_at cX12_slips 50 sX12_slips_50 := dc_n1 aX12_slips_49
theorem aX12_slips_52 : dc_at cX12_slips 52 sX12_slips_52 := dc_n2 aX12_slips_50
theorem aX12_slips_54 : dc_at cX12_slips 54 sX12_slips_54 := dc_n2 aX12_slips_52
theorem aX12_slips_56 : dc_at cX12_slips 56 sX12_slips_56 := dc_n2 aX12_slips_54
theorem aX12_slips_59 : dc_at cX12_slips 59 sX12_slips_59 := dc_n3 aX12_slips_56
theorem aX12_slips_60 : dc_at cX12_slips 60 sX12_slips_60 := dc_n1 aX12_slips_59
theorem aX12_slips_62 : dc_at cX12_slips 62 sX12_slips_62 := dc_n2 aX12_slips_60
theorem aX12_slips_64 : dc_at cX12_slips 64 sX12_slips_64 := dc_n2 aX12_slips_62
theorem aX12_slips_67 : dc_at cX12_slips 67 sX12_slips_67 := dc_n3 aX12_slips_64
theorem aX12_slips_70 : dc_at cX12_slips 70 sX12_slips_70 := dc_n3 aX12_slips_67
theorem aX12_slips_71 : dc_at cX12_slips 71 sX12_slips_71 := dc_n1 aX12_slips_70
theorem aX12_slips_74 : dc_at cX12_slips 74 sX12_slips_74 := dc_n3 aX12_slips_71
theorem aX12_slips_76 : dc_at cX12_slips 76 sX12_slips_76 := dc_n2 aX12_slips_74
theorem aX12_slips_77 : dc_at cX12_slips 77 sX12_slips_77 := dc_n1 aX12_slips_76
theorem aX12_slips_80 : dc_at cX12_slips 80 sX12_slips_80 := dc_n3 aX12_slips_77
theorem aX12_slips_81 : dc_at cX12_slips 81 sX12_slips_81 := dc_n1 aX12_slips_80
theorem aX12_slips_83 : dc_at cX12_slips 83 sX12_slips_83 := dc_n2 aX12_slips_81
theorem aX12_slips_85 : dc_at cX12_slips 85 sX12_slips_85 := dc_n2 aX12_slips_83
theorem aX12_slips_86 : dc_at cX12_slips 86 sX12_slips_86 := dc_n1 aX12_slips_85
theorem aX12_slips_88 : dc_at cX12_slips 88 sX12_slips_88 := dc_n2 aX12_slips_86
theorem aX12_slips_90 : dc_at cX12_slips 90 sX12_slips_90 := dc_n2 aX12_slips_88
theorem aX12_slips_91 : dc_at cX12_slips 91 sX12_slips_91 := dc_n1 aX12_slips_90
theorem aX12_slips_92 : dc_at cX12_slips 92 sX12_slips_92 := dc_n1 aX12_slips_91
theorem aX12_slips_94 : dc_at cX12_slips 94 sX12_slips_94 := dc_n2 aX12_slips_92
theorem aX12_slips_96 : dc_at cX12_slips 96 sX12_slips_96 := dc_n2 aX12_slips_94
theorem aX12_slips_97 : dc_at cX12_slips 97 sX12_slips_97 := dc_n1 aX12_slips_96
theorem aX12_slips_100 : dc_at cX12_slips 100 sX12_slips_100 := dc_n3 aX12_slips_97
theorem aX12_slips_102 : dc_at cX12_slips 102 sX12_slips_102 := dc_n2 aX12_slips_100
theorem aX12_slips_103 : dc_at cX12_slips 103 sX12_slips_103 := dc_n1 aX12_slips_102
theorem aX12_slips_105 : dc_at cX12_slips 105 sX12_slips_105 := dc_n2 aX12_slips_103
theorem aX12_slips_106 : dc_at cX12_slips 106 sX12_slips_106 := dc_n1 aX12_slips_105
theorem aX12_slips_109 : dc_at cX12_slips 109 sX12_slips_109 := dc_n3 aX12_slips_106
theorem aX12_slips_111 : dc_at cX12_slips 111 sX12_slips_111 := dc_n2 aX12_slips_109
theorem aX12_slips_112 : dc_at cX12_slips 112 sX12_slips_112 := dc_n1 aX12_slips_111
theorem aX12_slips_113 : dc_at cX12_slips 113 sX12_slips_113 := dc_n1 aX12_slips_112
theorem aX12_slips_115 : dc_at cX12_slips 115 sX12_slips_115 := dc_n2 aX12_slips_113
theorem aX12_slips_117 : dc_at cX12_slips 117 sX12_slips_117 := dc_n2 aX12_slips_115
theorem aX12_slips_118 : dc_at cX12_slips 118 sX12_slips_118 := dc_n1 aX12_slips_117
theorem aX12_slips_119 : dc_at cX12_slips 119 sX12_slips_119 := dc_n1 aX12_slips_118
theorem aX12_slips_121 : dc_at cX12_slips 121 sX12_slips_121 := dc_n2 aX12_slips_119
theorem aX12_slips_123 : dc_at cX12_slips 123 sX12_slips_123 := dc_n2 aX12_slips_121
theorem aX12_slips_124 : dc_at cX12_slips 124 sX12_slips_124 := dc_n1 aX12_slips_123
theorem aX12_slips_127 : dc_at cX12_slips 127 sX12_slips_127 := dc_n3 aX12_slips_124
theorem aX12_slips_129 : dc_at cX12_slips 129 sX12_slips_129 := dc_n2 aX12_slips_127
theorem aX12_slips_131 : dc_at cX12_slips 131 sX12_slips_131 := dc_n2 aX12_slips_129
theorem aX12_slips_132 : dc_at cX12_slips 132 sX12_slips_132 := dc_n1 aX12_slips_131
theorem aX12_slips_135 : dc_at cX12_slips 135 sX12_slips_135 := dc_n3 aX12_slips_132
theorem aX12_slips_137 : dc_at cX12_slips 137 sX12_slips_137 := dc_n2 aX12_slips_135
theorem aX12_slips_138 : dc_at cX12_slips 138 sX12_slips_138 := dc_n1 aX12_slips_137
theorem aX12_slips_141 : dc_at cX12_slips 141 sX12_slips_141 := dc_n3 aX12_slips_138
theorem aX12_slips_144 : dc_at cX12_slips 144 sX12_slips_144 := dc_n3 aX12_slips_141
theorem aX12_slips_145 : dc_at cX12_slips 145 sX12_slips_145 := dc_n1 aX12_slips_144
theorem aX12_slips_147 : dc_at cX12_slips 147 sX12_slips_147 := dc_n2 aX12_slips_145
theorem aX12_slips_149 : dc_at cX12_slips 149 sX12_slips_149 := dc_n2 aX12_slips_147
theorem aX12_slips_152 : dc_at cX12_slips 152 sX12_slips_152 := dc_n3 aX12_slips_149
theorem aX12_slips_154 : dc_at cX12_slips 154 sX12_slips_154 := dc_n2 aX12_slips_152
theorem aX12_slips_156 : dc_at cX12_slips 156 sX12_slips_156 := dc_n2 aX12_slips_154
theorem aX12_slips_157 : dc_at cX12_slips 157 sX12_slips_157 := dc_n1 aX12_slips_156
theorem aX12_slips_160 : dc_at cX12_slips 160 sX12_slips_160 := dc_n3 aX12_slips_157
theorem aX12_slips_162 : dc_at cX12_slips 162 sX12_slips_162 := dc_n2 aX12_slips_160
theorem aX12_slips_164 : dc_at cX12_slips 164 sX12_slips_164 := dc_n2 aX12_slips_162
theorem aX12_slips_165 : dc_at cX12_slips 165 sX12_slips_165 := dc_n1 aX12_slips_164
theorem aX12_slips_166 : dc_at cX12_slips 166 sX12_slips_166 := dc_n1 aX12_slips_165
theorem aX12_slips_169 : dc_at cX12_slips 169 sX12_slips_169 := dc_n3 aX12_slips_166
theorem aX12_slips_171 : dc_at cX12_slips 171 sX12_slips_171 := dc_n2 aX12_slips_169
theorem aX12_slips_173 : dc_at cX12_slips 173 sX12_slips_173 := dc_n2 aX12_slips_171
theorem aX12_slips_174 : dc_at cX12_slips 174 sX12_slips_174 := dc_n1 aX12_slips_173
theorem aX12_slips_175 : dc_at cX12_slips 175 sX12_slips_175 := dc_n1 aX12_slips_174
theorem aX12_slips_178 : dc_at cX12_slips 178 sX12_slips_178 := dc_n3 aX12_slips_175
theorem aX12_slips_180 : dc_at cX12_slips 180 sX12_slips_180 := dc_n2 aX12_slips_178
theorem aX12_slips_181 : dc_at cX12_slips 181 sX12_slips_181 := dc_n1 aX12_slips_180
theorem aX12_slips_184 : dc_at cX12_slips 184 sX12_slips_184 := dc_n3 aX12_slips_181
theorem aX12_slips_186 : dc_at cX12_slips 186 sX12_slips_186 := dc_n2 aX12_slips_184
theorem aX12_slips_188 : dc_at cX12_slips 188 sX12_slips_188 := dc_n2 aX12_slips_186
theorem aX12_slips_189 : dc_at cX12_slips 189 sX12_slips_189 := dc_n1 aX12_slips_188
theorem aX12_slips_190 : dc_at cX12_slips 190 sX12_slips_190 := dc_n1 aX12_slips_189
theorem aX12_slips_193 : dc_at cX12_slips 193 sX12_slips_193 := dc_n3 aX12_slips_190
theorem aX12_slips_195 : dc_at cX12_slips 195 sX12_slips_195 := dc_n2 aX12_slips_193
theorem aX12_slips_197 : dc_at cX12_slips 197 sX12_slips_197 := dc_n2 aX12_slips_195
theorem aX12_slips_198 : dc_at cX12_slips 198 sX12_slips_198 := dc_n1 aX12_slips_197
theorem aX12_slips_199 : dc_at cX12_slips 199 sX12_slips_199 := dc_n1 aX12_slips_198
theorem aX12_slips_202 : dc_at cX12_slips 202 sX12_slips_202 := dc_n3 aX12_slips_199
theorem aX12_slips_205 : dc_at cX12_slips 205 sX12_slips_205 := dc_n3 aX12_slips_202
theorem aX12_slips_208 : dc_at cX12_slips 208 sX12_slips_208 := dc_n3 aX12_slips_205
theorem aX12_slips_211 : dc_at cX12_slips 211 sX12_slips_211 := dc_n3 aX12_slips_208
theorem aX12_slips_214 : dc_at cX12_slips 214 sX12_slips_214 := dc_n3 aX12_slips_211
theorem aX12_slips_217 : dc_at cX12_slips 217 sX12_slips_217 := dc_n3 aX12_slips_214
theorem aX12_slips_218 : dc_at cX12_slips 218 sX12_slips_218 := dc_n1 aX12_slips_217
theorem dX12_slips_0 : decode cX12_slips 0 = .ok (.aload_n 0, 1) := dc_42 aX12_slips_0
theorem dX12_slips_1 : decode cX12_slips 1 = .ok (.iconst 0, 1) := dc_3 aX12_slips_1
theorem dX12_slips_2 : decode cX12_slips 2 = .ok (.putfield 129, 3) := dc_181 (a0 := 0) (b0 := 129) aX12_slips_2
theorem dX12_slips_5 : decode cX12_slips 5 = .ok (.aload_n 0, 1) := dc_42 aX12_slips_5
theorem dX12_slips_6 : decode cX12_slips 6 = .ok (.iload_n 1, 1) := dc_27 aX12_slips_6
theorem dX12_slips_7 : decode cX12_slips 7 = .ok (.iconst 0, 1) := dc_3 aX12_slips_7
theorem dX12_slips_8 : decode cX12_slips 8 = .ok (.bipush 29, 2) := dc_16 (a0 := 29) aX12_slips_8 (by decide)
theorem dX12_slips_10 : decode cX12_slips 10 = .ok (.invokestatic 270, 3) := dc_184 (a0 := 1) (b0 := 14) aX12_slips_10
theorem dX12_slips_13 : decode cX12_slips 13 = .ok (.ifCond .eq 24, 3) := dc_153 (a0 := 0) (b0 := 24) aX12_slips_13 (by decide)
theorem dX12_slips_16 : decode cX12_slips 16 = .ok (.iload_n 2, 1) := dc_28 aX12_slips_16
theorem dX12_slips_17 : decode cX12_slips 17 = .ok (.iconst 0, 1) := dc_3 aX12_slips_17
theorem dX12_slips_18 : decode cX12_slips 18 = .ok (.bipush 29, 2) := dc_16 (a0 := 29) aX12_slips_18 (by decide)
theorem dX12_slips_20 : decode cX12_slips 20 = .ok (.invokestatic 270, 3) := dc_184 (a0 := 1) (b0 := 14) aX12_slips_20
theorem dX12_slips_23 : decode cX12_slips 23 = .ok (.ifCond .eq 14, 3) := dc_153 (a0 := 0) (b0 := 14) aX12_slips_23 (by decide)
theorem dX12_slips_26 : decode cX12_slips 26 = .ok (.aload_n 0, 1) := dc_42 aX12_slips_26
theorem dX12_slips_27 : decode cX12_slips 27 = .ok (.getfield 350, 3) := dc_180 (a0 := 1) (b0 := 94) aX12_slips_27
theorem dX12_slips_30 : decode cX12_slips 30 = .ok (.ifCond .eq 7, 3) := dc_153 (a0 := 0) (b0 := 7) aX12_slips_30 (by decide)
theorem dX12_slips_33 : decode cX12_slips 33 = .ok (.iconst 1, 1) := dc_4 aX12_slips_33
theorem dX12_slips_34 : decode cX12_slips 34 = .ok (.goto 4, 3) := dc_167 (a0 := 0) (b0 := 4) aX12_slips_34 (by decide)
theorem dX12_slips_37 : decode cX12_slips 37 = .ok (.iconst 0, 1) := dc_3 aX12_slips_37
theorem dX12_slips_38 : decode cX12_slips 38 = .ok (.iconst 1, 1) := dc_4 aX12_slips_38
theorem dX12_slips_39 : decode cX12_slips 39 = .ok (.invokevirtual 209, 3) := dc_182 (a0 := 0) (b0 := 209) aX12_slips_39
theorem dX12_slips_42 : decode cX12_slips 42 = .ok (.ifCond .ne 5, 3) := dc_154 (a0 := 0) (b0 := 5) aX12_slips_42 (by decide)
theorem dX12_slips_45 : decode cX12_slips 45 = .ok (.iconst 0, 1) := dc_3 aX12_slips_45
theorem dX12_slips_46 : decode cX12_slips 46 = .ok (.ireturn, 1) := dc_172 aX12_slips_46
theorem dX12_slips_47 : decode cX12_slips 47 = .ok (.iconst 0, 1) := dc_3 aX12_slips_47
theorem dX12_slips_48 : decode cX12_slips 48 = .ok (.istore_n 3, 1) := dc_62 aX12_slips_48
theorem dX12_slips_49 : decode cX12_slips 49 = .ok (.iconst 0, 1) := dc_3 aX12_slips_49
theorem dX12_slips_50 : decode cX12_slips 50 = .ok (.istore 4, 2) := dc_54 (a0 := 4) aX12_slips_50
theorem dX12_slips_52 : decode cX12_slips 52 = .ok (.iload 4, 2) := dc_21 (a0 := 4) aX12_slips_52
theorem dX12_slips_54 : decode cX12_slips 54 = .ok (.bipush 6, 2) := dc_16 (a0 := 6) aX12_slips_54 (by decide)
theorem dX12_slips_56 : decode cX12_slips 56 = .ok (.if_icmp .ge 161, 3) := dc_162 (a0 := 0) (b0 := 161) aX12_slips_56 (by decide)
theorem dX12_slips_59 : decode cX12_slips 59 = .ok (.iconst 0, 1) := dc_3 aX12_slips_59
theorem dX12_slips_60 : decode cX12_slips 60 = .ok (.istore 5, 2) := dc_54 (a0 := 5) aX12_slips_60
theorem dX12_slips_62 : decode cX12_slips 62 = .ok (.iload 5, 2) := dc_21 (a0 := 5) aX12_slips_62
theorem dX12_slips_64 : decode cX12_slips 64 = .ok (.sipush 420, 3) := dc_17 (a0 := 1) (b0 := 164) aX12_slips_64 (by decide)
theorem dX12_slips_67 : decode cX12_slips 67 = .ok (.if_icmp .ge 144, 3) := dc_162 (a0 := 0) (b0 := 144) aX12_slips_67 (by decide)
theorem dX12_slips_70 : decode cX12_slips 70 = .ok (.aload_n 0, 1) := dc_42 aX12_slips_70
theorem dX12_slips_71 : decode cX12_slips 71 = .ok (.getfield 86, 3) := dc_180 (a0 := 0) (b0 := 86) aX12_slips_71
theorem dX12_slips_74 : decode cX12_slips 74 = .ok (.iload 4, 2) := dc_21 (a0 := 4) aX12_slips_74
theorem dX12_slips_76 : decode cX12_slips 76 = .ok (.iaload, 1) := dc_46 aX12_slips_76
theorem dX12_slips_77 : decode cX12_slips 77 = .ok (.ifCond .lt 134, 3) := dc_155 (a0 := 0) (b0 := 134) aX12_slips_77 (by decide)
theorem dX12_slips_80 : decode cX12_slips 80 = .ok (.aload_n 0, 1) := dc_42 aX12_slips_80
theorem dX12_slips_81 : decode cX12_slips 81 = .ok (.bipush 20, 2) := dc_16 (a0 := 20) aX12_slips_81 (by decide)
theorem dX12_slips_83 : decode cX12_slips 83 = .ok (.iload 4, 2) := dc_21 (a0 := 4) aX12_slips_83
theorem dX12_slips_85 : decode cX12_slips 85 = .ok (.imul, 1) := dc_104 aX12_slips_85
theorem dX12_slips_86 : decode cX12_slips 86 = .ok (.iload 5, 2) := dc_21 (a0 := 5) aX12_slips_86
theorem dX12_slips_88 : decode cX12_slips 88 = .ok (.bipush 21, 2) := dc_16 (a0 := 21) aX12_slips_88 (by decide)
theorem dX12_slips_90 : decode cX12_slips 90 = .ok (.idiv, 1) := dc_108 aX12_slips_90
theorem dX12_slips_91 : decode cX12_slips 91 = .ok (.iadd, 1) := dc_96 aX12_slips_91
theorem dX12_slips_92 : decode cX12_slips 92 = .ok (.iload 5, 2) := dc_21 (a0 := 5) aX12_slips_92
theorem dX12_slips_94 : decode cX12_slips 94 = .ok (.bipush 21, 2) := dc_16 (a0 := 21) aX12_slips_94 (by decide)
theorem dX12_slips_96 : decode cX12_slips 96 = .ok (.irem, 1) := dc_112 aX12_slips_96
theorem dX12_slips_97 : decode cX12_slips 97 = .ok (.invokevirtual 254, 3) := dc_182 (a0 := 0) (b0 := 254) aX12_slips_97
theorem dX12_slips_100 : decode cX12_slips 100 = .ok (.istore 6, 2) := dc_54 (a0 := 6) aX12_slips_100
theorem dX12_slips_102 : decode cX12_slips 102 = .ok (.aload_n 0, 1) := dc_42 aX12_slips_102
theorem dX12_slips_103 : decode cX12_slips 103 = .ok (.bipush 20, 2) := dc_16 (a0 := 20) aX12_slips_103 (by decide)
theorem dX12_slips_105 : decode cX12_slips 105 = .ok (.aload_n 0, 1) := dc_42 aX12_slips_105
theorem dX12_slips_106 : decode cX12_slips 106 = .ok (.getfield 86, 3) := dc_180 (a0 := 0) (b0 := 86) aX12_slips_106
theorem dX12_slips_109 : decode cX12_slips 109 = .ok (.iload 4, 2) := dc_21 (a0 := 4) aX12_slips_109
theorem dX12_slips_111 : decode cX12_slips 111 = .ok (.iaload, 1) := dc_46 aX12_slips_111
theorem dX12_slips_112 : decode cX12_slips 112 = .ok (.imul, 1) := dc_104 aX12_slips_112
theorem dX12_slips_113 : decode cX12_slips 113 = .ok (.iload 5, 2) := dc_21 (a0 := 5) aX12_slips_113
theorem dX12_slips_115 : decode cX12_slips 115 = .ok (.bipush 21, 2) := dc_16 (a0 := 21) aX12_slips_115 (by decide)
theorem dX12_slips_117 : decode cX12_slips 117 = .ok (.idiv, 1) := dc_108 aX12_slips_117
theorem dX12_slips_118 : decode cX12_slips 118 = .ok (.iadd, 1) := dc_96 aX12_slips_118
theorem dX12_slips_119 : decode cX12_slips 119 = .ok (.iload 5, 2) := dc_21 (a0 := 5) aX12_slips_119
theorem dX12_slips_121 : decode cX12_slips 121 = .ok (.bipush 21, 2) := dc_16 (a0 := 21) aX12_slips_121 (by decide)
theorem dX12_slips_123 : decode cX12_slips 123 = .ok (.irem, 1) := dc_112 aX12_slips_123
theorem dX12_slips_124 : decode cX12_slips 124 = .ok (.invokevirtual 254, 3) := dc_182 (a0 := 0) (b0 := 254) aX12_slips_124
theorem dX12_slips_127 : decode cX12_slips 127 = .ok (.istore 7, 2) := dc_54 (a0 := 7) aX12_slips_127
theorem dX12_slips_129 : decode cX12_slips 129 = .ok (.iload 6, 2) := dc_21 (a0 := 6) aX12_slips_129
theorem dX12_slips_131 : decode cX12_slips 131 = .ok (.iconst (-1), 1) := dc_2 aX12_slips_131
theorem dX12_slips_132 : decode cX12_slips 132 = .ok (.if_icmp .eq 73, 3) := dc_159 (a0 := 0) (b0 := 73) aX12_slips_132 (by decide)
theorem dX12_slips_135 : decode cX12_slips 135 = .ok (.iload 7, 2) := dc_21 (a0 := 7) aX12_slips_135
theorem dX12_slips_137 : decode cX12_slips 137 = .ok (.iconst (-1), 1) := dc_2 aX12_slips_137
theorem dX12_slips_138 : decode cX12_slips 138 = .ok (.if_icmp .ne 6, 3) := dc_160 (a0 := 0) (b0 := 6) aX12_slips_138 (by decide)
theorem dX12_slips_141 : decode cX12_slips 141 = .ok (.goto 64, 3) := dc_167 (a0 := 0) (b0 := 64) aX12_slips_141 (by decide)
theorem dX12_slips_144 : decode cX12_slips 144 = .ok (.aload_n 0, 1) := dc_42 aX12_slips_144
theorem dX12_slips_145 : decode cX12_slips 145 = .ok (.iload 6, 2) := dc_21 (a0 := 6) aX12_slips_145
theorem dX12_slips_147 : decode cX12_slips 147 = .ok (.iload 7, 2) := dc_21 (a0 := 7) aX12_slips_147
theorem dX12_slips_149 : decode cX12_slips 149 = .ok (.invokevirtual 280, 3) := dc_182 (a0 := 1) (b0 := 24) aX12_slips_149
theorem dX12_slips_152 : decode cX12_slips 152 = .ok (.istore 8, 2) := dc_54 (a0 := 8) aX12_slips_152
theorem dX12_slips_154 : decode cX12_slips 154 = .ok (.iload 8, 2) := dc_21 (a0 := 8) aX12_slips_154
theorem dX12_slips_156 : decode cX12_slips 156 = .ok (.iconst 1, 1) := dc_4 aX12_slips_156
theorem dX12_slips_157 : decode cX12_slips 157 = .ok (.if_icmp .ne 21, 3) := dc_160 (a0 := 0) (b0 := 21) aX12_slips_157 (by decide)
theorem dX12_slips_160 : decode cX12_slips 160 = .ok (.iload 6, 2) := dc_21 (a0 := 6) aX12_slips_160
theorem dX12_slips_162 : decode cX12_slips 162 = .ok (.bipush 30, 2) := dc_16 (a0 := 30) aX12_slips_162 (by decide)
theorem dX12_slips_164 : decode cX12_slips 164 = .ok (.irem, 1) := dc_112 aX12_slips_164
theorem dX12_slips_165 : decode cX12_slips 165 = .ok (.iload_n 1, 1) := dc_27 aX12_slips_165
theorem dX12_slips_166 : decode cX12_slips 166 = .ok (.if_icmp .ne 12, 3) := dc_160 (a0 := 0) (b0 := 12) aX12_slips_166 (by decide)
theorem dX12_slips_169 : decode cX12_slips 169 = .ok (.iload 7, 2) := dc_21 (a0 := 7) aX12_slips_169
theorem dX12_slips_171 : decode cX12_slips 171 = .ok (.bipush 30, 2) := dc_16 (a0 := 30) aX12_slips_171 (by decide)
theorem dX12_slips_173 : decode cX12_slips 173 = .ok (.irem, 1) := dc_112 aX12_slips_173
theorem dX12_slips_174 : decode cX12_slips 174 = .ok (.iload_n 2, 1) := dc_28 aX12_slips_174
theorem dX12_slips_175 : decode cX12_slips 175 = .ok (.if_icmp .eq 27, 3) := dc_159 (a0 := 0) (b0 := 27) aX12_slips_175 (by decide)
theorem dX12_slips_178 : decode cX12_slips 178 = .ok (.iload 8, 2) := dc_21 (a0 := 8) aX12_slips_178
theorem dX12_slips_180 : decode cX12_slips 180 = .ok (.iconst 2, 1) := dc_5 aX12_slips_180
theorem dX12_slips_181 : decode cX12_slips 181 = .ok (.if_icmp .ne 24, 3) := dc_160 (a0 := 0) (b0 := 24) aX12_slips_181 (by decide)
theorem dX12_slips_184 : decode cX12_slips 184 = .ok (.iload 6, 2) := dc_21 (a0 := 6) aX12_slips_184
theorem dX12_slips_186 : decode cX12_slips 186 = .ok (.bipush 30, 2) := dc_16 (a0 := 30) aX12_slips_186 (by decide)
theorem dX12_slips_188 : decode cX12_slips 188 = .ok (.idiv, 1) := dc_108 aX12_slips_188
theorem dX12_slips_189 : decode cX12_slips 189 = .ok (.iload_n 1, 1) := dc_27 aX12_slips_189
theorem dX12_slips_190 : decode cX12_slips 190 = .ok (.if_icmp .ne 15, 3) := dc_160 (a0 := 0) (b0 := 15) aX12_slips_190 (by decide)
theorem dX12_slips_193 : decode cX12_slips 193 = .ok (.iload 7, 2) := dc_21 (a0 := 7) aX12_slips_193
theorem dX12_slips_195 : decode cX12_slips 195 = .ok (.bipush 30, 2) := dc_16 (a0 := 30) aX12_slips_195 (by decide)
theorem dX12_slips_197 : decode cX12_slips 197 = .ok (.idiv, 1) := dc_108 aX12_slips_197
theorem dX12_slips_198 : decode cX12_slips 198 = .ok (.iload_n 2, 1) := dc_28 aX12_slips_198
theorem dX12_slips_199 : decode cX12_slips 199 = .ok (.if_icmp .ne 6, 3) := dc_160 (a0 := 0) (b0 := 6) aX12_slips_199 (by decide)
theorem dX12_slips_202 : decode cX12_slips 202 = .ok (.iinc 3 1, 3) := dc_132 (a0 := 3) (a1 := 1) aX12_slips_202 (by decide)
theorem dX12_slips_205 : decode cX12_slips 205 = .ok (.iinc 5 1, 3) := dc_132 (a0 := 5) (a1 := 1) aX12_slips_205 (by decide)
theorem dX12_slips_208 : decode cX12_slips 208 = .ok (.goto (-146), 3) := dc_167 (a0 := 255) (b0 := 110) aX12_slips_208 (by decide)
theorem dX12_slips_211 : decode cX12_slips 211 = .ok (.iinc 4 1, 3) := dc_132 (a0 := 4) (a1 := 1) aX12_slips_211 (by decide)
theorem dX12_slips_214 : decode cX12_slips 214 = .ok (.goto (-162), 3) := dc_167 (a0 := 255) (b0 := 94) aX12_slips_214 (by decide)
theorem dX12_slips_217 : decode cX12_slips 217 = .ok (.iload_n 3, 1) := dc_29 aX12_slips_217
theorem dX12_slips_218 : decode cX12_slips 218 = .ok (.ireturn, 1) := dc_172 aX12_slips_218
set_option maxRecDepth 20000 in
theorem ggX12_handed_X12_isBook : GoodIn wsX12_handed wsX12_isBook := goodIn_k _ [[7, 0, 0, 0], [6, 4], [1, 10, 0, 0, 0, 0, 0, 0, 0, 0, 0, 0, 0, 0, 0, 0, 0, 0, 0, 0, 0, 0, 0, 0, 0, 0, 0, 0, 0, 0, 0, 0, 0, 0, 0, 0, 0, 0, 0, 0, 0, 0, 0, 0, 0, 0, 0, 0, 0, 0, 0, 0, 0, 0, 0, 0, 0, 0, 0]] (by rfl) (by decide +kernel)
set_option maxRecDepth 20000 in
theorem gX12_handed_X12_isBook : GoodIn wsX12_handed (wsV RX12 338 RX12 yX12_isBook wsX12_isBook) := goodIn_app (goodIn_of _ (by decide +kernel)) ggX12_handed_X12_isBook
noncomputable def sX12_handed_127 : List Nat := 172 :: []
noncomputable def sX12_handed_125 : List Nat := 21 :: 4 :: sX12_handed_127
noncomputable def sX12_handed_122 : List Nat := 167 :: 255 :: 171 :: sX12_handed_125
noncomputable def sX12_handed_119 : List Nat := 132 :: 5 :: 1 :: sX12_handed_122
noncomputable def sX12_handed_116 : List Nat := 132 :: 4 :: 1 :: sX12_handed_119
noncomputable def sX12_handed_113 : List Nat := 159 :: 0 :: 6 :: sX12_handed_116
noncomputable def sX12_handed_111 : List Nat := 21 :: 6 :: sX12_handed_113
noncomputable def sX12_handed_109 : List Nat := 21 :: 8 :: sX12_handed_111
noncomputable def sX12_handed_106 : List Nat := 159 :: 0 :: 13 :: sX12_handed_109
noncomputable def sX12_handed_105 : List Nat := 2 :: sX12_handed_106
noncomputable def sX12_handed_103 : List Nat := 21 :: 8 :: sX12_handed_105
noncomputable def sX12_handed_100 : List Nat := 160 :: 0 :: 19 :: sX12_handed_103
noncomputable def sX12_handed_98 : List Nat := 21 :: 7 :: sX12_handed_100
noncomputable def sX12_handed_96 : List Nat := 21 :: 6 :: sX12_handed_98
noncomputable def sX12_handed_93 : List Nat := 159 :: 0 :: 26 :: sX12_handed_96
noncomputable def sX12_handed_92 : List Nat := 2 :: sX12_handed_93
noncomputable def sX12_handed_90 : List Nat := 21 :: 6 :: sX12_handed_92
noncomputable def sX12_handed_88 : List Nat := 54 :: 8 :: sX12_handed_90
noncomputable def sX12_handed_87 : List Nat := 46 :: sX12_handed_88
noncomputable def sX12_handed_86 : List Nat := 96 :: sX12_handed_87
noncomputable def sX12_handed_84 : List Nat := 21 :: 5 :: sX12_handed_86
noncomputable def sX12_handed_83 : List Nat := 104 :: sX12_handed_84
noncomputable def sX12_handed_82 : List Nat := 29 :: sX12_handed_83
noncomputable def sX12_handed_79 : List Nat := 17 :: 1 :: 184 :: sX12_handed_82
noncomputable def sX12_handed_76 : List Nat := 180 :: 0 :: 31 :: sX12_handed_79
noncomputable def sX12_handed_75 : List Nat := 42 :: sX12_handed_76
noncomputable def sX12_handed_73 : List Nat := 54 :: 7 :: sX12_handed_75
noncomputable def sX12_handed_72 : List Nat := 46 :: sX12_handed_73
noncomputable def sX12_handed_71 : List Nat := 96 :: sX12_handed_72
noncomputable def sX12_handed_69 : List Nat := 21 :: 5 :: sX12_handed_71
noncomputable def sX12_handed_68 : List Nat := 104 :: sX12_handed_69
noncomputable def sX12_handed_67 : List Nat := 28 :: sX12_handed_68
noncomputable def sX12_handed_64 : List Nat := 17 :: 1 :: 184 :: sX12_handed_67
noncomputable def sX12_handed_61 : List Nat := 180 :: 0 :: 31 :: sX12_handed_64
noncomputable def sX12_handed_60 : List Nat := 42 :: sX12_handed_61
noncomputable def sX12_handed_58 : List Nat := 54 :: 6 :: sX12_handed_60
noncomputable def sX12_handed_57 : List Nat := 46 :: sX12_handed_58
noncomputable def sX12_handed_56 : List Nat := 96 :: sX12_handed_57
noncomputable def sX12_handed_54 : List Nat := 21 :: 5 :: sX12_handed_56
noncomputable def sX12_handed_53 : List Nat := 104 :: sX12_handed_54
noncomputable def sX12_handed_52 : List Nat := 27 :: sX12_handed_53
noncomputable def sX12_handed_49 : List Nat := 17 :: 1 :: 184 :: sX12_handed_52
noncomputable def sX12_handed_46 : List Nat := 180 :: 0 :: 31 :: sX12_handed_49
noncomputable def sX12_handed_45 : List Nat := 42 :: sX12_handed_46
noncomputable def sX12_handed_42 : List Nat := 162 :: 0 :: 83 :: sX12_handed_45
noncomputable def sX12_handed_39 : List Nat := 17 :: 1 :: 184 :: sX12_handed_42
noncomputable def sX12_handed_37 : List Nat := 21 :: 5 :: sX12_handed_39
noncomputable def sX12_handed_35 : List Nat := 54 :: 5 :: sX12_handed_37
noncomputable def sX12_handed_34 : List Nat := 3 :: sX12_handed_35
noncomputable def sX12_handed_32 : List Nat := 54 :: 4 :: sX12_handed_34
noncomputable def sX12_handed_31 : List Nat := 3 :: sX12_handed_32
noncomputable def sX12_handed_30 : List Nat := 172 :: sX12_handed_31
noncomputable def sX12_handed_29 : List Nat := 3 :: sX12_handed_30
noncomputable def sX12_handed_26 : List Nat := 154 :: 0 :: 5 :: sX12_handed_29
noncomputable def sX12_handed_23 : List Nat := 182 :: 1 :: 82 :: sX12_handed_26
noncomputable def sX12_handed_22 : List Nat := 29 :: sX12_handed_23
noncomputable def sX12_handed_21 : List Nat := 42 :: sX12_handed_22
noncomputable def sX12_handed_18 : List Nat := 153 :: 0 :: 11 :: sX12_handed_21
noncomputable def sX12_handed_15 : List Nat := 182 :: 1 :: 82 :: sX12_handed_18
noncomputable def sX12_handed_14 : List Nat := 28 :: sX12_handed_15
noncomputable def sX12_handed_13 : List Nat := 42 :: sX12_handed_14
noncomputable def sX12_handed_10 : List Nat := 153 :: 0 :: 19 :: sX12_handed_13
noncomputable def sX12_handed_7 : List Nat := 182 :: 1 :: 82 :: sX12_handed_10
noncomputable def sX12_handed_6 : List Nat := 27 :: sX12_handed_7
noncomputable def sX12_handed_5 : List Nat := 42 :: sX12_handed_6
noncomputable def sX12_handed_2 : List Nat := 181 :: 0 :: 129 :: sX12_handed_5
noncomputable def sX12_handed_1 : List Nat := 3 :: sX12_handed_2
noncomputable def sX12_handed_0 : List Nat := 42 :: sX12_handed_1
theorem aX12_handed_0 : dc_at cX12_handed 0 sX12_handed_0 := dc_base (by decide +kernel)
theorem aX12_handed_1 : dc_at cX12_handed 1 sX12_handed_1 := dc_n1 aX12_handed_0
theorem aX12_handed_2 : dc_at cX12_handed 2 sX12_handed_2 := dc_n1 aX12_handed_1
theorem aX12_handed_5 : dc_at cX12_handed 5 sX12_handed_5 := dc_n3 aX12_handed_2
theorem aX12_handed_6 : dc_at cX12_handed 6 sX12_handed_6 := dc_n1 aX12_handed_5
theorem aX12_handed_7 : dc_at cX12_handed 7 sX12_handed_7 := dc_n1 aX12_handed_6
theorem aX12_handed_10 : dc_at cX12_handed 10 sX12_handed_10 := dc_n3 aX12_handed_7
theorem aX12_handed_13 : dc_at cX12_handed 13 sX12_handed_13 := dc_n3 aX12_handed_10
theorem aX12_handed_14 : dc_at cX12_handed 14 sX12_handed_14 := dc_n1 aX12_handed_13
theorem aX12_handed_15 : dc_at cX12_handed 15 sX12_handed_15 := dc_n1 aX12_handed_14
theorem aX12_handed_18 : dc_at cX12_handed 18 sX12_handed_18 := dc_n3 aX12_handed_15
theorem aX12_handed_21 : dc_at cX12_handed 21 sX12_handed_21 := dc_n3 aX12_handed_18
theorem aX12_handed_22 : dc_at cX12_handed 22 sX12_handed_22 := dc_n1 aX12_handed_21
theorem aX12_handed_23 : dc_at cX12_handed 23 sX12_handed_23 := dc_n1 aX12_handed_22
theorem aX12_handed_26 : dc_at cX12_handed 26 sX12_handed_26 := dc_n3 aX12_handed_23
theorem aX12_handed_29 : dc_at cX12_handed 29 sX12_handed_29 := dc_n3 aX12_handed_26
theorem aX12_handed_30 : dc_at cX12_handed 30 sX12_handed_30 := dc_n1 aX12_handed_29
theorem aX12_handed_31 : dc_at cX12_handed 31 sX12_handed_31 := dc_n1 aX12_handed_30
theorem aX12_handed_32 : dc_at cX12_handed 32 sX12_handed_32 := dc_n1 aX12_handed_31
theorem aX12_handed_34 : dc_at cX12_handed 34 sX12_handed_34 := dc_n2 aX12_handed_32
theorem aX12_handed_35 : dc_at cX12_handed 35 sX12_handed_35 := dc_n1 aX12_handed_34
theorem aX12_handed_37 : dc_at cX12_handed 37 sX12_handed_37 := dc_n2 aX12_handed_35
theorem aX12_handed_39 : dc_at cX12_handed 39 sX12_handed_39 := dc_n2 aX12_handed_37
theorem aX12_handed_42 : dc_at cX12_handed 42 sX12_handed_42 := dc_n3 aX12_handed_39
theorem aX12_handed_45 : dc_at cX12_handed 45 sX12_handed_45 := dc_n3 aX12_handed_42
theorem aX12_handed_46 : dc_at cX12_handed 46 sX12_handed_46 := dc_n1 aX12_handed_45
theorem aX12_handed_49 : dc_at cX12_handed 49 sX12_handed_49 := dc_n3 aX12_handed_46
theorem aX12_handed_52 : dc_at cX12_handed 52 sX12_handed_52 := dc_n3 aX12_handed_49
theorem aX12_handed_53 : dc_at cX12_handed 53 sX12_handed_53 := dc_n1 aX12_handed_52
theorem aX12_handed_54 : dc_at cX12_handed 54 sX12_handed_54 := dc_n1 aX12_handed_53
theorem aX12_handed_56 : dc_at cX12_handed 56 sX12_handed_56 := dc_n2 aX12_handed_54
theorem aX12_handed_57 : dc_at cX12_handed 57 sX12_handed_57 := dc_n1 aX12_handed_56
theorem aX12_handed_58 : dc_at cX12_handed 58 sX12_handed_58 := dc_n1 aX12_handed_57
theorem aX12_handed_60 : dc_at cX12_handed 60 sX12_handed_60 := dc_n2 aX12_handed_58
theorem aX12_handed_61 : dc_at cX12_handed 61 sX12_handed_61 := dc_n1 aX12_handed_60
theorem aX12_handed_64 : dc_at cX12_handed 64 sX12_handed_64 := dc_n3 aX12_handed_61
theorem aX12_handed_67 : dc_at cX12_handed 67 sX12_handed_67 := dc_n3 aX12_handed_64
theorem aX12_handed_68 : dc_at cX12_handed 68 sX12_handed_68 := dc_n1 aX12_handed_67
theorem aX12_handed_69 : dc_at cX12_handed 69 sX12_handed_69 := dc_n1 aX12_handed_68
theorem aX12_handed_71 : dc_at cX12_handed 71 sX12_handed_71 := dc_n2 aX12_handed_69
theorem aX12_handed_72 : dc_at cX12_handed 72 sX12_handed_72 := dc_n1 aX12_handed_71
theorem aX12_handed_73 : dc_at cX12_handed 73 sX12_handed_73 := dc_n1 aX12_handed_72
theorem aX12_handed_75 : dc_at cX12_handed 75 sX12_handed_75 := dc_n2 aX12_handed_73
theorem aX12_handed_76 : dc_at cX12_handed 76 sX12_handed_76 := dc_n1 aX12_handed_75
theorem aX12_handed_79 : dc_at cX12_handed 79 sX12_handed_79 := dc_n3 aX12_handed_76
theorem aX12_handed_82 : dc_at cX12_handed 82 sX12_handed_82 := dc_n3 aX12_handed_79
theorem aX12_handed_83 : dc_at cX12_handed 83 sX12_handed_83 := dc_n1 aX12_handed_82
theorem aX12_handed_84 : dc_at cX12_handed 84 sX12_handed_84 := dc_n1 aX12_handed_83
theorem aX12_handed_86 : dc_at cX12_handed 86 sX12_handed_86 := dc_n2 aX12_handed_84
theorem aX12_handed_87 : dc_at cX12_handed 87 sX12_handed_87 := dc_n1 aX12_handed_86
theorem aX12_handed_88 : dc_at cX12_handed 88 sX12_handed_88 := dc_n1 aX12_handed_87
theorem aX12_handed_90 : dc_at cX12_handed 90 sX12_handed_90 := dc_n2 aX12_handed_88
theorem aX12_handed_92 : dc_at cX12_handed 92 sX12_handed_92 := dc_n2 aX12_handed_90
theorem aX12_handed_93 : dc_at cX12_handed 93 sX12_handed_93 := dc_n1 aX12_handed_92
theorem aX12_handed_96 : dc_at cX12_handed 96 sX12_handed_96 := dc_n3 aX12_handed_93
theorem aX12_handed_98 : dc_at cX12_handed 98 sX12_handed_98 := dc_n2 aX12_handed_96
theorem aX12_handed_100 : dc_at cX12_handed 100 sX12_handed_100 := dc_n2 aX12_handed_98
theorem aX12_handed_103 : dc_at cX12_handed 103 sX12_handed_103 := dc_n3 aX12_handed_100
theorem aX12_handed_105 : dc_at cX12_handed 105 sX12_handed_105 := dc_n2 aX12_handed_103
theorem aX12_handed_106 : dc_at cX12_handed 106 sX12_handed_106 := dc_n1 aX12_handed_105
theorem aX12_handed_109 : dc_at cX12_handed 109 sX12_handed_109 := dc_n3 aX12_handed_106
theorem aX12_handed_111 : dc_at cX12_handed 111 sX12_handed_111 := dc_n2 aX12_handed_109
theorem aX12_handed_113 : dc_at cX12_handed 113 sX12_handed_113 := dc_n2 aX12_handed_111
theorem aX12_handed_116 : dc_at cX12_handed 116 sX12_handed_116 := dc_n3 aX12_handed_113
theorem aX12_handed_119 : dc_at cX12_handed 119 sX12_handed_119 := dc_n3 aX12_handed_116
theorem aX12_handed_122 : dc_at cX12_handed 122 sX12_handed_122 := dc_n3 aX12_handed_119
theorem aX12_handed_125 : dc_at cX12_handed 125 sX12_handed_125 := dc_n3 aX12_handed_122
theorem aX12_handed_127 : dc_at cX12_handed 127 sX12_handed_127 := dc_n2 aX12_handed_125
theorem dX12_handed_0 : decode cX12_handed 0 = .ok (.aload_n 0, 1) := dc_42 aX12_handed_0
theorem dX12_handed_1 : decode cX12_handed 1 = .ok (.iconst 0, 1) := dc_3 aX12_handed_1
theorem dX12_handed_2 : decode cX12_handed 2 = .ok (.putfield 129, 3) := dc_181 (a0 := 0) (b0 := 129) aX12_handed_2
theorem dX12_handed_5 : decode cX12_handed 5 = .ok (.aload_n 0, 1) := dc_42 aX12_handed_5
theorem dX12_handed_6 : decode cX12_handed 6 = .ok (.iload_n 1, 1) := dc_27 aX12_handed_6
theorem dX12_handed_7 : decode cX12_handed 7 = .ok (.invokevirtual 338, 3) := dc_182 (a0 := 1) (b0 := 82) aX12_handed_7
theorem dX12_handed_10 : decode cX12_handed 10 = .ok (.ifCond .eq 19, 3) := dc_153 (a0 := 0) (b0 := 19) aX12_handed_10 (by decide)
theorem dX12_handed_13 : decode cX12_handed 13 = .ok (.aload_n 0, 1) := dc_42 aX12_handed_13
theorem dX12_handed_14 : decode cX12_handed 14 = .ok (.iload_n 2, 1) := dc_28 aX12_handed_14
theorem dX12_handed_15 : decode cX12_handed 15 = .ok (.invokevirtual 338, 3) := dc_182 (a0 := 1) (b0 := 82) aX12_handed_15
theorem dX12_handed_18 : decode cX12_handed 18 = .ok (.ifCond .eq 11, 3) := dc_153 (a0 := 0) (b0 := 11) aX12_handed_18 (by decide)
theorem dX12_handed_21 : decode cX12_handed 21 = .ok (.aload_n 0, 1) := dc_42 aX12_handed_21
theorem dX12_handed_22 : decode cX12_handed 22 = .ok (.iload_n 3, 1) := dc_29 aX12_handed_22
theorem dX12_handed_23 : decode cX12_handed 23 = .ok (.invokevirtual 338, 3) := dc_182 (a0 := 1) (b0 := 82) aX12_handed_23
theorem dX12_handed_26 : decode cX12_handed 26 = .ok (.ifCond .ne 5, 3) := dc_154 (a0 := 0) (b0 := 5) aX12_handed_26 (by decide)
theorem dX12_handed_29 : decode cX12_handed 29 = .ok (.iconst 0, 1) := dc_3 aX12_handed_29
theorem dX12_handed_30 : decode cX12_handed 30 = .ok (.ireturn, 1) := dc_172 aX12_handed_30
theorem dX12_handed_31 : decode cX12_handed 31 = .ok (.iconst 0, 1) := dc_3 aX12_handed_31
theorem dX12_handed_32 : decode cX12_handed 32 = .ok (.istore 4, 2) := dc_54 (a0 := 4) aX12_handed_32
theorem dX12_handed_34 : decode cX12_handed 34 = .ok (.iconst 0, 1) := dc_3 aX12_handed_34
theorem dX12_handed_35 : decode cX12_handed 35 = .ok (.istore 5, 2) := dc_54 (a0 := 5) aX12_handed_35
theorem dX12_handed_37 : decode cX12_handed 37 = .ok (.iload 5, 2) := dc_21 (a0 := 5) aX12_handed_37
theorem dX12_handed_39 : decode cX12_handed 39 = .ok (.sipush 440, 3) := dc_17 (a0 := 1) (b0 := 184) aX12_handed_39 (by decide)
theorem dX12_handed_42 : decode cX12_handed 42 = .ok (.if_icmp .ge 83, 3) := dc_162 (a0 := 0) (b0 := 83) aX12_handed_42 (by decide)
theorem dX12_handed_45 : decode cX12_handed 45 = .ok (.aload_n 0, 1) := dc_42 aX12_handed_45
theorem dX12_handed_46 : decode cX12_handed 46 = .ok (.getfield 31, 3) := dc_180 (a0 := 0) (b0 := 31) aX12_handed_46
theorem dX12_handed_49 : decode cX12_handed 49 = .ok (.sipush 440, 3) := dc_17 (a0 := 1) (b0 := 184) aX12_handed_49 (by decide)
theorem dX12_handed_52 : decode cX12_handed 52 = .ok (.iload_n 1, 1) := dc_27 aX12_handed_52
theorem dX12_handed_53 : decode cX12_handed 53 = .ok (.imul, 1) := dc_104 aX12_handed_53
theorem dX12_handed_54 : decode cX12_handed 54 = .ok (.iload 5, 2) := dc_21 (a0 := 5) aX12_handed_54
theorem dX12_handed_56 : decode cX12_handed 56 = .ok (.iadd, 1) := dc_96 aX12_handed_56
theorem dX12_handed_57 : decode cX12_handed 57 = .ok (.iaload, 1) := dc_46 aX12_handed_57
theorem dX12_handed_58 : decode cX12_handed 58 = .ok (.istore 6, 2) := dc_54 (a0 := 6) aX12_handed_58
theorem dX12_handed_60 : decode cX12_handed 60 = .ok (.aload_n 0, 1) := dc_42 aX12_handed_60
theorem dX12_handed_61 : decode cX12_handed 61 = .ok (.getfield 31, 3) := dc_180 (a0 := 0) (b0 := 31) aX12_handed_61
theorem dX12_handed_64 : decode cX12_handed 64 = .ok (.sipush 440, 3) := dc_17 (a0 := 1) (b0 := 184) aX12_handed_64 (by decide)
theorem dX12_handed_67 : decode cX12_handed 67 = .ok (.iload_n 2, 1) := dc_28 aX12_handed_67
theorem dX12_handed_68 : decode cX12_handed 68 = .ok (.imul, 1) := dc_104 aX12_handed_68
theorem dX12_handed_69 : decode cX12_handed 69 = .ok (.iload 5, 2) := dc_21 (a0 := 5) aX12_handed_69
theorem dX12_handed_71 : decode cX12_handed 71 = .ok (.iadd, 1) := dc_96 aX12_handed_71
theorem dX12_handed_72 : decode cX12_handed 72 = .ok (.iaload, 1) := dc_46 aX12_handed_72
theorem dX12_handed_73 : decode cX12_handed 73 = .ok (.istore 7, 2) := dc_54 (a0 := 7) aX12_handed_73
theorem dX12_handed_75 : decode cX12_handed 75 = .ok (.aload_n 0, 1) := dc_42 aX12_handed_75
theorem dX12_handed_76 : decode cX12_handed 76 = .ok (.getfield 31, 3) := dc_180 (a0 := 0) (b0 := 31) aX12_handed_76
theorem dX12_handed_79 : decode cX12_handed 79 = .ok (.sipush 440, 3) := dc_17 (a0 := 1) (b0 := 184) aX12_handed_79 (by decide)
theorem dX12_handed_82 : decode cX12_handed 82 = .ok (.iload_n 3, 1) := dc_29 aX12_handed_82
theorem dX12_handed_83 : decode cX12_handed 83 = .ok (.imul, 1) := dc_104 aX12_handed_83
theorem dX12_handed_84 : decode cX12_handed 84 = .ok (.iload 5, 2) := dc_21 (a0 := 5) aX12_handed_84
theorem dX12_handed_86 : decode cX12_handed 86 = .ok (.iadd, 1) := dc_96 aX12_handed_86
theorem dX12_handed_87 : decode cX12_handed 87 = .ok (.iaload, 1) := dc_46 aX12_handed_87
theorem dX12_handed_88 : decode cX12_handed 88 = .ok (.istore 8, 2) := dc_54 (a0 := 8) aX12_handed_88
theorem dX12_handed_90 : decode cX12_handed 90 = .ok (.iload 6, 2) := dc_21 (a0 := 6) aX12_handed_90
theorem dX12_handed_92 : decode cX12_handed 92 = .ok (.iconst (-1), 1) := dc_2 aX12_handed_92
theorem dX12_handed_93 : decode cX12_handed 93 = .ok (.if_icmp .eq 26, 3) := dc_159 (a0 := 0) (b0 := 26) aX12_handed_93 (by decide)
theorem dX12_handed_96 : decode cX12_handed 96 = .ok (.iload 6, 2) := dc_21 (a0 := 6) aX12_handed_96
theorem dX12_handed_98 : decode cX12_handed 98 = .ok (.iload 7, 2) := dc_21 (a0 := 7) aX12_handed_98
theorem dX12_handed_100 : decode cX12_handed 100 = .ok (.if_icmp .ne 19, 3) := dc_160 (a0 := 0) (b0 := 19) aX12_handed_100 (by decide)
theorem dX12_handed_103 : decode cX12_handed 103 = .ok (.iload 8, 2) := dc_21 (a0 := 8) aX12_handed_103
theorem dX12_handed_105 : decode cX12_handed 105 = .ok (.iconst (-1), 1) := dc_2 aX12_handed_105
theorem dX12_handed_106 : decode cX12_handed 106 = .ok (.if_icmp .eq 13, 3) := dc_159 (a0 := 0) (b0 := 13) aX12_handed_106 (by decide)
theorem dX12_handed_109 : decode cX12_handed 109 = .ok (.iload 8, 2) := dc_21 (a0 := 8) aX12_handed_109
theorem dX12_handed_111 : decode cX12_handed 111 = .ok (.iload 6, 2) := dc_21 (a0 := 6) aX12_handed_111
theorem dX12_handed_113 : decode cX12_handed 113 = .ok (.if_icmp .eq 6, 3) := dc_159 (a0 := 0) (b0 := 6) aX12_handed_113 (by decide)
theorem dX12_handed_116 : decode cX12_handed 116 = .ok (.iinc 4 1, 3) := dc_132 (a0 := 4) (a1 := 1) aX12_handed_116 (by decide)
theorem dX12_handed_119 : decode cX12_handed 119 = .ok (.iinc 5 1, 3) := dc_132 (a0 := 5) (a1 := 1) aX12_handed_119 (by decide)
theorem dX12_handed_122 : decode cX12_handed 122 = .ok (.goto (-85), 3) := dc_167 (a0 := 255) (b0 := 171) aX12_handed_122 (by decide)
theorem dX12_handed_125 : decode cX12_handed 125 = .ok (.iload 4, 2) := dc_21 (a0 := 4) aX12_handed_125
theorem dX12_handed_127 : decode cX12_handed 127 = .ok (.ireturn, 1) := dc_172 aX12_handed_127
noncomputable def sX12_leafAt_36 : List Nat := 172 :: []
noncomputable def sX12_leafAt_35 : List Nat := 2 :: sX12_leafAt_36
noncomputable def sX12_leafAt_32 : List Nat := 167 :: 255 :: 226 :: sX12_leafAt_35
noncomputable def sX12_leafAt_29 : List Nat := 132 :: 3 :: 1 :: sX12_leafAt_32
noncomputable def sX12_leafAt_28 : List Nat := 172 :: sX12_leafAt_29
noncomputable def sX12_leafAt_27 : List Nat := 29 :: sX12_leafAt_28
noncomputable def sX12_leafAt_24 : List Nat := 160 :: 0 :: 5 :: sX12_leafAt_27
noncomputable def sX12_leafAt_23 : List Nat := 28 :: sX12_leafAt_24
noncomputable def sX12_leafAt_22 : List Nat := 46 :: sX12_leafAt_23
noncomputable def sX12_leafAt_21 : List Nat := 96 :: sX12_leafAt_22
noncomputable def sX12_leafAt_20 : List Nat := 29 :: sX12_leafAt_21
noncomputable def sX12_leafAt_19 : List Nat := 104 :: sX12_leafAt_20
noncomputable def sX12_leafAt_18 : List Nat := 27 :: sX12_leafAt_19
noncomputable def sX12_leafAt_16 : List Nat := 16 :: 20 :: sX12_leafAt_18
noncomputable def sX12_leafAt_13 : List Nat := 180 :: 0 :: 102 :: sX12_leafAt_16
noncomputable def sX12_leafAt_12 : List Nat := 42 :: sX12_leafAt_13
noncomputable def sX12_leafAt_9 : List Nat := 162 :: 0 :: 26 :: sX12_leafAt_12
noncomputable def sX12_leafAt_8 : List Nat := 46 :: sX12_leafAt_9
noncomputable def sX12_leafAt_7 : List Nat := 27 :: sX12_leafAt_8
noncomputable def sX12_leafAt_4 : List Nat := 180 :: 0 :: 99 :: sX12_leafAt_7
noncomputable def sX12_leafAt_3 : List Nat := 42 :: sX12_leafAt_4
noncomputable def sX12_leafAt_2 : List Nat := 29 :: sX12_leafAt_3
noncomputable def sX12_leafAt_1 : List Nat := 62 :: sX12_leafAt_2
noncomputable def sX12_leafAt_0 : List Nat := 3 :: sX12_leafAt_1
theorem aX12_leafAt_0 : dc_at cX12_leafAt 0 sX12_leafAt_0 := dc_base (by decide +kernel)
theorem aX12_leafAt_1 : dc_at cX12_leafAt 1 sX12_leafAt_1 := dc_n1 aX12_leafAt_0
theorem aX12_leafAt_2 : dc_at cX12_leafAt 2 sX12_leafAt_2 := dc_n1 aX12_leafAt_1
theorem aX12_leafAt_3 : dc_at cX12_leafAt 3 sX12_leafAt_3 := dc_n1 aX12_leafAt_2
theorem aX12_leafAt_4 : dc_at cX12_leafAt 4 sX12_leafAt_4 := dc_n1 aX12_leafAt_3
theorem aX12_leafAt_7 : dc_at cX12_leafAt 7 sX12_leafAt_7 := dc_n3 aX12_leafAt_4
theorem aX12_leafAt_8 : dc_at cX12_leafAt 8 sX12_leafAt_8 := dc_n1 aX12_leafAt_7
theorem aX12_leafAt_9 : dc_at cX12_leafAt 9 sX12_leafAt_9 := dc_n1 aX12_leafAt_8
theorem aX12_leafAt_12 : dc_at cX12_leafAt 12 sX12_leafAt_12 := dc_n3 aX12_leafAt_9
theorem aX12_leafAt_13 : dc_at cX12_leafAt 13 sX12_leafAt_13 := dc_n1 aX12_leafAt_12
theorem aX12_leafAt_16 : dc_at cX12_leafAt 16 sX12_leafAt_16 := dc_n3 aX12_leafAt_13
theorem aX12_leafAt_18 : dc_at cX12_leafAt 18 sX12_leafAt_18 := dc_n2 aX12_leafAt_16
theorem aX12_leafAt_19 : dc_at cX12_leafAt 19 sX12_leafAt_19 := dc_n1 aX12_leafAt_18
theorem aX12_leafAt_20 : dc_at cX12_leafAt 20 sX12_leafAt_20 := dc_n1 aX12_leafAt_19
theorem aX12_leafAt_21 : dc_at cX12_leafAt 21 sX12_leafAt_21 := dc_n1 aX12_leafAt_20
theorem aX12_leafAt_22 : dc_at cX12_leafAt 22 sX12_leafAt_22 := dc_n1 aX12_leafAt_21
theorem aX12_leafAt_23 : dc_at cX12_leafAt 23 sX12_leafAt_23 := dc_n1 aX12_leafAt_22
theorem aX12_leafAt_24 : dc_at cX12_leafAt 24 sX12_leafAt_24 := dc_n1 aX12_leafAt_23
theorem aX12_leafAt_27 : dc_at cX12_leafAt 27 sX12_leafAt_27 := dc_n3 aX12_leafAt_24
theorem aX12_leafAt_28 : dc_at cX12_leafAt 28 sX12_leafAt_28 := dc_n1 aX12_leafAt_27
theorem aX12_leafAt_29 : dc_at cX12_leafAt 29 sX12_leafAt_29 := dc_n1 aX12_leafAt_28
theorem aX12_leafAt_32 : dc_at cX12_leafAt 32 sX12_leafAt_32 := dc_n3 aX12_leafAt_29
theorem aX12_leafAt_35 : dc_at cX12_leafAt 35 sX12_leafAt_35 := dc_n3 aX12_leafAt_32
theorem aX12_leafAt_36 : dc_at cX12_leafAt 36 sX12_leafAt_36 := dc_n1 aX12_leafAt_35
theorem dX12_leafAt_0 : decode cX12_leafAt 0 = .ok (.iconst 0, 1) := dc_3 aX12_leafAt_0
theorem dX12_leafAt_1 : decode cX12_leafAt 1 = .ok (.istore_n 3, 1) := dc_62 aX12_leafAt_1
theorem dX12_leafAt_2 : decode cX12_leafAt 2 = .ok (.iload_n 3, 1) := dc_29 aX12_leafAt_2
theorem dX12_leafAt_3 : decode cX12_leafAt 3 = .ok (.aload_n 0, 1) := dc_42 aX12_leafAt_3
theorem dX12_leafAt_4 : decode cX12_leafAt 4 = .ok (.getfield 99, 3) := dc_180 (a0 := 0) (b0 := 99) aX12_leafAt_4
theorem dX12_leafAt_7 : decode cX12_leafAt 7 = .ok (.iload_n 1, 1) := dc_27 aX12_leafAt_7
theorem dX12_leafAt_8 : decode cX12_leafAt 8 = .ok (.iaload, 1) := dc_46 aX12_leafAt_8
theorem dX12_leafAt_9 : decode cX12_leafAt 9 = .ok (.if_icmp .ge 26, 3) := dc_162 (a0 := 0) (b0 := 26) aX12_leafAt_9 (by decide)
theorem dX12_leafAt_12 : decode cX12_leafAt 12 = .ok (.aload_n 0, 1) := dc_42 aX12_leafAt_12
theorem dX12_leafAt_13 : decode cX12_leafAt 13 = .ok (.getfield 102, 3) := dc_180 (a0 := 0) (b0 := 102) aX12_leafAt_13
theorem dX12_leafAt_16 : decode cX12_leafAt 16 = .ok (.bipush 20, 2) := dc_16 (a0 := 20) aX12_leafAt_16 (by decide)
theorem dX12_leafAt_18 : decode cX12_leafAt 18 = .ok (.iload_n 1, 1) := dc_27 aX12_leafAt_18
theorem dX12_leafAt_19 : decode cX12_leafAt 19 = .ok (.imul, 1) := dc_104 aX12_leafAt_19
theorem dX12_leafAt_20 : decode cX12_leafAt 20 = .ok (.iload_n 3, 1) := dc_29 aX12_leafAt_20
theorem dX12_leafAt_21 : decode cX12_leafAt 21 = .ok (.iadd, 1) := dc_96 aX12_leafAt_21
theorem dX12_leafAt_22 : decode cX12_leafAt 22 = .ok (.iaload, 1) := dc_46 aX12_leafAt_22
theorem dX12_leafAt_23 : decode cX12_leafAt 23 = .ok (.iload_n 2, 1) := dc_28 aX12_leafAt_23
theorem dX12_leafAt_24 : decode cX12_leafAt 24 = .ok (.if_icmp .ne 5, 3) := dc_160 (a0 := 0) (b0 := 5) aX12_leafAt_24 (by decide)
theorem dX12_leafAt_27 : decode cX12_leafAt 27 = .ok (.iload_n 3, 1) := dc_29 aX12_leafAt_27
theorem dX12_leafAt_28 : decode cX12_leafAt 28 = .ok (.ireturn, 1) := dc_172 aX12_leafAt_28
theorem dX12_leafAt_29 : decode cX12_leafAt 29 = .ok (.iinc 3 1, 3) := dc_132 (a0 := 3) (a1 := 1) aX12_leafAt_29 (by decide)
theorem dX12_leafAt_32 : decode cX12_leafAt 32 = .ok (.goto (-30), 3) := dc_167 (a0 := 255) (b0 := 226) aX12_leafAt_32 (by decide)
theorem dX12_leafAt_35 : decode cX12_leafAt 35 = .ok (.iconst (-1), 1) := dc_2 aX12_leafAt_35
theorem dX12_leafAt_36 : decode cX12_leafAt 36 = .ok (.ireturn, 1) := dc_172 aX12_leafAt_36
set_option maxRecDepth 20000 in
theorem ggX12_leaf_X12_isWheel : GoodIn wsX12_leaf wsX12_isWheel := goodIn_k _ [[7, 0, 0, 0, 0], [6, 5, 4, 0, 0, 0, 0, 0, 0, 0, 0, 0, 0, 0, 0, 0, 0, 0, 0, 0, 0, 0, 0, 0, 0, 0, 0, 0, 0, 0, 0, 0, 0, 0, 0, 0, 0, 0, 0, 0, 0, 0, 0, 0, 0, 0, 0, 0, 0, 0, 0, 0, 0, 0, 0, 0, 0, 0, 0, 0]] (by rfl) (by decide +kernel)
set_option maxRecDepth 20000 in
theorem gX12_leaf_X12_isWheel : GoodIn wsX12_leaf (wsV RX12 247 RX12 yX12_isWheel wsX12_isWheel) := goodIn_app (goodIn_of _ (by decide +kernel)) ggX12_leaf_X12_isWheel
set_option maxRecDepth 20000 in
theorem ggX12_leaf_X12_leafAt : GoodIn wsX12_leaf wsX12_leafAt := goodIn_k _ [[16], [2], [1, 15, 0, 0, 0, 0, 0, 0, 0, 0, 0, 0, 0, 0, 0, 0, 0, 0, 0, 0, 0, 0, 0, 0, 0, 0, 0, 0, 0, 0, 0, 0, 0, 0, 0, 0, 0, 0, 0, 0, 0, 0, 0, 0, 0, 0, 0, 0, 0, 0, 0, 0, 0, 0, 0, 0, 0, 0, 0]] (by rfl) (by decide +kernel)
set_option maxRecDepth 20000 in
theorem gX12_leaf_X12_leafAt : GoodIn wsX12_leaf (wsV RX12 353 RX12 yX12_leafAt wsX12_leafAt) := goodIn_app (goodIn_of _ (by decide +kernel)) ggX12_leaf_X12_leafAt
noncomputable def sX12_leaf_56 : List Nat := 172 :: []
noncomputable def sX12_leaf_55 : List Nat := 46 :: sX12_leaf_56
noncomputable def sX12_leaf_54 : List Nat := 27 :: sX12_leaf_55
noncomputable def sX12_leaf_51 : List Nat := 180 :: 0 :: 99 :: sX12_leaf_54
noncomputable def sX12_leaf_50 : List Nat := 42 :: sX12_leaf_51
noncomputable def sX12_leaf_49 : List Nat := 79 :: sX12_leaf_50
noncomputable def sX12_leaf_48 : List Nat := 96 :: sX12_leaf_49
noncomputable def sX12_leaf_47 : List Nat := 4 :: sX12_leaf_48
noncomputable def sX12_leaf_46 : List Nat := 46 :: sX12_leaf_47
noncomputable def sX12_leaf_45 : List Nat := 92 :: sX12_leaf_46
noncomputable def sX12_leaf_44 : List Nat := 27 :: sX12_leaf_45
noncomputable def sX12_leaf_41 : List Nat := 180 :: 0 :: 99 :: sX12_leaf_44
noncomputable def sX12_leaf_40 : List Nat := 42 :: sX12_leaf_41
noncomputable def sX12_leaf_39 : List Nat := 79 :: sX12_leaf_40
noncomputable def sX12_leaf_38 : List Nat := 28 :: sX12_leaf_39
noncomputable def sX12_leaf_37 : List Nat := 96 :: sX12_leaf_38
noncomputable def sX12_leaf_36 : List Nat := 46 :: sX12_leaf_37
noncomputable def sX12_leaf_35 : List Nat := 27 :: sX12_leaf_36
noncomputable def sX12_leaf_32 : List Nat := 180 :: 0 :: 99 :: sX12_leaf_35
noncomputable def sX12_leaf_31 : List Nat := 42 :: sX12_leaf_32
noncomputable def sX12_leaf_30 : List Nat := 104 :: sX12_leaf_31
noncomputable def sX12_leaf_29 : List Nat := 27 :: sX12_leaf_30
noncomputable def sX12_leaf_27 : List Nat := 16 :: 20 :: sX12_leaf_29
noncomputable def sX12_leaf_24 : List Nat := 180 :: 0 :: 102 :: sX12_leaf_27
noncomputable def sX12_leaf_23 : List Nat := 42 :: sX12_leaf_24
noncomputable def sX12_leaf_22 : List Nat := 172 :: sX12_leaf_23
noncomputable def sX12_leaf_21 : List Nat := 2 :: sX12_leaf_22
noncomputable def sX12_leaf_18 : List Nat := 159 :: 0 :: 5 :: sX12_leaf_21
noncomputable def sX12_leaf_17 : List Nat := 2 :: sX12_leaf_18
noncomputable def sX12_leaf_14 : List Nat := 182 :: 1 :: 97 :: sX12_leaf_17
noncomputable def sX12_leaf_13 : List Nat := 28 :: sX12_leaf_14
noncomputable def sX12_leaf_12 : List Nat := 27 :: sX12_leaf_13
noncomputable def sX12_leaf_11 : List Nat := 42 :: sX12_leaf_12
noncomputable def sX12_leaf_10 : List Nat := 172 :: sX12_leaf_11
noncomputable def sX12_leaf_9 : List Nat := 3 :: sX12_leaf_10
noncomputable def sX12_leaf_6 : List Nat := 154 :: 0 :: 5 :: sX12_leaf_9
noncomputable def sX12_leaf_3 : List Nat := 182 :: 0 :: 247 :: sX12_leaf_6
noncomputable def sX12_leaf_2 : List Nat := 28 :: sX12_leaf_3
noncomputable def sX12_leaf_1 : List Nat := 27 :: sX12_leaf_2
noncomputable def sX12_leaf_0 : List Nat := 42 :: sX12_leaf_1
theorem aX12_leaf_0 : dc_at cX12_leaf 0 sX12_leaf_0 := dc_base (by decide +kernel)
theorem aX12_leaf_1 : dc_at cX12_leaf 1 sX12_leaf_1 := dc_n1 aX12_leaf_0
theorem aX12_leaf_2 : dc_at cX12_leaf 2 sX12_leaf_2 := dc_n1 aX12_leaf_1
theorem aX12_leaf_3 : dc_at cX12_leaf 3 sX12_leaf_3 := dc_n1 aX12_leaf_2
theorem aX12_leaf_6 : dc_at cX12_leaf 6 sX12_leaf_6 := dc_n3 aX12_leaf_3
theorem aX12_leaf_9 : dc_at cX12_leaf 9 sX12_leaf_9 := dc_n3 aX12_leaf_6
theorem aX12_leaf_10 : dc_at cX12_leaf 10 sX12_leaf_10 := dc_n1 aX12_leaf_9
theorem aX12_leaf_11 : dc_at cX12_leaf 11 sX12_leaf_11 := dc_n1 aX12_leaf_10
theorem aX12_leaf_12 : dc_at cX12_leaf 12 sX12_leaf_12 := dc_n1 aX12_leaf_11
theorem aX12_leaf_13 : dc_at cX12_leaf 13 sX12_leaf_13 := dc_n1 aX12_leaf_12
theorem aX12_leaf_14 : dc_at cX12_leaf 14 sX12_leaf_14 := dc_n1 aX12_leaf_13
theorem aX12_leaf_17 : dc_at cX12_leaf 17 sX12_leaf_17 := dc_n3 aX12_leaf_14
theorem aX12_leaf_18 : dc_at cX12_leaf 18 sX12_leaf_18 := dc_n1 aX12_leaf_17
theorem aX12_leaf_21 : dc_at cX12_leaf 21 sX12_leaf_21 := dc_n3 aX12_leaf_18
theorem aX12_leaf_22 : dc_at cX12_leaf 22 sX12_leaf_22 := dc_n1 aX12_leaf_21
theorem aX12_leaf_23 : dc_at cX12_leaf 23 sX12_leaf_23 := dc_n1 aX12_leaf_22
theorem aX12_leaf_24 : dc_at cX12_leaf 24 sX12_leaf_24 := dc_n1 aX12_leaf_23
theorem aX12_leaf_27 : dc_at cX12_leaf 27 sX12_leaf_27 := dc_n3 aX12_leaf_24
theorem aX12_leaf_29 : dc_at cX12_leaf 29 sX12_leaf_29 := dc_n2 aX12_leaf_27
theorem aX12_leaf_30 : dc_at cX12_leaf 30 sX12_leaf_30 := dc_n1 aX12_leaf_29
theorem aX12_leaf_31 : dc_at cX12_leaf 31 sX12_leaf_31 := dc_n1 aX12_leaf_30
theorem aX12_leaf_32 : dc_at cX12_leaf 32 sX12_leaf_32 := dc_n1 aX12_leaf_31
theorem aX12_leaf_35 : dc_at cX12_leaf 35 sX12_leaf_35 := dc_n3 aX12_leaf_32
theorem aX12_leaf_36 : dc_at cX12_leaf 36 sX12_leaf_36 := dc_n1 aX12_leaf_35
theorem aX12_leaf_37 : dc_at cX12_leaf 37 sX12_leaf_37 := dc_n1 aX12_leaf_36
theorem aX12_leaf_38 : dc_at cX12_leaf 38 sX12_leaf_38 := dc_n1 aX12_leaf_37
theorem aX12_leaf_39 : dc_at cX12_leaf 39 sX12_leaf_39 := dc_n1 aX12_leaf_38
theorem aX12_leaf_40 : dc_at cX12_leaf 40 sX12_leaf_40 := dc_n1 aX12_leaf_39
theorem aX12_leaf_41 : dc_at cX12_leaf 41 sX12_leaf_41 := dc_n1 aX12_leaf_40
theorem aX12_leaf_44 : dc_at cX12_leaf 44 sX12_leaf_44 := dc_n3 aX12_leaf_41
theorem aX12_leaf_45 : dc_at cX12_leaf 45 sX12_leaf_45 := dc_n1 aX12_leaf_44
theorem aX12_leaf_46 : dc_at cX12_leaf 46 sX12_leaf_46 := dc_n1 aX12_leaf_45
theorem aX12_leaf_47 : dc_at cX12_leaf 47 sX12_leaf_47 := dc_n1 aX12_leaf_46
theorem aX12_leaf_48 : dc_at cX12_leaf 48 sX12_leaf_48 := dc_n1 aX12_leaf_47
theorem aX12_leaf_49 : dc_at cX12_leaf 49 sX12_leaf_49 := dc_n1 aX12_leaf_48
theorem aX12_leaf_50 : dc_at cX12_leaf 50 sX12_leaf_50 := dc_n1 aX12_leaf_49
theorem aX12_leaf_51 : dc_at cX12_leaf 51 sX12_leaf_51 := dc_n1 aX12_leaf_50
theorem aX12_leaf_54 : dc_at cX12_leaf 54 sX12_leaf_54 := dc_n3 aX12_leaf_51
theorem aX12_leaf_55 : dc_at cX12_leaf 55 sX12_leaf_55 := dc_n1 aX12_leaf_54
theorem aX12_leaf_56 : dc_at cX12_leaf 56 sX12_leaf_56 := dc_n1 aX12_leaf_55
theorem dX12_leaf_0 : decode cX12_leaf 0 = .ok (.aload_n 0, 1) := dc_42 aX12_leaf_0
theorem dX12_leaf_1 : decode cX12_leaf 1 = .ok (.iload_n 1, 1) := dc_27 aX12_leaf_1
theorem dX12_leaf_2 : decode cX12_leaf 2 = .ok (.iload_n 2, 1) := dc_28 aX12_leaf_2
theorem dX12_leaf_3 : decode cX12_leaf 3 = .ok (.invokevirtual 247, 3) := dc_182 (a0 := 0) (b0 := 247) aX12_leaf_3
theorem dX12_leaf_6 : decode cX12_leaf 6 = .ok (.ifCond .ne 5, 3) := dc_154 (a0 := 0) (b0 := 5) aX12_leaf_6 (by decide)
theorem dX12_leaf_9 : decode cX12_leaf 9 = .ok (.iconst 0, 1) := dc_3 aX12_leaf_9
theorem dX12_leaf_10 : decode cX12_leaf 10 = .ok (.ireturn, 1) := dc_172 aX12_leaf_10
theorem dX12_leaf_11 : decode cX12_leaf 11 = .ok (.aload_n 0, 1) := dc_42 aX12_leaf_11
theorem dX12_leaf_12 : decode cX12_leaf 12 = .ok (.iload_n 1, 1) := dc_27 aX12_leaf_12
theorem dX12_leaf_13 : decode cX12_leaf 13 = .ok (.iload_n 2, 1) := dc_28 aX12_leaf_13
theorem dX12_leaf_14 : decode cX12_leaf 14 = .ok (.invokevirtual 353, 3) := dc_182 (a0 := 1) (b0 := 97) aX12_leaf_14
theorem dX12_leaf_17 : decode cX12_leaf 17 = .ok (.iconst (-1), 1) := dc_2 aX12_leaf_17
theorem dX12_leaf_18 : decode cX12_leaf 18 = .ok (.if_icmp .eq 5, 3) := dc_159 (a0 := 0) (b0 := 5) aX12_leaf_18 (by decide)
theorem dX12_leaf_21 : decode cX12_leaf 21 = .ok (.iconst (-1), 1) := dc_2 aX12_leaf_21
theorem dX12_leaf_22 : decode cX12_leaf 22 = .ok (.ireturn, 1) := dc_172 aX12_leaf_22
theorem dX12_leaf_23 : decode cX12_leaf 23 = .ok (.aload_n 0, 1) := dc_42 aX12_leaf_23
theorem dX12_leaf_24 : decode cX12_leaf 24 = .ok (.getfield 102, 3) := dc_180 (a0 := 0) (b0 := 102) aX12_leaf_24
theorem dX12_leaf_27 : decode cX12_leaf 27 = .ok (.bipush 20, 2) := dc_16 (a0 := 20) aX12_leaf_27 (by decide)
theorem dX12_leaf_29 : decode cX12_leaf 29 = .ok (.iload_n 1, 1) := dc_27 aX12_leaf_29
theorem dX12_leaf_30 : decode cX12_leaf 30 = .ok (.imul, 1) := dc_104 aX12_leaf_30
theorem dX12_leaf_31 : decode cX12_leaf 31 = .ok (.aload_n 0, 1) := dc_42 aX12_leaf_31
theorem dX12_leaf_32 : decode cX12_leaf 32 = .ok (.getfield 99, 3) := dc_180 (a0 := 0) (b0 := 99) aX12_leaf_32
theorem dX12_leaf_35 : decode cX12_leaf 35 = .ok (.iload_n 1, 1) := dc_27 aX12_leaf_35
theorem dX12_leaf_36 : decode cX12_leaf 36 = .ok (.iaload, 1) := dc_46 aX12_leaf_36
theorem dX12_leaf_37 : decode cX12_leaf 37 = .ok (.iadd, 1) := dc_96 aX12_leaf_37
theorem dX12_leaf_38 : decode cX12_leaf 38 = .ok (.iload_n 2, 1) := dc_28 aX12_leaf_38
theorem dX12_leaf_39 : decode cX12_leaf 39 = .ok (.iastore, 1) := dc_79 aX12_leaf_39
theorem dX12_leaf_40 : decode cX12_leaf 40 = .ok (.aload_n 0, 1) := dc_42 aX12_leaf_40
theorem dX12_leaf_41 : decode cX12_leaf 41 = .ok (.getfield 99, 3) := dc_180 (a0 := 0) (b0 := 99) aX12_leaf_41
theorem dX12_leaf_44 : decode cX12_leaf 44 = .ok (.iload_n 1, 1) := dc_27 aX12_leaf_44
theorem dX12_leaf_45 : decode cX12_leaf 45 = .ok (.dup2, 1) := dc_92 aX12_leaf_45
theorem dX12_leaf_46 : decode cX12_leaf 46 = .ok (.iaload, 1) := dc_46 aX12_leaf_46
theorem dX12_leaf_47 : decode cX12_leaf 47 = .ok (.iconst 1, 1) := dc_4 aX12_leaf_47
theorem dX12_leaf_48 : decode cX12_leaf 48 = .ok (.iadd, 1) := dc_96 aX12_leaf_48
theorem dX12_leaf_49 : decode cX12_leaf 49 = .ok (.iastore, 1) := dc_79 aX12_leaf_49
theorem dX12_leaf_50 : decode cX12_leaf 50 = .ok (.aload_n 0, 1) := dc_42 aX12_leaf_50
theorem dX12_leaf_51 : decode cX12_leaf 51 = .ok (.getfield 99, 3) := dc_180 (a0 := 0) (b0 := 99) aX12_leaf_51
theorem dX12_leaf_54 : decode cX12_leaf 54 = .ok (.iload_n 1, 1) := dc_27 aX12_leaf_54
theorem dX12_leaf_55 : decode cX12_leaf 55 = .ok (.iaload, 1) := dc_46 aX12_leaf_55
theorem dX12_leaf_56 : decode cX12_leaf 56 = .ok (.ireturn, 1) := dc_172 aX12_leaf_56
set_option maxRecDepth 20000 in
theorem ggX12_order_X12_isBook : GoodIn wsX12_order wsX12_isBook := goodIn_k _ [[10, 0, 0, 0], [9, 4], [1, 17, 0, 0, 0, 0, 0, 0, 0, 0, 0, 0, 0, 0, 0, 0, 0, 0, 0, 0, 0, 0, 0, 0, 0, 0, 0, 0, 0, 0, 0, 0, 0, 0, 0, 0, 0, 0, 0, 0, 0, 0, 0, 0, 0, 0, 0, 0, 0, 0, 0, 0, 0, 0, 0, 0, 0, 0, 0]] (by rfl) (by decide +kernel)
set_option maxRecDepth 20000 in
theorem gX12_order_X12_isBook : GoodIn wsX12_order (wsV RX12 338 RX12 yX12_isBook wsX12_isBook) := goodIn_app (goodIn_of _ (by decide +kernel)) ggX12_order_X12_isBook
set_option maxRecDepth 20000 in
theorem ggX12_order_X12_right : GoodIn wsX12_order wsX12_right := goodIn_k _ [[14], [1, 17, 0, 0, 0, 0, 0, 0, 0, 0, 0, 0, 0, 0, 0, 0, 0, 0, 0, 0, 0, 0, 0, 0, 0, 0, 0, 0, 0, 0, 0, 0, 0, 0, 0, 0, 0, 0, 0, 0, 0, 0, 0, 0, 0, 0, 0, 0, 0, 0, 0, 0, 0, 0, 0, 0, 0, 0, 0]] (by rfl) (by decide +kernel)
set_option maxRecDepth 20000 in
theorem gX12_order_X12_right : GoodIn wsX12_order (wsV RX12 209 RX12 yX12_right wsX12_right) := goodIn_app (goodIn_of _ (by decide +kernel)) ggX12_order_X12_right
set_option maxRecDepth 20000 in
theorem ggX12_order_X12_leafAt : GoodIn wsX12_order wsX12_leafAt := goodIn_k _ [[18], [2, 0, 15, 0, 0, 0, 0, 0, 0, 0, 0, 0, 0, 0, 0, 0, 0, 0, 0, 0, 0, 0, 0, 0, 0, 0, 0, 0, 0, 0, 0, 0, 0, 0, 0, 0, 0, 0, 0, 0, 0, 0, 0, 0, 0, 0, 0, 0, 0, 0, 0, 0, 0, 0, 0, 0, 0, 0, 0, 0]] (by rfl) (by decide +kernel)
set_option maxRecDepth 20000 in
theorem gX12_order_X12_leafAt : GoodIn wsX12_order (wsV RX12 353 RX12 yX12_leafAt wsX12_leafAt) := goodIn_app (goodIn_of _ (by decide +kernel)) ggX12_order_X12_leafAt
noncomputable def sX12_order_249 : List Nat := 172 :: []
noncomputable def sX12_order_247 : List Nat := 21 :: 6 :: sX12_order_249
noncomputable def sX12_order_244 : List Nat := 167 :: 0 :: 5 :: sX12_order_247
noncomputable def sX12_order_242 : List Nat := 21 :: 5 :: sX12_order_244
noncomputable def sX12_order_239 : List Nat := 154 :: 0 :: 8 :: sX12_order_242
noncomputable def sX12_order_238 : List Nat := 29 :: sX12_order_239
noncomputable def sX12_order_235 : List Nat := 167 :: 255 :: 138 :: sX12_order_238
noncomputable def sX12_order_232 : List Nat := 132 :: 7 :: 1 :: sX12_order_235
noncomputable def sX12_order_230 : List Nat := 54 :: 5 :: sX12_order_232
noncomputable def sX12_order_228 : List Nat := 21 :: 5 :: sX12_order_230
noncomputable def sX12_order_225 : List Nat := 167 :: 0 :: 5 :: sX12_order_228
noncomputable def sX12_order_224 : List Nat := 46 :: sX12_order_225
noncomputable def sX12_order_222 : List Nat := 21 :: 7 :: sX12_order_224
noncomputable def sX12_order_219 : List Nat := 180 :: 0 :: 108 :: sX12_order_222
noncomputable def sX12_order_218 : List Nat := 42 :: sX12_order_219
noncomputable def sX12_order_215 : List Nat := 164 :: 0 :: 13 :: sX12_order_218
noncomputable def sX12_order_213 : List Nat := 21 :: 5 :: sX12_order_215
noncomputable def sX12_order_212 : List Nat := 46 :: sX12_order_213
noncomputable def sX12_order_210 : List Nat := 21 :: 7 :: sX12_order_212
noncomputable def sX12_order_207 : List Nat := 180 :: 0 :: 108 :: sX12_order_210
noncomputable def sX12_order_206 : List Nat := 42 :: sX12_order_207
noncomputable def sX12_order_203 : List Nat := 167 :: 255 :: 188 :: sX12_order_206
noncomputable def sX12_order_200 : List Nat := 132 :: 8 :: 1 :: sX12_order_203
noncomputable def sX12_order_199 : List Nat := 79 :: sX12_order_200
noncomputable def sX12_order_198 : List Nat := 96 :: sX12_order_199
noncomputable def sX12_order_197 : List Nat := 4 :: sX12_order_198
noncomputable def sX12_order_196 : List Nat := 46 :: sX12_order_197
noncomputable def sX12_order_194 : List Nat := 21 :: 8 :: sX12_order_196
noncomputable def sX12_order_191 : List Nat := 180 :: 0 :: 108 :: sX12_order_194
noncomputable def sX12_order_190 : List Nat := 42 :: sX12_order_191
noncomputable def sX12_order_188 : List Nat := 21 :: 7 :: sX12_order_190
noncomputable def sX12_order_185 : List Nat := 180 :: 0 :: 108 :: sX12_order_188
noncomputable def sX12_order_184 : List Nat := 42 :: sX12_order_185
noncomputable def sX12_order_181 : List Nat := 164 :: 0 :: 19 :: sX12_order_184
noncomputable def sX12_order_180 : List Nat := 46 :: sX12_order_181
noncomputable def sX12_order_178 : List Nat := 21 :: 7 :: sX12_order_180
noncomputable def sX12_order_175 : List Nat := 180 :: 0 :: 108 :: sX12_order_178
noncomputable def sX12_order_174 : List Nat := 42 :: sX12_order_175
noncomputable def sX12_order_173 : List Nat := 96 :: sX12_order_174
noncomputable def sX12_order_172 : List Nat := 4 :: sX12_order_173
noncomputable def sX12_order_171 : List Nat := 46 :: sX12_order_172
noncomputable def sX12_order_169 : List Nat := 21 :: 8 :: sX12_order_171
noncomputable def sX12_order_166 : List Nat := 180 :: 0 :: 108 :: sX12_order_169
noncomputable def sX12_order_165 : List Nat := 42 :: sX12_order_166
noncomputable def sX12_order_162 : List Nat := 167 :: 0 :: 38 :: sX12_order_165
noncomputable def sX12_order_159 : List Nat := 132 :: 6 :: 1 :: sX12_order_162
noncomputable def sX12_order_156 : List Nat := 164 :: 0 :: 9 :: sX12_order_159
noncomputable def sX12_order_155 : List Nat := 46 :: sX12_order_156
noncomputable def sX12_order_153 : List Nat := 21 :: 7 :: sX12_order_155
noncomputable def sX12_order_150 : List Nat := 180 :: 0 :: 105 :: sX12_order_153
noncomputable def sX12_order_149 : List Nat := 42 :: sX12_order_150
noncomputable def sX12_order_148 : List Nat := 46 :: sX12_order_149
noncomputable def sX12_order_146 : List Nat := 21 :: 8 :: sX12_order_148
noncomputable def sX12_order_143 : List Nat := 180 :: 0 :: 105 :: sX12_order_146
noncomputable def sX12_order_142 : List Nat := 42 :: sX12_order_143
noncomputable def sX12_order_139 : List Nat := 162 :: 0 :: 67 :: sX12_order_142
noncomputable def sX12_order_137 : List Nat := 21 :: 7 :: sX12_order_139
noncomputable def sX12_order_135 : List Nat := 21 :: 8 :: sX12_order_137
noncomputable def sX12_order_133 : List Nat := 54 :: 8 :: sX12_order_135
noncomputable def sX12_order_132 : List Nat := 3 :: sX12_order_133
noncomputable def sX12_order_131 : List Nat := 79 :: sX12_order_132
noncomputable def sX12_order_130 : List Nat := 4 :: sX12_order_131
noncomputable def sX12_order_128 : List Nat := 21 :: 7 :: sX12_order_130
noncomputable def sX12_order_125 : List Nat := 180 :: 0 :: 108 :: sX12_order_128
noncomputable def sX12_order_124 : List Nat := 42 :: sX12_order_125
noncomputable def sX12_order_121 : List Nat := 162 :: 0 :: 117 :: sX12_order_124
noncomputable def sX12_order_119 : List Nat := 21 :: 4 :: sX12_order_121
noncomputable def sX12_order_117 : List Nat := 21 :: 7 :: sX12_order_119
noncomputable def sX12_order_115 : List Nat := 54 :: 7 :: sX12_order_117
noncomputable def sX12_order_114 : List Nat := 3 :: sX12_order_115
noncomputable def sX12_order_112 : List Nat := 54 :: 6 :: sX12_order_114
noncomputable def sX12_order_111 : List Nat := 3 :: sX12_order_112
noncomputable def sX12_order_109 : List Nat := 54 :: 5 :: sX12_order_111
noncomputable def sX12_order_108 : List Nat := 3 :: sX12_order_109
noncomputable def sX12_order_105 : List Nat := 167 :: 255 :: 202 :: sX12_order_108
noncomputable def sX12_order_102 : List Nat := 132 :: 5 :: 1 :: sX12_order_105
noncomputable def sX12_order_99 : List Nat := 132 :: 4 :: 1 :: sX12_order_102
noncomputable def sX12_order_98 : List Nat := 79 :: sX12_order_99
noncomputable def sX12_order_96 : List Nat := 21 :: 6 :: sX12_order_98
noncomputable def sX12_order_94 : List Nat := 21 :: 4 :: sX12_order_96
noncomputable def sX12_order_91 : List Nat := 180 :: 0 :: 105 :: sX12_order_94
noncomputable def sX12_order_90 : List Nat := 42 :: sX12_order_91
noncomputable def sX12_order_87 : List Nat := 167 :: 0 :: 15 :: sX12_order_90
noncomputable def sX12_order_84 : List Nat := 160 :: 0 :: 6 :: sX12_order_87
noncomputable def sX12_order_83 : List Nat := 2 :: sX12_order_84
noncomputable def sX12_order_81 : List Nat := 21 :: 6 :: sX12_order_83
noncomputable def sX12_order_79 : List Nat := 54 :: 6 :: sX12_order_81
noncomputable def sX12_order_76 : List Nat := 182 :: 1 :: 97 :: sX12_order_79
noncomputable def sX12_order_75 : List Nat := 46 :: sX12_order_76
noncomputable def sX12_order_74 : List Nat := 96 :: sX12_order_75
noncomputable def sX12_order_72 : List Nat := 21 :: 5 :: sX12_order_74
noncomputable def sX12_order_71 : List Nat := 104 :: sX12_order_72
noncomputable def sX12_order_70 : List Nat := 27 :: sX12_order_71
noncomputable def sX12_order_68 : List Nat := 16 :: 20 :: sX12_order_70
noncomputable def sX12_order_65 : List Nat := 180 :: 0 :: 102 :: sX12_order_68
noncomputable def sX12_order_64 : List Nat := 42 :: sX12_order_65
noncomputable def sX12_order_63 : List Nat := 28 :: sX12_order_64
noncomputable def sX12_order_62 : List Nat := 42 :: sX12_order_63
noncomputable def sX12_order_59 : List Nat := 162 :: 0 :: 49 :: sX12_order_62
noncomputable def sX12_order_58 : List Nat := 46 :: sX12_order_59
noncomputable def sX12_order_57 : List Nat := 27 :: sX12_order_58
noncomputable def sX12_order_54 : List Nat := 180 :: 0 :: 99 :: sX12_order_57
noncomputable def sX12_order_53 : List Nat := 42 :: sX12_order_54
noncomputable def sX12_order_51 : List Nat := 21 :: 5 :: sX12_order_53
noncomputable def sX12_order_49 : List Nat := 54 :: 5 :: sX12_order_51
noncomputable def sX12_order_48 : List Nat := 3 :: sX12_order_49
noncomputable def sX12_order_46 : List Nat := 54 :: 4 :: sX12_order_48
noncomputable def sX12_order_45 : List Nat := 3 :: sX12_order_46
noncomputable def sX12_order_44 : List Nat := 172 :: sX12_order_45
noncomputable def sX12_order_43 : List Nat := 3 :: sX12_order_44
noncomputable def sX12_order_40 : List Nat := 154 :: 0 :: 5 :: sX12_order_43
noncomputable def sX12_order_37 : List Nat := 182 :: 0 :: 209 :: sX12_order_40
noncomputable def sX12_order_36 : List Nat := 4 :: sX12_order_37
noncomputable def sX12_order_35 : List Nat := 3 :: sX12_order_36
noncomputable def sX12_order_32 : List Nat := 167 :: 0 :: 4 :: sX12_order_35
noncomputable def sX12_order_31 : List Nat := 4 :: sX12_order_32
noncomputable def sX12_order_28 : List Nat := 160 :: 0 :: 7 :: sX12_order_31
noncomputable def sX12_order_27 : List Nat := 4 :: sX12_order_28
noncomputable def sX12_order_26 : List Nat := 29 :: sX12_order_27
noncomputable def sX12_order_23 : List Nat := 153 :: 0 :: 8 :: sX12_order_26
noncomputable def sX12_order_22 : List Nat := 29 :: sX12_order_23
noncomputable def sX12_order_21 : List Nat := 42 :: sX12_order_22
noncomputable def sX12_order_18 : List Nat := 153 :: 0 :: 25 :: sX12_order_21
noncomputable def sX12_order_15 : List Nat := 182 :: 1 :: 82 :: sX12_order_18
noncomputable def sX12_order_14 : List Nat := 28 :: sX12_order_15
noncomputable def sX12_order_13 : List Nat := 42 :: sX12_order_14
noncomputable def sX12_order_10 : List Nat := 153 :: 0 :: 33 :: sX12_order_13
noncomputable def sX12_order_7 : List Nat := 182 :: 1 :: 82 :: sX12_order_10
noncomputable def sX12_order_6 : List Nat := 27 :: sX12_order_7
noncomputable def sX12_order_5 : List Nat := 42 :: sX12_order_6
noncomputable def sX12_order_2 : List Nat := 181 :: 0 :: 129 :: sX12_order_5
noncomputable def sX12_order_1 : List Nat := 3 :: sX12_order_2
noncomputable def sX12_order_0 : List Nat := 42 :: sX12_order_1
theorem aX12_order_0 : dc_at cX12_order 0 sX12_order_0 := dc_base (by decide +kernel)
theorem aX12_order_1 : dc_at cX12_order 1 sX12_order_1 := dc_n1 aX12_order_0
theorem aX12_order_2 : dc_at cX12_order 2 sX12_order_2 := dc_n1 aX12_order_1
theorem aX12_order_5 : dc_at cX12_order 5 sX12_order_5 := dc_n3 aX12_order_2
theorem aX12_order_6 : dc_at cX12_order 6 sX12_order_6 := dc_n1 aX12_order_5
theorem aX12_order_7 : dc_at cX12_order 7 sX12_order_7 := dc_n1 aX12_order_6
theorem aX12_order_10 : dc_at cX12_order 10 sX12_order_10 := dc_n3 aX12_order_7
theorem aX12_order_13 : dc_at cX12_order 13 sX12_order_13 := dc_n3 aX12_order_10
theorem aX12_order_14 : dc_at cX12_order 14 sX12_order_14 := dc_n1 aX12_order_13
theorem aX12_order_15 : dc_at cX12_order 15 sX12_order_15 := dc_n1 aX12_order_14
theorem aX12_order_18 : dc_at cX12_order 18 sX12_order_18 := dc_n3 aX12_order_15
theorem aX12_order_21 : dc_at cX12_order 21 sX12_order_21 := dc_n3 aX12_order_18
theorem aX12_order_22 : dc_at cX12_order 22 sX12_order_22 := dc_n1 aX12_order_21
theorem aX12_order_23 : dc_at cX12_order 23 sX12_order_23 := dc_n1 aX12_order_22
theorem aX12_order_26 : dc_at cX12_order 26 sX12_order_26 := dc_n3 aX12_order_23
theorem aX12_order_27 : dc_at cX12_order 27 sX12_order_27 := dc_n1 aX12_order_26
theorem aX12_order_28 : dc_at cX12_order 28 sX12_order_28 := dc_n1 aX12_order_27
theorem aX12_order_31 : dc_at cX12_order 31 sX12_order_31 := dc_n3 aX12_order_28
theorem aX12_order_32 : dc_at cX12_order 32 sX12_order_32 := dc_n1 aX12_order_31
theorem aX12_order_35 : dc_at cX12_order 35 sX12_order_35 := dc_n3 aX12_order_32
theorem aX12_order_36 : dc_at cX12_order 36 sX12_order_36 := dc_n1 aX12_order_35
theorem aX12_order_37 : dc_at cX12_order 37 sX12_order_37 := dc_n1 aX12_order_36
theorem aX12_order_40 : dc_at cX12_order 40 sX12_order_40 := dc_n3 aX12_order_37
theorem aX12_order_43 : dc_at cX12_order 43 sX12_order_43 := dc_n3 aX12_order_40
theorem aX12_order_44 : dc_at cX12_order 44 sX12_order_44 := dc_n1 aX12_order_43
theorem aX12_order_45 : dc_at cX12_order 45 sX12_order_45 := dc_n1 aX12_order_44
theorem aX12_order_46 : dc_at cX12_order 46 sX12_order_46 := dc_n1 aX12_order_45
theorem aX12_order_48 : dc_at cX12_order 48 sX12_order_48 := dc_n2 aX12_order_46
theorem aX12_order_49 : dc_at cX12_order 49 sX12_order_49 := dc_n1 aX12_order_48
theorem aX12_order_51 : dc_at cX12_order 51 sX12_order_51 := dc_n2 aX12_order_49
theorem aX12_order_53 : dc_at cX12_order 53 sX12_order_53 := dc_n2 aX12_order_51
theorem aX12_order_54 : dc_at cX12_order 54 sX12_order_54 := dc_n1 aX12_order_53
theorem aX12_order_57 : dc_at cX12_order 57 sX12_order_57 := dc_n3 aX12_order_54
theorem aX12_order_58 : dc_at cX12_order 58 sX12_order_58 := dc_n1 aX12_order_57
theorem aX12_order_59 : dc_at cX12_order 59 sX12_order_59 := dc_n1 aX12_order_58
theorem aX12_order_62 : dc_at cX12_order 62 sX12_order_62 := dc_n3 aX12_order_59
theorem aX12_order_63 : dc_at cX12_order 63 sX12_order_63 := dc_n1 aX12_order_62
theorem aX12_order_64 : dc_at cX12_order 64 sX12_order_64 := dc_n1 aX12_order_63
theorem aX12_order_65 : dc_at cX12_order 65 sX12_order_65 := dc_n1 aX12_order_64
theorem aX12_order_68 : dc_at cX12_order 68 sX12_order_68 := dc_n3 aX12_order_65
theorem aX12_order_70 : dc_at cX12_order 70 sX12_order_70 := dc_n2 aX12_order_68
theorem aX12_order_71 : dc_at cX12_order 71 sX12_order_71 := dc_n1 aX12_order_70
theorem aX12_order_72 : dc_at cX12_order 72 sX12_order_72 := dc_n1 aX12_order_71
theorem aX12_order_74 : dc_at cX12_order 74 sX12_order_74 := dc_n2 aX12_order_72
theorem aX12_order_75 : dc_at cX12_order 75 sX12_order_75 := dc_n1 aX12_order_74
theorem aX12_order_76 : dc_at cX12_order 76 sX12_order_76 := dc_n1 aX12_order_75
theorem aX12_order_79 : dc_at cX12_order 79 sX12_order_79 := dc_n3 aX12_order_76
theorem aX12_order_81 : dc_at cX12_order 81 sX12_order_81 := dc_n2 aX12_order_79
theorem aX12_order_83 : dc_at cX12_order 83 sX12_order_83 := dc_n2 aX12_order_81
theorem aX12_order_84 : dc_at cX12_order 84 sX12_order_84 := dc_n1 aX12_order_83
theorem aX12_order_87 : dc_at cX12_order 87 sX12_order_87 := dc_n3 aX12_order_84
theorem aX12_order_90 : dc_at cX12_order 90 sX12_order_90 := dc_n3 aX12_order_87
theorem aX12_order_91 : dc_at cX12_order 91 sX12_order_91 := dc_n1 aX12_order_90
theorem aX12_order_94 : dc_at cX12_order 94 sX12_order_94 := dc_n3 aX12_order_91
theorem aX12_order_96 : dc_at cX12_order 96 sX12_order_96 := dc_n2 aX12_order_94
theorem aX12_order_98 : dc_at cX12_order 98 sX12_order_98 := dc_n2 aX12_order_96
theorem aX12_order_99 : dc_at cX12_order 99 sX12_order_99 := dc_n1 aX12_order_98
theorem aX12_order_102 : dc_at cX12_order 102 sX12_order_102 := dc_n3 aX12_order_99
theorem aX12_order_105 : dc_at cX12_order 105 sX12_order_105 := dc_n3 aX12_order_102
theorem aX12_order_108 : dc_at cX12_order 108 sX12_order_108 := dc_n3 aX12_order_105
theorem aX12_order_109 : dc_at cX12_order 109 sX12_order_109 := dc_n1 aX12_order_108
theorem aX12_order_111 : dc_at cX12_order 111 sX12_order_111 := dc_n2 aX12_order_109
theorem aX12_order_112 : dc_at cX12_order 112 sX12_order_112 := dc_n1 aX12_order_111
theorem aX12_order_114 : dc_at cX12_order 114 sX12_order_114 := dc_n2 aX12_order_112
theorem aX12_order_115 : dc_at cX12_order 115 sX12_order_115 := dc_n1 aX12_order_114
theorem aX12_order_117 : dc_at cX12_order 117 sX12_order_117 := dc_n2 aX12_order_115
theorem aX12_order_119 : dc_at cX12_order 119 sX12_order_119 := dc_n2 aX12_order_117
theorem aX12_order_121 : dc_at cX12_order 121 sX12_order_121 := dc_n2 aX12_order_119
theorem aX12_order_124 : dc_at cX12_order 124 sX12_order_124 := dc_n3 aX12_order_121
theorem aX12_order_125 : dc_at cX12_order 125 sX12_order_125 := dc_n1 aX12_order_124
theorem aX12_order_128 : dc_at cX12_order 128 sX12_order_128 := dc_n3 aX12_order_125
theorem aX12_order_130 : dc_at cX12_order 130 sX12_order_130 := dc_n2 aX12_order_128
theorem aX12_order_131 : dc_at cX12_order 131 sX12_order_131 := dc_n1 aX12_order_130
theorem aX12_order_132 : dc_at cX12_order 132 sX12_order_132 := dc_n1 aX12_order_131
theorem aX12_order_133 : dc_at cX12_order 133 sX12_order_133 := dc_n1 aX12_order_132
theorem aX12_order_135 : dc_at cX12_order 135 sX12_order_135 := dc_n2 aX12_order_133
theorem aX12_order_137 : dc_at cX12_order 137 sX12_order_137 := dc_n2 aX12_order_135
theorem aX12_order_139 : dc_at cX12_order 139 sX12_order_139 := dc_n2 aX12_order_137
theorem aX12_order_142 : dc_at cX12_order 142 sX12_order_142 := dc_n3 aX12_order_139
theorem aX12_order_143 : dc_at cX12_order 143 sX12_order_143 := dc_n1 aX12_order_142
theorem aX12_order_146 : dc_at cX12_order 146 sX12_order_146 := dc_n3 aX12_order_143
theorem aX12_order_148 : dc_at cX12_order 148 sX12_order_148 := dc_n2 aX12_order_146
theorem aX12_order_149 : dc_at cX12_order 149 sX12_order_149 := dc_n1 aX12_order_148
theorem aX12_order_150 : dc_at cX12_order 150 sX12_order_150 := dc_n1 aX12_order_149
theorem aX12_order_153 : dc_at cX12_order 153 sX12_order_153 := dc_n3 aX12_order_150
theorem aX12_order_155 : dc_at cX12_order 155 sX12_order_155 := dc_n2 aX12_order_153
theorem aX12_order_156 : dc_at cX12_order 156 sX12_order_156 := dc_n1 aX12_order_155
theorem aX12_order_159 : dc_at cX12_order 159 sX12_order_159 := dc_n3 aX12_order_156
theorem aX12_order_162 : dc_at cX12_order 162 sX12_order_162 := dc_n3 aX12_order_159
theorem aX12_order_165 : dc_at cX12_order 165 sX12_order_165 := dc_n3 aX12_order_162
theorem aX12_order_166 : dc_at cX12_order 166 sX12_order_166 := dc_n1 aX12_order_165
theorem aX12_order_169 : dc_at cX12_order 169 sX12_order_169 := dc_n3 aX12_order_166
theorem aX12_order_171 : dc_at cX12_order 171 sX12_order_171 := dc_n2 aX12_order_169
theorem aX12_order_172 : dc_at cX12_order 172 sX12_order_172 := dc_n1 aX12_order_171
theorem aX12_order_173 : dc_at cX12_order 173 sX12_order_173 := dc_n1 aX12_order_172
theorem aX12_order_174 : dc_at cX12_order 174 sX12_order_174 := dc_n1 aX12_order_173
theorem aX12_order_175 : dc_at cX12_order 175 sX12_order_175 := dc_n1 aX12_order_174
theorem aX12_order_178 : dc_at cX12_order 178 sX12_order_178 := dc_n3 aX12_order_175
theorem aX12_order_180 : dc_at cX12_order 180 sX12_order_180 := dc_n2 aX12_order_178
theorem aX12_order_181 : dc_at cX12_order 181 sX12_order_181 := dc_n1 aX12_order_180
theorem aX12_order_184 : dc_at cX12_order 184 sX12_order_184 := dc_n3 aX12_order_181
theorem aX12_order_185 : dc_at cX12_order 185 sX12_order_185 := dc_n1 aX12_order_184
theorem aX12_order_188 : dc_at cX12_order 188 sX12_order_188 := dc_n3 aX12_order_185
theorem aX12_order_190 : dc_at cX12_order 190 sX12_order_190 := dc_n2 aX12_order_188
theorem aX12_order_191 : dc_at cX12_order 191 sX12_order_191 := dc_n1 aX12_order_190
theorem aX12_order_194 : dc_at cX12_order 194 sX12_order_194 := dc_n3 aX12_order_191
theorem aX12_order_196 : dc_at cX12_order 196 sX12_order_196 := dc_n2 aX12_order_194
theorem aX12_order_197 : dc_at cX12_order 197 sX12_order_197 := dc_n1 aX12_order_196
theorem aX12_order_198 : dc_at cX12_order 198 sX12_order_198 := dc_n1 aX12_order_197
theorem aX12_order_199 : dc_at cX12_order 199 sX12_order_199 := dc_n1 aX12_order_198
theorem aX12_order_200 : dc_at cX12_order 200 sX12_order_200 := dc_n1 aX12_order_199
theorem aX12_order_203 : dc_at cX12_order 203 sX12_order_203 := dc_n3 aX12_order_200
theorem aX12_order_206 : dc_at cX12_order 206 sX12_order_206 := dc_n3 aX12_order_203
theorem aX12_order_207 : dc_at cX12_order 207 sX12_order_207 := dc_n1 aX12_order_206
theorem aX12_order_210 : dc_at cX12_order 210 sX12_order_210 := dc_n3 aX12_order_207
theorem aX12_order_212 : dc_at cX12_order 212 sX12_order_212 := dc_n2 aX12_order_210
theorem aX12_order_213 : dc_at cX12_order 213 sX12_order_213 := dc_n1 aX12_order_212
theorem aX12_order_215 : dc_at cX12_order 215 sX12_order_215 := dc_n2 aX12_order_213
theorem aX12_order_218 : dc_at cX12_order 218 sX12_order_218 := dc_n3 aX12_order_215
theorem aX12_order_219 : dc_at cX12_order 219 sX12_order_219 := dc_n1 aX12_order_218
theorem aX12_order_222 : dc_at cX12_order 222 sX12_order_222 := dc_n3 aX12_order_219
theorem aX12_order_224 : dc_at cX12_order 224 sX12_order_224 := dc_n2 aX12_order_222
theorem aX12_order_225 : dc_at cX12_order 225 sX12_order_225 := dc_n1 aX12_order_224
theorem aX12_order_228 : dc_at cX12_order 228 sX12_order_228 := dc_n3 aX12_order_225
theorem aX12_order_230 : dc_at cX12_order 230 sX12_order_230 := dc_n2 aX12_order_228
theorem aX12_order_232 : dc_at cX12_order 232 sX12_order_232 := dc_n2 aX12_order_230
theorem aX12_order_235 : dc_at cX12_order 235 sX12_order_235 := dc_n3 aX12_order_232
theorem aX12_order_238 : dc_at cX12_order 238 sX12_order_238 := dc_n3 aX12_order_235
theorem aX12_order_239 : dc_at cX12_order 239 sX12_order_239 := dc_n1 aX12_order_238
theorem aX12_order_242 : dc_at cX12_order 242 sX12_order_242 := dc_n3 aX12_order_239
theorem aX12_order_244 : dc_at cX12_order 244 sX12_order_244 := dc_n2 aX12_order_242
theorem aX12_order_247 : dc_at cX12_order 247 sX12_order_247 := dc_n3 aX12_order_244
theorem aX12_order_249 : dc_at cX12_order 249 sX12_order_249 := dc_n2 aX12_order_247
theorem dX12_order_0 : decode cX12_order 0 = .ok (.aload_n 0, 1) := dc_42 aX12_order_0
theorem dX12_order_1 : decode cX12_order 1 = .ok (.iconst 0, 1) := dc_3 aX12_order_1
theorem dX12_order_2 : decode cX12_order 2 = .ok (.putfield 129, 3) := dc_181 (a0 := 0) (b0 := 129) aX12_order_2
theorem dX12_order_5 : decode cX12_order 5 = .ok (.aload_n 0, 1) := dc_42 aX12_order_5
theorem dX12_order_6 : decode cX12_order 6 = .ok (.iload_n 1, 1) := dc_27 aX12_order_6
theorem dX12_order_7 : decode cX12_order 7 = .ok (.invokevirtual 338, 3) := dc_182 (a0 := 1) (b0 := 82) aX12_order_7
theorem dX12_order_10 : decode cX12_order 10 = .ok (.ifCond .eq 33, 3) := dc_153 (a0 := 0) (b0 := 33) aX12_order_10 (by decide)
theorem dX12_order_13 : decode cX12_order 13 = .ok (.aload_n 0, 1) := dc_42 aX12_order_13
theorem dX12_order_14 : decode cX12_order 14 = .ok (.iload_n 2, 1) := dc_28 aX12_order_14
theorem dX12_order_15 : decode cX12_order 15 = .ok (.invokevirtual 338, 3) := dc_182 (a0 := 1) (b0 := 82) aX12_order_15
theorem dX12_order_18 : decode cX12_order 18 = .ok (.ifCond .eq 25, 3) := dc_153 (a0 := 0) (b0 := 25) aX12_order_18 (by decide)
theorem dX12_order_21 : decode cX12_order 21 = .ok (.aload_n 0, 1) := dc_42 aX12_order_21
theorem dX12_order_22 : decode cX12_order 22 = .ok (.iload_n 3, 1) := dc_29 aX12_order_22
theorem dX12_order_23 : decode cX12_order 23 = .ok (.ifCond .eq 8, 3) := dc_153 (a0 := 0) (b0 := 8) aX12_order_23 (by decide)
theorem dX12_order_26 : decode cX12_order 26 = .ok (.iload_n 3, 1) := dc_29 aX12_order_26
theorem dX12_order_27 : decode cX12_order 27 = .ok (.iconst 1, 1) := dc_4 aX12_order_27
theorem dX12_order_28 : decode cX12_order 28 = .ok (.if_icmp .ne 7, 3) := dc_160 (a0 := 0) (b0 := 7) aX12_order_28 (by decide)
theorem dX12_order_31 : decode cX12_order 31 = .ok (.iconst 1, 1) := dc_4 aX12_order_31
theorem dX12_order_32 : decode cX12_order 32 = .ok (.goto 4, 3) := dc_167 (a0 := 0) (b0 := 4) aX12_order_32 (by decide)
theorem dX12_order_35 : decode cX12_order 35 = .ok (.iconst 0, 1) := dc_3 aX12_order_35
theorem dX12_order_36 : decode cX12_order 36 = .ok (.iconst 1, 1) := dc_4 aX12_order_36
theorem dX12_order_37 : decode cX12_order 37 = .ok (.invokevirtual 209, 3) := dc_182 (a0 := 0) (b0 := 209) aX12_order_37
theorem dX12_order_40 : decode cX12_order 40 = .ok (.ifCond .ne 5, 3) := dc_154 (a0 := 0) (b0 := 5) aX12_order_40 (by decide)
theorem dX12_order_43 : decode cX12_order 43 = .ok (.iconst 0, 1) := dc_3 aX12_order_43
theorem dX12_order_44 : decode cX12_order 44 = .ok (.ireturn, 1) := dc_172 aX12_order_44
theorem dX12_order_45 : decode cX12_order 45 = .ok (.iconst 0, 1) := dc_3 aX12_order_45
theorem dX12_order_46 : decode cX12_order 46 = .ok (.istore 4, 2) := dc_54 (a0 := 4) aX12_order_46
theorem dX12_order_48 : decode cX12_order 48 = .ok (.iconst 0, 1) := dc_3 aX12_order_48
theorem dX12_order_49 : decode cX12_order 49 = .ok (.istore 5, 2) := dc_54 (a0 := 5) aX12_order_49
theorem dX12_order_51 : decode cX12_order 51 = .ok (.iload 5, 2) := dc_21 (a0 := 5) aX12_order_51
theorem dX12_order_53 : decode cX12_order 53 = .ok (.aload_n 0, 1) := dc_42 aX12_order_53
theorem dX12_order_54 : decode cX12_order 54 = .ok (.getfield 99, 3) := dc_180 (a0 := 0) (b0 := 99) aX12_order_54
theorem dX12_order_57 : decode cX12_order 57 = .ok (.iload_n 1, 1) := dc_27 aX12_order_57
theorem dX12_order_58 : decode cX12_order 58 = .ok (.iaload, 1) := dc_46 aX12_order_58
theorem dX12_order_59 : decode cX12_order 59 = .ok (.if_icmp .ge 49, 3) := dc_162 (a0 := 0) (b0 := 49) aX12_order_59 (by decide)
theorem dX12_order_62 : decode cX12_order 62 = .ok (.aload_n 0, 1) := dc_42 aX12_order_62
theorem dX12_order_63 : decode cX12_order 63 = .ok (.iload_n 2, 1) := dc_28 aX12_order_63
theorem dX12_order_64 : decode cX12_order 64 = .ok (.aload_n 0, 1) := dc_42 aX12_order_64
theorem dX12_order_65 : decode cX12_order 65 = .ok (.getfield 102, 3) := dc_180 (a0 := 0) (b0 := 102) aX12_order_65
theorem dX12_order_68 : decode cX12_order 68 = .ok (.bipush 20, 2) := dc_16 (a0 := 20) aX12_order_68 (by decide)
theorem dX12_order_70 : decode cX12_order 70 = .ok (.iload_n 1, 1) := dc_27 aX12_order_70
theorem dX12_order_71 : decode cX12_order 71 = .ok (.imul, 1) := dc_104 aX12_order_71
theorem dX12_order_72 : decode cX12_order 72 = .ok (.iload 5, 2) := dc_21 (a0 := 5) aX12_order_72
theorem dX12_order_74 : decode cX12_order 74 = .ok (.iadd, 1) := dc_96 aX12_order_74
theorem dX12_order_75 : decode cX12_order 75 = .ok (.iaload, 1) := dc_46 aX12_order_75
theorem dX12_order_76 : decode cX12_order 76 = .ok (.invokevirtual 353, 3) := dc_182 (a0 := 1) (b0 := 97) aX12_order_76
theorem dX12_order_79 : decode cX12_order 79 = .ok (.istore 6, 2) := dc_54 (a0 := 6) aX12_order_79
theorem dX12_order_81 : decode cX12_order 81 = .ok (.iload 6, 2) := dc_21 (a0 := 6) aX12_order_81
theorem dX12_order_83 : decode cX12_order 83 = .ok (.iconst (-1), 1) := dc_2 aX12_order_83
theorem dX12_order_84 : decode cX12_order 84 = .ok (.if_icmp .ne 6, 3) := dc_160 (a0 := 0) (b0 := 6) aX12_order_84 (by decide)
theorem dX12_order_87 : decode cX12_order 87 = .ok (.goto 15, 3) := dc_167 (a0 := 0) (b0 := 15) aX12_order_87 (by decide)
theorem dX12_order_90 : decode cX12_order 90 = .ok (.aload_n 0, 1) := dc_42 aX12_order_90
theorem dX12_order_91 : decode cX12_order 91 = .ok (.getfield 105, 3) := dc_180 (a0 := 0) (b0 := 105) aX12_order_91
theorem dX12_order_94 : decode cX12_order 94 = .ok (.iload 4, 2) := dc_21 (a0 := 4) aX12_order_94
theorem dX12_order_96 : decode cX12_order 96 = .ok (.iload 6, 2) := dc_21 (a0 := 6) aX12_order_96
theorem dX12_order_98 : decode cX12_order 98 = .ok (.iastore, 1) := dc_79 aX12_order_98
theorem dX12_order_99 : decode cX12_order 99 = .ok (.iinc 4 1, 3) := dc_132 (a0 := 4) (a1 := 1) aX12_order_99 (by decide)
theorem dX12_order_102 : decode cX12_order 102 = .ok (.iinc 5 1, 3) := dc_132 (a0 := 5) (a1 := 1) aX12_order_102 (by decide)
theorem dX12_order_105 : decode cX12_order 105 = .ok (.goto (-54), 3) := dc_167 (a0 := 255) (b0 := 202) aX12_order_105 (by decide)
theorem dX12_order_108 : decode cX12_order 108 = .ok (.iconst 0, 1) := dc_3 aX12_order_108
theorem dX12_order_109 : decode cX12_order 109 = .ok (.istore 5, 2) := dc_54 (a0 := 5) aX12_order_109
theorem dX12_order_111 : decode cX12_order 111 = .ok (.iconst 0, 1) := dc_3 aX12_order_111
theorem dX12_order_112 : decode cX12_order 112 = .ok (.istore 6, 2) := dc_54 (a0 := 6) aX12_order_112
theorem dX12_order_114 : decode cX12_order 114 = .ok (.iconst 0, 1) := dc_3 aX12_order_114
theorem dX12_order_115 : decode cX12_order 115 = .ok (.istore 7, 2) := dc_54 (a0 := 7) aX12_order_115
theorem dX12_order_117 : decode cX12_order 117 = .ok (.iload 7, 2) := dc_21 (a0 := 7) aX12_order_117
theorem dX12_order_119 : decode cX12_order 119 = .ok (.iload 4, 2) := dc_21 (a0 := 4) aX12_order_119
theorem dX12_order_121 : decode cX12_order 121 = .ok (.if_icmp .ge 117, 3) := dc_162 (a0 := 0) (b0 := 117) aX12_order_121 (by decide)
theorem dX12_order_124 : decode cX12_order 124 = .ok (.aload_n 0, 1) := dc_42 aX12_order_124
theorem dX12_order_125 : decode cX12_order 125 = .ok (.getfield 108, 3) := dc_180 (a0 := 0) (b0 := 108) aX12_order_125
theorem dX12_order_128 : decode cX12_order 128 = .ok (.iload 7, 2) := dc_21 (a0 := 7) aX12_order_128
theorem dX12_order_130 : decode cX12_order 130 = .ok (.iconst 1, 1) := dc_4 aX12_order_130
theorem dX12_order_131 : decode cX12_order 131 = .ok (.iastore, 1) := dc_79 aX12_order_131
theorem dX12_order_132 : decode cX12_order 132 = .ok (.iconst 0, 1) := dc_3 aX12_order_132
theorem dX12_order_133 : decode cX12_order 133 = .ok (.istore 8, 2) := dc_54 (a0 := 8) aX12_order_133
theorem dX12_order_135 : decode cX12_order 135 = .ok (.iload 8, 2) := dc_21 (a0 := 8) aX12_order_135
theorem dX12_order_137 : decode cX12_order 137 = .ok (.iload 7, 2) := dc_21 (a0 := 7) aX12_order_137
theorem dX12_order_139 : decode cX12_order 139 = .ok (.if_icmp .ge 67, 3) := dc_162 (a0 := 0) (b0 := 67) aX12_order_139 (by decide)
theorem dX12_order_142 : decode cX12_order 142 = .ok (.aload_n 0, 1) := dc_42 aX12_order_142
theorem dX12_order_143 : decode cX12_order 143 = .ok (.getfield 105, 3) := dc_180 (a0 := 0) (b0 := 105) aX12_order_143
theorem dX12_order_146 : decode cX12_order 146 = .ok (.iload 8, 2) := dc_21 (a0 := 8) aX12_order_146
theorem dX12_order_148 : decode cX12_order 148 = .ok (.iaload, 1) := dc_46 aX12_order_148
theorem dX12_order_149 : decode cX12_order 149 = .ok (.aload_n 0, 1) := dc_42 aX12_order_149
theorem dX12_order_150 : decode cX12_order 150 = .ok (.getfield 105, 3) := dc_180 (a0 := 0) (b0 := 105) aX12_order_150
theorem dX12_order_153 : decode cX12_order 153 = .ok (.iload 7, 2) := dc_21 (a0 := 7) aX12_order_153
theorem dX12_order_155 : decode cX12_order 155 = .ok (.iaload, 1) := dc_46 aX12_order_155
theorem dX12_order_156 : decode cX12_order 156 = .ok (.if_icmp .le 9, 3) := dc_164 (a0 := 0) (b0 := 9) aX12_order_156 (by decide)
theorem dX12_order_159 : decode cX12_order 159 = .ok (.iinc 6 1, 3) := dc_132 (a0 := 6) (a1 := 1) aX12_order_159 (by decide)
theorem dX12_order_162 : decode cX12_order 162 = .ok (.goto 38, 3) := dc_167 (a0 := 0) (b0 := 38) aX12_order_162 (by decide)
theorem dX12_order_165 : decode cX12_order 165 = .ok (.aload_n 0, 1) := dc_42 aX12_order_165
theorem dX12_order_166 : decode cX12_order 166 = .ok (.getfield 108, 3) := dc_180 (a0 := 0) (b0 := 108) aX12_order_166
theorem dX12_order_169 : decode cX12_order 169 = .ok (.iload 8, 2) := dc_21 (a0 := 8) aX12_order_169
theorem dX12_order_171 : decode cX12_order 171 = .ok (.iaload, 1) := dc_46 aX12_order_171
theorem dX12_order_172 : decode cX12_order 172 = .ok (.iconst 1, 1) := dc_4 aX12_order_172
theorem dX12_order_173 : decode cX12_order 173 = .ok (.iadd, 1) := dc_96 aX12_order_173
theorem dX12_order_174 : decode cX12_order 174 = .ok (.aload_n 0, 1) := dc_42 aX12_order_174
theorem dX12_order_175 : decode cX12_order 175 = .ok (.getfield 108, 3) := dc_180 (a0 := 0) (b0 := 108) aX12_order_175
theorem dX12_order_178 : decode cX12_order 178 = .ok (.iload 7, 2) := dc_21 (a0 := 7) aX12_order_178
theorem dX12_order_180 : decode cX12_order 180 = .ok (.iaload, 1) := dc_46 aX12_order_180
theorem dX12_order_181 : decode cX12_order 181 = .ok (.if_icmp .le 19, 3) := dc_164 (a0 := 0) (b0 := 19) aX12_order_181 (by decide)
theorem dX12_order_184 : decode cX12_order 184 = .ok (.aload_n 0, 1) := dc_42 aX12_order_184
theorem dX12_order_185 : decode cX12_order 185 = .ok (.getfield 108, 3) := dc_180 (a0 := 0) (b0 := 108) aX12_order_185
theorem dX12_order_188 : decode cX12_order 188 = .ok (.iload 7, 2) := dc_21 (a0 := 7) aX12_order_188
theorem dX12_order_190 : decode cX12_order 190 = .ok (.aload_n 0, 1) := dc_42 aX12_order_190
theorem dX12_order_191 : decode cX12_order 191 = .ok (.getfield 108, 3) := dc_180 (a0 := 0) (b0 := 108) aX12_order_191
theorem dX12_order_194 : decode cX12_order 194 = .ok (.iload 8, 2) := dc_21 (a0 := 8) aX12_order_194
theorem dX12_order_196 : decode cX12_order 196 = .ok (.iaload, 1) := dc_46 aX12_order_196
theorem dX12_order_197 : decode cX12_order 197 = .ok (.iconst 1, 1) := dc_4 aX12_order_197
theorem dX12_order_198 : decode cX12_order 198 = .ok (.iadd, 1) := dc_96 aX12_order_198
theorem dX12_order_199 : decode cX12_order 199 = .ok (.iastore, 1) := dc_79 aX12_order_199
theorem dX12_order_200 : decode cX12_order 200 = .ok (.iinc 8 1, 3) := dc_132 (a0 := 8) (a1 := 1) aX12_order_200 (by decide)
theorem dX12_order_203 : decode cX12_order 203 = .ok (.goto (-68), 3) := dc_167 (a0 := 255) (b0 := 188) aX12_order_203 (by decide)
theorem dX12_order_206 : decode cX12_order 206 = .ok (.aload_n 0, 1) := dc_42 aX12_order_206
theorem dX12_order_207 : decode cX12_order 207 = .ok (.getfield 108, 3) := dc_180 (a0 := 0) (b0 := 108) aX12_order_207
theorem dX12_order_210 : decode cX12_order 210 = .ok (.iload 7, 2) := dc_21 (a0 := 7) aX12_order_210
theorem dX12_order_212 : decode cX12_order 212 = .ok (.iaload, 1) := dc_46 aX12_order_212
theorem dX12_order_213 : decode cX12_order 213 = .ok (.iload 5, 2) := dc_21 (a0 := 5) aX12_order_213
theorem dX12_order_215 : decode cX12_order 215 = .ok (.if_icmp .le 13, 3) := dc_164 (a0 := 0) (b0 := 13) aX12_order_215 (by decide)
theorem dX12_order_218 : decode cX12_order 218 = .ok (.aload_n 0, 1) := dc_42 aX12_order_218
theorem dX12_order_219 : decode cX12_order 219 = .ok (.getfield 108, 3) := dc_180 (a0 := 0) (b0 := 108) aX12_order_219
theorem dX12_order_222 : decode cX12_order 222 = .ok (.iload 7, 2) := dc_21 (a0 := 7) aX12_order_222
theorem dX12_order_224 : decode cX12_order 224 = .ok (.iaload, 1) := dc_46 aX12_order_224
theorem dX12_order_225 : decode cX12_order 225 = .ok (.goto 5, 3) := dc_167 (a0 := 0) (b0 := 5) aX12_order_225 (by decide)
theorem dX12_order_228 : decode cX12_order 228 = .ok (.iload 5, 2) := dc_21 (a0 := 5) aX12_order_228
theorem dX12_order_230 : decode cX12_order 230 = .ok (.istore 5, 2) := dc_54 (a0 := 5) aX12_order_230
theorem dX12_order_232 : decode cX12_order 232 = .ok (.iinc 7 1, 3) := dc_132 (a0 := 7) (a1 := 1) aX12_order_232 (by decide)
theorem dX12_order_235 : decode cX12_order 235 = .ok (.goto (-118), 3) := dc_167 (a0 := 255) (b0 := 138) aX12_order_235 (by decide)
theorem dX12_order_238 : decode cX12_order 238 = .ok (.iload_n 3, 1) := dc_29 aX12_order_238
theorem dX12_order_239 : decode cX12_order 239 = .ok (.ifCond .ne 8, 3) := dc_154 (a0 := 0) (b0 := 8) aX12_order_239 (by decide)
theorem dX12_order_242 : decode cX12_order 242 = .ok (.iload 5, 2) := dc_21 (a0 := 5) aX12_order_242
theorem dX12_order_244 : decode cX12_order 244 = .ok (.goto 5, 3) := dc_167 (a0 := 0) (b0 := 5) aX12_order_244 (by decide)
theorem dX12_order_247 : decode cX12_order 247 = .ok (.iload 6, 2) := dc_21 (a0 := 6) aX12_order_247
theorem dX12_order_249 : decode cX12_order 249 = .ok (.ireturn, 1) := dc_172 aX12_order_249
set_option maxRecDepth 20000 in
theorem ggX12_areSame_X12_at : GoodIn wsX12_areSame wsX12_at := goodIn_k _ [[5, 0, 15, 0, 0, 0, 0, 0, 0, 0, 0, 0, 0, 0, 0, 0, 0, 0, 0, 0, 0, 0, 0, 0, 0, 0, 0, 0, 0, 0, 0, 0, 0, 0, 0, 0, 0, 0, 0, 0, 0, 0, 0, 0, 0, 0, 0, 0, 0, 0, 0, 0, 0, 0, 0, 0, 0, 0, 0, 0]] (by rfl) (by decide +kernel)
set_option maxRecDepth 20000 in
theorem gX12_areSame_X12_at : GoodIn wsX12_areSame (wsV RX12 254 RX12 yX12_at wsX12_at) := goodIn_app (goodIn_of _ (by decide +kernel)) ggX12_areSame_X12_at
set_option maxRecDepth 20000 in
theorem ggX12_areSame_X12_costOf : GoodIn wsX12_areSame wsX12_costOf := goodIn_k _ [[10, 0, 0, 0], [4, 9, 0, 0, 0, 0, 0, 0, 0, 0, 0, 0, 0, 0, 0, 0, 0, 0, 0, 0, 0, 0, 0, 0, 0, 0, 0, 0, 0, 0, 0, 0, 0, 0, 0, 0, 0, 0, 0, 0, 0, 0, 0, 0, 0, 0, 0, 0, 0, 0, 0, 0, 0, 0, 0, 0, 0, 0, 0, 0, 0, 0, 0, 0, 0, 0, 0]] (by rfl) (by decide +kernel)
set_option maxRecDepth 20000 in
theorem gX12_areSame_X12_costOf : GoodIn wsX12_areSame (wsV RX12 283 RX12 yX12_costOf wsX12_costOf) := goodIn_app (goodIn_of _ (by decide +kernel)) ggX12_areSame_X12_costOf
noncomputable def sX12_areSame_92 : List Nat := 172 :: []
noncomputable def sX12_areSame_91 : List Nat := 3 :: sX12_areSame_92
noncomputable def sX12_areSame_88 : List Nat := 167 :: 0 :: 4 :: sX12_areSame_91
noncomputable def sX12_areSame_87 : List Nat := 4 :: sX12_areSame_88
noncomputable def sX12_areSame_84 : List Nat := 161 :: 0 :: 7 :: sX12_areSame_87
noncomputable def sX12_areSame_83 : List Nat := 29 :: sX12_areSame_84
noncomputable def sX12_areSame_81 : List Nat := 21 :: 4 :: sX12_areSame_83
noncomputable def sX12_areSame_78 : List Nat := 167 :: 255 :: 184 :: sX12_areSame_81
noncomputable def sX12_areSame_75 : List Nat := 132 :: 5 :: 1 :: sX12_areSame_78
noncomputable def sX12_areSame_72 : List Nat := 132 :: 4 :: 1 :: sX12_areSame_75
noncomputable def sX12_areSame_71 : List Nat := 172 :: sX12_areSame_72
noncomputable def sX12_areSame_70 : List Nat := 3 :: sX12_areSame_71
noncomputable def sX12_areSame_67 : List Nat := 164 :: 0 :: 5 :: sX12_areSame_70
noncomputable def sX12_areSame_66 : List Nat := 4 :: sX12_areSame_67
noncomputable def sX12_areSame_63 : List Nat := 182 :: 1 :: 27 :: sX12_areSame_66
noncomputable def sX12_areSame_61 : List Nat := 21 :: 6 :: sX12_areSame_63
noncomputable def sX12_areSame_59 : List Nat := 21 :: 7 :: sX12_areSame_61
noncomputable def sX12_areSame_58 : List Nat := 42 :: sX12_areSame_59
noncomputable def sX12_areSame_55 : List Nat := 164 :: 0 :: 17 :: sX12_areSame_58
noncomputable def sX12_areSame_54 : List Nat := 4 :: sX12_areSame_55
noncomputable def sX12_areSame_51 : List Nat := 182 :: 1 :: 27 :: sX12_areSame_54
noncomputable def sX12_areSame_49 : List Nat := 21 :: 7 :: sX12_areSame_51
noncomputable def sX12_areSame_47 : List Nat := 21 :: 6 :: sX12_areSame_49
noncomputable def sX12_areSame_46 : List Nat := 42 :: sX12_areSame_47
noncomputable def sX12_areSame_43 : List Nat := 167 :: 0 :: 32 :: sX12_areSame_46
noncomputable def sX12_areSame_40 : List Nat := 160 :: 0 :: 6 :: sX12_areSame_43
noncomputable def sX12_areSame_39 : List Nat := 2 :: sX12_areSame_40
noncomputable def sX12_areSame_37 : List Nat := 21 :: 7 :: sX12_areSame_39
noncomputable def sX12_areSame_34 : List Nat := 159 :: 0 :: 41 :: sX12_areSame_37
noncomputable def sX12_areSame_33 : List Nat := 2 :: sX12_areSame_34
noncomputable def sX12_areSame_31 : List Nat := 21 :: 6 :: sX12_areSame_33
noncomputable def sX12_areSame_29 : List Nat := 54 :: 7 :: sX12_areSame_31
noncomputable def sX12_areSame_26 : List Nat := 182 :: 0 :: 254 :: sX12_areSame_29
noncomputable def sX12_areSame_24 : List Nat := 21 :: 5 :: sX12_areSame_26
noncomputable def sX12_areSame_23 : List Nat := 28 :: sX12_areSame_24
noncomputable def sX12_areSame_22 : List Nat := 42 :: sX12_areSame_23
noncomputable def sX12_areSame_20 : List Nat := 54 :: 6 :: sX12_areSame_22
noncomputable def sX12_areSame_17 : List Nat := 182 :: 0 :: 254 :: sX12_areSame_20
noncomputable def sX12_areSame_15 : List Nat := 21 :: 5 :: sX12_areSame_17
noncomputable def sX12_areSame_14 : List Nat := 27 :: sX12_areSame_15
noncomputable def sX12_areSame_13 : List Nat := 42 :: sX12_areSame_14
noncomputable def sX12_areSame_10 : List Nat := 162 :: 0 :: 71 :: sX12_areSame_13
noncomputable def sX12_areSame_8 : List Nat := 16 :: 7 :: sX12_areSame_10
noncomputable def sX12_areSame_6 : List Nat := 21 :: 5 :: sX12_areSame_8
noncomputable def sX12_areSame_4 : List Nat := 54 :: 5 :: sX12_areSame_6
noncomputable def sX12_areSame_3 : List Nat := 3 :: sX12_areSame_4
noncomputable def sX12_areSame_1 : List Nat := 54 :: 4 :: sX12_areSame_3
noncomputable def sX12_areSame_0 : List Nat := 3 :: sX12_areSame_1
theorem aX12_areSame_0 : dc_at cX12_areSame 0 sX12_areSame_0 := dc_base (by decide +kernel)
theorem aX12_areSame_1 : dc_at cX12_areSame 1 sX12_areSame_1 := dc_n1 aX12_areSame_0
theorem aX12_areSame_3 : dc_at cX12_areSame 3 sX12_areSame_3 := dc_n2 aX12_areSame_1
theorem aX12_areSame_4 : dc_at cX12_areSame 4 sX12_areSame_4 := dc_n1 aX12_areSame_3
theorem aX12_areSame_6 : dc_at cX12_areSame 6 sX12_areSame_6 := dc_n2 aX12_areSame_4
theorem aX12_areSame_8 : dc_at cX12_areSame 8 sX12_areSame_8 := dc_n2 aX12_areSame_6
theorem aX12_areSame_10 : dc_at cX12_areSame 10 sX12_areSame_10 := dc_n2 aX12_areSame_8
theorem aX12_areSame_13 : dc_at cX12_areSame 13 sX12_areSame_13 := dc_n3 aX12_areSame_10
theorem aX12_areSame_14 : dc_at cX12_areSame 14 sX12_areSame_14 := dc_n1 aX12_areSame_13
theorem aX12_areSame_15 : dc_at cX12_areSame 15 sX12_areSame_15 := dc_n1 aX12_areSame_14
theorem aX12_areSame_17 : dc_at cX12_areSame 17 sX12_areSame_17 := dc_n2 aX12_areSame_15
theorem aX12_areSame_20 : dc_at cX12_areSame 20 sX12_areSame_20 := dc_n3 aX12_areSame_17
theorem aX12_areSame_22 : dc_at cX12_areSame 22 sX12_areSame_22 := dc_n2 aX12_areSame_20
theorem aX12_areSame_23 : dc_at cX12_areSame 23 sX12_areSame_23 := dc_n1 aX12_areSame_22
theorem aX12_areSame_24 : dc_at cX12_areSame 24 sX12_areSame_24 := dc_n1 aX12_areSame_23
theorem aX12_areSame_26 : dc_at cX12_areSame 26 sX12_areSame_26 := dc_n2 aX12_areSame_24
theorem aX12_areSame_29 : dc_at cX12_areSame 29 sX12_areSame_29 := dc_n3 aX12_areSame_26
theorem aX12_areSame_31 : dc_at cX12_areSame 31 sX12_areSame_31 := dc_n2 aX12_areSame_29
theorem aX12_areSame_33 : dc_at cX12_areSame 33 sX12_areSame_33 := dc_n2 aX12_areSame_31
theorem aX12_areSame_34 : dc_at cX12_areSame 34 sX12_areSame_34 := dc_n1 aX12_areSame_33
theorem aX12_areSame_37 : dc_at cX12_areSame 37 sX12_areSame_37 := dc_n3 aX12_areSame_34
theorem aX12_areSame_39 : dc_at cX12_areSame 39 sX12_areSame_39 := dc_n2 aX12_areSame_37
theorem aX12_areSame_40 : dc_at cX12_areSame 40 sX12_areSame_40 := dc_n1 aX12_areSame_39
theorem aX12_areSame_43 : dc_at cX12_areSame 43 sX12_areSame_43 := dc_n3 aX12_areSame_40
theorem aX12_areSame_46 : dc_at cX12_areSame 46 sX12_areSame_46 := dc_n3 aX12_areSame_43
theorem aX12_areSame_47 : dc_at cX12_areSame 47 sX12_areSame_47 := dc_n1 aX12_areSame_46
theorem aX12_areSame_49 : dc_at cX12_areSame 49 sX12_areSame_49 := dc_n2 aX12_areSame_47
theorem aX12_areSame_51 : dc_at cX12_areSame 51 sX12_areSame_51 := dc_n2 aX12_areSame_49
theorem aX12_areSame_54 : dc_at cX12_areSame 54 sX12_areSame_54 := dc_n3 aX12_areSame_51
theorem aX12_areSame_55 : dc_at cX12_areSame 55 sX12_areSame_55 := dc_n1 aX12_areSame_54
theorem aX12_areSame_58 : dc_at cX12_areSame 58 sX12_areSame_58 := dc_n3 aX12_areSame_55
theorem aX12_areSame_59 : dc_at cX12_areSame 59 sX12_areSame_59 := dc_n1 aX12_areSame_58
theorem aX12_areSame_61 : dc_at cX12_areSame 61 sX12_areSame_61 := dc_n2 aX12_areSame_59
theorem aX12_areSame_63 : dc_at cX12_areSame 63 sX12_areSame_63 := dc_n2 aX12_areSame_61
theorem aX12_areSame_66 : dc_at cX12_areSame 66 sX12_areSame_66 := dc_n3 aX12_areSame_63
theorem aX12_areSame_67 : dc_at cX12_areSame 67 sX12_areSame_67 := dc_n1 aX12_areSame_66
theorem aX12_areSame_70 : dc_at cX12_areSame 70 sX12_areSame_70 := dc_n3 aX12_areSame_67
theorem aX12_areSame_71 : dc_at cX12_areSame 71 sX12_areSame_71 := dc_n1 aX12_areSame_70
theorem aX12_areSame_72 : dc_at cX12_areSame 72 sX12_areSame_72 := dc_n1 aX12_areSame_71
theorem aX12_areSame_75 : dc_at cX12_areSame 75 sX12_areSame_75 := dc_n3 aX12_areSame_72
theorem aX12_areSame_78 : dc_at cX12_areSame 78 sX12_areSame_78 := dc_n3 aX12_areSame_75
theorem aX12_areSame_81 : dc_at cX12_areSame 81 sX12_areSame_81 := dc_n3 aX12_areSame_78
theorem aX12_areSame_83 : dc_at cX12_areSame 83 sX12_areSame_83 := dc_n2 aX12_areSame_81
theorem aX12_areSame_84 : dc_at cX12_areSame 84 sX12_areSame_84 := dc_n1 aX12_areSame_83
theorem aX12_areSame_87 : dc_at cX12_areSame 87 sX12_areSame_87 := dc_n3 aX12_areSame_84
theorem aX12_areSame_88 : dc_at cX12_areSame 88 sX12_areSame_88 := dc_n1 aX12_areSame_87
theorem aX12_areSame_91 : dc_at cX12_areSame 91 sX12_areSame_91 := dc_n3 aX12_areSame_88
theorem aX12_areSame_92 : dc_at cX12_areSame 92 sX12_areSame_92 := dc_n1 aX12_areSame_91
theorem dX12_areSame_0 : decode cX12_areSame 0 = .ok (.iconst 0, 1) := dc_3 aX12_areSame_0
theorem dX12_areSame_1 : decode cX12_areSame 1 = .ok (.istore 4, 2) := dc_54 (a0 := 4) aX12_areSame_1
theorem dX12_areSame_3 : decode cX12_areSame 3 = .ok (.iconst 0, 1) := dc_3 aX12_areSame_3
theorem dX12_areSame_4 : decode cX12_areSame 4 = .ok (.istore 5, 2) := dc_54 (a0 := 5) aX12_areSame_4
theorem dX12_areSame_6 : decode cX12_areSame 6 = .ok (.iload 5, 2) := dc_21 (a0 := 5) aX12_areSame_6
theorem dX12_areSame_8 : decode cX12_areSame 8 = .ok (.bipush 7, 2) := dc_16 (a0 := 7) aX12_areSame_8 (by decide)
theorem dX12_areSame_10 : decode cX12_areSame 10 = .ok (.if_icmp .ge 71, 3) := dc_162 (a0 := 0) (b0 := 71) aX12_areSame_10 (by decide)
theorem dX12_areSame_13 : decode cX12_areSame 13 = .ok (.aload_n 0, 1) := dc_42 aX12_areSame_13
theorem dX12_areSame_14 : decode cX12_areSame 14 = .ok (.iload_n 1, 1) := dc_27 aX12_areSame_14
theorem dX12_areSame_15 : decode cX12_areSame 15 = .ok (.iload 5, 2) := dc_21 (a0 := 5) aX12_areSame_15
theorem dX12_areSame_17 : decode cX12_areSame 17 = .ok (.invokevirtual 254, 3) := dc_182 (a0 := 0) (b0 := 254) aX12_areSame_17
theorem dX12_areSame_20 : decode cX12_areSame 20 = .ok (.istore 6, 2) := dc_54 (a0 := 6) aX12_areSame_20
theorem dX12_areSame_22 : decode cX12_areSame 22 = .ok (.aload_n 0, 1) := dc_42 aX12_areSame_22
theorem dX12_areSame_23 : decode cX12_areSame 23 = .ok (.iload_n 2, 1) := dc_28 aX12_areSame_23
theorem dX12_areSame_24 : decode cX12_areSame 24 = .ok (.iload 5, 2) := dc_21 (a0 := 5) aX12_areSame_24
theorem dX12_areSame_26 : decode cX12_areSame 26 = .ok (.invokevirtual 254, 3) := dc_182 (a0 := 0) (b0 := 254) aX12_areSame_26
theorem dX12_areSame_29 : decode cX12_areSame 29 = .ok (.istore 7, 2) := dc_54 (a0 := 7) aX12_areSame_29
theorem dX12_areSame_31 : decode cX12_areSame 31 = .ok (.iload 6, 2) := dc_21 (a0 := 6) aX12_areSame_31
theorem dX12_areSame_33 : decode cX12_areSame 33 = .ok (.iconst (-1), 1) := dc_2 aX12_areSame_33
theorem dX12_areSame_34 : decode cX12_areSame 34 = .ok (.if_icmp .eq 41, 3) := dc_159 (a0 := 0) (b0 := 41) aX12_areSame_34 (by decide)
theorem dX12_areSame_37 : decode cX12_areSame 37 = .ok (.iload 7, 2) := dc_21 (a0 := 7) aX12_areSame_37
theorem dX12_areSame_39 : decode cX12_areSame 39 = .ok (.iconst (-1), 1) := dc_2 aX12_areSame_39
theorem dX12_areSame_40 : decode cX12_areSame 40 = .ok (.if_icmp .ne 6, 3) := dc_160 (a0 := 0) (b0 := 6) aX12_areSame_40 (by decide)
theorem dX12_areSame_43 : decode cX12_areSame 43 = .ok (.goto 32, 3) := dc_167 (a0 := 0) (b0 := 32) aX12_areSame_43 (by decide)
theorem dX12_areSame_46 : decode cX12_areSame 46 = .ok (.aload_n 0, 1) := dc_42 aX12_areSame_46
theorem dX12_areSame_47 : decode cX12_areSame 47 = .ok (.iload 6, 2) := dc_21 (a0 := 6) aX12_areSame_47
theorem dX12_areSame_49 : decode cX12_areSame 49 = .ok (.iload 7, 2) := dc_21 (a0 := 7) aX12_areSame_49
theorem dX12_areSame_51 : decode cX12_areSame 51 = .ok (.invokevirtual 283, 3) := dc_182 (a0 := 1) (b0 := 27) aX12_areSame_51
theorem dX12_areSame_54 : decode cX12_areSame 54 = .ok (.iconst 1, 1) := dc_4 aX12_areSame_54
theorem dX12_areSame_55 : decode cX12_areSame 55 = .ok (.if_icmp .le 17, 3) := dc_164 (a0 := 0) (b0 := 17) aX12_areSame_55 (by decide)
theorem dX12_areSame_58 : decode cX12_areSame 58 = .ok (.aload_n 0, 1) := dc_42 aX12_areSame_58
theorem dX12_areSame_59 : decode cX12_areSame 59 = .ok (.iload 7, 2) := dc_21 (a0 := 7) aX12_areSame_59
theorem dX12_areSame_61 : decode cX12_areSame 61 = .ok (.iload 6, 2) := dc_21 (a0 := 6) aX12_areSame_61
theorem dX12_areSame_63 : decode cX12_areSame 63 = .ok (.invokevirtual 283, 3) := dc_182 (a0 := 1) (b0 := 27) aX12_areSame_63
theorem dX12_areSame_66 : decode cX12_areSame 66 = .ok (.iconst 1, 1) := dc_4 aX12_areSame_66
theorem dX12_areSame_67 : decode cX12_areSame 67 = .ok (.if_icmp .le 5, 3) := dc_164 (a0 := 0) (b0 := 5) aX12_areSame_67 (by decide)
theorem dX12_areSame_70 : decode cX12_areSame 70 = .ok (.iconst 0, 1) := dc_3 aX12_areSame_70
theorem dX12_areSame_71 : decode cX12_areSame 71 = .ok (.ireturn, 1) := dc_172 aX12_areSame_71
theorem dX12_areSame_72 : decode cX12_areSame 72 = .ok (.iinc 4 1, 3) := dc_132 (a0 := 4) (a1 := 1) aX12_areSame_72 (by decide)
theorem dX12_areSame_75 : decode cX12_areSame 75 = .ok (.iinc 5 1, 3) := dc_132 (a0 := 5) (a1 := 1) aX12_areSame_75 (by decide)
theorem dX12_areSame_78 : decode cX12_areSame 78 = .ok (.goto (-72), 3) := dc_167 (a0 := 255) (b0 := 184) aX12_areSame_78 (by decide)
theorem dX12_areSame_81 : decode cX12_areSame 81 = .ok (.iload 4, 2) := dc_21 (a0 := 4) aX12_areSame_81
theorem dX12_areSame_83 : decode cX12_areSame 83 = .ok (.iload_n 3, 1) := dc_29 aX12_areSame_83
theorem dX12_areSame_84 : decode cX12_areSame 84 = .ok (.if_icmp .lt 7, 3) := dc_161 (a0 := 0) (b0 := 7) aX12_areSame_84 (by decide)
theorem dX12_areSame_87 : decode cX12_areSame 87 = .ok (.iconst 1, 1) := dc_4 aX12_areSame_87
theorem dX12_areSame_88 : decode cX12_areSame 88 = .ok (.goto 4, 3) := dc_167 (a0 := 0) (b0 := 4) aX12_areSame_88 (by decide)
theorem dX12_areSame_91 : decode cX12_areSame 91 = .ok (.iconst 0, 1) := dc_3 aX12_areSame_91
theorem dX12_areSame_92 : decode cX12_areSame 92 = .ok (.ireturn, 1) := dc_172 aX12_areSame_92
set_option maxRecDepth 20000 in
theorem ggX12_isNumber_X12_right : GoodIn wsX12_isNumber wsX12_right := goodIn_k _ [[5, 0, 0, 0, 0, 0, 0, 0, 0, 0, 0, 0, 0, 0, 0, 0, 0, 0, 0, 0, 0, 0, 0, 0, 0, 0, 0, 0, 0, 0, 0, 0, 0, 0, 0, 0, 0, 0, 0, 0, 0, 0, 0, 0, 0, 0, 0, 0, 0, 0, 0, 0, 0, 0, 0, 0, 0, 0, 0, 0]] (by rfl) (by decide +kernel)
set_option maxRecDepth 20000 in
theorem gX12_isNumber_X12_right : GoodIn wsX12_isNumber (wsV RX12 209 RX12 yX12_right wsX12_right) := goodIn_app (goodIn_of _ (by decide +kernel)) ggX12_isNumber_X12_right
noncomputable def sX12_isNumber_20 : List Nat := 172 :: []
noncomputable def sX12_isNumber_17 : List Nat := 182 :: 0 :: 209 :: sX12_isNumber_20
noncomputable def sX12_isNumber_16 : List Nat := 4 :: sX12_isNumber_17
noncomputable def sX12_isNumber_15 : List Nat := 3 :: sX12_isNumber_16
noncomputable def sX12_isNumber_12 : List Nat := 167 :: 0 :: 4 :: sX12_isNumber_15
noncomputable def sX12_isNumber_11 : List Nat := 4 :: sX12_isNumber_12
noncomputable def sX12_isNumber_8 : List Nat := 162 :: 0 :: 7 :: sX12_isNumber_11
noncomputable def sX12_isNumber_6 : List Nat := 16 :: 120 :: sX12_isNumber_8
noncomputable def sX12_isNumber_5 : List Nat := 27 :: sX12_isNumber_6
noncomputable def sX12_isNumber_2 : List Nat := 155 :: 0 :: 13 :: sX12_isNumber_5
noncomputable def sX12_isNumber_1 : List Nat := 27 :: sX12_isNumber_2
noncomputable def sX12_isNumber_0 : List Nat := 42 :: sX12_isNumber_1
theorem aX12_isNumber_0 : dc_at cX12_isNumber 0 sX12_isNumber_0 := dc_base (by decide +kernel)
theorem aX12_isNumber_1 : dc_at cX12_isNumber 1 sX12_isNumber_1 := dc_n1 aX12_isNumber_0
theorem aX12_isNumber_2 : dc_at cX12_isNumber 2 sX12_isNumber_2 := dc_n1 aX12_isNumber_1
theorem aX12_isNumber_5 : dc_at cX12_isNumber 5 sX12_isNumber_5 := dc_n3 aX12_isNumber_2
theorem aX12_isNumber_6 : dc_at cX12_isNumber 6 sX12_isNumber_6 := dc_n1 aX12_isNumber_5
theorem aX12_isNumber_8 : dc_at cX12_isNumber 8 sX12_isNumber_8 := dc_n2 aX12_isNumber_6
theorem aX12_isNumber_11 : dc_at cX12_isNumber 11 sX12_isNumber_11 := dc_n3 aX12_isNumber_8
theorem aX12_isNumber_12 : dc_at cX12_isNumber 12 sX12_isNumber_12 := dc_n1 aX12_isNumber_11
theorem aX12_isNumber_15 : dc_at cX12_isNumber 15 sX12_isNumber_15 := dc_n3 aX12_isNumber_12
theorem aX12_isNumber_16 : dc_at cX12_isNumber 16 sX12_isNumber_16 := dc_n1 aX12_isNumber_15
theorem aX12_isNumber_17 : dc_at cX12_isNumber 17 sX12_isNumber_17 := dc_n1 aX12_isNumber_16
theorem aX12_isNumber_20 : dc_at cX12_isNumber 20 sX12_isNumber_20 := dc_n3 aX12_isNumber_17
theorem dX12_isNumber_0 : decode cX12_isNumber 0 = .ok (.aload_n 0, 1) := dc_42 aX12_isNumber_0
theorem dX12_isNumber_1 : decode cX12_isNumber 1 = .ok (.iload_n 1, 1) := dc_27 aX12_isNumber_1
theorem dX12_isNumber_2 : decode cX12_isNumber 2 = .ok (.ifCond .lt 13, 3) := dc_155 (a0 := 0) (b0 := 13) aX12_isNumber_2 (by decide)
theorem dX12_isNumber_5 : decode cX12_isNumber 5 = .ok (.iload_n 1, 1) := dc_27 aX12_isNumber_5
theorem dX12_isNumber_6 : decode cX12_isNumber 6 = .ok (.bipush 120, 2) := dc_16 (a0 := 120) aX12_isNumber_6 (by decide)
theorem dX12_isNumber_8 : decode cX12_isNumber 8 = .ok (.if_icmp .ge 7, 3) := dc_162 (a0 := 0) (b0 := 7) aX12_isNumber_8 (by decide)
theorem dX12_isNumber_11 : decode cX12_isNumber 11 = .ok (.iconst 1, 1) := dc_4 aX12_isNumber_11
theorem dX12_isNumber_12 : decode cX12_isNumber 12 = .ok (.goto 4, 3) := dc_167 (a0 := 0) (b0 := 4) aX12_isNumber_12 (by decide)
theorem dX12_isNumber_15 : decode cX12_isNumber 15 = .ok (.iconst 0, 1) := dc_3 aX12_isNumber_15
theorem dX12_isNumber_16 : decode cX12_isNumber 16 = .ok (.iconst 1, 1) := dc_4 aX12_isNumber_16
theorem dX12_isNumber_17 : decode cX12_isNumber 17 = .ok (.invokevirtual 209, 3) := dc_182 (a0 := 0) (b0 := 209) aX12_isNumber_17
theorem dX12_isNumber_20 : decode cX12_isNumber 20 = .ok (.ireturn, 1) := dc_172 aX12_isNumber_20
set_option maxRecDepth 20000 in
theorem ggX12_same_X12_within : GoodIn wsX12_same wsX12_within := goodIn_k _ [[5]] (by rfl) (by decide +kernel)
set_option maxRecDepth 20000 in
theorem gX12_same_X12_within : GoodIn wsX12_same (va_wsS RX12 270 yX12_within wsX12_within) := goodIn_app (goodIn_of _ (by decide +kernel)) ggX12_same_X12_within
set_option maxRecDepth 20000 in
theorem ggX12_same_X12_right : GoodIn wsX12_same wsX12_right := goodIn_k _ [[9], [1, 36, 0, 0, 0, 0, 0, 0, 0, 0, 0, 0, 0, 0, 0, 0, 0, 0, 0, 0, 0, 0, 0, 0, 0, 0, 0, 0, 0, 0, 0, 0, 0, 0, 0, 0, 0, 0, 0, 0, 0, 0, 0, 0, 0, 0, 0, 0, 0, 0, 0, 0, 0, 0, 0, 0, 0, 0, 0]] (by rfl) (by decide +kernel)
set_option maxRecDepth 20000 in
theorem gX12_same_X12_right : GoodIn wsX12_same (wsV RX12 209 RX12 yX12_right wsX12_right) := goodIn_app (goodIn_of _ (by decide +kernel)) ggX12_same_X12_right
set_option maxRecDepth 20000 in
theorem ggX12_same_X12_isNumber : GoodIn wsX12_same wsX12_isNumber := goodIn_k _ [[13], [6, 0, 0], [4, 4], [1, 36, 0, 0, 0, 0, 0, 0, 0, 0, 0, 0, 0, 0, 0, 0, 0, 0, 0, 0, 0, 0, 0, 0, 0, 0, 0, 0, 0, 0, 0, 0, 0, 0, 0, 0, 0, 0, 0, 0, 0, 0, 0, 0, 0, 0, 0, 0, 0, 0, 0, 0, 0, 0, 0, 0, 0, 0, 0]] (by rfl) (by decide +kernel)
set_option maxRecDepth 20000 in
theorem gX12_same_X12_isNumber : GoodIn wsX12_same (wsV RX12 356 RX12 yX12_isNumber wsX12_isNumber) := goodIn_app (goodIn_of _ (by decide +kernel)) ggX12_same_X12_isNumber
set_option maxRecDepth 20000 in
theorem ggX12_same_X12_areSame : GoodIn wsX12_same wsX12_areSame := goodIn_k _ [[17, 0, 0, 0], [4, 16, 0, 0, 0, 0, 0, 0, 0, 0, 0, 0, 0, 0, 0, 0, 0, 0, 0, 0, 0, 0, 0, 0, 0, 0, 0, 0, 0, 0, 0, 0, 0, 0, 0, 0, 0, 0, 0, 0, 0, 0, 0, 0, 0, 0, 0, 0, 0, 0, 0, 0, 0, 0, 0, 0, 0, 0, 0, 0, 0, 0, 0, 0, 0, 0, 0, 0, 0, 0, 0, 0, 0, 0, 0, 0]] (by rfl) (by decide +kernel)
set_option maxRecDepth 20000 in
theorem gX12_same_X12_areSame : GoodIn wsX12_same (wsV RX12 359 RX12 yX12_areSame wsX12_areSame) := goodIn_app (goodIn_of _ (by decide +kernel)) ggX12_same_X12_areSame
noncomputable def sX12_same_45 : List Nat := 172 :: []
noncomputable def sX12_same_42 : List Nat := 182 :: 1 :: 103 :: sX12_same_45
noncomputable def sX12_same_41 : List Nat := 29 :: sX12_same_42
noncomputable def sX12_same_40 : List Nat := 28 :: sX12_same_41
noncomputable def sX12_same_39 : List Nat := 27 :: sX12_same_40
noncomputable def sX12_same_38 : List Nat := 42 :: sX12_same_39
noncomputable def sX12_same_37 : List Nat := 172 :: sX12_same_38
noncomputable def sX12_same_36 : List Nat := 3 :: sX12_same_37
noncomputable def sX12_same_33 : List Nat := 154 :: 0 :: 5 :: sX12_same_36
noncomputable def sX12_same_30 : List Nat := 182 :: 1 :: 100 :: sX12_same_33
noncomputable def sX12_same_29 : List Nat := 28 :: sX12_same_30
noncomputable def sX12_same_28 : List Nat := 42 :: sX12_same_29
noncomputable def sX12_same_25 : List Nat := 153 :: 0 :: 11 :: sX12_same_28
noncomputable def sX12_same_22 : List Nat := 182 :: 1 :: 100 :: sX12_same_25
noncomputable def sX12_same_21 : List Nat := 27 :: sX12_same_22
noncomputable def sX12_same_20 : List Nat := 42 :: sX12_same_21
noncomputable def sX12_same_17 : List Nat := 153 :: 0 :: 19 :: sX12_same_20
noncomputable def sX12_same_14 : List Nat := 182 :: 0 :: 209 :: sX12_same_17
noncomputable def sX12_same_13 : List Nat := 4 :: sX12_same_14
noncomputable def sX12_same_10 : List Nat := 184 :: 1 :: 14 :: sX12_same_13
noncomputable def sX12_same_8 : List Nat := 16 :: 7 :: sX12_same_10
noncomputable def sX12_same_7 : List Nat := 4 :: sX12_same_8
noncomputable def sX12_same_6 : List Nat := 29 :: sX12_same_7
noncomputable def sX12_same_5 : List Nat := 42 :: sX12_same_6
noncomputable def sX12_same_2 : List Nat := 181 :: 0 :: 129 :: sX12_same_5
noncomputable def sX12_same_1 : List Nat := 3 :: sX12_same_2
noncomputable def sX12_same_0 : List Nat := 42 :: sX12_same_1
theorem aX12_same_0 : dc_at cX12_same 0 sX12_same_0 := dc_base (by decide +kernel)
theorem aX12_same_1 : dc_at cX12_same 1 sX12_same_1 := dc_n1 aX12_same_0
theorem aX12_same_2 : dc_at cX12_same 2 sX12_same_2 := dc_n1 aX12_same_1
theorem aX12_same_5 : dc_at cX12_same 5 sX12_same_5 := dc_n3 aX12_same_2
theorem aX12_same_6 : dc_at cX12_same 6 sX12_same_6 := dc_n1 aX12_same_5
theorem aX12_same_7 : dc_at cX12_same 7 sX12_same_7 := dc_n1 aX12_same_6
theorem aX12_same_8 : dc_at cX12_same 8 sX12_same_8 := dc_n1 aX12_same_7
theorem aX12_same_10 : dc_at cX12_same 10 sX12_same_10 := dc_n2 aX12_same_8
theorem aX12_same_13 : dc_at cX12_same 13 sX12_same_13 := dc_n3 aX12_same_10
theorem aX12_same_14 : dc_at cX12_same 14 sX12_same_14 := dc_n1 aX12_same_13
theorem aX12_same_17 : dc_at cX12_same 17 sX12_same_17 := dc_n3 aX12_same_14
theorem aX12_same_20 : dc_at cX12_same 20 sX12_same_20 := dc_n3 aX12_same_17
theorem aX12_same_21 : dc_at cX12_same 21 sX12_same_21 := dc_n1 aX12_same_20
theorem aX12_same_22 : dc_at cX12_same 22 sX12_same_22 := dc_n1 aX12_same_21
theorem aX12_same_25 : dc_at cX12_same 25 sX12_same_25 := dc_n3 aX12_same_22
theorem aX12_same_28 : dc_at cX12_same 28 sX12_same_28 := dc_n3 aX12_same_25
theorem aX12_same_29 : dc_at cX12_same 29 sX12_same_29 := dc_n1 aX12_same_28
theorem aX12_same_30 : dc_at cX12_same 30 sX12_same_30 := dc_n1 aX12_same_29
theorem aX12_same_33 : dc_at cX12_same 33 sX12_same_33 := dc_n3 aX12_same_30
theorem aX12_same_36 : dc_at cX12_same 36 sX12_same_36 := dc_n3 aX12_same_33
theorem aX12_same_37 : dc_at cX12_same 37 sX12_same_37 := dc_n1 aX12_same_36
theorem aX12_same_38 : dc_at cX12_same 38 sX12_same_38 := dc_n1 aX12_same_37
theorem aX12_same_39 : dc_at cX12_same 39 sX12_same_39 := dc_n1 aX12_same_38
theorem aX12_same_40 : dc_at cX12_same 40 sX12_same_40 := dc_n1 aX12_same_39
theorem aX12_same_41 : dc_at cX12_same 41 sX12_same_41 := dc_n1 aX12_same_40
theorem aX12_same_42 : dc_at cX12_same 42 sX12_same_42 := dc_n1 aX12_same_41
theorem aX12_same_45 : dc_at cX12_same 45 sX12_same_45 := dc_n3 aX12_same_42
theorem dX12_same_0 : decode cX12_same 0 = .ok (.aload_n 0, 1) := dc_42 aX12_same_0
theorem dX12_same_1 : decode cX12_same 1 = .ok (.iconst 0, 1) := dc_3 aX12_same_1
theorem dX12_same_2 : decode cX12_same 2 = .ok (.putfield 129, 3) := dc_181 (a0 := 0) (b0 := 129) aX12_same_2
theorem dX12_same_5 : decode cX12_same 5 = .ok (.aload_n 0, 1) := dc_42 aX12_same_5
theorem dX12_same_6 : decode cX12_same 6 = .ok (.iload_n 3, 1) := dc_29 aX12_same_6
theorem dX12_same_7 : decode cX12_same 7 = .ok (.iconst 1, 1) := dc_4 aX12_same_7
theorem dX12_same_8 : decode cX12_same 8 = .ok (.bipush 7, 2) := dc_16 (a0 := 7) aX12_same_8 (by decide)
theorem dX12_same_10 : decode cX12_same 10 = .ok (.invokestatic 270, 3) := dc_184 (a0 := 1) (b0 := 14) aX12_same_10
theorem dX12_same_13 : decode cX12_same 13 = .ok (.iconst 1, 1) := dc_4 aX12_same_13
theorem dX12_same_14 : decode cX12_same 14 = .ok (.invokevirtual 209, 3) := dc_182 (a0 := 0) (b0 := 209) aX12_same_14
theorem dX12_same_17 : decode cX12_same 17 = .ok (.ifCond .eq 19, 3) := dc_153 (a0 := 0) (b0 := 19) aX12_same_17 (by decide)
theorem dX12_same_20 : decode cX12_same 20 = .ok (.aload_n 0, 1) := dc_42 aX12_same_20
theorem dX12_same_21 : decode cX12_same 21 = .ok (.iload_n 1, 1) := dc_27 aX12_same_21
theorem dX12_same_22 : decode cX12_same 22 = .ok (.invokevirtual 356, 3) := dc_182 (a0 := 1) (b0 := 100) aX12_same_22
theorem dX12_same_25 : decode cX12_same 25 = .ok (.ifCond .eq 11, 3) := dc_153 (a0 := 0) (b0 := 11) aX12_same_25 (by decide)
theorem dX12_same_28 : decode cX12_same 28 = .ok (.aload_n 0, 1) := dc_42 aX12_same_28
theorem dX12_same_29 : decode cX12_same 29 = .ok (.iload_n 2, 1) := dc_28 aX12_same_29
theorem dX12_same_30 : decode cX12_same 30 = .ok (.invokevirtual 356, 3) := dc_182 (a0 := 1) (b0 := 100) aX12_same_30
theorem dX12_same_33 : decode cX12_same 33 = .ok (.ifCond .ne 5, 3) := dc_154 (a0 := 0) (b0 := 5) aX12_same_33 (by decide)
theorem dX12_same_36 : decode cX12_same 36 = .ok (.iconst 0, 1) := dc_3 aX12_same_36
theorem dX12_same_37 : decode cX12_same 37 = .ok (.ireturn, 1) := dc_172 aX12_same_37
theorem dX12_same_38 : decode cX12_same 38 = .ok (.aload_n 0, 1) := dc_42 aX12_same_38
theorem dX12_same_39 : decode cX12_same 39 = .ok (.iload_n 1, 1) := dc_27 aX12_same_39
theorem dX12_same_40 : decode cX12_same 40 = .ok (.iload_n 2, 1) := dc_28 aX12_same_40
theorem dX12_same_41 : decode cX12_same 41 = .ok (.iload_n 3, 1) := dc_29 aX12_same_41
theorem dX12_same_42 : decode cX12_same 42 = .ok (.invokevirtual 359, 3) := dc_182 (a0 := 1) (b0 := 103) aX12_same_42
theorem dX12_same_45 : decode cX12_same 45 = .ok (.ireturn, 1) := dc_172 aX12_same_45
set_option maxRecDepth 20000 in
theorem ggX12_births_X12_within : GoodIn wsX12_births wsX12_within := goodIn_k _ [[6]] (by rfl) (by decide +kernel)
set_option maxRecDepth 20000 in
theorem gX12_births_X12_within : GoodIn wsX12_births (va_wsS RX12 270 yX12_within wsX12_within) := goodIn_app (goodIn_of _ (by decide +kernel)) ggX12_births_X12_within
set_option maxRecDepth 20000 in
theorem ggX12_births_X12_right : GoodIn wsX12_births wsX12_right := goodIn_k _ [[10], [1, 37, 0, 0, 0, 0, 0, 0, 0, 0, 0, 0, 0, 0, 0, 0, 0, 0, 0, 0, 0, 0, 0, 0, 0, 0, 0, 0, 0, 0, 0, 0, 0, 0, 0, 0, 0, 0, 0, 0, 0, 0, 0, 0, 0, 0, 0, 0, 0, 0, 0, 0, 0, 0, 0, 0, 0, 0, 0]] (by rfl) (by decide +kernel)
set_option maxRecDepth 20000 in
theorem gX12_births_X12_right : GoodIn wsX12_births (wsV RX12 209 RX12 yX12_right wsX12_right) := goodIn_app (goodIn_of _ (by decide +kernel)) ggX12_births_X12_right
set_option maxRecDepth 20000 in
theorem ggX12_births_X12_areSame : GoodIn wsX12_births wsX12_areSame := goodIn_k _ [[14, 0, 0, 0], [5, 12, 0, 0, 0, 0, 0, 0, 0, 0, 0, 0, 0, 0, 0, 0, 0, 0, 4, 0, 0, 0, 0, 0, 0, 0, 0, 0, 0, 0, 0, 0, 0, 0, 0, 0, 0, 0, 0, 0, 0, 0, 0, 0, 0, 0, 0, 0, 0, 0, 0, 0, 0, 0, 0, 0, 0, 0, 0, 0, 0, 0, 0, 0, 0, 0, 0, 0, 0, 0, 0, 0, 0, 0, 0, 0]] (by rfl) (by decide +kernel)
set_option maxRecDepth 20000 in
theorem gX12_births_X12_areSame : GoodIn wsX12_births (wsV RX12 359 RX12 yX12_areSame wsX12_areSame) := goodIn_app (goodIn_of _ (by decide +kernel)) ggX12_births_X12_areSame
set_option maxRecDepth 20000 in
theorem ggX12_births_X12_tells : GoodIn wsX12_births wsX12_tells := goodIn_k _ [[38], [15, 0, 0], [5, 12, 0, 19, 0, 0, 0, 0, 0, 0, 0, 0, 0, 0, 0, 0, 0, 0, 0, 0, 0, 0, 0, 0, 0, 0, 0, 0, 0, 0, 0, 0, 0, 0, 0, 0, 0, 0, 0, 0, 0, 0, 0, 0, 0, 0, 0, 0, 0, 0, 0, 0, 0, 0, 0, 0, 0, 0, 0, 0, 0]] (by rfl) (by decide +kernel)
set_option maxRecDepth 20000 in
theorem gX12_births_X12_tells : GoodIn wsX12_births (wsV RX12 257 RX12 yX12_tells wsX12_tells) := goodIn_app (goodIn_of _ (by decide +kernel)) ggX12_births_X12_tells
noncomputable def sX12_births_257 : List Nat := 172 :: []
noncomputable def sX12_births_255 : List Nat := 21 :: 4 :: sX12_births_257
noncomputable def sX12_births_252 : List Nat := 167 :: 255 :: 215 :: sX12_births_255
noncomputable def sX12_births_249 : List Nat := 132 :: 5 :: 1 :: sX12_births_252
noncomputable def sX12_births_247 : List Nat := 54 :: 4 :: sX12_births_249
noncomputable def sX12_births_246 : List Nat := 96 :: sX12_births_247
noncomputable def sX12_births_245 : List Nat := 3 :: sX12_births_246
noncomputable def sX12_births_242 : List Nat := 167 :: 0 :: 4 :: sX12_births_245
noncomputable def sX12_births_241 : List Nat := 4 :: sX12_births_242
noncomputable def sX12_births_238 : List Nat := 153 :: 0 :: 7 :: sX12_births_241
noncomputable def sX12_births_235 : List Nat := 182 :: 1 :: 1 :: sX12_births_238
noncomputable def sX12_births_233 : List Nat := 21 :: 5 :: sX12_births_235
noncomputable def sX12_births_232 : List Nat := 42 :: sX12_births_233
noncomputable def sX12_births_229 : List Nat := 160 :: 0 :: 16 :: sX12_births_232
noncomputable def sX12_births_227 : List Nat := 21 :: 5 :: sX12_births_229
noncomputable def sX12_births_226 : List Nat := 46 :: sX12_births_227
noncomputable def sX12_births_224 : List Nat := 21 :: 5 :: sX12_births_226
noncomputable def sX12_births_221 : List Nat := 180 :: 0 :: 111 :: sX12_births_224
noncomputable def sX12_births_220 : List Nat := 42 :: sX12_births_221
noncomputable def sX12_births_218 : List Nat := 21 :: 4 :: sX12_births_220
noncomputable def sX12_births_215 : List Nat := 162 :: 0 :: 40 :: sX12_births_218
noncomputable def sX12_births_213 : List Nat := 16 :: 120 :: sX12_births_215
noncomputable def sX12_births_211 : List Nat := 21 :: 5 :: sX12_births_213
noncomputable def sX12_births_209 : List Nat := 54 :: 5 :: sX12_births_211
noncomputable def sX12_births_208 : List Nat := 3 :: sX12_births_209
noncomputable def sX12_births_206 : List Nat := 54 :: 4 :: sX12_births_208
noncomputable def sX12_births_205 : List Nat := 3 :: sX12_births_206
noncomputable def sX12_births_204 : List Nat := 172 :: sX12_births_205
noncomputable def sX12_births_203 : List Nat := 46 :: sX12_births_204
noncomputable def sX12_births_202 : List Nat := 27 :: sX12_births_203
noncomputable def sX12_births_199 : List Nat := 180 :: 0 :: 111 :: sX12_births_202
noncomputable def sX12_births_198 : List Nat := 42 :: sX12_births_199
noncomputable def sX12_births_195 : List Nat := 159 :: 0 :: 10 :: sX12_births_198
noncomputable def sX12_births_194 : List Nat := 2 :: sX12_births_195
noncomputable def sX12_births_193 : List Nat := 27 :: sX12_births_194
noncomputable def sX12_births_190 : List Nat := 167 :: 255 :: 130 :: sX12_births_193
noncomputable def sX12_births_187 : List Nat := 167 :: 255 :: 142 :: sX12_births_190
noncomputable def sX12_births_184 : List Nat := 132 :: 4 :: 1 :: sX12_births_187
noncomputable def sX12_births_181 : List Nat := 167 :: 255 :: 158 :: sX12_births_184
noncomputable def sX12_births_178 : List Nat := 132 :: 5 :: 1 :: sX12_births_181
noncomputable def sX12_births_177 : List Nat := 62 :: sX12_births_178
noncomputable def sX12_births_176 : List Nat := 4 :: sX12_births_177
noncomputable def sX12_births_175 : List Nat := 79 :: sX12_births_176
noncomputable def sX12_births_173 : List Nat := 21 :: 6 :: sX12_births_175
noncomputable def sX12_births_171 : List Nat := 21 :: 5 :: sX12_births_173
noncomputable def sX12_births_168 : List Nat := 180 :: 0 :: 111 :: sX12_births_171
noncomputable def sX12_births_167 : List Nat := 42 :: sX12_births_168
noncomputable def sX12_births_166 : List Nat := 79 :: sX12_births_167
noncomputable def sX12_births_164 : List Nat := 21 :: 6 :: sX12_births_166
noncomputable def sX12_births_162 : List Nat := 21 :: 4 :: sX12_births_164
noncomputable def sX12_births_159 : List Nat := 180 :: 0 :: 111 :: sX12_births_162
noncomputable def sX12_births_158 : List Nat := 42 :: sX12_births_159
noncomputable def sX12_births_156 : List Nat := 54 :: 6 :: sX12_births_158
noncomputable def sX12_births_155 : List Nat := 46 :: sX12_births_156
noncomputable def sX12_births_153 : List Nat := 21 :: 5 :: sX12_births_155
noncomputable def sX12_births_150 : List Nat := 180 :: 0 :: 111 :: sX12_births_153
noncomputable def sX12_births_149 : List Nat := 42 :: sX12_births_150
noncomputable def sX12_births_146 : List Nat := 167 :: 0 :: 10 :: sX12_births_149
noncomputable def sX12_births_145 : List Nat := 46 :: sX12_births_146
noncomputable def sX12_births_143 : List Nat := 21 :: 4 :: sX12_births_145
noncomputable def sX12_births_140 : List Nat := 180 :: 0 :: 111 :: sX12_births_143
noncomputable def sX12_births_139 : List Nat := 42 :: sX12_births_140
noncomputable def sX12_births_136 : List Nat := 162 :: 0 :: 13 :: sX12_births_139
noncomputable def sX12_births_135 : List Nat := 46 :: sX12_births_136
noncomputable def sX12_births_133 : List Nat := 21 :: 5 :: sX12_births_135
noncomputable def sX12_births_130 : List Nat := 180 :: 0 :: 111 :: sX12_births_133
noncomputable def sX12_births_129 : List Nat := 42 :: sX12_births_130
noncomputable def sX12_births_128 : List Nat := 46 :: sX12_births_129
noncomputable def sX12_births_126 : List Nat := 21 :: 4 :: sX12_births_128
noncomputable def sX12_births_123 : List Nat := 180 :: 0 :: 111 :: sX12_births_126
noncomputable def sX12_births_122 : List Nat := 42 :: sX12_births_123
noncomputable def sX12_births_119 : List Nat := 167 :: 0 :: 59 :: sX12_births_122
noncomputable def sX12_births_116 : List Nat := 154 :: 0 :: 6 :: sX12_births_119
noncomputable def sX12_births_113 : List Nat := 182 :: 1 :: 103 :: sX12_births_116
noncomputable def sX12_births_112 : List Nat := 28 :: sX12_births_113
noncomputable def sX12_births_110 : List Nat := 21 :: 5 :: sX12_births_112
noncomputable def sX12_births_108 : List Nat := 21 :: 4 :: sX12_births_110
noncomputable def sX12_births_107 : List Nat := 42 :: sX12_births_108
noncomputable def sX12_births_104 : List Nat := 159 :: 0 :: 74 :: sX12_births_107
noncomputable def sX12_births_103 : List Nat := 46 :: sX12_births_104
noncomputable def sX12_births_101 : List Nat := 21 :: 5 :: sX12_births_103
noncomputable def sX12_births_98 : List Nat := 180 :: 0 :: 111 :: sX12_births_101
noncomputable def sX12_births_97 : List Nat := 42 :: sX12_births_98
noncomputable def sX12_births_96 : List Nat := 46 :: sX12_births_97
noncomputable def sX12_births_94 : List Nat := 21 :: 4 :: sX12_births_96
noncomputable def sX12_births_91 : List Nat := 180 :: 0 :: 111 :: sX12_births_94
noncomputable def sX12_births_90 : List Nat := 42 :: sX12_births_91
noncomputable def sX12_births_87 : List Nat := 162 :: 0 :: 97 :: sX12_births_90
noncomputable def sX12_births_85 : List Nat := 21 :: 4 :: sX12_births_87
noncomputable def sX12_births_83 : List Nat := 21 :: 5 :: sX12_births_85
noncomputable def sX12_births_81 : List Nat := 54 :: 5 :: sX12_births_83
noncomputable def sX12_births_80 : List Nat := 3 :: sX12_births_81
noncomputable def sX12_births_77 : List Nat := 162 :: 0 :: 113 :: sX12_births_80
noncomputable def sX12_births_75 : List Nat := 16 :: 120 :: sX12_births_77
noncomputable def sX12_births_73 : List Nat := 21 :: 4 :: sX12_births_75
noncomputable def sX12_births_71 : List Nat := 54 :: 4 :: sX12_births_73
noncomputable def sX12_births_70 : List Nat := 3 :: sX12_births_71
noncomputable def sX12_births_69 : List Nat := 62 :: sX12_births_70
noncomputable def sX12_births_68 : List Nat := 3 :: sX12_births_69
noncomputable def sX12_births_65 : List Nat := 153 :: 0 :: 128 :: sX12_births_68
noncomputable def sX12_births_64 : List Nat := 29 :: sX12_births_65
noncomputable def sX12_births_63 : List Nat := 62 :: sX12_births_64
noncomputable def sX12_births_62 : List Nat := 4 :: sX12_births_63
noncomputable def sX12_births_59 : List Nat := 167 :: 255 :: 240 :: sX12_births_62
noncomputable def sX12_births_56 : List Nat := 132 :: 3 :: 1 :: sX12_births_59
noncomputable def sX12_births_55 : List Nat := 79 :: sX12_births_56
noncomputable def sX12_births_54 : List Nat := 29 :: sX12_births_55
noncomputable def sX12_births_53 : List Nat := 29 :: sX12_births_54
noncomputable def sX12_births_50 : List Nat := 180 :: 0 :: 111 :: sX12_births_53
noncomputable def sX12_births_49 : List Nat := 42 :: sX12_births_50
noncomputable def sX12_births_46 : List Nat := 162 :: 0 :: 16 :: sX12_births_49
noncomputable def sX12_births_44 : List Nat := 16 :: 120 :: sX12_births_46
noncomputable def sX12_births_43 : List Nat := 29 :: sX12_births_44
noncomputable def sX12_births_42 : List Nat := 62 :: sX12_births_43
noncomputable def sX12_births_41 : List Nat := 3 :: sX12_births_42
noncomputable def sX12_births_40 : List Nat := 172 :: sX12_births_41
noncomputable def sX12_births_39 : List Nat := 3 :: sX12_births_40
noncomputable def sX12_births_36 : List Nat := 154 :: 0 :: 5 :: sX12_births_39
noncomputable def sX12_births_33 : List Nat := 182 :: 0 :: 209 :: sX12_births_36
noncomputable def sX12_births_32 : List Nat := 4 :: sX12_births_33
noncomputable def sX12_births_31 : List Nat := 3 :: sX12_births_32
noncomputable def sX12_births_28 : List Nat := 167 :: 0 :: 4 :: sX12_births_31
noncomputable def sX12_births_27 : List Nat := 4 :: sX12_births_28
noncomputable def sX12_births_24 : List Nat := 162 :: 0 :: 7 :: sX12_births_27
noncomputable def sX12_births_22 : List Nat := 16 :: 120 :: sX12_births_24
noncomputable def sX12_births_21 : List Nat := 27 :: sX12_births_22
noncomputable def sX12_births_18 : List Nat := 161 :: 0 :: 13 :: sX12_births_21
noncomputable def sX12_births_17 : List Nat := 2 :: sX12_births_18
noncomputable def sX12_births_16 : List Nat := 27 :: sX12_births_17
noncomputable def sX12_births_13 : List Nat := 153 :: 0 :: 18 :: sX12_births_16
noncomputable def sX12_births_10 : List Nat := 184 :: 1 :: 14 :: sX12_births_13
noncomputable def sX12_births_8 : List Nat := 16 :: 7 :: sX12_births_10
noncomputable def sX12_births_7 : List Nat := 4 :: sX12_births_8
noncomputable def sX12_births_6 : List Nat := 28 :: sX12_births_7
noncomputable def sX12_births_5 : List Nat := 42 :: sX12_births_6
noncomputable def sX12_births_2 : List Nat := 181 :: 0 :: 129 :: sX12_births_5
noncomputable def sX12_births_1 : List Nat := 3 :: sX12_births_2
noncomputable def sX12_births_0 : List Nat := 42 :: sX12_births_1
theorem aX12_births_0 : dc_at cX12_births 0 sX12_births_0 := dc_base (by decide +kernel)
theorem aX12_births_1 : dc_at cX12_births 1 sX12_births_1 := dc_n1 aX12_births_0
theorem aX12_births_2 : dc_at cX12_births 2 sX12_births_2 := dc_n1 aX12_births_1
theorem aX12_births_5 : dc_at cX12_births 5 sX12_births_5 := dc_n3 aX12_births_2
theorem aX12_births_6 : dc_at cX12_births 6 sX12_births_6 := dc_n1 aX12_births_5
theorem aX12_births_7 : dc_at cX12_births 7 sX12_births_7 := dc_n1 aX12_births_6
theorem aX12_births_8 : dc_at cX12_births 8 sX12_births_8 := dc_n1 aX12_births_7
theorem aX12_births_10 : dc_at cX12_births 10 sX12_births_10 := dc_n2 aX12_births_8
theorem aX12_births_13 : dc_at cX12_births 13 sX12_births_13 := dc_n3 aX12_births_10
theorem aX12_births_16 : dc_at cX12_births 16 sX12_births_16 := dc_n3 aX12_births_13
theorem aX12_births_17 : dc_at cX12_births 17 sX12_births_17 := dc_n1 aX12_births_16
theorem aX12_births_18 : dc_at cX12_births 18 sX12_births_18 := dc_n1 aX12_births_17
theorem aX12_births_21 : dc_at cX12_births 21 sX12_births_21 := dc_n3 aX12_births_18
theorem aX12_births_22 : dc_at cX12_births 22 sX12_births_22 := dc_n1 aX12_births_21
theorem aX12_births_24 : dc_at cX12_births 24 sX12_births_24 := dc_n2 aX12_births_22
theorem aX12_births_27 : dc_at cX12_births 27 sX12_births_27 := dc_n3 aX12_births_24
theorem aX12_births_28 : dc_at cX12_births 28 sX12_births_28 := dc_n1 aX12_births_27
theorem aX12_births_31 : dc_at cX12_births 31 sX12_births_31 := dc_n3 aX12_births_28
theorem aX12_births_32 : dc_at cX12_births 32 sX12_births_32 := dc_n1 aX12_births_31
theorem aX12_births_33 : dc_at cX12_births 33 sX12_births_33 := dc_n1 aX12_births_32
theorem aX12_births_36 : dc_at cX12_births 36 sX12_births_36 := dc_n3 aX12_births_33
theorem aX12_births_39 : dc_at cX12_births 39 sX12_births_39 := dc_n3 aX12_births_36
theorem aX12_births_40 : dc_at cX12_births 40 sX12_births_40 := dc_n1 aX12_births_39
theorem aX12_births_41 : dc_at cX12_births 41 sX12_births_41 := dc_n1 aX12_births_40
theorem aX12_births_42 : dc_at cX12_births 42 sX12_births_42 := dc_n1 aX12_births_41
theorem aX12_births_43 : dc_at cX12_births 43 sX12_births_43 := dc_n1 aX12_births_42
theorem aX12_births_44 : dc_at cX12_births 44 sX12_births_44 := dc_n1 aX12_births_43
theorem aX12_births_46 : dc_at cX12_births 46 sX12_births_46 := dc_n2 aX12_births_44
theorem aX12_births_49 : dc_at cX12_births 49 sX12_births_49 := dc_n3 aX12_births_46
theorem aX12_births_50 : dc_at cX12_births 50 sX12_births_50 := dc_n1 aX12_births_49
theorem aX12_births_53 : dc_at cX12_births 53 sX12_births_53 := dc_n3 aX12_births_50
theorem aX12_births_54 : dc_at cX12_births 54 sX12_births_54 := dc_n1 aX12_births_53
theorem aX12_births_55 : dc_at cX12_births 55 sX12_births_55 := dc_n1 aX12_births_54
theorem aX12_births_56 : dc_at cX12_births 56 sX12_births_56 := dc_n1 aX12_births_55
theorem aX12_births_59 : dc_at cX12_births 59 sX12_births_59 := dc_n3 aX12_births_56
theorem aX12_births_62 : dc_at cX12_births 62 sX12_births_62 := dc_n3 aX12_births_59
theorem aX12_births_63 : dc_at cX12_births 63 sX12_births_63 := dc_n1 aX12_births_62
theorem aX12_births_64 : dc_at cX12_births 64 sX12_births_64 := dc_n1 aX12_births_63
theorem aX12_births_65 : dc_at cX12_births 65 sX12_births_65 := dc_n1 aX12_births_64
theorem aX12_births_68 : dc_at cX12_births 68 sX12_births_68 := dc_n3 aX12_births_65
theorem aX12_births_69 : dc_at cX12_births 69 sX12_births_69 := dc_n1 aX12_births_68
theorem aX12_births_70 : dc_at cX12_births 70 sX12_births_70 := dc_n1 aX12_births_69
theorem aX12_births_71 : dc_at cX12_births 71 sX12_births_71 := dc_n1 aX12_births_70
theorem aX12_births_73 : dc_at cX12_births 73 sX12_births_73 := dc_n2 aX12_births_71
theorem aX12_births_75 : dc_at cX12_births 75 sX12_births_75 := dc_n2 aX12_births_73
theorem aX12_births_77 : dc_at cX12_births 77 sX12_births_77 := dc_n2 aX12_births_75
theorem aX12_births_80 : dc_at cX12_births 80 sX12_births_80 := dc_n3 aX12_births_77
theorem aX12_births_81 : dc_at cX12_births 81 sX12_births_81 := dc_n1 aX12_births_80
theorem aX12_births_83 : dc_at cX12_births 83 sX12_births_83 := dc_n2 aX12_births_81
theorem aX12_births_85 : dc_at cX12_births 85 sX12_births_85 := dc_n2 aX12_births_83
theorem aX12_births_87 : dc_at cX12_births 87 sX12_births_87 := dc_n2 aX12_births_85
theorem aX12_births_90 : dc_at cX12_births 90 sX12_births_90 := dc_n3 aX12_births_87
theorem aX12_births_91 : dc_at cX12_births 91 sX12_births_91 := dc_n1 aX12_births_90
theorem aX12_births_94 : dc_at cX12_births 94 sX12_births_94 := dc_n3 aX12_births_91
theorem aX12_births_96 : dc_at cX12_births 96 sX12_births_96 := dc_n2 aX12_births_94
theorem aX12_births_97 : dc_at cX12_births 97 sX12_births_97 := dc_n1 aX12_births_96
theorem aX12_births_98 : dc_at cX12_births 98 sX12_births_98 := dc_n1 aX12_births_97
theorem aX12_births_101 : dc_at cX12_births 101 sX12_births_101 := dc_n3 aX12_births_98
theorem aX12_births_103 : dc_at cX12_births 103 sX12_births_103 := dc_n2 aX12_births_101
theorem aX12_births_104 : dc_at cX12_births 104 sX12_births_104 := dc_n1 aX12_births_103
theorem aX12_births_107 : dc_at cX12_births 107 sX12_births_107 := dc_n3 aX12_births_104
theorem aX12_births_108 : dc_at cX12_births 108 sX12_births_108 := dc_n1 aX12_births_107
theorem aX12_births_110 : dc_at cX12_births 110 sX12_births_110 := dc_n2 aX12_births_108
theorem aX12_births_112 : dc_at cX12_births 112 sX12_births_112 := dc_n2 aX12_births_110
theorem aX12_births_113 : dc_at cX12_births 113 sX12_births_113 := dc_n1 aX12_births_112
theorem aX12_births_116 : dc_at cX12_births 116 sX12_births_116 := dc_n3 aX12_births_113
theorem aX12_births_119 : dc_at cX12_births 119 sX12_births_119 := dc_n3 aX12_births_116
theorem aX12_births_122 : dc_at cX12_births 122 sX12_births_122 := dc_n3 aX12_births_119
theorem aX12_births_123 : dc_at cX12_births 123 sX12_births_123 := dc_n1 aX12_births_122
theorem aX12_births_126 : dc_at cX12_births 126 sX12_births_126 := dc_n3 aX12_births_123
theorem aX12_births_128 : dc_at cX12_births 128 sX12_births_128 := dc_n2 aX12_births_126
theorem aX12_births_129 : dc_at cX12_births 129 sX12_births_129 := dc_n1 aX12_births_128
theorem aX12_births_130 : dc_at cX12_births 130 sX12_births_130 := dc_n1 aX12_births_129
theorem aX12_births_133 : dc_at cX12_births 133 sX12_births_133 := dc_n3 aX12_births_130
theorem aX12_births_135 : dc_at cX12_births 135 sX12_births_135 := dc_n2 aX12_births_133
theorem aX12_births_136 : dc_at cX12_births 136 sX12_births_136 := dc_n1 aX12_births_135
theorem aX12_births_139 : dc_at cX12_births 139 sX12_births_139 := dc_n3 aX12_births_136
theorem aX12_births_140 : dc_at cX12_births 140 sX12_births_140 := dc_n1 aX12_births_139
theorem aX12_births_143 : dc_at cX12_births 143 sX12_births_143 := dc_n3 aX12_births_140
theorem aX12_births_145 : dc_at cX12_births 145 sX12_births_145 := dc_n2 aX12_births_143
theorem aX12_births_146 : dc_at cX12_births 146 sX12_births_146 := dc_n1 aX12_births_145
theorem aX12_births_149 : dc_at cX12_births 149 sX12_births_149 := dc_n3 aX12_births_146
theorem aX12_births_150 : dc_at cX12_births 150 sX12_births_150 := dc_n1 aX12_births_149
theorem aX12_births_153 : dc_at cX12_births 153 sX12_births_153 := dc_n3 aX12_births_150
theorem aX12_births_155 : dc_at cX12_births 155 sX12_births_155 := dc_n2 aX12_births_153
theorem aX12_births_156 : dc_at cX12_births 156 sX12_births_156 := dc_n1 aX12_births_155
theorem aX12_births_158 : dc_at cX12_births 158 sX12_births_158 := dc_n2 aX12_births_156
theorem aX12_births_159 : dc_at cX12_births 159 sX12_births_159 := dc_n1 aX12_births_158
theorem aX12_births_162 : dc_at cX12_births 162 sX12_births_162 := dc_n3 aX12_births_159
theorem aX12_births_164 : dc_at cX12_births 164 sX12_births_164 := dc_n2 aX12_births_162
theorem aX12_births_166 : dc_at cX12_births 166 sX12_births_166 := dc_n2 aX12_births_164
theorem aX12_births_167 : dc_at cX12_births 167 sX12_births_167 := dc_n1 aX12_births_166
theorem aX12_births_168 : dc_at cX12_births 168 sX12_births_168 := dc_n1 aX12_births_167
theorem aX12_births_171 : dc_at cX12_births 171 sX12_births_171 := dc_n3 aX12_births_168
theorem aX12_births_173 : dc_at cX12_births 173 sX12_births_173 := dc_n2 aX12_births_171
theorem aX12_births_175 : dc_at cX12_births 175 sX12_births_175 := dc_n2 aX12_births_173
theorem aX12_births_176 : dc_at cX12_births 176 sX12_births_176 := dc_n1 aX12_births_175
theorem aX12_births_177 : dc_at cX12_births 177 sX12_births_177 := dc_n1 aX12_births_176
theorem aX12_births_178 : dc_at cX12_births 178 sX12_births_178 := dc_n1 aX12_births_177
theorem aX12_births_181 : dc_at cX12_births 181 sX12_births_181 := dc_n3 aX12_births_178
theorem aX12_births_184 : dc_at cX12_births 184 sX12_births_184 := dc_n3 aX12_births_181
theorem aX12_births_187 : dc_at cX12_births 187 sX12_births_187 := dc_n3 aX12_births_184
theorem aX12_births_190 : dc_at cX12_births 190 sX12_births_190 := dc_n3 aX12_births_187
theorem aX12_births_193 : dc_at cX12_births 193 sX12_births_193 := dc_n3 aX12_births_190
theorem aX12_births_194 : dc_at cX12_births 194 sX12_births_194 := dc_n1 aX12_births_193
theorem aX12_births_195 : dc_at cX12_births 195 sX12_births_195 := dc_n1 aX12_births_194
theorem aX12_births_198 : dc_at cX12_births 198 sX12_births_198 := dc_n3 aX12_births_195
theorem aX12_births_199 : dc_at cX12_births 199 sX12_births_199 := dc_n1 aX12_births_198
theorem aX12_births_202 : dc_at cX12_births 202 sX12_births_202 := dc_n3 aX12_births_199
theorem aX12_births_203 : dc_at cX12_births 203 sX12_births_203 := dc_n1 aX12_births_202
theorem aX12_births_204 : dc_at cX12_births 204 sX12_births_204 := dc_n1 aX12_births_203
theorem aX12_births_205 : dc_at cX12_births 205 sX12_births_205 := dc_n1 aX12_births_204
theorem aX12_births_206 : dc_at cX12_births 206 sX12_births_206 := dc_n1 aX12_births_205
theorem aX12_births_208 : dc_at cX12_births 208 sX12_births_208 := dc_n2 aX12_births_206
theorem aX12_births_209 : dc_at cX12_births 209 sX12_births_209 := dc_n1 aX12_births_208
theorem aX12_births_211 : dc_at cX12_births 211 sX12_births_211 := dc_n2 aX12_births_209
theorem aX12_births_213 : dc_at cX12_births 213 sX12_births_213 := dc_n2 aX12_births_211
theorem aX12_births_215 : dc_at cX12_births 215 sX12_births_215 := dc_n2 aX12_births_213
theorem aX12_births_218 : dc_at cX12_births 218 sX12_births_218 := dc_n3 aX12_births_215
theorem aX12_births_220 : dc_at cX12_births 220 sX12_births_220 := dc_n2 aX12_births_218
theorem aX12_births_221 : dc_at cX12_births 221 sX12_births_221 := dc_n1 aX12_births_220
theorem aX12_births_224 : dc_at cX12_births 224 sX12_births_224 := dc_n3 aX12_births_221
theorem aX12_births_226 : dc_at cX12_births 226 sX12_births_226 := dc_n2 aX12_births_224
theorem aX12_births_227 : dc_at cX12_births 227 sX12_births_227 := dc_n1 aX12_births_226
theorem aX12_births_229 : dc_at cX12_births 229 sX12_births_229 := dc_n2 aX12_births_227
theorem aX12_births_232 : dc_at cX12_births 232 sX12_births_232 := dc_n3 aX12_births_229
theorem aX12_births_233 : dc_at cX12_births 233 sX12_births_233 := dc_n1 aX12_births_232
theorem aX12_births_235 : dc_at cX12_births 235 sX12_births_235 := dc_n2 aX12_births_233
theorem aX12_births_238 : dc_at cX12_births 238 sX12_births_238 := dc_n3 aX12_births_235
theorem aX12_births_241 : dc_at cX12_births 241 sX12_births_241 := dc_n3 aX12_births_238
theorem aX12_births_242 : dc_at cX12_births 242 sX12_births_242 := dc_n1 aX12_births_241
theorem aX12_births_245 : dc_at cX12_births 245 sX12_births_245 := dc_n3 aX12_births_242
theorem aX12_births_246 : dc_at cX12_births 246 sX12_births_246 := dc_n1 aX12_births_245
theorem aX12_births_247 : dc_at cX12_births 247 sX12_births_247 := dc_n1 aX12_births_246
theorem aX12_births_249 : dc_at cX12_births 249 sX12_births_249 := dc_n2 aX12_births_247
theorem aX12_births_252 : dc_at cX12_births 252 sX12_births_252 := dc_n3 aX12_births_249
theorem aX12_births_255 : dc_at cX12_births 255 sX12_births_255 := dc_n3 aX12_births_252
theorem aX12_births_257 : dc_at cX12_births 257 sX12_births_257 := dc_n2 aX12_births_255
theorem dX12_births_0 : decode cX12_births 0 = .ok (.aload_n 0, 1) := dc_42 aX12_births_0
theorem dX12_births_1 : decode cX12_births 1 = .ok (.iconst 0, 1) := dc_3 aX12_births_1
theorem dX12_births_2 : decode cX12_births 2 = .ok (.putfield 129, 3) := dc_181 (a0 := 0) (b0 := 129) aX12_births_2
theorem dX12_births_5 : decode cX12_births 5 = .ok (.aload_n 0, 1) := dc_42 aX12_births_5
theorem dX12_births_6 : decode cX12_births 6 = .ok (.iload_n 2, 1) := dc_28 aX12_births_6
theorem dX12_births_7 : decode cX12_births 7 = .ok (.iconst 1, 1) := dc_4 aX12_births_7
theorem dX12_births_8 : decode cX12_births 8 = .ok (.bipush 7, 2) := dc_16 (a0 := 7) aX12_births_8 (by decide)
theorem dX12_births_10 : decode cX12_births 10 = .ok (.invokestatic 270, 3) := dc_184 (a0 := 1) (b0 := 14) aX12_births_10
theorem dX12_births_13 : decode cX12_births 13 = .ok (.ifCond .eq 18, 3) := dc_153 (a0 := 0) (b0 := 18) aX12_births_13 (by decide)
theorem dX12_births_16 : decode cX12_births 16 = .ok (.iload_n 1, 1) := dc_27 aX12_births_16
theorem dX12_births_17 : decode cX12_births 17 = .ok (.iconst (-1), 1) := dc_2 aX12_births_17
theorem dX12_births_18 : decode cX12_births 18 = .ok (.if_icmp .lt 13, 3) := dc_161 (a0 := 0) (b0 := 13) aX12_births_18 (by decide)
theorem dX12_births_21 : decode cX12_births 21 = .ok (.iload_n 1, 1) := dc_27 aX12_births_21
theorem dX12_births_22 : decode cX12_births 22 = .ok (.bipush 120, 2) := dc_16 (a0 := 120) aX12_births_22 (by decide)
theorem dX12_births_24 : decode cX12_births 24 = .ok (.if_icmp .ge 7, 3) := dc_162 (a0 := 0) (b0 := 7) aX12_births_24 (by decide)
theorem dX12_births_27 : decode cX12_births 27 = .ok (.iconst 1, 1) := dc_4 aX12_births_27
theorem dX12_births_28 : decode cX12_births 28 = .ok (.goto 4, 3) := dc_167 (a0 := 0) (b0 := 4) aX12_births_28 (by decide)
theorem dX12_births_31 : decode cX12_births 31 = .ok (.iconst 0, 1) := dc_3 aX12_births_31
theorem dX12_births_32 : decode cX12_births 32 = .ok (.iconst 1, 1) := dc_4 aX12_births_32
theorem dX12_births_33 : decode cX12_births 33 = .ok (.invokevirtual 209, 3) := dc_182 (a0 := 0) (b0 := 209) aX12_births_33
theorem dX12_births_36 : decode cX12_births 36 = .ok (.ifCond .ne 5, 3) := dc_154 (a0 := 0) (b0 := 5) aX12_births_36 (by decide)
theorem dX12_births_39 : decode cX12_births 39 = .ok (.iconst 0, 1) := dc_3 aX12_births_39
theorem dX12_births_40 : decode cX12_births 40 = .ok (.ireturn, 1) := dc_172 aX12_births_40
theorem dX12_births_41 : decode cX12_births 41 = .ok (.iconst 0, 1) := dc_3 aX12_births_41
theorem dX12_births_42 : decode cX12_births 42 = .ok (.istore_n 3, 1) := dc_62 aX12_births_42
theorem dX12_births_43 : decode cX12_births 43 = .ok (.iload_n 3, 1) := dc_29 aX12_births_43
theorem dX12_births_44 : decode cX12_births 44 = .ok (.bipush 120, 2) := dc_16 (a0 := 120) aX12_births_44 (by decide)
theorem dX12_births_46 : decode cX12_births 46 = .ok (.if_icmp .ge 16, 3) := dc_162 (a0 := 0) (b0 := 16) aX12_births_46 (by decide)
theorem dX12_births_49 : decode cX12_births 49 = .ok (.aload_n 0, 1) := dc_42 aX12_births_49
theorem dX12_births_50 : decode cX12_births 50 = .ok (.getfield 111, 3) := dc_180 (a0 := 0) (b0 := 111) aX12_births_50
theorem dX12_births_53 : decode cX12_births 53 = .ok (.iload_n 3, 1) := dc_29 aX12_births_53
theorem dX12_births_54 : decode cX12_births 54 = .ok (.iload_n 3, 1) := dc_29 aX12_births_54
theorem dX12_births_55 : decode cX12_births 55 = .ok (.iastore, 1) := dc_79 aX12_births_55
theorem dX12_births_56 : decode cX12_births 56 = .ok (.iinc 3 1, 3) := dc_132 (a0 := 3) (a1 := 1) aX12_births_56 (by decide)
theorem dX12_births_59 : decode cX12_births 59 = .ok (.goto (-16), 3) := dc_167 (a0 := 255) (b0 := 240) aX12_births_59 (by decide)
theorem dX12_births_62 : decode cX12_births 62 = .ok (.iconst 1, 1) := dc_4 aX12_births_62
theorem dX12_births_63 : decode cX12_births 63 = .ok (.istore_n 3, 1) := dc_62 aX12_births_63
theorem dX12_births_64 : decode cX12_births 64 = .ok (.iload_n 3, 1) := dc_29 aX12_births_64
theorem dX12_births_65 : decode cX12_births 65 = .ok (.ifCond .eq 128, 3) := dc_153 (a0 := 0) (b0 := 128) aX12_births_65 (by decide)
theorem dX12_births_68 : decode cX12_births 68 = .ok (.iconst 0, 1) := dc_3 aX12_births_68
theorem dX12_births_69 : decode cX12_births 69 = .ok (.istore_n 3, 1) := dc_62 aX12_births_69
theorem dX12_births_70 : decode cX12_births 70 = .ok (.iconst 0, 1) := dc_3 aX12_births_70
theorem dX12_births_71 : decode cX12_births 71 = .ok (.istore 4, 2) := dc_54 (a0 := 4) aX12_births_71
theorem dX12_births_73 : decode cX12_births 73 = .ok (.iload 4, 2) := dc_21 (a0 := 4) aX12_births_73
theorem dX12_births_75 : decode cX12_births 75 = .ok (.bipush 120, 2) := dc_16 (a0 := 120) aX12_births_75 (by decide)
theorem dX12_births_77 : decode cX12_births 77 = .ok (.if_icmp .ge 113, 3) := dc_162 (a0 := 0) (b0 := 113) aX12_births_77 (by decide)
theorem dX12_births_80 : decode cX12_births 80 = .ok (.iconst 0, 1) := dc_3 aX12_births_80
theorem dX12_births_81 : decode cX12_births 81 = .ok (.istore 5, 2) := dc_54 (a0 := 5) aX12_births_81
theorem dX12_births_83 : decode cX12_births 83 = .ok (.iload 5, 2) := dc_21 (a0 := 5) aX12_births_83
theorem dX12_births_85 : decode cX12_births 85 = .ok (.iload 4, 2) := dc_21 (a0 := 4) aX12_births_85
theorem dX12_births_87 : decode cX12_births 87 = .ok (.if_icmp .ge 97, 3) := dc_162 (a0 := 0) (b0 := 97) aX12_births_87 (by decide)
theorem dX12_births_90 : decode cX12_births 90 = .ok (.aload_n 0, 1) := dc_42 aX12_births_90
theorem dX12_births_91 : decode cX12_births 91 = .ok (.getfield 111, 3) := dc_180 (a0 := 0) (b0 := 111) aX12_births_91
theorem dX12_births_94 : decode cX12_births 94 = .ok (.iload 4, 2) := dc_21 (a0 := 4) aX12_births_94
theorem dX12_births_96 : decode cX12_births 96 = .ok (.iaload, 1) := dc_46 aX12_births_96
theorem dX12_births_97 : decode cX12_births 97 = .ok (.aload_n 0, 1) := dc_42 aX12_births_97
theorem dX12_births_98 : decode cX12_births 98 = .ok (.getfield 111, 3) := dc_180 (a0 := 0) (b0 := 111) aX12_births_98
theorem dX12_births_101 : decode cX12_births 101 = .ok (.iload 5, 2) := dc_21 (a0 := 5) aX12_births_101
theorem dX12_births_103 : decode cX12_births 103 = .ok (.iaload, 1) := dc_46 aX12_births_103
theorem dX12_births_104 : decode cX12_births 104 = .ok (.if_icmp .eq 74, 3) := dc_159 (a0 := 0) (b0 := 74) aX12_births_104 (by decide)
theorem dX12_births_107 : decode cX12_births 107 = .ok (.aload_n 0, 1) := dc_42 aX12_births_107
theorem dX12_births_108 : decode cX12_births 108 = .ok (.iload 4, 2) := dc_21 (a0 := 4) aX12_births_108
theorem dX12_births_110 : decode cX12_births 110 = .ok (.iload 5, 2) := dc_21 (a0 := 5) aX12_births_110
theorem dX12_births_112 : decode cX12_births 112 = .ok (.iload_n 2, 1) := dc_28 aX12_births_112
theorem dX12_births_113 : decode cX12_births 113 = .ok (.invokevirtual 359, 3) := dc_182 (a0 := 1) (b0 := 103) aX12_births_113
theorem dX12_births_116 : decode cX12_births 116 = .ok (.ifCond .ne 6, 3) := dc_154 (a0 := 0) (b0 := 6) aX12_births_116 (by decide)
theorem dX12_births_119 : decode cX12_births 119 = .ok (.goto 59, 3) := dc_167 (a0 := 0) (b0 := 59) aX12_births_119 (by decide)
theorem dX12_births_122 : decode cX12_births 122 = .ok (.aload_n 0, 1) := dc_42 aX12_births_122
theorem dX12_births_123 : decode cX12_births 123 = .ok (.getfield 111, 3) := dc_180 (a0 := 0) (b0 := 111) aX12_births_123
theorem dX12_births_126 : decode cX12_births 126 = .ok (.iload 4, 2) := dc_21 (a0 := 4) aX12_births_126
theorem dX12_births_128 : decode cX12_births 128 = .ok (.iaload, 1) := dc_46 aX12_births_128
theorem dX12_births_129 : decode cX12_births 129 = .ok (.aload_n 0, 1) := dc_42 aX12_births_129
theorem dX12_births_130 : decode cX12_births 130 = .ok (.getfield 111, 3) := dc_180 (a0 := 0) (b0 := 111) aX12_births_130
theorem dX12_births_133 : decode cX12_births 133 = .ok (.iload 5, 2) := dc_21 (a0 := 5) aX12_births_133
theorem dX12_births_135 : decode cX12_births 135 = .ok (.iaload, 1) := dc_46 aX12_births_135
theorem dX12_births_136 : decode cX12_births 136 = .ok (.if_icmp .ge 13, 3) := dc_162 (a0 := 0) (b0 := 13) aX12_births_136 (by decide)
theorem dX12_births_139 : decode cX12_births 139 = .ok (.aload_n 0, 1) := dc_42 aX12_births_139
theorem dX12_births_140 : decode cX12_births 140 = .ok (.getfield 111, 3) := dc_180 (a0 := 0) (b0 := 111) aX12_births_140
theorem dX12_births_143 : decode cX12_births 143 = .ok (.iload 4, 2) := dc_21 (a0 := 4) aX12_births_143
theorem dX12_births_145 : decode cX12_births 145 = .ok (.iaload, 1) := dc_46 aX12_births_145
theorem dX12_births_146 : decode cX12_births 146 = .ok (.goto 10, 3) := dc_167 (a0 := 0) (b0 := 10) aX12_births_146 (by decide)
theorem dX12_births_149 : decode cX12_births 149 = .ok (.aload_n 0, 1) := dc_42 aX12_births_149
theorem dX12_births_150 : decode cX12_births 150 = .ok (.getfield 111, 3) := dc_180 (a0 := 0) (b0 := 111) aX12_births_150
theorem dX12_births_153 : decode cX12_births 153 = .ok (.iload 5, 2) := dc_21 (a0 := 5) aX12_births_153
theorem dX12_births_155 : decode cX12_births 155 = .ok (.iaload, 1) := dc_46 aX12_births_155
theorem dX12_births_156 : decode cX12_births 156 = .ok (.istore 6, 2) := dc_54 (a0 := 6) aX12_births_156
theorem dX12_births_158 : decode cX12_births 158 = .ok (.aload_n 0, 1) := dc_42 aX12_births_158
theorem dX12_births_159 : decode cX12_births 159 = .ok (.getfield 111, 3) := dc_180 (a0 := 0) (b0 := 111) aX12_births_159
theorem dX12_births_162 : decode cX12_births 162 = .ok (.iload 4, 2) := dc_21 (a0 := 4) aX12_births_162
theorem dX12_births_164 : decode cX12_births 164 = .ok (.iload 6, 2) := dc_21 (a0 := 6) aX12_births_164
theorem dX12_births_166 : decode cX12_births 166 = .ok (.iastore, 1) := dc_79 aX12_births_166
theorem dX12_births_167 : decode cX12_births 167 = .ok (.aload_n 0, 1) := dc_42 aX12_births_167
theorem dX12_births_168 : decode cX12_births 168 = .ok (.getfield 111, 3) := dc_180 (a0 := 0) (b0 := 111) aX12_births_168
theorem dX12_births_171 : decode cX12_births 171 = .ok (.iload 5, 2) := dc_21 (a0 := 5) aX12_births_171
theorem dX12_births_173 : decode cX12_births 173 = .ok (.iload 6, 2) := dc_21 (a0 := 6) aX12_births_173
theorem dX12_births_175 : decode cX12_births 175 = .ok (.iastore, 1) := dc_79 aX12_births_175
theorem dX12_births_176 : decode cX12_births 176 = .ok (.iconst 1, 1) := dc_4 aX12_births_176
theorem dX12_births_177 : decode cX12_births 177 = .ok (.istore_n 3, 1) := dc_62 aX12_births_177
theorem dX12_births_178 : decode cX12_births 178 = .ok (.iinc 5 1, 3) := dc_132 (a0 := 5) (a1 := 1) aX12_births_178 (by decide)
theorem dX12_births_181 : decode cX12_births 181 = .ok (.goto (-98), 3) := dc_167 (a0 := 255) (b0 := 158) aX12_births_181 (by decide)
theorem dX12_births_184 : decode cX12_births 184 = .ok (.iinc 4 1, 3) := dc_132 (a0 := 4) (a1 := 1) aX12_births_184 (by decide)
theorem dX12_births_187 : decode cX12_births 187 = .ok (.goto (-114), 3) := dc_167 (a0 := 255) (b0 := 142) aX12_births_187 (by decide)
theorem dX12_births_190 : decode cX12_births 190 = .ok (.goto (-126), 3) := dc_167 (a0 := 255) (b0 := 130) aX12_births_190 (by decide)
theorem dX12_births_193 : decode cX12_births 193 = .ok (.iload_n 1, 1) := dc_27 aX12_births_193
theorem dX12_births_194 : decode cX12_births 194 = .ok (.iconst (-1), 1) := dc_2 aX12_births_194
theorem dX12_births_195 : decode cX12_births 195 = .ok (.if_icmp .eq 10, 3) := dc_159 (a0 := 0) (b0 := 10) aX12_births_195 (by decide)
theorem dX12_births_198 : decode cX12_births 198 = .ok (.aload_n 0, 1) := dc_42 aX12_births_198
theorem dX12_births_199 : decode cX12_births 199 = .ok (.getfield 111, 3) := dc_180 (a0 := 0) (b0 := 111) aX12_births_199
theorem dX12_births_202 : decode cX12_births 202 = .ok (.iload_n 1, 1) := dc_27 aX12_births_202
theorem dX12_births_203 : decode cX12_births 203 = .ok (.iaload, 1) := dc_46 aX12_births_203
theorem dX12_births_204 : decode cX12_births 204 = .ok (.ireturn, 1) := dc_172 aX12_births_204
theorem dX12_births_205 : decode cX12_births 205 = .ok (.iconst 0, 1) := dc_3 aX12_births_205
theorem dX12_births_206 : decode cX12_births 206 = .ok (.istore 4, 2) := dc_54 (a0 := 4) aX12_births_206
theorem dX12_births_208 : decode cX12_births 208 = .ok (.iconst 0, 1) := dc_3 aX12_births_208
theorem dX12_births_209 : decode cX12_births 209 = .ok (.istore 5, 2) := dc_54 (a0 := 5) aX12_births_209
theorem dX12_births_211 : decode cX12_births 211 = .ok (.iload 5, 2) := dc_21 (a0 := 5) aX12_births_211
theorem dX12_births_213 : decode cX12_births 213 = .ok (.bipush 120, 2) := dc_16 (a0 := 120) aX12_births_213 (by decide)
theorem dX12_births_215 : decode cX12_births 215 = .ok (.if_icmp .ge 40, 3) := dc_162 (a0 := 0) (b0 := 40) aX12_births_215 (by decide)
theorem dX12_births_218 : decode cX12_births 218 = .ok (.iload 4, 2) := dc_21 (a0 := 4) aX12_births_218
theorem dX12_births_220 : decode cX12_births 220 = .ok (.aload_n 0, 1) := dc_42 aX12_births_220
theorem dX12_births_221 : decode cX12_births 221 = .ok (.getfield 111, 3) := dc_180 (a0 := 0) (b0 := 111) aX12_births_221
theorem dX12_births_224 : decode cX12_births 224 = .ok (.iload 5, 2) := dc_21 (a0 := 5) aX12_births_224
theorem dX12_births_226 : decode cX12_births 226 = .ok (.iaload, 1) := dc_46 aX12_births_226
theorem dX12_births_227 : decode cX12_births 227 = .ok (.iload 5, 2) := dc_21 (a0 := 5) aX12_births_227
theorem dX12_births_229 : decode cX12_births 229 = .ok (.if_icmp .ne 16, 3) := dc_160 (a0 := 0) (b0 := 16) aX12_births_229 (by decide)
theorem dX12_births_232 : decode cX12_births 232 = .ok (.aload_n 0, 1) := dc_42 aX12_births_232
theorem dX12_births_233 : decode cX12_births 233 = .ok (.iload 5, 2) := dc_21 (a0 := 5) aX12_births_233
theorem dX12_births_235 : decode cX12_births 235 = .ok (.invokevirtual 257, 3) := dc_182 (a0 := 1) (b0 := 1) aX12_births_235
theorem dX12_births_238 : decode cX12_births 238 = .ok (.ifCond .eq 7, 3) := dc_153 (a0 := 0) (b0 := 7) aX12_births_238 (by decide)
theorem dX12_births_241 : decode cX12_births 241 = .ok (.iconst 1, 1) := dc_4 aX12_births_241
theorem dX12_births_242 : decode cX12_births 242 = .ok (.goto 4, 3) := dc_167 (a0 := 0) (b0 := 4) aX12_births_242 (by decide)
theorem dX12_births_245 : decode cX12_births 245 = .ok (.iconst 0, 1) := dc_3 aX12_births_245
theorem dX12_births_246 : decode cX12_births 246 = .ok (.iadd, 1) := dc_96 aX12_births_246
theorem dX12_births_247 : decode cX12_births 247 = .ok (.istore 4, 2) := dc_54 (a0 := 4) aX12_births_247
theorem dX12_births_249 : decode cX12_births 249 = .ok (.iinc 5 1, 3) := dc_132 (a0 := 5) (a1 := 1) aX12_births_249 (by decide)
theorem dX12_births_252 : decode cX12_births 252 = .ok (.goto (-41), 3) := dc_167 (a0 := 255) (b0 := 215) aX12_births_252 (by decide)
theorem dX12_births_255 : decode cX12_births 255 = .ok (.iload 4, 2) := dc_21 (a0 := 4) aX12_births_255
theorem dX12_births_257 : decode cX12_births 257 = .ok (.ireturn, 1) := dc_172 aX12_births_257
set_option maxRecDepth 20000 in
theorem ggX12_count_X12_within : GoodIn wsX12_count wsX12_within := goodIn_k _ [[10]] (by rfl) (by decide +kernel)
set_option maxRecDepth 20000 in
theorem gX12_count_X12_within : GoodIn wsX12_count (va_wsS RX12 270 yX12_within wsX12_within) := goodIn_app (goodIn_of _ (by decide +kernel)) ggX12_count_X12_within
set_option maxRecDepth 20000 in
theorem ggX12_count_X12_right : GoodIn wsX12_count wsX12_right := goodIn_k _ [[14], [1, 22, 0, 0, 0, 0, 0, 0, 0, 0, 0, 0, 0, 0, 0, 0, 0, 0, 0, 0, 0, 0, 0, 0, 0, 0, 0, 0, 0, 0, 0, 0, 0, 0, 0, 0, 0, 0, 0, 0, 0, 0, 0, 0, 0, 0, 0, 0, 0, 0, 0, 0, 0, 0, 0, 0, 0, 0, 0]] (by rfl) (by decide +kernel)
set_option maxRecDepth 20000 in
theorem gX12_count_X12_right : GoodIn wsX12_count (wsV RX12 209 RX12 yX12_right wsX12_right) := goodIn_app (goodIn_of _ (by decide +kernel)) ggX12_count_X12_right
set_option maxRecDepth 20000 in
theorem ggX12_count_X12_tells : GoodIn wsX12_count wsX12_tells := goodIn_k _ [[18, 0, 0, 0], [9, 12, 0, 0, 0, 0, 0, 0, 0, 0, 0, 0, 0, 0, 0, 0, 0, 0, 0, 0, 0, 0, 0, 0, 0, 0, 0, 0, 0, 0, 0, 0, 0, 0, 0, 0, 0, 0, 0, 0, 0, 0, 0, 0, 0, 0, 0, 0, 0, 0, 0, 0, 0, 0, 0, 0, 0, 0, 0, 0, 0]] (by rfl) (by decide +kernel)
set_option maxRecDepth 20000 in
theorem gX12_count_X12_tells : GoodIn wsX12_count (wsV RX12 257 RX12 yX12_tells wsX12_tells) := goodIn_app (goodIn_of _ (by decide +kernel)) ggX12_count_X12_tells
noncomputable def sX12_count_144 : List Nat := 172 :: []
noncomputable def sX12_count_143 : List Nat := 28 :: sX12_count_144
noncomputable def sX12_count_140 : List Nat := 167 :: 0 :: 4 :: sX12_count_143
noncomputable def sX12_count_137 : List Nat := 180 :: 0 :: 132 :: sX12_count_140
noncomputable def sX12_count_136 : List Nat := 42 :: sX12_count_137
noncomputable def sX12_count_133 : List Nat := 160 :: 0 :: 10 :: sX12_count_136
noncomputable def sX12_count_132 : List Nat := 7 :: sX12_count_133
noncomputable def sX12_count_131 : List Nat := 27 :: sX12_count_132
noncomputable def sX12_count_128 : List Nat := 167 :: 255 :: 209 :: sX12_count_131
noncomputable def sX12_count_125 : List Nat := 132 :: 3 :: 1 :: sX12_count_128
noncomputable def sX12_count_124 : List Nat := 61 :: sX12_count_125
noncomputable def sX12_count_123 : List Nat := 96 :: sX12_count_124
noncomputable def sX12_count_122 : List Nat := 3 :: sX12_count_123
noncomputable def sX12_count_119 : List Nat := 167 :: 0 :: 4 :: sX12_count_122
noncomputable def sX12_count_118 : List Nat := 4 :: sX12_count_119
noncomputable def sX12_count_115 : List Nat := 159 :: 0 :: 7 :: sX12_count_118
noncomputable def sX12_count_114 : List Nat := 2 :: sX12_count_115
noncomputable def sX12_count_113 : List Nat := 46 :: sX12_count_114
noncomputable def sX12_count_112 : List Nat := 29 :: sX12_count_113
noncomputable def sX12_count_109 : List Nat := 180 :: 0 :: 120 :: sX12_count_112
noncomputable def sX12_count_108 : List Nat := 42 :: sX12_count_109
noncomputable def sX12_count_105 : List Nat := 160 :: 0 :: 17 :: sX12_count_108
noncomputable def sX12_count_104 : List Nat := 8 :: sX12_count_105
noncomputable def sX12_count_103 : List Nat := 27 :: sX12_count_104
noncomputable def sX12_count_100 : List Nat := 160 :: 0 :: 18 :: sX12_count_103
noncomputable def sX12_count_99 : List Nat := 2 :: sX12_count_100
noncomputable def sX12_count_98 : List Nat := 46 :: sX12_count_99
noncomputable def sX12_count_97 : List Nat := 29 :: sX12_count_98
noncomputable def sX12_count_94 : List Nat := 180 :: 0 :: 114 :: sX12_count_97
noncomputable def sX12_count_93 : List Nat := 42 :: sX12_count_94
noncomputable def sX12_count_90 : List Nat := 160 :: 0 :: 13 :: sX12_count_93
noncomputable def sX12_count_89 : List Nat := 6 :: sX12_count_90
noncomputable def sX12_count_88 : List Nat := 27 :: sX12_count_89
noncomputable def sX12_count_87 : List Nat := 28 :: sX12_count_88
noncomputable def sX12_count_84 : List Nat := 162 :: 0 :: 47 :: sX12_count_87
noncomputable def sX12_count_82 : List Nat := 16 :: 20 :: sX12_count_84
noncomputable def sX12_count_81 : List Nat := 29 :: sX12_count_82
noncomputable def sX12_count_80 : List Nat := 62 :: sX12_count_81
noncomputable def sX12_count_79 : List Nat := 3 :: sX12_count_80
noncomputable def sX12_count_76 : List Nat := 167 :: 255 :: 226 :: sX12_count_79
noncomputable def sX12_count_73 : List Nat := 132 :: 3 :: 1 :: sX12_count_76
noncomputable def sX12_count_72 : List Nat := 61 :: sX12_count_73
noncomputable def sX12_count_71 : List Nat := 96 :: sX12_count_72
noncomputable def sX12_count_70 : List Nat := 3 :: sX12_count_71
noncomputable def sX12_count_67 : List Nat := 167 :: 0 :: 4 :: sX12_count_70
noncomputable def sX12_count_66 : List Nat := 4 :: sX12_count_67
noncomputable def sX12_count_63 : List Nat := 153 :: 0 :: 7 :: sX12_count_66
noncomputable def sX12_count_60 : List Nat := 182 :: 1 :: 1 :: sX12_count_63
noncomputable def sX12_count_59 : List Nat := 29 :: sX12_count_60
noncomputable def sX12_count_58 : List Nat := 42 :: sX12_count_59
noncomputable def sX12_count_57 : List Nat := 28 :: sX12_count_58
noncomputable def sX12_count_54 : List Nat := 160 :: 0 :: 25 :: sX12_count_57
noncomputable def sX12_count_53 : List Nat := 5 :: sX12_count_54
noncomputable def sX12_count_52 : List Nat := 27 :: sX12_count_53
noncomputable def sX12_count_49 : List Nat := 162 :: 0 :: 30 :: sX12_count_52
noncomputable def sX12_count_47 : List Nat := 16 :: 120 :: sX12_count_49
noncomputable def sX12_count_46 : List Nat := 29 :: sX12_count_47
noncomputable def sX12_count_45 : List Nat := 62 :: sX12_count_46
noncomputable def sX12_count_44 : List Nat := 3 :: sX12_count_45
noncomputable def sX12_count_43 : List Nat := 61 :: sX12_count_44
noncomputable def sX12_count_42 : List Nat := 3 :: sX12_count_43
noncomputable def sX12_count_41 : List Nat := 172 :: sX12_count_42
noncomputable def sX12_count_38 : List Nat := 180 :: 0 :: 231 :: sX12_count_41
noncomputable def sX12_count_37 : List Nat := 42 :: sX12_count_38
noncomputable def sX12_count_34 : List Nat := 167 :: 0 :: 7 :: sX12_count_37
noncomputable def sX12_count_31 : List Nat := 180 :: 0 :: 228 :: sX12_count_34
noncomputable def sX12_count_30 : List Nat := 42 :: sX12_count_31
noncomputable def sX12_count_27 : List Nat := 154 :: 0 :: 10 :: sX12_count_30
noncomputable def sX12_count_26 : List Nat := 27 :: sX12_count_27
noncomputable def sX12_count_23 : List Nat := 162 :: 0 :: 19 :: sX12_count_26
noncomputable def sX12_count_22 : List Nat := 5 :: sX12_count_23
noncomputable def sX12_count_21 : List Nat := 27 :: sX12_count_22
noncomputable def sX12_count_20 : List Nat := 172 :: sX12_count_21
noncomputable def sX12_count_19 : List Nat := 3 :: sX12_count_20
noncomputable def sX12_count_16 : List Nat := 154 :: 0 :: 5 :: sX12_count_19
noncomputable def sX12_count_13 : List Nat := 182 :: 0 :: 209 :: sX12_count_16
noncomputable def sX12_count_12 : List Nat := 4 :: sX12_count_13
noncomputable def sX12_count_9 : List Nat := 184 :: 1 :: 14 :: sX12_count_12
noncomputable def sX12_count_8 : List Nat := 8 :: sX12_count_9
noncomputable def sX12_count_7 : List Nat := 3 :: sX12_count_8
noncomputable def sX12_count_6 : List Nat := 27 :: sX12_count_7
noncomputable def sX12_count_5 : List Nat := 42 :: sX12_count_6
noncomputable def sX12_count_2 : List Nat := 181 :: 0 :: 129 :: sX12_count_5
noncomputable def sX12_count_1 : List Nat := 3 :: sX12_count_2
noncomputable def sX12_count_0 : List Nat := 42 :: sX12_count_1
theorem aX12_count_0 : dc_at cX12_count 0 sX12_count_0 := dc_base (by decide +kernel)
theorem aX12_count_1 : dc_at cX12_count 1 sX12_count_1 := dc_n1 aX12_count_0
theorem aX12_count_2 : dc_at cX12_count 2 sX12_count_2 := dc_n1 aX12_count_1
theorem aX12_count_5 : dc_at cX12_count 5 sX12_count_5 := dc_n3 aX12_count_2
theorem aX12_count_6 : dc_at cX12_count 6 sX12_count_6 := dc_n1 aX12_count_5
theorem aX12_count_7 : dc_at cX12_count 7 sX12_count_7 := dc_n1 aX12_count_6
theorem aX12_count_8 : dc_at cX12_count 8 sX12_count_8 := dc_n1 aX12_count_7
theorem aX12_count_9 : dc_at cX12_count 9 sX12_count_9 := dc_n1 aX12_count_8
theorem aX12_count_12 : dc_at cX12_count 12 sX12_count_12 := dc_n3 aX12_count_9
theorem aX12_count_13 : dc_at cX12_count 13 sX12_count_13 := dc_n1 aX12_count_12
theorem aX12_count_16 : dc_at cX12_count 16 sX12_count_16 := dc_n3 aX12_count_13
theorem aX12_count_19 : dc_at cX12_count 19 sX12_count_19 := dc_n3 aX12_count_16
theorem aX12_count_20 : dc_at cX12_count 20 sX12_count_20 := dc_n1 aX12_count_19
theorem aX12_count_21 : dc_at cX12_count 21 sX12_count_21 := dc_n1 aX12_count_20
theorem aX12_count_22 : dc_at cX12_count 22 sX12_count_22 := dc_n1 aX12_count_21
theorem aX12_count_23 : dc_at cX12_count 23 sX12_count_23 := dc_n1 aX12_count_22
theorem aX12_count_26 : dc_at cX12_count 26 sX12_count_26 := dc_n3 aX12_count_23
theorem aX12_count_27 : dc_at cX12_count 27 sX12_count_27 := dc_n1 aX12_count_26
theorem aX12_count_30 : dc_at cX12_count 30 sX12_count_30 := dc_n3 aX12_count_27
theorem aX12_count_31 : dc_at cX12_count 31 sX12_count_31 := dc_n1 aX12_count_30
theorem aX12_count_34 : dc_at cX12_count 34 sX12_count_34 := dc_n3 aX12_count_31
theorem aX12_count_37 : dc_at cX12_count 37 sX12_count_37 := dc_n3 aX12_count_34
theorem aX12_count_38 : dc_at cX12_count 38 sX12_count_38 := dc_n1 aX12_count_37
theorem aX12_count_41 : dc_at cX12_count 41 sX12_count_41 := dc_n3 aX12_count_38
theorem aX12_count_42 : dc_at cX12_count 42 sX12_count_42 := dc_n1 aX12_count_41
theorem aX12_count_43 : dc_at cX12_count 43 sX12_count_43 := dc_n1 aX12_count_42
theorem aX12_count_44 : dc_at cX12_count 44 sX12_count_44 := dc_n1 aX12_count_43
theorem aX12_count_45 : dc_at cX12_count 45 sX12_count_45 := dc_n1 aX12_count_44
theorem aX12_count_46 : dc_at cX12_count 46 sX12_count_46 := dc_n1 aX12_count_45
theorem aX12_count_47 : dc_at cX12_count 47 sX12_count_47 := dc_n1 aX12_count_46
theorem aX12_count_49 : dc_at cX12_count 49 sX12_count_49 := dc_n2 aX12_count_47
theorem aX12_count_52 : dc_at cX12_count 52 sX12_count_52 := dc_n3 aX12_count_49
theorem aX12_count_53 : dc_at cX12_count 53 sX12_count_53 := dc_n1 aX12_count_52
theorem aX12_count_54 : dc_at cX12_count 54 sX12_count_54 := dc_n1 aX12_count_53
theorem aX12_count_57 : dc_at cX12_count 57 sX12_count_57 := dc_n3 aX12_count_54
theorem aX12_count_58 : dc_at cX12_count 58 sX12_count_58 := dc_n1 aX12_count_57
theorem aX12_count_59 : dc_at cX12_count 59 sX12_count_59 := dc_n1 aX12_count_58
theorem aX12_count_60 : dc_at cX12_count 60 sX12_count_60 := dc_n1 aX12_count_59
theorem aX12_count_63 : dc_at cX12_count 63 sX12_count_63 := dc_n3 aX12_count_60
theorem aX12_count_66 : dc_at cX12_count 66 sX12_count_66 := dc_n3 aX12_count_63
theorem aX12_count_67 : dc_at cX12_count 67 sX12_count_67 := dc_n1 aX12_count_66
theorem aX12_count_70 : dc_at cX12_count 70 sX12_count_70 := dc_n3 aX12_count_67
theorem aX12_count_71 : dc_at cX12_count 71 sX12_count_71 := dc_n1 aX12_count_70
theorem aX12_count_72 : dc_at cX12_count 72 sX12_count_72 := dc_n1 aX12_count_71
theorem aX12_count_73 : dc_at cX12_count 73 sX12_count_73 := dc_n1 aX12_count_72
theorem aX12_count_76 : dc_at cX12_count 76 sX12_count_76 := dc_n3 aX12_count_73
theorem aX12_count_79 : dc_at cX12_count 79 sX12_count_79 := dc_n3 aX12_count_76
theorem aX12_count_80 : dc_at cX12_count 80 sX12_count_80 := dc_n1 aX12_count_79
theorem aX12_count_81 : dc_at cX12_count 81 sX12_count_81 := dc_n1 aX12_count_80
theorem aX12_count_82 : dc_at cX12_count 82 sX12_count_82 := dc_n1 aX12_count_81
theorem aX12_count_84 : dc_at cX12_count 84 sX12_count_84 := dc_n2 aX12_count_82
theorem aX12_count_87 : dc_at cX12_count 87 sX12_count_87 := dc_n3 aX12_count_84
theorem aX12_count_88 : dc_at cX12_count 88 sX12_count_88 := dc_n1 aX12_count_87
theorem aX12_count_89 : dc_at cX12_count 89 sX12_count_89 := dc_n1 aX12_count_88
theorem aX12_count_90 : dc_at cX12_count 90 sX12_count_90 := dc_n1 aX12_count_89
theorem aX12_count_93 : dc_at cX12_count 93 sX12_count_93 := dc_n3 aX12_count_90
theorem aX12_count_94 : dc_at cX12_count 94 sX12_count_94 := dc_n1 aX12_count_93
theorem aX12_count_97 : dc_at cX12_count 97 sX12_count_97 := dc_n3 aX12_count_94
theorem aX12_count_98 : dc_at cX12_count 98 sX12_count_98 := dc_n1 aX12_count_97
theorem aX12_count_99 : dc_at cX12_count 99 sX12_count_99 := dc_n1 aX12_count_98
theorem aX12_count_100 : dc_at cX12_count 100 sX12_count_100 := dc_n1 aX12_count_99
theorem aX12_count_103 : dc_at cX12_count 103 sX12_count_103 := dc_n3 aX12_count_100
theorem aX12_count_104 : dc_at cX12_count 104 sX12_count_104 := dc_n1 aX12_count_103
theorem aX12_count_105 : dc_at cX12_count 105 sX12_count_105 := dc_n1 aX12_count_104
theorem aX12_count_108 : dc_at cX12_count 108 sX12_count_108 := dc_n3 aX12_count_105
theorem aX12_count_109 : dc_at cX12_count 109 sX12_count_109 := dc_n1 aX12_count_108
theorem aX12_count_112 : dc_at cX12_count 112 sX12_count_112 := dc_n3 aX12_count_109
theorem aX12_count_113 : dc_at cX12_count 113 sX12_count_113 := dc_n1 aX12_count_112
theorem aX12_count_114 : dc_at cX12_count 114 sX12_count_114 := dc_n1 aX12_count_113
theorem aX12_count_115 : dc_at cX12_count 115 sX12_count_115 := dc_n1 aX12_count_114
theorem aX12_count_118 : dc_at cX12_count 118 sX12_count_118 := dc_n3 aX12_count_115
theorem aX12_count_119 : dc_at cX12_count 119 sX12_count_119 := dc_n1 aX12_count_118
theorem aX12_count_122 : dc_at cX12_count 122 sX12_count_122 := dc_n3 aX12_count_119
theorem aX12_count_123 : dc_at cX12_count 123 sX12_count_123 := dc_n1 aX12_count_122
theorem aX12_count_124 : dc_at cX12_count 124 sX12_count_124 := dc_n1 aX12_count_123
theorem aX12_count_125 : dc_at cX12_count 125 sX12_count_125 := dc_n1 aX12_count_124
theorem aX12_count_128 : dc_at cX12_count 128 sX12_count_128 := dc_n3 aX12_count_125
theorem aX12_count_131 : dc_at cX12_count 131 sX12_count_131 := dc_n3 aX12_count_128
theorem aX12_count_132 : dc_at cX12_count 132 sX12_count_132 := dc_n1 aX12_count_131
theorem aX12_count_133 : dc_at cX12_count 133 sX12_count_133 := dc_n1 aX12_count_132
theorem aX12_count_136 : dc_at cX12_count 136 sX12_count_136 := dc_n3 aX12_count_133
theorem aX12_count_137 : dc_at cX12_count 137 sX12_count_137 := dc_n1 aX12_count_136
theorem aX12_count_140 : dc_at cX12_count 140 sX12_count_140 := dc_n3 aX12_count_137
theorem aX12_count_143 : dc_at cX12_count 143 sX12_count_143 := dc_n3 aX12_count_140
theorem aX12_count_144 : dc_at cX12_count 144 sX12_count_144 := dc_n1 aX12_count_143
theorem dX12_count_0 : decode cX12_count 0 = .ok (.aload_n 0, 1) := dc_42 aX12_count_0
theorem dX12_count_1 : decode cX12_count 1 = .ok (.iconst 0, 1) := dc_3 aX12_count_1
theorem dX12_count_2 : decode cX12_count 2 = .ok (.putfield 129, 3) := dc_181 (a0 := 0) (b0 := 129) aX12_count_2
theorem dX12_count_5 : decode cX12_count 5 = .ok (.aload_n 0, 1) := dc_42 aX12_count_5
theorem dX12_count_6 : decode cX12_count 6 = .ok (.iload_n 1, 1) := dc_27 aX12_count_6
theorem dX12_count_7 : decode cX12_count 7 = .ok (.iconst 0, 1) := dc_3 aX12_count_7
theorem dX12_count_8 : decode cX12_count 8 = .ok (.iconst 5, 1) := dc_8 aX12_count_8
theorem dX12_count_9 : decode cX12_count 9 = .ok (.invokestatic 270, 3) := dc_184 (a0 := 1) (b0 := 14) aX12_count_9
theorem dX12_count_12 : decode cX12_count 12 = .ok (.iconst 1, 1) := dc_4 aX12_count_12
theorem dX12_count_13 : decode cX12_count 13 = .ok (.invokevirtual 209, 3) := dc_182 (a0 := 0) (b0 := 209) aX12_count_13
theorem dX12_count_16 : decode cX12_count 16 = .ok (.ifCond .ne 5, 3) := dc_154 (a0 := 0) (b0 := 5) aX12_count_16 (by decide)
theorem dX12_count_19 : decode cX12_count 19 = .ok (.iconst 0, 1) := dc_3 aX12_count_19
theorem dX12_count_20 : decode cX12_count 20 = .ok (.ireturn, 1) := dc_172 aX12_count_20
theorem dX12_count_21 : decode cX12_count 21 = .ok (.iload_n 1, 1) := dc_27 aX12_count_21
theorem dX12_count_22 : decode cX12_count 22 = .ok (.iconst 2, 1) := dc_5 aX12_count_22
theorem dX12_count_23 : decode cX12_count 23 = .ok (.if_icmp .ge 19, 3) := dc_162 (a0 := 0) (b0 := 19) aX12_count_23 (by decide)
theorem dX12_count_26 : decode cX12_count 26 = .ok (.iload_n 1, 1) := dc_27 aX12_count_26
theorem dX12_count_27 : decode cX12_count 27 = .ok (.ifCond .ne 10, 3) := dc_154 (a0 := 0) (b0 := 10) aX12_count_27 (by decide)
theorem dX12_count_30 : decode cX12_count 30 = .ok (.aload_n 0, 1) := dc_42 aX12_count_30
theorem dX12_count_31 : decode cX12_count 31 = .ok (.getfield 228, 3) := dc_180 (a0 := 0) (b0 := 228) aX12_count_31
theorem dX12_count_34 : decode cX12_count 34 = .ok (.goto 7, 3) := dc_167 (a0 := 0) (b0 := 7) aX12_count_34 (by decide)
theorem dX12_count_37 : decode cX12_count 37 = .ok (.aload_n 0, 1) := dc_42 aX12_count_37
theorem dX12_count_38 : decode cX12_count 38 = .ok (.getfield 231, 3) := dc_180 (a0 := 0) (b0 := 231) aX12_count_38
theorem dX12_count_41 : decode cX12_count 41 = .ok (.ireturn, 1) := dc_172 aX12_count_41
theorem dX12_count_42 : decode cX12_count 42 = .ok (.iconst 0, 1) := dc_3 aX12_count_42
theorem dX12_count_43 : decode cX12_count 43 = .ok (.istore_n 2, 1) := dc_61 aX12_count_43
theorem dX12_count_44 : decode cX12_count 44 = .ok (.iconst 0, 1) := dc_3 aX12_count_44
theorem dX12_count_45 : decode cX12_count 45 = .ok (.istore_n 3, 1) := dc_62 aX12_count_45
theorem dX12_count_46 : decode cX12_count 46 = .ok (.iload_n 3, 1) := dc_29 aX12_count_46
theorem dX12_count_47 : decode cX12_count 47 = .ok (.bipush 120, 2) := dc_16 (a0 := 120) aX12_count_47 (by decide)
theorem dX12_count_49 : decode cX12_count 49 = .ok (.if_icmp .ge 30, 3) := dc_162 (a0 := 0) (b0 := 30) aX12_count_49 (by decide)
theorem dX12_count_52 : decode cX12_count 52 = .ok (.iload_n 1, 1) := dc_27 aX12_count_52
theorem dX12_count_53 : decode cX12_count 53 = .ok (.iconst 2, 1) := dc_5 aX12_count_53
theorem dX12_count_54 : decode cX12_count 54 = .ok (.if_icmp .ne 25, 3) := dc_160 (a0 := 0) (b0 := 25) aX12_count_54 (by decide)
theorem dX12_count_57 : decode cX12_count 57 = .ok (.iload_n 2, 1) := dc_28 aX12_count_57
theorem dX12_count_58 : decode cX12_count 58 = .ok (.aload_n 0, 1) := dc_42 aX12_count_58
theorem dX12_count_59 : decode cX12_count 59 = .ok (.iload_n 3, 1) := dc_29 aX12_count_59
theorem dX12_count_60 : decode cX12_count 60 = .ok (.invokevirtual 257, 3) := dc_182 (a0 := 1) (b0 := 1) aX12_count_60
theorem dX12_count_63 : decode cX12_count 63 = .ok (.ifCond .eq 7, 3) := dc_153 (a0 := 0) (b0 := 7) aX12_count_63 (by decide)
theorem dX12_count_66 : decode cX12_count 66 = .ok (.iconst 1, 1) := dc_4 aX12_count_66
theorem dX12_count_67 : decode cX12_count 67 = .ok (.goto 4, 3) := dc_167 (a0 := 0) (b0 := 4) aX12_count_67 (by decide)
theorem dX12_count_70 : decode cX12_count 70 = .ok (.iconst 0, 1) := dc_3 aX12_count_70
theorem dX12_count_71 : decode cX12_count 71 = .ok (.iadd, 1) := dc_96 aX12_count_71
theorem dX12_count_72 : decode cX12_count 72 = .ok (.istore_n 2, 1) := dc_61 aX12_count_72
theorem dX12_count_73 : decode cX12_count 73 = .ok (.iinc 3 1, 3) := dc_132 (a0 := 3) (a1 := 1) aX12_count_73 (by decide)
theorem dX12_count_76 : decode cX12_count 76 = .ok (.goto (-30), 3) := dc_167 (a0 := 255) (b0 := 226) aX12_count_76 (by decide)
theorem dX12_count_79 : decode cX12_count 79 = .ok (.iconst 0, 1) := dc_3 aX12_count_79
theorem dX12_count_80 : decode cX12_count 80 = .ok (.istore_n 3, 1) := dc_62 aX12_count_80
theorem dX12_count_81 : decode cX12_count 81 = .ok (.iload_n 3, 1) := dc_29 aX12_count_81
theorem dX12_count_82 : decode cX12_count 82 = .ok (.bipush 20, 2) := dc_16 (a0 := 20) aX12_count_82 (by decide)
theorem dX12_count_84 : decode cX12_count 84 = .ok (.if_icmp .ge 47, 3) := dc_162 (a0 := 0) (b0 := 47) aX12_count_84 (by decide)
theorem dX12_count_87 : decode cX12_count 87 = .ok (.iload_n 2, 1) := dc_28 aX12_count_87
theorem dX12_count_88 : decode cX12_count 88 = .ok (.iload_n 1, 1) := dc_27 aX12_count_88
theorem dX12_count_89 : decode cX12_count 89 = .ok (.iconst 3, 1) := dc_6 aX12_count_89
theorem dX12_count_90 : decode cX12_count 90 = .ok (.if_icmp .ne 13, 3) := dc_160 (a0 := 0) (b0 := 13) aX12_count_90 (by decide)
theorem dX12_count_93 : decode cX12_count 93 = .ok (.aload_n 0, 1) := dc_42 aX12_count_93
theorem dX12_count_94 : decode cX12_count 94 = .ok (.getfield 114, 3) := dc_180 (a0 := 0) (b0 := 114) aX12_count_94
theorem dX12_count_97 : decode cX12_count 97 = .ok (.iload_n 3, 1) := dc_29 aX12_count_97
theorem dX12_count_98 : decode cX12_count 98 = .ok (.iaload, 1) := dc_46 aX12_count_98
theorem dX12_count_99 : decode cX12_count 99 = .ok (.iconst (-1), 1) := dc_2 aX12_count_99
theorem dX12_count_100 : decode cX12_count 100 = .ok (.if_icmp .ne 18, 3) := dc_160 (a0 := 0) (b0 := 18) aX12_count_100 (by decide)
theorem dX12_count_103 : decode cX12_count 103 = .ok (.iload_n 1, 1) := dc_27 aX12_count_103
theorem dX12_count_104 : decode cX12_count 104 = .ok (.iconst 5, 1) := dc_8 aX12_count_104
theorem dX12_count_105 : decode cX12_count 105 = .ok (.if_icmp .ne 17, 3) := dc_160 (a0 := 0) (b0 := 17) aX12_count_105 (by decide)
theorem dX12_count_108 : decode cX12_count 108 = .ok (.aload_n 0, 1) := dc_42 aX12_count_108
theorem dX12_count_109 : decode cX12_count 109 = .ok (.getfield 120, 3) := dc_180 (a0 := 0) (b0 := 120) aX12_count_109
theorem dX12_count_112 : decode cX12_count 112 = .ok (.iload_n 3, 1) := dc_29 aX12_count_112
theorem dX12_count_113 : decode cX12_count 113 = .ok (.iaload, 1) := dc_46 aX12_count_113
theorem dX12_count_114 : decode cX12_count 114 = .ok (.iconst (-1), 1) := dc_2 aX12_count_114
theorem dX12_count_115 : decode cX12_count 115 = .ok (.if_icmp .eq 7, 3) := dc_159 (a0 := 0) (b0 := 7) aX12_count_115 (by decide)
theorem dX12_count_118 : decode cX12_count 118 = .ok (.iconst 1, 1) := dc_4 aX12_count_118
theorem dX12_count_119 : decode cX12_count 119 = .ok (.goto 4, 3) := dc_167 (a0 := 0) (b0 := 4) aX12_count_119 (by decide)
theorem dX12_count_122 : decode cX12_count 122 = .ok (.iconst 0, 1) := dc_3 aX12_count_122
theorem dX12_count_123 : decode cX12_count 123 = .ok (.iadd, 1) := dc_96 aX12_count_123
theorem dX12_count_124 : decode cX12_count 124 = .ok (.istore_n 2, 1) := dc_61 aX12_count_124
theorem dX12_count_125 : decode cX12_count 125 = .ok (.iinc 3 1, 3) := dc_132 (a0 := 3) (a1 := 1) aX12_count_125 (by decide)
theorem dX12_count_128 : decode cX12_count 128 = .ok (.goto (-47), 3) := dc_167 (a0 := 255) (b0 := 209) aX12_count_128 (by decide)
theorem dX12_count_131 : decode cX12_count 131 = .ok (.iload_n 1, 1) := dc_27 aX12_count_131
theorem dX12_count_132 : decode cX12_count 132 = .ok (.iconst 4, 1) := dc_7 aX12_count_132
theorem dX12_count_133 : decode cX12_count 133 = .ok (.if_icmp .ne 10, 3) := dc_160 (a0 := 0) (b0 := 10) aX12_count_133 (by decide)
theorem dX12_count_136 : decode cX12_count 136 = .ok (.aload_n 0, 1) := dc_42 aX12_count_136
theorem dX12_count_137 : decode cX12_count 137 = .ok (.getfield 132, 3) := dc_180 (a0 := 0) (b0 := 132) aX12_count_137
theorem dX12_count_140 : decode cX12_count 140 = .ok (.goto 4, 3) := dc_167 (a0 := 0) (b0 := 4) aX12_count_140 (by decide)
theorem dX12_count_143 : decode cX12_count 143 = .ok (.iload_n 2, 1) := dc_28 aX12_count_143
theorem dX12_count_144 : decode cX12_count 144 = .ok (.ireturn, 1) := dc_172 aX12_count_144
set_option maxRecDepth 20000 in
theorem ggX12_life_X12_within : GoodIn wsX12_life wsX12_within := goodIn_k _ [[7]] (by rfl) (by decide +kernel)
set_option maxRecDepth 20000 in
theorem gX12_life_X12_within : GoodIn wsX12_life (va_wsS RX12 270 yX12_within wsX12_within) := goodIn_app (goodIn_of _ (by decide +kernel)) ggX12_life_X12_within
set_option maxRecDepth 20000 in
theorem ggX12_life_X12_right : GoodIn wsX12_life wsX12_right := goodIn_k _ [[11], [1, 10, 0, 0, 0, 0, 0, 0, 0, 0, 0, 0, 0, 0, 0, 0, 0, 0, 0, 0, 0, 0, 0, 0, 0, 0, 0, 0, 0, 0, 0, 0, 0, 0, 0, 0, 0, 0, 0, 0, 0, 0, 0, 0, 0, 0, 0, 0, 0, 0, 0, 0, 0, 0, 0, 0, 0, 0, 0]] (by rfl) (by decide +kernel)
set_option maxRecDepth 20000 in
theorem gX12_life_X12_right : GoodIn wsX12_life (wsV RX12 209 RX12 yX12_right wsX12_right) := goodIn_app (goodIn_of _ (by decide +kernel)) ggX12_life_X12_right
noncomputable def sX12_life_59 : List Nat := 172 :: []
noncomputable def sX12_life_58 : List Nat := 4 :: sX12_life_59
noncomputable def sX12_life_57 : List Nat := 79 :: sX12_life_58
noncomputable def sX12_life_56 : List Nat := 29 :: sX12_life_57
noncomputable def sX12_life_55 : List Nat := 27 :: sX12_life_56
noncomputable def sX12_life_52 : List Nat := 180 :: 0 :: 117 :: sX12_life_55
noncomputable def sX12_life_51 : List Nat := 42 :: sX12_life_52
noncomputable def sX12_life_50 : List Nat := 79 :: sX12_life_51
noncomputable def sX12_life_49 : List Nat := 28 :: sX12_life_50
noncomputable def sX12_life_48 : List Nat := 27 :: sX12_life_49
noncomputable def sX12_life_45 : List Nat := 180 :: 0 :: 114 :: sX12_life_48
noncomputable def sX12_life_44 : List Nat := 42 :: sX12_life_45
noncomputable def sX12_life_43 : List Nat := 172 :: sX12_life_44
noncomputable def sX12_life_42 : List Nat := 3 :: sX12_life_43
noncomputable def sX12_life_39 : List Nat := 154 :: 0 :: 5 :: sX12_life_42
noncomputable def sX12_life_36 : List Nat := 184 :: 1 :: 14 :: sX12_life_39
noncomputable def sX12_life_34 : List Nat := 16 :: 120 :: sX12_life_36
noncomputable def sX12_life_33 : List Nat := 3 :: sX12_life_34
noncomputable def sX12_life_32 : List Nat := 29 :: sX12_life_33
noncomputable def sX12_life_29 : List Nat := 153 :: 0 :: 13 :: sX12_life_32
noncomputable def sX12_life_26 : List Nat := 184 :: 1 :: 14 :: sX12_life_29
noncomputable def sX12_life_24 : List Nat := 16 :: 120 :: sX12_life_26
noncomputable def sX12_life_23 : List Nat := 3 :: sX12_life_24
noncomputable def sX12_life_22 : List Nat := 28 :: sX12_life_23
noncomputable def sX12_life_21 : List Nat := 172 :: sX12_life_22
noncomputable def sX12_life_20 : List Nat := 3 :: sX12_life_21
noncomputable def sX12_life_17 : List Nat := 154 :: 0 :: 5 :: sX12_life_20
noncomputable def sX12_life_14 : List Nat := 182 :: 0 :: 209 :: sX12_life_17
noncomputable def sX12_life_13 : List Nat := 4 :: sX12_life_14
noncomputable def sX12_life_10 : List Nat := 184 :: 1 :: 14 :: sX12_life_13
noncomputable def sX12_life_8 : List Nat := 16 :: 19 :: sX12_life_10
noncomputable def sX12_life_7 : List Nat := 3 :: sX12_life_8
noncomputable def sX12_life_6 : List Nat := 27 :: sX12_life_7
noncomputable def sX12_life_5 : List Nat := 42 :: sX12_life_6
noncomputable def sX12_life_2 : List Nat := 181 :: 0 :: 129 :: sX12_life_5
noncomputable def sX12_life_1 : List Nat := 3 :: sX12_life_2
noncomputable def sX12_life_0 : List Nat := 42 :: sX12_life_1
theorem aX12_life_0 : dc_at cX12_life 0 sX12_life_0 := dc_base (by decide +kernel)
theorem aX12_life_1 : dc_at cX12_life 1 sX12_life_1 := dc_n1 aX12_life_0
theorem aX12_life_2 : dc_at cX12_life 2 sX12_life_2 := dc_n1 aX12_life_1
theorem aX12_life_5 : dc_at cX12_life 5 sX12_life_5 := dc_n3 aX12_life_2
theorem aX12_life_6 : dc_at cX12_life 6 sX12_life_6 := dc_n1 aX12_life_5
theorem aX12_life_7 : dc_at cX12_life 7 sX12_life_7 := dc_n1 aX12_life_6
theorem aX12_life_8 : dc_at cX12_life 8 sX12_life_8 := dc_n1 aX12_life_7
theorem aX12_life_10 : dc_at cX12_life 10 sX12_life_10 := dc_n2 aX12_life_8
theorem aX12_life_13 : dc_at cX12_life 13 sX12_life_13 := dc_n3 aX12_life_10
theorem aX12_life_14 : dc_at cX12_life 14 sX12_life_14 := dc_n1 aX12_life_13
theorem aX12_life_17 : dc_at cX12_life 17 sX12_life_17 := dc_n3 aX12_life_14
theorem aX12_life_20 : dc_at cX12_life 20 sX12_life_20 := dc_n3 aX12_life_17
theorem aX12_life_21 : dc_at cX12_life 21 sX12_life_21 := dc_n1 aX12_life_20
theorem aX12_life_22 : dc_at cX12_life 22 sX12_life_22 := dc_n1 aX12_life_21
theorem aX12_life_23 : dc_at cX12_life 23 sX12_life_23 := dc_n1 aX12_life_22
theorem aX12_life_24 : dc_at cX12_life 24 sX12_life_24 := dc_n1 aX12_life_23
theorem aX12_life_26 : dc_at cX12_life 26 sX12_life_26 := dc_n2 aX12_life_24
theorem aX12_life_29 : dc_at cX12_life 29 sX12_life_29 := dc_n3 aX12_life_26
theorem aX12_life_32 : dc_at cX12_life 32 sX12_life_32 := dc_n3 aX12_life_29
theorem aX12_life_33 : dc_at cX12_life 33 sX12_life_33 := dc_n1 aX12_life_32
theorem aX12_life_34 : dc_at cX12_life 34 sX12_life_34 := dc_n1 aX12_life_33
theorem aX12_life_36 : dc_at cX12_life 36 sX12_life_36 := dc_n2 aX12_life_34
theorem aX12_life_39 : dc_at cX12_life 39 sX12_life_39 := dc_n3 aX12_life_36
theorem aX12_life_42 : dc_at cX12_life 42 sX12_life_42 := dc_n3 aX12_life_39
theorem aX12_life_43 : dc_at cX12_life 43 sX12_life_43 := dc_n1 aX12_life_42
theorem aX12_life_44 : dc_at cX12_life 44 sX12_life_44 := dc_n1 aX12_life_43
theorem aX12_life_45 : dc_at cX12_life 45 sX12_life_45 := dc_n1 aX12_life_44
theorem aX12_life_48 : dc_at cX12_life 48 sX12_life_48 := dc_n3 aX12_life_45
theorem aX12_life_49 : dc_at cX12_life 49 sX12_life_49 := dc_n1 aX12_life_48
theorem aX12_life_50 : dc_at cX12_life 50 sX12_life_50 := dc_n1 aX12_life_49
theorem aX12_life_51 : dc_at cX12_life 51 sX12_life_51 := dc_n1 aX12_life_50
theorem aX12_life_52 : dc_at cX12_life 52 sX12_life_52 := dc_n1 aX12_life_51
theorem aX12_life_55 : dc_at cX12_life 55 sX12_life_55 := dc_n3 aX12_life_52
theorem aX12_life_56 : dc_at cX12_life 56 sX12_life_56 := dc_n1 aX12_life_55
theorem aX12_life_57 : dc_at cX12_life 57 sX12_life_57 := dc_n1 aX12_life_56
theorem aX12_life_58 : dc_at cX12_life 58 sX12_life_58 := dc_n1 aX12_life_57
theorem aX12_life_59 : dc_at cX12_life 59 sX12_life_59 := dc_n1 aX12_life_58
theorem dX12_life_0 : decode cX12_life 0 = .ok (.aload_n 0, 1) := dc_42 aX12_life_0
theorem dX12_life_1 : decode cX12_life 1 = .ok (.iconst 0, 1) := dc_3 aX12_life_1
theorem dX12_life_2 : decode cX12_life 2 = .ok (.putfield 129, 3) := dc_181 (a0 := 0) (b0 := 129) aX12_life_2
theorem dX12_life_5 : decode cX12_life 5 = .ok (.aload_n 0, 1) := dc_42 aX12_life_5
theorem dX12_life_6 : decode cX12_life 6 = .ok (.iload_n 1, 1) := dc_27 aX12_life_6
theorem dX12_life_7 : decode cX12_life 7 = .ok (.iconst 0, 1) := dc_3 aX12_life_7
theorem dX12_life_8 : decode cX12_life 8 = .ok (.bipush 19, 2) := dc_16 (a0 := 19) aX12_life_8 (by decide)
theorem dX12_life_10 : decode cX12_life 10 = .ok (.invokestatic 270, 3) := dc_184 (a0 := 1) (b0 := 14) aX12_life_10
theorem dX12_life_13 : decode cX12_life 13 = .ok (.iconst 1, 1) := dc_4 aX12_life_13
theorem dX12_life_14 : decode cX12_life 14 = .ok (.invokevirtual 209, 3) := dc_182 (a0 := 0) (b0 := 209) aX12_life_14
theorem dX12_life_17 : decode cX12_life 17 = .ok (.ifCond .ne 5, 3) := dc_154 (a0 := 0) (b0 := 5) aX12_life_17 (by decide)
theorem dX12_life_20 : decode cX12_life 20 = .ok (.iconst 0, 1) := dc_3 aX12_life_20
theorem dX12_life_21 : decode cX12_life 21 = .ok (.ireturn, 1) := dc_172 aX12_life_21
theorem dX12_life_22 : decode cX12_life 22 = .ok (.iload_n 2, 1) := dc_28 aX12_life_22
theorem dX12_life_23 : decode cX12_life 23 = .ok (.iconst 0, 1) := dc_3 aX12_life_23
theorem dX12_life_24 : decode cX12_life 24 = .ok (.bipush 120, 2) := dc_16 (a0 := 120) aX12_life_24 (by decide)
theorem dX12_life_26 : decode cX12_life 26 = .ok (.invokestatic 270, 3) := dc_184 (a0 := 1) (b0 := 14) aX12_life_26
theorem dX12_life_29 : decode cX12_life 29 = .ok (.ifCond .eq 13, 3) := dc_153 (a0 := 0) (b0 := 13) aX12_life_29 (by decide)
theorem dX12_life_32 : decode cX12_life 32 = .ok (.iload_n 3, 1) := dc_29 aX12_life_32
theorem dX12_life_33 : decode cX12_life 33 = .ok (.iconst 0, 1) := dc_3 aX12_life_33
theorem dX12_life_34 : decode cX12_life 34 = .ok (.bipush 120, 2) := dc_16 (a0 := 120) aX12_life_34 (by decide)
theorem dX12_life_36 : decode cX12_life 36 = .ok (.invokestatic 270, 3) := dc_184 (a0 := 1) (b0 := 14) aX12_life_36
theorem dX12_life_39 : decode cX12_life 39 = .ok (.ifCond .ne 5, 3) := dc_154 (a0 := 0) (b0 := 5) aX12_life_39 (by decide)
theorem dX12_life_42 : decode cX12_life 42 = .ok (.iconst 0, 1) := dc_3 aX12_life_42
theorem dX12_life_43 : decode cX12_life 43 = .ok (.ireturn, 1) := dc_172 aX12_life_43
theorem dX12_life_44 : decode cX12_life 44 = .ok (.aload_n 0, 1) := dc_42 aX12_life_44
theorem dX12_life_45 : decode cX12_life 45 = .ok (.getfield 114, 3) := dc_180 (a0 := 0) (b0 := 114) aX12_life_45
theorem dX12_life_48 : decode cX12_life 48 = .ok (.iload_n 1, 1) := dc_27 aX12_life_48
theorem dX12_life_49 : decode cX12_life 49 = .ok (.iload_n 2, 1) := dc_28 aX12_life_49
theorem dX12_life_50 : decode cX12_life 50 = .ok (.iastore, 1) := dc_79 aX12_life_50
theorem dX12_life_51 : decode cX12_life 51 = .ok (.aload_n 0, 1) := dc_42 aX12_life_51
theorem dX12_life_52 : decode cX12_life 52 = .ok (.getfield 117, 3) := dc_180 (a0 := 0) (b0 := 117) aX12_life_52
theorem dX12_life_55 : decode cX12_life 55 = .ok (.iload_n 1, 1) := dc_27 aX12_life_55
theorem dX12_life_56 : decode cX12_life 56 = .ok (.iload_n 3, 1) := dc_29 aX12_life_56
theorem dX12_life_57 : decode cX12_life 57 = .ok (.iastore, 1) := dc_79 aX12_life_57
theorem dX12_life_58 : decode cX12_life 58 = .ok (.iconst 1, 1) := dc_4 aX12_life_58
theorem dX12_life_59 : decode cX12_life 59 = .ok (.ireturn, 1) := dc_172 aX12_life_59
set_option maxRecDepth 20000 in
theorem ggX12_fate_X12_within : GoodIn wsX12_fate wsX12_within := goodIn_k _ [[6]] (by rfl) (by decide +kernel)
set_option maxRecDepth 20000 in
theorem gX12_fate_X12_within : GoodIn wsX12_fate (va_wsS RX12 270 yX12_within wsX12_within) := goodIn_app (goodIn_of _ (by decide +kernel)) ggX12_fate_X12_within
set_option maxRecDepth 20000 in
theorem ggX12_fate_X12_right : GoodIn wsX12_fate wsX12_right := goodIn_k _ [[10], [1, 9, 0, 0, 0, 0, 0, 0, 0, 0, 0, 0, 0, 0, 0, 0, 0, 0, 0, 0, 0, 0, 0, 0, 0, 0, 0, 0, 0, 0, 0, 0, 0, 0, 0, 0, 0, 0, 0, 0, 0, 0, 0, 0, 0, 0, 0, 0, 0, 0, 0, 0, 0, 0, 0, 0, 0, 0, 0]] (by rfl) (by decide +kernel)
set_option maxRecDepth 20000 in
theorem gX12_fate_X12_right : GoodIn wsX12_fate (wsV RX12 209 RX12 yX12_right wsX12_right) := goodIn_app (goodIn_of _ (by decide +kernel)) ggX12_fate_X12_right
noncomputable def sX12_fate_42 : List Nat := 172 :: []
noncomputable def sX12_fate_41 : List Nat := 4 :: sX12_fate_42
noncomputable def sX12_fate_40 : List Nat := 79 :: sX12_fate_41
noncomputable def sX12_fate_39 : List Nat := 28 :: sX12_fate_40
noncomputable def sX12_fate_38 : List Nat := 27 :: sX12_fate_39
noncomputable def sX12_fate_35 : List Nat := 180 :: 0 :: 120 :: sX12_fate_38
noncomputable def sX12_fate_34 : List Nat := 42 :: sX12_fate_35
noncomputable def sX12_fate_33 : List Nat := 172 :: sX12_fate_34
noncomputable def sX12_fate_32 : List Nat := 3 :: sX12_fate_33
noncomputable def sX12_fate_29 : List Nat := 154 :: 0 :: 5 :: sX12_fate_32
noncomputable def sX12_fate_26 : List Nat := 184 :: 1 :: 14 :: sX12_fate_29
noncomputable def sX12_fate_24 : List Nat := 16 :: 12 :: sX12_fate_26
noncomputable def sX12_fate_23 : List Nat := 4 :: sX12_fate_24
noncomputable def sX12_fate_22 : List Nat := 28 :: sX12_fate_23
noncomputable def sX12_fate_21 : List Nat := 172 :: sX12_fate_22
noncomputable def sX12_fate_20 : List Nat := 3 :: sX12_fate_21
noncomputable def sX12_fate_17 : List Nat := 154 :: 0 :: 5 :: sX12_fate_20
noncomputable def sX12_fate_14 : List Nat := 182 :: 0 :: 209 :: sX12_fate_17
noncomputable def sX12_fate_13 : List Nat := 4 :: sX12_fate_14
noncomputable def sX12_fate_10 : List Nat := 184 :: 1 :: 14 :: sX12_fate_13
noncomputable def sX12_fate_8 : List Nat := 16 :: 19 :: sX12_fate_10
noncomputable def sX12_fate_7 : List Nat := 3 :: sX12_fate_8
noncomputable def sX12_fate_6 : List Nat := 27 :: sX12_fate_7
noncomputable def sX12_fate_5 : List Nat := 42 :: sX12_fate_6
noncomputable def sX12_fate_2 : List Nat := 181 :: 0 :: 129 :: sX12_fate_5
noncomputable def sX12_fate_1 : List Nat := 3 :: sX12_fate_2
noncomputable def sX12_fate_0 : List Nat := 42 :: sX12_fate_1
theorem aX12_fate_0 : dc_at cX12_fate 0 sX12_fate_0 := dc_base (by decide +kernel)
theorem aX12_fate_1 : dc_at cX12_fate 1 sX12_fate_1 := dc_n1 aX12_fate_0
theorem aX12_fate_2 : dc_at cX12_fate 2 sX12_fate_2 := dc_n1 aX12_fate_1
theorem aX12_fate_5 : dc_at cX12_fate 5 sX12_fate_5 := dc_n3 aX12_fate_2
theorem aX12_fate_6 : dc_at cX12_fate 6 sX12_fate_6 := dc_n1 aX12_fate_5
theorem aX12_fate_7 : dc_at cX12_fate 7 sX12_fate_7 := dc_n1 aX12_fate_6
theorem aX12_fate_8 : dc_at cX12_fate 8 sX12_fate_8 := dc_n1 aX12_fate_7
theorem aX12_fate_10 : dc_at cX12_fate 10 sX12_fate_10 := dc_n2 aX12_fate_8
theorem aX12_fate_13 : dc_at cX12_fate 13 sX12_fate_13 := dc_n3 aX12_fate_10
theorem aX12_fate_14 : dc_at cX12_fate 14 sX12_fate_14 := dc_n1 aX12_fate_13
theorem aX12_fate_17 : dc_at cX12_fate 17 sX12_fate_17 := dc_n3 aX12_fate_14
theorem aX12_fate_20 : dc_at cX12_fate 20 sX12_fate_20 := dc_n3 aX12_fate_17
theorem aX12_fate_21 : dc_at cX12_fate 21 sX12_fate_21 := dc_n1 aX12_fate_20
theorem aX12_fate_22 : dc_at cX12_fate 22 sX12_fate_22 := dc_n1 aX12_fate_21
theorem aX12_fate_23 : dc_at cX12_fate 23 sX12_fate_23 := dc_n1 aX12_fate_22
theorem aX12_fate_24 : dc_at cX12_fate 24 sX12_fate_24 := dc_n1 aX12_fate_23
theorem aX12_fate_26 : dc_at cX12_fate 26 sX12_fate_26 := dc_n2 aX12_fate_24
theorem aX12_fate_29 : dc_at cX12_fate 29 sX12_fate_29 := dc_n3 aX12_fate_26
theorem aX12_fate_32 : dc_at cX12_fate 32 sX12_fate_32 := dc_n3 aX12_fate_29
theorem aX12_fate_33 : dc_at cX12_fate 33 sX12_fate_33 := dc_n1 aX12_fate_32
theorem aX12_fate_34 : dc_at cX12_fate 34 sX12_fate_34 := dc_n1 aX12_fate_33
theorem aX12_fate_35 : dc_at cX12_fate 35 sX12_fate_35 := dc_n1 aX12_fate_34
theorem aX12_fate_38 : dc_at cX12_fate 38 sX12_fate_38 := dc_n3 aX12_fate_35
theorem aX12_fate_39 : dc_at cX12_fate 39 sX12_fate_39 := dc_n1 aX12_fate_38
theorem aX12_fate_40 : dc_at cX12_fate 40 sX12_fate_40 := dc_n1 aX12_fate_39
theorem aX12_fate_41 : dc_at cX12_fate 41 sX12_fate_41 := dc_n1 aX12_fate_40
theorem aX12_fate_42 : dc_at cX12_fate 42 sX12_fate_42 := dc_n1 aX12_fate_41
theorem dX12_fate_0 : decode cX12_fate 0 = .ok (.aload_n 0, 1) := dc_42 aX12_fate_0
theorem dX12_fate_1 : decode cX12_fate 1 = .ok (.iconst 0, 1) := dc_3 aX12_fate_1
theorem dX12_fate_2 : decode cX12_fate 2 = .ok (.putfield 129, 3) := dc_181 (a0 := 0) (b0 := 129) aX12_fate_2
theorem dX12_fate_5 : decode cX12_fate 5 = .ok (.aload_n 0, 1) := dc_42 aX12_fate_5
theorem dX12_fate_6 : decode cX12_fate 6 = .ok (.iload_n 1, 1) := dc_27 aX12_fate_6
theorem dX12_fate_7 : decode cX12_fate 7 = .ok (.iconst 0, 1) := dc_3 aX12_fate_7
theorem dX12_fate_8 : decode cX12_fate 8 = .ok (.bipush 19, 2) := dc_16 (a0 := 19) aX12_fate_8 (by decide)
theorem dX12_fate_10 : decode cX12_fate 10 = .ok (.invokestatic 270, 3) := dc_184 (a0 := 1) (b0 := 14) aX12_fate_10
theorem dX12_fate_13 : decode cX12_fate 13 = .ok (.iconst 1, 1) := dc_4 aX12_fate_13
theorem dX12_fate_14 : decode cX12_fate 14 = .ok (.invokevirtual 209, 3) := dc_182 (a0 := 0) (b0 := 209) aX12_fate_14
theorem dX12_fate_17 : decode cX12_fate 17 = .ok (.ifCond .ne 5, 3) := dc_154 (a0 := 0) (b0 := 5) aX12_fate_17 (by decide)
theorem dX12_fate_20 : decode cX12_fate 20 = .ok (.iconst 0, 1) := dc_3 aX12_fate_20
theorem dX12_fate_21 : decode cX12_fate 21 = .ok (.ireturn, 1) := dc_172 aX12_fate_21
theorem dX12_fate_22 : decode cX12_fate 22 = .ok (.iload_n 2, 1) := dc_28 aX12_fate_22
theorem dX12_fate_23 : decode cX12_fate 23 = .ok (.iconst 1, 1) := dc_4 aX12_fate_23
theorem dX12_fate_24 : decode cX12_fate 24 = .ok (.bipush 12, 2) := dc_16 (a0 := 12) aX12_fate_24 (by decide)
theorem dX12_fate_26 : decode cX12_fate 26 = .ok (.invokestatic 270, 3) := dc_184 (a0 := 1) (b0 := 14) aX12_fate_26
theorem dX12_fate_29 : decode cX12_fate 29 = .ok (.ifCond .ne 5, 3) := dc_154 (a0 := 0) (b0 := 5) aX12_fate_29 (by decide)
theorem dX12_fate_32 : decode cX12_fate 32 = .ok (.iconst 0, 1) := dc_3 aX12_fate_32
theorem dX12_fate_33 : decode cX12_fate 33 = .ok (.ireturn, 1) := dc_172 aX12_fate_33
theorem dX12_fate_34 : decode cX12_fate 34 = .ok (.aload_n 0, 1) := dc_42 aX12_fate_34
theorem dX12_fate_35 : decode cX12_fate 35 = .ok (.getfield 120, 3) := dc_180 (a0 := 0) (b0 := 120) aX12_fate_35
theorem dX12_fate_38 : decode cX12_fate 38 = .ok (.iload_n 1, 1) := dc_27 aX12_fate_38
theorem dX12_fate_39 : decode cX12_fate 39 = .ok (.iload_n 2, 1) := dc_28 aX12_fate_39
theorem dX12_fate_40 : decode cX12_fate 40 = .ok (.iastore, 1) := dc_79 aX12_fate_40
theorem dX12_fate_41 : decode cX12_fate 41 = .ok (.iconst 1, 1) := dc_4 aX12_fate_41
theorem dX12_fate_42 : decode cX12_fate 42 = .ok (.ireturn, 1) := dc_172 aX12_fate_42
noncomputable def sX12_isHit_33 : List Nat := 172 :: []
noncomputable def sX12_isHit_32 : List Nat := 3 :: sX12_isHit_33
noncomputable def sX12_isHit_29 : List Nat := 167 :: 0 :: 4 :: sX12_isHit_32
noncomputable def sX12_isHit_28 : List Nat := 4 :: sX12_isHit_29
noncomputable def sX12_isHit_25 : List Nat := 161 :: 0 :: 7 :: sX12_isHit_28
noncomputable def sX12_isHit_24 : List Nat := 116 :: sX12_isHit_25
noncomputable def sX12_isHit_23 : List Nat := 29 :: sX12_isHit_24
noncomputable def sX12_isHit_21 : List Nat := 21 :: 4 :: sX12_isHit_23
noncomputable def sX12_isHit_18 : List Nat := 163 :: 0 :: 14 :: sX12_isHit_21
noncomputable def sX12_isHit_17 : List Nat := 29 :: sX12_isHit_18
noncomputable def sX12_isHit_15 : List Nat := 21 :: 4 :: sX12_isHit_17
noncomputable def sX12_isHit_13 : List Nat := 54 :: 4 :: sX12_isHit_15
noncomputable def sX12_isHit_12 : List Nat := 100 :: sX12_isHit_13
noncomputable def sX12_isHit_11 : List Nat := 46 :: sX12_isHit_12
noncomputable def sX12_isHit_10 : List Nat := 28 :: sX12_isHit_11
noncomputable def sX12_isHit_7 : List Nat := 180 :: 0 :: 117 :: sX12_isHit_10
noncomputable def sX12_isHit_6 : List Nat := 42 :: sX12_isHit_7
noncomputable def sX12_isHit_5 : List Nat := 46 :: sX12_isHit_6
noncomputable def sX12_isHit_4 : List Nat := 27 :: sX12_isHit_5
noncomputable def sX12_isHit_1 : List Nat := 180 :: 0 :: 114 :: sX12_isHit_4
noncomputable def sX12_isHit_0 : List Nat := 42 :: sX12_isHit_1
theorem aX12_isHit_0 : dc_at cX12_isHit 0 sX12_isHit_0 := dc_base (by decide +kernel)
theorem aX12_isHit_1 : dc_at cX12_isHit 1 sX12_isHit_1 := dc_n1 aX12_isHit_0
theorem aX12_isHit_4 : dc_at cX12_isHit 4 sX12_isHit_4 := dc_n3 aX12_isHit_1
theorem aX12_isHit_5 : dc_at cX12_isHit 5 sX12_isHit_5 := dc_n1 aX12_isHit_4
theorem aX12_isHit_6 : dc_at cX12_isHit 6 sX12_isHit_6 := dc_n1 aX12_isHit_5
theorem aX12_isHit_7 : dc_at cX12_isHit 7 sX12_isHit_7 := dc_n1 aX12_isHit_6
theorem aX12_isHit_10 : dc_at cX12_isHit 10 sX12_isHit_10 := dc_n3 aX12_isHit_7
theorem aX12_isHit_11 : dc_at cX12_isHit 11 sX12_isHit_11 := dc_n1 aX12_isHit_10
theorem aX12_isHit_12 : dc_at cX12_isHit 12 sX12_isHit_12 := dc_n1 aX12_isHit_11
theorem aX12_isHit_13 : dc_at cX12_isHit 13 sX12_isHit_13 := dc_n1 aX12_isHit_12
theorem aX12_isHit_15 : dc_at cX12_isHit 15 sX12_isHit_15 := dc_n2 aX12_isHit_13
theorem aX12_isHit_17 : dc_at cX12_isHit 17 sX12_isHit_17 := dc_n2 aX12_isHit_15
theorem aX12_isHit_18 : dc_at cX12_isHit 18 sX12_isHit_18 := dc_n1 aX12_isHit_17
theorem aX12_isHit_21 : dc_at cX12_isHit 21 sX12_isHit_21 := dc_n3 aX12_isHit_18
theorem aX12_isHit_23 : dc_at cX12_isHit 23 sX12_isHit_23 := dc_n2 aX12_isHit_21
theorem aX12_isHit_24 : dc_at cX12_isHit 24 sX12_isHit_24 := dc_n1 aX12_isHit_23
theorem aX12_isHit_25 : dc_at cX12_isHit 25 sX12_isHit_25 := dc_n1 aX12_isHit_24
theorem aX12_isHit_28 : dc_at cX12_isHit 28 sX12_isHit_28 := dc_n3 aX12_isHit_25
theorem aX12_isHit_29 : dc_at cX12_isHit 29 sX12_isHit_29 := dc_n1 aX12_isHit_28
theorem aX12_isHit_32 : dc_at cX12_isHit 32 sX12_isHit_32 := dc_n3 aX12_isHit_29
theorem aX12_isHit_33 : dc_at cX12_isHit 33 sX12_isHit_33 := dc_n1 aX12_isHit_32
theorem dX12_isHit_0 : decode cX12_isHit 0 = .ok (.aload_n 0, 1) := dc_42 aX12_isHit_0
theorem dX12_isHit_1 : decode cX12_isHit 1 = .ok (.getfield 114, 3) := dc_180 (a0 := 0) (b0 := 114) aX12_isHit_1
theorem dX12_isHit_4 : decode cX12_isHit 4 = .ok (.iload_n 1, 1) := dc_27 aX12_isHit_4
theorem dX12_isHit_5 : decode cX12_isHit 5 = .ok (.iaload, 1) := dc_46 aX12_isHit_5
theorem dX12_isHit_6 : decode cX12_isHit 6 = .ok (.aload_n 0, 1) := dc_42 aX12_isHit_6
theorem dX12_isHit_7 : decode cX12_isHit 7 = .ok (.getfield 117, 3) := dc_180 (a0 := 0) (b0 := 117) aX12_isHit_7
theorem dX12_isHit_10 : decode cX12_isHit 10 = .ok (.iload_n 2, 1) := dc_28 aX12_isHit_10
theorem dX12_isHit_11 : decode cX12_isHit 11 = .ok (.iaload, 1) := dc_46 aX12_isHit_11
theorem dX12_isHit_12 : decode cX12_isHit 12 = .ok (.isub, 1) := dc_100 aX12_isHit_12
theorem dX12_isHit_13 : decode cX12_isHit 13 = .ok (.istore 4, 2) := dc_54 (a0 := 4) aX12_isHit_13
theorem dX12_isHit_15 : decode cX12_isHit 15 = .ok (.iload 4, 2) := dc_21 (a0 := 4) aX12_isHit_15
theorem dX12_isHit_17 : decode cX12_isHit 17 = .ok (.iload_n 3, 1) := dc_29 aX12_isHit_17
theorem dX12_isHit_18 : decode cX12_isHit 18 = .ok (.if_icmp .gt 14, 3) := dc_163 (a0 := 0) (b0 := 14) aX12_isHit_18 (by decide)
theorem dX12_isHit_21 : decode cX12_isHit 21 = .ok (.iload 4, 2) := dc_21 (a0 := 4) aX12_isHit_21
theorem dX12_isHit_23 : decode cX12_isHit 23 = .ok (.iload_n 3, 1) := dc_29 aX12_isHit_23
theorem dX12_isHit_24 : decode cX12_isHit 24 = .ok (.ineg, 1) := dc_116 aX12_isHit_24
theorem dX12_isHit_25 : decode cX12_isHit 25 = .ok (.if_icmp .lt 7, 3) := dc_161 (a0 := 0) (b0 := 7) aX12_isHit_25 (by decide)
theorem dX12_isHit_28 : decode cX12_isHit 28 = .ok (.iconst 1, 1) := dc_4 aX12_isHit_28
theorem dX12_isHit_29 : decode cX12_isHit 29 = .ok (.goto 4, 3) := dc_167 (a0 := 0) (b0 := 4) aX12_isHit_29 (by decide)
theorem dX12_isHit_32 : decode cX12_isHit 32 = .ok (.iconst 0, 1) := dc_3 aX12_isHit_32
theorem dX12_isHit_33 : decode cX12_isHit 33 = .ok (.ireturn, 1) := dc_172 aX12_isHit_33
set_option maxRecDepth 20000 in
theorem ggX12_isTold_X12_at : GoodIn wsX12_isTold wsX12_at := goodIn_k _ [[6, 0, 0, 0, 0, 0, 0, 0, 0, 0, 0, 0, 0, 0, 0, 0, 0, 0, 0, 0, 0, 0, 0, 0, 0, 0, 0, 0, 0, 0, 0, 0, 0, 0, 0, 0, 0, 0, 0, 0, 0, 0, 0, 0, 0, 0, 0, 0, 0, 0, 0, 0, 0, 0, 0, 0, 0, 0, 0, 0]] (by rfl) (by decide +kernel)
set_option maxRecDepth 20000 in
theorem gX12_isTold_X12_at : GoodIn wsX12_isTold (wsV RX12 254 RX12 yX12_at wsX12_at) := goodIn_app (goodIn_of _ (by decide +kernel)) ggX12_isTold_X12_at
noncomputable def sX12_isTold_57 : List Nat := 172 :: []
noncomputable def sX12_isTold_56 : List Nat := 3 :: sX12_isTold_57
noncomputable def sX12_isTold_53 : List Nat := 167 :: 0 :: 4 :: sX12_isTold_56
noncomputable def sX12_isTold_52 : List Nat := 4 :: sX12_isTold_53
noncomputable def sX12_isTold_49 : List Nat := 160 :: 0 :: 7 :: sX12_isTold_52
noncomputable def sX12_isTold_48 : List Nat := 112 :: sX12_isTold_49
noncomputable def sX12_isTold_46 : List Nat := 16 :: 12 :: sX12_isTold_48
noncomputable def sX12_isTold_45 : List Nat := 100 :: sX12_isTold_46
noncomputable def sX12_isTold_44 : List Nat := 4 :: sX12_isTold_45
noncomputable def sX12_isTold_43 : List Nat := 96 :: sX12_isTold_44
noncomputable def sX12_isTold_42 : List Nat := 46 :: sX12_isTold_43
noncomputable def sX12_isTold_41 : List Nat := 28 :: sX12_isTold_42
noncomputable def sX12_isTold_38 : List Nat := 180 :: 0 :: 120 :: sX12_isTold_41
noncomputable def sX12_isTold_37 : List Nat := 42 :: sX12_isTold_38
noncomputable def sX12_isTold_36 : List Nat := 108 :: sX12_isTold_37
noncomputable def sX12_isTold_34 : List Nat := 16 :: 30 :: sX12_isTold_36
noncomputable def sX12_isTold_33 : List Nat := 29 :: sX12_isTold_34
noncomputable def sX12_isTold_32 : List Nat := 108 :: sX12_isTold_33
noncomputable def sX12_isTold_30 : List Nat := 16 :: 30 :: sX12_isTold_32
noncomputable def sX12_isTold_28 : List Nat := 21 :: 4 :: sX12_isTold_30
noncomputable def sX12_isTold_25 : List Nat := 159 :: 0 :: 31 :: sX12_isTold_28
noncomputable def sX12_isTold_24 : List Nat := 2 :: sX12_isTold_25
noncomputable def sX12_isTold_22 : List Nat := 21 :: 4 :: sX12_isTold_24
noncomputable def sX12_isTold_19 : List Nat := 159 :: 0 :: 37 :: sX12_isTold_22
noncomputable def sX12_isTold_18 : List Nat := 2 :: sX12_isTold_19
noncomputable def sX12_isTold_17 : List Nat := 29 :: sX12_isTold_18
noncomputable def sX12_isTold_15 : List Nat := 54 :: 4 :: sX12_isTold_17
noncomputable def sX12_isTold_12 : List Nat := 182 :: 0 :: 254 :: sX12_isTold_15
noncomputable def sX12_isTold_10 : List Nat := 16 :: 8 :: sX12_isTold_12
noncomputable def sX12_isTold_9 : List Nat := 27 :: sX12_isTold_10
noncomputable def sX12_isTold_8 : List Nat := 42 :: sX12_isTold_9
noncomputable def sX12_isTold_7 : List Nat := 62 :: sX12_isTold_8
noncomputable def sX12_isTold_4 : List Nat := 182 :: 0 :: 254 :: sX12_isTold_7
noncomputable def sX12_isTold_2 : List Nat := 16 :: 7 :: sX12_isTold_4
noncomputable def sX12_isTold_1 : List Nat := 27 :: sX12_isTold_2
noncomputable def sX12_isTold_0 : List Nat := 42 :: sX12_isTold_1
theorem aX12_isTold_0 : dc_at cX12_isTold 0 sX12_isTold_0 := dc_base (by decide +kernel)
theorem aX12_isTold_1 : dc_at cX12_isTold 1 sX12_isTold_1 := dc_n1 aX12_isTold_0
theorem aX12_isTold_2 : dc_at cX12_isTold 2 sX12_isTold_2 := dc_n1 aX12_isTold_1
theorem aX12_isTold_4 : dc_at cX12_isTold 4 sX12_isTold_4 := dc_n2 aX12_isTold_2
theorem aX12_isTold_7 : dc_at cX12_isTold 7 sX12_isTold_7 := dc_n3 aX12_isTold_4
theorem aX12_isTold_8 : dc_at cX12_isTold 8 sX12_isTold_8 := dc_n1 aX12_isTold_7
theorem aX12_isTold_9 : dc_at cX12_isTold 9 sX12_isTold_9 := dc_n1 aX12_isTold_8
theorem aX12_isTold_10 : dc_at cX12_isTold 10 sX12_isTold_10 := dc_n1 aX12_isTold_9
theorem aX12_isTold_12 : dc_at cX12_isTold 12 sX12_isTold_12 := dc_n2 aX12_isTold_10
theorem aX12_isTold_15 : dc_at cX12_isTold 15 sX12_isTold_15 := dc_n3 aX12_isTold_12
theorem aX12_isTold_17 : dc_at cX12_isTold 17 sX12_isTold_17 := dc_n2 aX12_isTold_15
theorem aX12_isTold_18 : dc_at cX12_isTold 18 sX12_isTold_18 := dc_n1 aX12_isTold_17
theorem aX12_isTold_19 : dc_at cX12_isTold 19 sX12_isTold_19 := dc_n1 aX12_isTold_18
theorem aX12_isTold_22 : dc_at cX12_isTold 22 sX12_isTold_22 := dc_n3 aX12_isTold_19
theorem aX12_isTold_24 : dc_at cX12_isTold 24 sX12_isTold_24 := dc_n2 aX12_isTold_22
theorem aX12_isTold_25 : dc_at cX12_isTold 25 sX12_isTold_25 := dc_n1 aX12_isTold_24
theorem aX12_isTold_28 : dc_at cX12_isTold 28 sX12_isTold_28 := dc_n3 aX12_isTold_25
theorem aX12_isTold_30 : dc_at cX12_isTold 30 sX12_isTold_30 := dc_n2 aX12_isTold_28
theorem aX12_isTold_32 : dc_at cX12_isTold 32 sX12_isTold_32 := dc_n2 aX12_isTold_30
theorem aX12_isTold_33 : dc_at cX12_isTold 33 sX12_isTold_33 := dc_n1 aX12_isTold_32
theorem aX12_isTold_34 : dc_at cX12_isTold 34 sX12_isTold_34 := dc_n1 aX12_isTold_33
theorem aX12_isTold_36 : dc_at cX12_isTold 36 sX12_isTold_36 := dc_n2 aX12_isTold_34
theorem aX12_isTold_37 : dc_at cX12_isTold 37 sX12_isTold_37 := dc_n1 aX12_isTold_36
theorem aX12_isTold_38 : dc_at cX12_isTold 38 sX12_isTold_38 := dc_n1 aX12_isTold_37
theorem aX12_isTold_41 : dc_at cX12_isTold 41 sX12_isTold_41 := dc_n3 aX12_isTold_38
theorem aX12_isTold_42 : dc_at cX12_isTold 42 sX12_isTold_42 := dc_n1 aX12_isTold_41
theorem aX12_isTold_43 : dc_at cX12_isTold 43 sX12_isTold_43 := dc_n1 aX12_isTold_42
theorem aX12_isTold_44 : dc_at cX12_isTold 44 sX12_isTold_44 := dc_n1 aX12_isTold_43
theorem aX12_isTold_45 : dc_at cX12_isTold 45 sX12_isTold_45 := dc_n1 aX12_isTold_44
theorem aX12_isTold_46 : dc_at cX12_isTold 46 sX12_isTold_46 := dc_n1 aX12_isTold_45
theorem aX12_isTold_48 : dc_at cX12_isTold 48 sX12_isTold_48 := dc_n2 aX12_isTold_46
theorem aX12_isTold_49 : dc_at cX12_isTold 49 sX12_isTold_49 := dc_n1 aX12_isTold_48
theorem aX12_isTold_52 : dc_at cX12_isTold 52 sX12_isTold_52 := dc_n3 aX12_isTold_49
theorem aX12_isTold_53 : dc_at cX12_isTold 53 sX12_isTold_53 := dc_n1 aX12_isTold_52
theorem aX12_isTold_56 : dc_at cX12_isTold 56 sX12_isTold_56 := dc_n3 aX12_isTold_53
theorem aX12_isTold_57 : dc_at cX12_isTold 57 sX12_isTold_57 := dc_n1 aX12_isTold_56
theorem dX12_isTold_0 : decode cX12_isTold 0 = .ok (.aload_n 0, 1) := dc_42 aX12_isTold_0
theorem dX12_isTold_1 : decode cX12_isTold 1 = .ok (.iload_n 1, 1) := dc_27 aX12_isTold_1
theorem dX12_isTold_2 : decode cX12_isTold 2 = .ok (.bipush 7, 2) := dc_16 (a0 := 7) aX12_isTold_2 (by decide)
theorem dX12_isTold_4 : decode cX12_isTold 4 = .ok (.invokevirtual 254, 3) := dc_182 (a0 := 0) (b0 := 254) aX12_isTold_4
theorem dX12_isTold_7 : decode cX12_isTold 7 = .ok (.istore_n 3, 1) := dc_62 aX12_isTold_7
theorem dX12_isTold_8 : decode cX12_isTold 8 = .ok (.aload_n 0, 1) := dc_42 aX12_isTold_8
theorem dX12_isTold_9 : decode cX12_isTold 9 = .ok (.iload_n 1, 1) := dc_27 aX12_isTold_9
theorem dX12_isTold_10 : decode cX12_isTold 10 = .ok (.bipush 8, 2) := dc_16 (a0 := 8) aX12_isTold_10 (by decide)
theorem dX12_isTold_12 : decode cX12_isTold 12 = .ok (.invokevirtual 254, 3) := dc_182 (a0 := 0) (b0 := 254) aX12_isTold_12
theorem dX12_isTold_15 : decode cX12_isTold 15 = .ok (.istore 4, 2) := dc_54 (a0 := 4) aX12_isTold_15
theorem dX12_isTold_17 : decode cX12_isTold 17 = .ok (.iload_n 3, 1) := dc_29 aX12_isTold_17
theorem dX12_isTold_18 : decode cX12_isTold 18 = .ok (.iconst (-1), 1) := dc_2 aX12_isTold_18
theorem dX12_isTold_19 : decode cX12_isTold 19 = .ok (.if_icmp .eq 37, 3) := dc_159 (a0 := 0) (b0 := 37) aX12_isTold_19 (by decide)
theorem dX12_isTold_22 : decode cX12_isTold 22 = .ok (.iload 4, 2) := dc_21 (a0 := 4) aX12_isTold_22
theorem dX12_isTold_24 : decode cX12_isTold 24 = .ok (.iconst (-1), 1) := dc_2 aX12_isTold_24
theorem dX12_isTold_25 : decode cX12_isTold 25 = .ok (.if_icmp .eq 31, 3) := dc_159 (a0 := 0) (b0 := 31) aX12_isTold_25 (by decide)
theorem dX12_isTold_28 : decode cX12_isTold 28 = .ok (.iload 4, 2) := dc_21 (a0 := 4) aX12_isTold_28
theorem dX12_isTold_30 : decode cX12_isTold 30 = .ok (.bipush 30, 2) := dc_16 (a0 := 30) aX12_isTold_30 (by decide)
theorem dX12_isTold_32 : decode cX12_isTold 32 = .ok (.idiv, 1) := dc_108 aX12_isTold_32
theorem dX12_isTold_33 : decode cX12_isTold 33 = .ok (.iload_n 3, 1) := dc_29 aX12_isTold_33
theorem dX12_isTold_34 : decode cX12_isTold 34 = .ok (.bipush 30, 2) := dc_16 (a0 := 30) aX12_isTold_34 (by decide)
theorem dX12_isTold_36 : decode cX12_isTold 36 = .ok (.idiv, 1) := dc_108 aX12_isTold_36
theorem dX12_isTold_37 : decode cX12_isTold 37 = .ok (.aload_n 0, 1) := dc_42 aX12_isTold_37
theorem dX12_isTold_38 : decode cX12_isTold 38 = .ok (.getfield 120, 3) := dc_180 (a0 := 0) (b0 := 120) aX12_isTold_38
theorem dX12_isTold_41 : decode cX12_isTold 41 = .ok (.iload_n 2, 1) := dc_28 aX12_isTold_41
theorem dX12_isTold_42 : decode cX12_isTold 42 = .ok (.iaload, 1) := dc_46 aX12_isTold_42
theorem dX12_isTold_43 : decode cX12_isTold 43 = .ok (.iadd, 1) := dc_96 aX12_isTold_43
theorem dX12_isTold_44 : decode cX12_isTold 44 = .ok (.iconst 1, 1) := dc_4 aX12_isTold_44
theorem dX12_isTold_45 : decode cX12_isTold 45 = .ok (.isub, 1) := dc_100 aX12_isTold_45
theorem dX12_isTold_46 : decode cX12_isTold 46 = .ok (.bipush 12, 2) := dc_16 (a0 := 12) aX12_isTold_46 (by decide)
theorem dX12_isTold_48 : decode cX12_isTold 48 = .ok (.irem, 1) := dc_112 aX12_isTold_48
theorem dX12_isTold_49 : decode cX12_isTold 49 = .ok (.if_icmp .ne 7, 3) := dc_160 (a0 := 0) (b0 := 7) aX12_isTold_49 (by decide)
theorem dX12_isTold_52 : decode cX12_isTold 52 = .ok (.iconst 1, 1) := dc_4 aX12_isTold_52
theorem dX12_isTold_53 : decode cX12_isTold 53 = .ok (.goto 4, 3) := dc_167 (a0 := 0) (b0 := 4) aX12_isTold_53 (by decide)
theorem dX12_isTold_56 : decode cX12_isTold 56 = .ok (.iconst 0, 1) := dc_3 aX12_isTold_56
theorem dX12_isTold_57 : decode cX12_isTold 57 = .ok (.ireturn, 1) := dc_172 aX12_isTold_57
set_option maxRecDepth 20000 in
theorem ggX12_hitsBy_X12_isTold : GoodIn wsX12_hitsBy wsX12_isTold := goodIn_k _ [[8, 0, 0, 0, 0], [7, 5, 0, 6, 0, 0, 0, 0, 0, 0, 0, 0, 0, 0, 0, 0, 0, 0, 0, 0, 0, 0, 0, 0, 0, 0, 0, 0, 0, 0, 0, 0, 0, 0, 0, 0, 0, 0, 0, 0, 0, 0, 0, 0, 0, 0, 0, 0, 0, 0, 0, 0, 0, 0, 0, 0, 0, 0, 0, 0, 0]] (by rfl) (by decide +kernel)
set_option maxRecDepth 20000 in
theorem gX12_hitsBy_X12_isTold : GoodIn wsX12_hitsBy (wsV RX12 365 RX12 yX12_isTold wsX12_isTold) := goodIn_app (goodIn_of _ (by decide +kernel)) ggX12_hitsBy_X12_isTold
set_option maxRecDepth 20000 in
theorem ggX12_hitsBy_X12_isHit : GoodIn wsX12_hitsBy wsX12_isHit := goodIn_k _ [[18, 0, 0, 0, 0, 0, 0, 0, 0, 0, 0, 0, 0, 0, 0, 0, 0, 0, 0, 0, 0, 0, 0, 0, 0, 0, 0, 0, 0, 0, 0, 0, 0, 0, 0, 0, 0, 0, 0, 0, 0, 0, 0, 0, 0, 0, 0, 0, 0, 0, 0, 0, 0, 0, 0, 0, 0, 0, 0, 0, 0]] (by rfl) (by decide +kernel)
set_option maxRecDepth 20000 in
theorem gX12_hitsBy_X12_isHit : GoodIn wsX12_hitsBy (wsV RX12 368 RX12 yX12_isHit wsX12_isHit) := goodIn_app (goodIn_of _ (by decide +kernel)) ggX12_hitsBy_X12_isHit
noncomputable def sX12_hitsBy_88 : List Nat := 172 :: []
noncomputable def sX12_hitsBy_87 : List Nat := 28 :: sX12_hitsBy_88
noncomputable def sX12_hitsBy_84 : List Nat := 167 :: 255 :: 176 :: sX12_hitsBy_87
noncomputable def sX12_hitsBy_81 : List Nat := 132 :: 3 :: 1 :: sX12_hitsBy_84
noncomputable def sX12_hitsBy_80 : List Nat := 61 :: sX12_hitsBy_81
noncomputable def sX12_hitsBy_79 : List Nat := 96 :: sX12_hitsBy_80
noncomputable def sX12_hitsBy_78 : List Nat := 3 :: sX12_hitsBy_79
noncomputable def sX12_hitsBy_75 : List Nat := 167 :: 0 :: 4 :: sX12_hitsBy_78
noncomputable def sX12_hitsBy_74 : List Nat := 4 :: sX12_hitsBy_75
noncomputable def sX12_hitsBy_71 : List Nat := 153 :: 0 :: 7 :: sX12_hitsBy_74
noncomputable def sX12_hitsBy_68 : List Nat := 182 :: 1 :: 112 :: sX12_hitsBy_71
noncomputable def sX12_hitsBy_67 : List Nat := 27 :: sX12_hitsBy_68
noncomputable def sX12_hitsBy_66 : List Nat := 46 :: sX12_hitsBy_67
noncomputable def sX12_hitsBy_65 : List Nat := 46 :: sX12_hitsBy_66
noncomputable def sX12_hitsBy_64 : List Nat := 29 :: sX12_hitsBy_65
noncomputable def sX12_hitsBy_61 : List Nat := 180 :: 0 :: 126 :: sX12_hitsBy_64
noncomputable def sX12_hitsBy_60 : List Nat := 42 :: sX12_hitsBy_61
noncomputable def sX12_hitsBy_57 : List Nat := 180 :: 0 :: 123 :: sX12_hitsBy_60
noncomputable def sX12_hitsBy_56 : List Nat := 42 :: sX12_hitsBy_57
noncomputable def sX12_hitsBy_55 : List Nat := 46 :: sX12_hitsBy_56
noncomputable def sX12_hitsBy_54 : List Nat := 29 :: sX12_hitsBy_55
noncomputable def sX12_hitsBy_51 : List Nat := 180 :: 0 :: 123 :: sX12_hitsBy_54
noncomputable def sX12_hitsBy_50 : List Nat := 42 :: sX12_hitsBy_51
noncomputable def sX12_hitsBy_49 : List Nat := 42 :: sX12_hitsBy_50
noncomputable def sX12_hitsBy_46 : List Nat := 167 :: 0 :: 33 :: sX12_hitsBy_49
noncomputable def sX12_hitsBy_45 : List Nat := 3 :: sX12_hitsBy_46
noncomputable def sX12_hitsBy_42 : List Nat := 167 :: 0 :: 37 :: sX12_hitsBy_45
noncomputable def sX12_hitsBy_41 : List Nat := 4 :: sX12_hitsBy_42
noncomputable def sX12_hitsBy_38 : List Nat := 153 :: 0 :: 7 :: sX12_hitsBy_41
noncomputable def sX12_hitsBy_35 : List Nat := 182 :: 1 :: 109 :: sX12_hitsBy_38
noncomputable def sX12_hitsBy_34 : List Nat := 46 :: sX12_hitsBy_35
noncomputable def sX12_hitsBy_33 : List Nat := 46 :: sX12_hitsBy_34
noncomputable def sX12_hitsBy_32 : List Nat := 29 :: sX12_hitsBy_33
noncomputable def sX12_hitsBy_29 : List Nat := 180 :: 0 :: 126 :: sX12_hitsBy_32
noncomputable def sX12_hitsBy_28 : List Nat := 42 :: sX12_hitsBy_29
noncomputable def sX12_hitsBy_25 : List Nat := 180 :: 0 :: 123 :: sX12_hitsBy_28
noncomputable def sX12_hitsBy_24 : List Nat := 42 :: sX12_hitsBy_25
noncomputable def sX12_hitsBy_23 : List Nat := 46 :: sX12_hitsBy_24
noncomputable def sX12_hitsBy_22 : List Nat := 29 :: sX12_hitsBy_23
noncomputable def sX12_hitsBy_19 : List Nat := 180 :: 0 :: 123 :: sX12_hitsBy_22
noncomputable def sX12_hitsBy_18 : List Nat := 42 :: sX12_hitsBy_19
noncomputable def sX12_hitsBy_17 : List Nat := 42 :: sX12_hitsBy_18
noncomputable def sX12_hitsBy_14 : List Nat := 156 :: 0 :: 35 :: sX12_hitsBy_17
noncomputable def sX12_hitsBy_13 : List Nat := 27 :: sX12_hitsBy_14
noncomputable def sX12_hitsBy_12 : List Nat := 28 :: sX12_hitsBy_13
noncomputable def sX12_hitsBy_9 : List Nat := 162 :: 0 :: 78 :: sX12_hitsBy_12
noncomputable def sX12_hitsBy_6 : List Nat := 180 :: 1 :: 106 :: sX12_hitsBy_9
noncomputable def sX12_hitsBy_5 : List Nat := 42 :: sX12_hitsBy_6
noncomputable def sX12_hitsBy_4 : List Nat := 29 :: sX12_hitsBy_5
noncomputable def sX12_hitsBy_3 : List Nat := 62 :: sX12_hitsBy_4
noncomputable def sX12_hitsBy_2 : List Nat := 3 :: sX12_hitsBy_3
noncomputable def sX12_hitsBy_1 : List Nat := 61 :: sX12_hitsBy_2
noncomputable def sX12_hitsBy_0 : List Nat := 3 :: sX12_hitsBy_1
theorem aX12_hitsBy_0 : dc_at cX12_hitsBy 0 sX12_hitsBy_0 := dc_base (by decide +kernel)
theorem aX12_hitsBy_1 : dc_at cX12_hitsBy 1 sX12_hitsBy_1 := dc_n1 aX12_hitsBy_0
theorem aX12_hitsBy_2 : dc_at cX12_hitsBy 2 sX12_hitsBy_2 := dc_n1 aX12_hitsBy_1
theorem aX12_hitsBy_3 : dc_at cX12_hitsBy 3 sX12_hitsBy_3 := dc_n1 aX12_hitsBy_2
theorem aX12_hitsBy_4 : dc_at cX12_hitsBy 4 sX12_hitsBy_4 := dc_n1 aX12_hitsBy_3
theorem aX12_hitsBy_5 : dc_at cX12_hitsBy 5 sX12_hitsBy_5 := dc_n1 aX12_hitsBy_4
theorem aX12_hitsBy_6 : dc_at cX12_hitsBy 6 sX12_hitsBy_6 := dc_n1 aX12_hitsBy_5
theorem aX12_hitsBy_9 : dc_at cX12_hitsBy 9 sX12_hitsBy_9 := dc_n3 aX12_hitsBy_6
theorem aX12_hitsBy_12 : dc_at cX12_hitsBy 12 sX12_hitsBy_12 := dc_n3 aX12_hitsBy_9
theorem aX12_hitsBy_13 : dc_at cX12_hitsBy 13 sX12_hitsBy_13 := dc_n1 aX12_hitsBy_12
theorem aX12_hitsBy_14 : dc_at cX12_hitsBy 14 sX12_hitsBy_14 := dc_n1 aX12_hitsBy_13
theorem aX12_hitsBy_17 : dc_at cX12_hitsBy 17 sX12_hitsBy_17 := dc_n3 aX12_hitsBy_14
theorem aX12_hitsBy_18 : dc_at cX12_hitsBy 18 sX12_hitsBy_18 := dc_n1 aX12_hitsBy_17
theorem aX12_hitsBy_19 : dc_at cX12_hitsBy 19 sX12_hitsBy_19 := dc_n1 aX12_hitsBy_18
theorem aX12_hitsBy_22 : dc_at cX12_hitsBy 22 sX12_hitsBy_22 := dc_n3 aX12_hitsBy_19
theorem aX12_hitsBy_23 : dc_at cX12_hitsBy 23 sX12_hitsBy_23 := dc_n1 aX12_hitsBy_22
theorem aX12_hitsBy_24 : dc_at cX12_hitsBy 24 sX12_hitsBy_24 := dc_n1 aX12_hitsBy_23
theorem aX12_hitsBy_25 : dc_at cX12_hitsBy 25 sX12_hitsBy_25 := dc_n1 aX12_hitsBy_24
theorem aX12_hitsBy_28 : dc_at cX12_hitsBy 28 sX12_hitsBy_28 := dc_n3 aX12_hitsBy_25
theorem aX12_hitsBy_29 : dc_at cX12_hitsBy 29 sX12_hitsBy_29 := dc_n1 aX12_hitsBy_28
theorem aX12_hitsBy_32 : dc_at cX12_hitsBy 32 sX12_hitsBy_32 := dc_n3 aX12_hitsBy_29
theorem aX12_hitsBy_33 : dc_at cX12_hitsBy 33 sX12_hitsBy_33 := dc_n1 aX12_hitsBy_32
theorem aX12_hitsBy_34 : dc_at cX12_hitsBy 34 sX12_hitsBy_34 := dc_n1 aX12_hitsBy_33
theorem aX12_hitsBy_35 : dc_at cX12_hitsBy 35 sX12_hitsBy_35 := dc_n1 aX12_hitsBy_34
theorem aX12_hitsBy_38 : dc_at cX12_hitsBy 38 sX12_hitsBy_38 := dc_n3 aX12_hitsBy_35
theorem aX12_hitsBy_41 : dc_at cX12_hitsBy 41 sX12_hitsBy_41 := dc_n3 aX12_hitsBy_38
theorem aX12_hitsBy_42 : dc_at cX12_hitsBy 42 sX12_hitsBy_42 := dc_n1 aX12_hitsBy_41
theorem aX12_hitsBy_45 : dc_at cX12_hitsBy 45 sX12_hitsBy_45 := dc_n3 aX12_hitsBy_42
theorem aX12_hitsBy_46 : dc_at cX12_hitsBy 46 sX12_hitsBy_46 := dc_n1 aX12_hitsBy_45
theorem aX12_hitsBy_49 : dc_at cX12_hitsBy 49 sX12_hitsBy_49 := dc_n3 aX12_hitsBy_46
theorem aX12_hitsBy_50 : dc_at cX12_hitsBy 50 sX12_hitsBy_50 := dc_n1 aX12_hitsBy_49
theorem aX12_hitsBy_51 : dc_at cX12_hitsBy 51 sX12_hitsBy_51 := dc_n1 aX12_hitsBy_50
theorem aX12_hitsBy_54 : dc_at cX12_hitsBy 54 sX12_hitsBy_54 := dc_n3 aX12_hitsBy_51
theorem aX12_hitsBy_55 : dc_at cX12_hitsBy 55 sX12_hitsBy_55 := dc_n1 aX12_hitsBy_54
theorem aX12_hitsBy_56 : dc_at cX12_hitsBy 56 sX12_hitsBy_56 := dc_n1 aX12_hitsBy_55
theorem aX12_hitsBy_57 : dc_at cX12_hitsBy 57 sX12_hitsBy_57 := dc_n1 aX12_hitsBy_56
theorem aX12_hitsBy_60 : dc_at cX12_hitsBy 60 sX12_hitsBy_60 := dc_n3 aX12_hitsBy_57
theorem aX12_hitsBy_61 : dc_at cX12_hitsBy 61 sX12_hitsBy_61 := dc_n1 aX12_hitsBy_60
theorem aX12_hitsBy_64 : dc_at cX12_hitsBy 64 sX12_hitsBy_64 := dc_n3 aX12_hitsBy_61
theorem aX12_hitsBy_65 : dc_at cX12_hitsBy 65 sX12_hitsBy_65 := dc_n1 aX12_hitsBy_64
theorem aX12_hitsBy_66 : dc_at cX12_hitsBy 66 sX12_hitsBy_66 := dc_n1 aX12_hitsBy_65
theorem aX12_hitsBy_67 : dc_at cX12_hitsBy 67 sX12_hitsBy_67 := dc_n1 aX12_hitsBy_66
theorem aX12_hitsBy_68 : dc_at cX12_hitsBy 68 sX12_hitsBy_68 := dc_n1 aX12_hitsBy_67
theorem aX12_hitsBy_71 : dc_at cX12_hitsBy 71 sX12_hitsBy_71 := dc_n3 aX12_hitsBy_68
theorem aX12_hitsBy_74 : dc_at cX12_hitsBy 74 sX12_hitsBy_74 := dc_n3 aX12_hitsBy_71
theorem aX12_hitsBy_75 : dc_at cX12_hitsBy 75 sX12_hitsBy_75 := dc_n1 aX12_hitsBy_74
theorem aX12_hitsBy_78 : dc_at cX12_hitsBy 78 sX12_hitsBy_78 := dc_n3 aX12_hitsBy_75
theorem aX12_hitsBy_79 : dc_at cX12_hitsBy 79 sX12_hitsBy_79 := dc_n1 aX12_hitsBy_78
theorem aX12_hitsBy_80 : dc_at cX12_hitsBy 80 sX12_hitsBy_80 := dc_n1 aX12_hitsBy_79
theorem aX12_hitsBy_81 : dc_at cX12_hitsBy 81 sX12_hitsBy_81 := dc_n1 aX12_hitsBy_80
theorem aX12_hitsBy_84 : dc_at cX12_hitsBy 84 sX12_hitsBy_84 := dc_n3 aX12_hitsBy_81
theorem aX12_hitsBy_87 : dc_at cX12_hitsBy 87 sX12_hitsBy_87 := dc_n3 aX12_hitsBy_84
theorem aX12_hitsBy_88 : dc_at cX12_hitsBy 88 sX12_hitsBy_88 := dc_n1 aX12_hitsBy_87
theorem dX12_hitsBy_0 : decode cX12_hitsBy 0 = .ok (.iconst 0, 1) := dc_3 aX12_hitsBy_0
theorem dX12_hitsBy_1 : decode cX12_hitsBy 1 = .ok (.istore_n 2, 1) := dc_61 aX12_hitsBy_1
theorem dX12_hitsBy_2 : decode cX12_hitsBy 2 = .ok (.iconst 0, 1) := dc_3 aX12_hitsBy_2
theorem dX12_hitsBy_3 : decode cX12_hitsBy 3 = .ok (.istore_n 3, 1) := dc_62 aX12_hitsBy_3
theorem dX12_hitsBy_4 : decode cX12_hitsBy 4 = .ok (.iload_n 3, 1) := dc_29 aX12_hitsBy_4
theorem dX12_hitsBy_5 : decode cX12_hitsBy 5 = .ok (.aload_n 0, 1) := dc_42 aX12_hitsBy_5
theorem dX12_hitsBy_6 : decode cX12_hitsBy 6 = .ok (.getfield 362, 3) := dc_180 (a0 := 1) (b0 := 106) aX12_hitsBy_6
theorem dX12_hitsBy_9 : decode cX12_hitsBy 9 = .ok (.if_icmp .ge 78, 3) := dc_162 (a0 := 0) (b0 := 78) aX12_hitsBy_9 (by decide)
theorem dX12_hitsBy_12 : decode cX12_hitsBy 12 = .ok (.iload_n 2, 1) := dc_28 aX12_hitsBy_12
theorem dX12_hitsBy_13 : decode cX12_hitsBy 13 = .ok (.iload_n 1, 1) := dc_27 aX12_hitsBy_13
theorem dX12_hitsBy_14 : decode cX12_hitsBy 14 = .ok (.ifCond .ge 35, 3) := dc_156 (a0 := 0) (b0 := 35) aX12_hitsBy_14 (by decide)
theorem dX12_hitsBy_17 : decode cX12_hitsBy 17 = .ok (.aload_n 0, 1) := dc_42 aX12_hitsBy_17
theorem dX12_hitsBy_18 : decode cX12_hitsBy 18 = .ok (.aload_n 0, 1) := dc_42 aX12_hitsBy_18
theorem dX12_hitsBy_19 : decode cX12_hitsBy 19 = .ok (.getfield 123, 3) := dc_180 (a0 := 0) (b0 := 123) aX12_hitsBy_19
theorem dX12_hitsBy_22 : decode cX12_hitsBy 22 = .ok (.iload_n 3, 1) := dc_29 aX12_hitsBy_22
theorem dX12_hitsBy_23 : decode cX12_hitsBy 23 = .ok (.iaload, 1) := dc_46 aX12_hitsBy_23
theorem dX12_hitsBy_24 : decode cX12_hitsBy 24 = .ok (.aload_n 0, 1) := dc_42 aX12_hitsBy_24
theorem dX12_hitsBy_25 : decode cX12_hitsBy 25 = .ok (.getfield 123, 3) := dc_180 (a0 := 0) (b0 := 123) aX12_hitsBy_25
theorem dX12_hitsBy_28 : decode cX12_hitsBy 28 = .ok (.aload_n 0, 1) := dc_42 aX12_hitsBy_28
theorem dX12_hitsBy_29 : decode cX12_hitsBy 29 = .ok (.getfield 126, 3) := dc_180 (a0 := 0) (b0 := 126) aX12_hitsBy_29
theorem dX12_hitsBy_32 : decode cX12_hitsBy 32 = .ok (.iload_n 3, 1) := dc_29 aX12_hitsBy_32
theorem dX12_hitsBy_33 : decode cX12_hitsBy 33 = .ok (.iaload, 1) := dc_46 aX12_hitsBy_33
theorem dX12_hitsBy_34 : decode cX12_hitsBy 34 = .ok (.iaload, 1) := dc_46 aX12_hitsBy_34
theorem dX12_hitsBy_35 : decode cX12_hitsBy 35 = .ok (.invokevirtual 365, 3) := dc_182 (a0 := 1) (b0 := 109) aX12_hitsBy_35
theorem dX12_hitsBy_38 : decode cX12_hitsBy 38 = .ok (.ifCond .eq 7, 3) := dc_153 (a0 := 0) (b0 := 7) aX12_hitsBy_38 (by decide)
theorem dX12_hitsBy_41 : decode cX12_hitsBy 41 = .ok (.iconst 1, 1) := dc_4 aX12_hitsBy_41
theorem dX12_hitsBy_42 : decode cX12_hitsBy 42 = .ok (.goto 37, 3) := dc_167 (a0 := 0) (b0 := 37) aX12_hitsBy_42 (by decide)
theorem dX12_hitsBy_45 : decode cX12_hitsBy 45 = .ok (.iconst 0, 1) := dc_3 aX12_hitsBy_45
theorem dX12_hitsBy_46 : decode cX12_hitsBy 46 = .ok (.goto 33, 3) := dc_167 (a0 := 0) (b0 := 33) aX12_hitsBy_46 (by decide)
theorem dX12_hitsBy_49 : decode cX12_hitsBy 49 = .ok (.aload_n 0, 1) := dc_42 aX12_hitsBy_49
theorem dX12_hitsBy_50 : decode cX12_hitsBy 50 = .ok (.aload_n 0, 1) := dc_42 aX12_hitsBy_50
theorem dX12_hitsBy_51 : decode cX12_hitsBy 51 = .ok (.getfield 123, 3) := dc_180 (a0 := 0) (b0 := 123) aX12_hitsBy_51
theorem dX12_hitsBy_54 : decode cX12_hitsBy 54 = .ok (.iload_n 3, 1) := dc_29 aX12_hitsBy_54
theorem dX12_hitsBy_55 : decode cX12_hitsBy 55 = .ok (.iaload, 1) := dc_46 aX12_hitsBy_55
theorem dX12_hitsBy_56 : decode cX12_hitsBy 56 = .ok (.aload_n 0, 1) := dc_42 aX12_hitsBy_56
theorem dX12_hitsBy_57 : decode cX12_hitsBy 57 = .ok (.getfield 123, 3) := dc_180 (a0 := 0) (b0 := 123) aX12_hitsBy_57
theorem dX12_hitsBy_60 : decode cX12_hitsBy 60 = .ok (.aload_n 0, 1) := dc_42 aX12_hitsBy_60
theorem dX12_hitsBy_61 : decode cX12_hitsBy 61 = .ok (.getfield 126, 3) := dc_180 (a0 := 0) (b0 := 126) aX12_hitsBy_61
theorem dX12_hitsBy_64 : decode cX12_hitsBy 64 = .ok (.iload_n 3, 1) := dc_29 aX12_hitsBy_64
theorem dX12_hitsBy_65 : decode cX12_hitsBy 65 = .ok (.iaload, 1) := dc_46 aX12_hitsBy_65
theorem dX12_hitsBy_66 : decode cX12_hitsBy 66 = .ok (.iaload, 1) := dc_46 aX12_hitsBy_66
theorem dX12_hitsBy_67 : decode cX12_hitsBy 67 = .ok (.iload_n 1, 1) := dc_27 aX12_hitsBy_67
theorem dX12_hitsBy_68 : decode cX12_hitsBy 68 = .ok (.invokevirtual 368, 3) := dc_182 (a0 := 1) (b0 := 112) aX12_hitsBy_68
theorem dX12_hitsBy_71 : decode cX12_hitsBy 71 = .ok (.ifCond .eq 7, 3) := dc_153 (a0 := 0) (b0 := 7) aX12_hitsBy_71 (by decide)
theorem dX12_hitsBy_74 : decode cX12_hitsBy 74 = .ok (.iconst 1, 1) := dc_4 aX12_hitsBy_74
theorem dX12_hitsBy_75 : decode cX12_hitsBy 75 = .ok (.goto 4, 3) := dc_167 (a0 := 0) (b0 := 4) aX12_hitsBy_75 (by decide)
theorem dX12_hitsBy_78 : decode cX12_hitsBy 78 = .ok (.iconst 0, 1) := dc_3 aX12_hitsBy_78
theorem dX12_hitsBy_79 : decode cX12_hitsBy 79 = .ok (.iadd, 1) := dc_96 aX12_hitsBy_79
theorem dX12_hitsBy_80 : decode cX12_hitsBy 80 = .ok (.istore_n 2, 1) := dc_61 aX12_hitsBy_80
theorem dX12_hitsBy_81 : decode cX12_hitsBy 81 = .ok (.iinc 3 1, 3) := dc_132 (a0 := 3) (a1 := 1) aX12_hitsBy_81 (by decide)
theorem dX12_hitsBy_84 : decode cX12_hitsBy 84 = .ok (.goto (-80), 3) := dc_167 (a0 := 255) (b0 := 176) aX12_hitsBy_84 (by decide)
theorem dX12_hitsBy_87 : decode cX12_hitsBy 87 = .ok (.iload_n 2, 1) := dc_28 aX12_hitsBy_87
theorem dX12_hitsBy_88 : decode cX12_hitsBy 88 = .ok (.ireturn, 1) := dc_172 aX12_hitsBy_88
set_option maxRecDepth 20000 in
theorem ggX12_turns_X12_swaps : GoodIn wsX12_turns wsX12_swaps := goodIn_k _ [[7], [2, 5, 0, 0, 0, 0, 0, 0, 0, 0, 0, 0, 0, 0, 0, 0, 0, 0, 0, 0, 0, 0, 0, 0, 0, 0, 0, 0, 0, 0, 0, 0, 0, 0, 0, 0, 0, 0, 0, 0, 0, 0, 0, 0, 0, 0, 0, 0, 0, 0, 0, 0, 0, 0, 0, 0, 0, 0, 0]] (by rfl) (by decide +kernel)
set_option maxRecDepth 20000 in
theorem gX12_turns_X12_swaps : GoodIn wsX12_turns (wsV RX12 371 RX12 yX12_swaps wsX12_swaps) := goodIn_app (goodIn_of _ (by decide +kernel)) ggX12_turns_X12_swaps
noncomputable def sX12_turns_109 : List Nat := 172 :: []
noncomputable def sX12_turns_108 : List Nat := 4 :: sX12_turns_109
noncomputable def sX12_turns_105 : List Nat := 167 :: 255 :: 237 :: sX12_turns_108
noncomputable def sX12_turns_102 : List Nat := 132 :: 4 :: 255 :: sX12_turns_105
noncomputable def sX12_turns_99 : List Nat := 132 :: 3 :: 1 :: sX12_turns_102
noncomputable def sX12_turns_96 : List Nat := 182 :: 1 :: 115 :: sX12_turns_99
noncomputable def sX12_turns_94 : List Nat := 21 :: 4 :: sX12_turns_96
noncomputable def sX12_turns_93 : List Nat := 29 :: sX12_turns_94
noncomputable def sX12_turns_92 : List Nat := 42 :: sX12_turns_93
noncomputable def sX12_turns_89 : List Nat := 162 :: 0 :: 19 :: sX12_turns_92
noncomputable def sX12_turns_87 : List Nat := 21 :: 4 :: sX12_turns_89
noncomputable def sX12_turns_86 : List Nat := 29 :: sX12_turns_87
noncomputable def sX12_turns_84 : List Nat := 54 :: 4 :: sX12_turns_86
noncomputable def sX12_turns_83 : List Nat := 100 :: sX12_turns_84
noncomputable def sX12_turns_82 : List Nat := 4 :: sX12_turns_83
noncomputable def sX12_turns_79 : List Nat := 180 :: 1 :: 106 :: sX12_turns_82
noncomputable def sX12_turns_78 : List Nat := 42 :: sX12_turns_79
noncomputable def sX12_turns_77 : List Nat := 62 :: sX12_turns_78
noncomputable def sX12_turns_76 : List Nat := 96 :: sX12_turns_77
noncomputable def sX12_turns_75 : List Nat := 4 :: sX12_turns_76
noncomputable def sX12_turns_74 : List Nat := 27 :: sX12_turns_75
noncomputable def sX12_turns_71 : List Nat := 182 :: 1 :: 115 :: sX12_turns_74
noncomputable def sX12_turns_70 : List Nat := 28 :: sX12_turns_71
noncomputable def sX12_turns_69 : List Nat := 27 :: sX12_turns_70
noncomputable def sX12_turns_68 : List Nat := 42 :: sX12_turns_69
noncomputable def sX12_turns_65 : List Nat := 167 :: 255 :: 238 :: sX12_turns_68
noncomputable def sX12_turns_62 : List Nat := 132 :: 2 :: 255 :: sX12_turns_65
noncomputable def sX12_turns_59 : List Nat := 162 :: 0 :: 9 :: sX12_turns_62
noncomputable def sX12_turns_58 : List Nat := 46 :: sX12_turns_59
noncomputable def sX12_turns_57 : List Nat := 27 :: sX12_turns_58
noncomputable def sX12_turns_54 : List Nat := 180 :: 0 :: 126 :: sX12_turns_57
noncomputable def sX12_turns_53 : List Nat := 42 :: sX12_turns_54
noncomputable def sX12_turns_52 : List Nat := 46 :: sX12_turns_53
noncomputable def sX12_turns_51 : List Nat := 28 :: sX12_turns_52
noncomputable def sX12_turns_48 : List Nat := 180 :: 0 :: 126 :: sX12_turns_51
noncomputable def sX12_turns_47 : List Nat := 42 :: sX12_turns_48
noncomputable def sX12_turns_46 : List Nat := 61 :: sX12_turns_47
noncomputable def sX12_turns_45 : List Nat := 100 :: sX12_turns_46
noncomputable def sX12_turns_44 : List Nat := 4 :: sX12_turns_45
noncomputable def sX12_turns_41 : List Nat := 180 :: 1 :: 106 :: sX12_turns_44
noncomputable def sX12_turns_40 : List Nat := 42 :: sX12_turns_41
noncomputable def sX12_turns_39 : List Nat := 172 :: sX12_turns_40
noncomputable def sX12_turns_38 : List Nat := 3 :: sX12_turns_39
noncomputable def sX12_turns_35 : List Nat := 156 :: 0 :: 5 :: sX12_turns_38
noncomputable def sX12_turns_34 : List Nat := 27 :: sX12_turns_35
noncomputable def sX12_turns_31 : List Nat := 167 :: 255 :: 232 :: sX12_turns_34
noncomputable def sX12_turns_28 : List Nat := 132 :: 1 :: 255 :: sX12_turns_31
noncomputable def sX12_turns_25 : List Nat := 164 :: 0 :: 9 :: sX12_turns_28
noncomputable def sX12_turns_24 : List Nat := 46 :: sX12_turns_25
noncomputable def sX12_turns_23 : List Nat := 96 :: sX12_turns_24
noncomputable def sX12_turns_22 : List Nat := 4 :: sX12_turns_23
noncomputable def sX12_turns_21 : List Nat := 27 :: sX12_turns_22
noncomputable def sX12_turns_18 : List Nat := 180 :: 0 :: 126 :: sX12_turns_21
noncomputable def sX12_turns_17 : List Nat := 42 :: sX12_turns_18
noncomputable def sX12_turns_16 : List Nat := 46 :: sX12_turns_17
noncomputable def sX12_turns_15 : List Nat := 27 :: sX12_turns_16
noncomputable def sX12_turns_12 : List Nat := 180 :: 0 :: 126 :: sX12_turns_15
noncomputable def sX12_turns_11 : List Nat := 42 :: sX12_turns_12
noncomputable def sX12_turns_8 : List Nat := 155 :: 0 :: 26 :: sX12_turns_11
noncomputable def sX12_turns_7 : List Nat := 27 :: sX12_turns_8
noncomputable def sX12_turns_6 : List Nat := 60 :: sX12_turns_7
noncomputable def sX12_turns_5 : List Nat := 100 :: sX12_turns_6
noncomputable def sX12_turns_4 : List Nat := 5 :: sX12_turns_5
noncomputable def sX12_turns_1 : List Nat := 180 :: 1 :: 106 :: sX12_turns_4
noncomputable def sX12_turns_0 : List Nat := 42 :: sX12_turns_1
theorem aX12_turns_0 : dc_at cX12_turns 0 sX12_turns_0 := dc_base (by decide +kernel)
theorem aX12_turns_1 : dc_at cX12_turns 1 sX12_turns_1 := dc_n1 aX12_turns_0
theorem aX12_turns_4 : dc_at cX12_turns 4 sX12_turns_4 := dc_n3 aX12_turns_1
theorem aX12_turns_5 : dc_at cX12_turns 5 sX12_turns_5 := dc_n1 aX12_turns_4
theorem aX12_turns_6 : dc_at cX12_turns 6 sX12_turns_6 := dc_n1 aX12_turns_5
theorem aX12_turns_7 : dc_at cX12_turns 7 sX12_turns_7 := dc_n1 aX12_turns_6
theorem aX12_turns_8 : dc_at cX12_turns 8 sX12_turns_8 := dc_n1 aX12_turns_7
theorem aX12_turns_11 : dc_at cX12_turns 11 sX12_turns_11 := dc_n3 aX12_turns_8
theorem aX12_turns_12 : dc_at cX12_turns 12 sX12_turns_12 := dc_n1 aX12_turns_11
theorem aX12_turns_15 : dc_at cX12_turns 15 sX12_turns_15 := dc_n3 aX12_turns_12
theorem aX12_turns_16 : dc_at cX12_turns 16 sX12_turns_16 := dc_n1 aX12_turns_15
theorem aX12_turns_17 : dc_at cX12_turns 17 sX12_turns_17 := dc_n1 aX12_turns_16
theorem aX12_turns_18 : dc_at cX12_turns 18 sX12_turns_18 := dc_n1 aX12_turns_17
theorem aX12_turns_21 : dc_at cX12_turns 21 sX12_turns_21 := dc_n3 aX12_turns_18
theorem aX12_turns_22 : dc_at cX12_turns 22 sX12_turns_22 := dc_n1 aX12_turns_21
theorem aX12_turns_23 : dc_at cX12_turns 23 sX12_turns_23 := dc_n1 aX12_turns_22
theorem aX12_turns_24 : dc_at cX12_turns 24 sX12_turns_24 := dc_n1 aX12_turns_23
theorem aX12_turns_25 : dc_at cX12_turns 25 sX12_turns_25 := dc_n1 aX12_turns_24
theorem aX12_turns_28 : dc_at cX12_turns 28 sX12_turns_28 := dc_n3 aX12_turns_25
theorem aX12_turns_31 : dc_at cX12_turns 31 sX12_turns_31 := dc_n3 aX12_turns_28
theorem aX12_turns_34 : dc_at cX12_turns 34 sX12_turns_34 := dc_n3 aX12_turns_31
theorem aX12_turns_35 : dc_at cX12_turns 35 sX12_turns_35 := dc_n1 aX12_turns_34
theorem aX12_turns_38 : dc_at cX12_turns 38 sX12_turns_38 := dc_n3 aX12_turns_35
theorem aX12_turns_39 : dc_at cX12_turns 39 sX12_turns_39 := dc_n1 aX12_turns_38
theorem aX12_turns_40 : dc_at cX12_turns 40 sX12_turns_40 := dc_n1 aX12_turns_39
theorem aX12_turns_41 : dc_at cX12_turns 41 sX12_turns_41 := dc_n1 aX12_turns_40
theorem aX12_turns_44 : dc_at cX12_turns 44 sX12_turns_44 := dc_n3 aX12_turns_41
theorem aX12_turns_45 : dc_at cX12_turns 45 sX12_turns_45 := dc_n1 aX12_turns_44
theorem aX12_turns_46 : dc_at cX12_turns 46 sX12_turns_46 := dc_n1 aX12_turns_45
theorem aX12_turns_47 : dc_at cX12_turns 47 sX12_turns_47 := dc_n1 aX12_turns_46
theorem aX12_turns_48 : dc_at cX12_turns 48 sX12_turns_48 := dc_n1 aX12_turns_47
theorem aX12_turns_51 : dc_at cX12_turns 51 sX12_turns_51 := dc_n3 aX12_turns_48
theorem aX12_turns_52 : dc_at cX12_turns 52 sX12_turns_52 := dc_n1 aX12_turns_51
theorem aX12_turns_53 : dc_at cX12_turns 53 sX12_turns_53 := dc_n1 aX12_turns_52
theorem aX12_turns_54 : dc_at cX12_turns 54 sX12_turns_54 := dc_n1 aX12_turns_53
theorem aX12_turns_57 : dc_at cX12_turns 57 sX12_turns_57 := dc_n3 aX12_turns_54
theorem aX12_turns_58 : dc_at cX12_turns 58 sX12_turns_58 := dc_n1 aX12_turns_57
theorem aX12_turns_59 : dc_at cX12_turns 59 sX12_turns_59 := dc_n1 aX12_turns_58
theorem aX12_turns_62 : dc_at cX12_turns 62 sX12_turns_62 := dc_n3 aX12_turns_59
theorem aX12_turns_65 : dc_at cX12_turns 65 sX12_turns_65 := dc_n3 aX12_turns_62
theorem aX12_turns_68 : dc_at cX12_turns 68 sX12_turns_68 := dc_n3 aX12_turns_65
theorem aX12_turns_69 : dc_at cX12_turns 69 sX12_turns_69 := dc_n1 aX12_turns_68
theorem aX12_turns_70 : dc_at cX12_turns 70 sX12_turns_70 := dc_n1 aX12_turns_69
theorem aX12_turns_71 : dc_at cX12_turns 71 sX12_turns_71 := dc_n1 aX12_turns_70
theorem aX12_turns_74 : dc_at cX12_turns 74 sX12_turns_74 := dc_n3 aX12_turns_71
theorem aX12_turns_75 : dc_at cX12_turns 75 sX12_turns_75 := dc_n1 aX12_turns_74
theorem aX12_turns_76 : dc_at cX12_turns 76 sX12_turns_76 := dc_n1 aX12_turns_75
theorem aX12_turns_77 : dc_at cX12_turns 77 sX12_turns_77 := dc_n1 aX12_turns_76
theorem aX12_turns_78 : dc_at cX12_turns 78 sX12_turns_78 := dc_n1 aX12_turns_77
theorem aX12_turns_79 : dc_at cX12_turns 79 sX12_turns_79 := dc_n1 aX12_turns_78
theorem aX12_turns_82 : dc_at cX12_turns 82 sX12_turns_82 := dc_n3 aX12_turns_79
theorem aX12_turns_83 : dc_at cX12_turns 83 sX12_turns_83 := dc_n1 aX12_turns_82
theorem aX12_turns_84 : dc_at cX12_turns 84 sX12_turns_84 := dc_n1 aX12_turns_83
theorem aX12_turns_86 : dc_at cX12_turns 86 sX12_turns_86 := dc_n2 aX12_turns_84
theorem aX12_turns_87 : dc_at cX12_turns 87 sX12_turns_87 := dc_n1 aX12_turns_86
theorem aX12_turns_89 : dc_at cX12_turns 89 sX12_turns_89 := dc_n2 aX12_turns_87
theorem aX12_turns_92 : dc_at cX12_turns 92 sX12_turns_92 := dc_n3 aX12_turns_89
theorem aX12_turns_93 : dc_at cX12_turns 93 sX12_turns_93 := dc_n1 aX12_turns_92
theorem aX12_turns_94 : dc_at cX12_turns 94 sX12_turns_94 := dc_n1 aX12_turns_93
theorem aX12_turns_96 : dc_at cX12_turns 96 sX12_turns_96 := dc_n2 aX12_turns_94
theorem aX12_turns_99 : dc_at cX12_turns 99 sX12_turns_99 := dc_n3 aX12_turns_96
theorem aX12_turns_102 : dc_at cX12_turns 102 sX12_turns_102 := dc_n3 aX12_turns_99
theorem aX12_turns_105 : dc_at cX12_turns 105 sX12_turns_105 := dc_n3 aX12_turns_102
theorem aX12_turns_108 : dc_at cX12_turns 108 sX12_turns_108 := dc_n3 aX12_turns_105
theorem aX12_turns_109 : dc_at cX12_turns 109 sX12_turns_109 := dc_n1 aX12_turns_108
theorem dX12_turns_0 : decode cX12_turns 0 = .ok (.aload_n 0, 1) := dc_42 aX12_turns_0
theorem dX12_turns_1 : decode cX12_turns 1 = .ok (.getfield 362, 3) := dc_180 (a0 := 1) (b0 := 106) aX12_turns_1
theorem dX12_turns_4 : decode cX12_turns 4 = .ok (.iconst 2, 1) := dc_5 aX12_turns_4
theorem dX12_turns_5 : decode cX12_turns 5 = .ok (.isub, 1) := dc_100 aX12_turns_5
theorem dX12_turns_6 : decode cX12_turns 6 = .ok (.istore_n 1, 1) := dc_60 aX12_turns_6
theorem dX12_turns_7 : decode cX12_turns 7 = .ok (.iload_n 1, 1) := dc_27 aX12_turns_7
theorem dX12_turns_8 : decode cX12_turns 8 = .ok (.ifCond .lt 26, 3) := dc_155 (a0 := 0) (b0 := 26) aX12_turns_8 (by decide)
theorem dX12_turns_11 : decode cX12_turns 11 = .ok (.aload_n 0, 1) := dc_42 aX12_turns_11
theorem dX12_turns_12 : decode cX12_turns 12 = .ok (.getfield 126, 3) := dc_180 (a0 := 0) (b0 := 126) aX12_turns_12
theorem dX12_turns_15 : decode cX12_turns 15 = .ok (.iload_n 1, 1) := dc_27 aX12_turns_15
theorem dX12_turns_16 : decode cX12_turns 16 = .ok (.iaload, 1) := dc_46 aX12_turns_16
theorem dX12_turns_17 : decode cX12_turns 17 = .ok (.aload_n 0, 1) := dc_42 aX12_turns_17
theorem dX12_turns_18 : decode cX12_turns 18 = .ok (.getfield 126, 3) := dc_180 (a0 := 0) (b0 := 126) aX12_turns_18
theorem dX12_turns_21 : decode cX12_turns 21 = .ok (.iload_n 1, 1) := dc_27 aX12_turns_21
theorem dX12_turns_22 : decode cX12_turns 22 = .ok (.iconst 1, 1) := dc_4 aX12_turns_22
theorem dX12_turns_23 : decode cX12_turns 23 = .ok (.iadd, 1) := dc_96 aX12_turns_23
theorem dX12_turns_24 : decode cX12_turns 24 = .ok (.iaload, 1) := dc_46 aX12_turns_24
theorem dX12_turns_25 : decode cX12_turns 25 = .ok (.if_icmp .le 9, 3) := dc_164 (a0 := 0) (b0 := 9) aX12_turns_25 (by decide)
theorem dX12_turns_28 : decode cX12_turns 28 = .ok (.iinc 1 (-1), 3) := dc_132 (a0 := 1) (a1 := 255) aX12_turns_28 (by decide)
theorem dX12_turns_31 : decode cX12_turns 31 = .ok (.goto (-24), 3) := dc_167 (a0 := 255) (b0 := 232) aX12_turns_31 (by decide)
theorem dX12_turns_34 : decode cX12_turns 34 = .ok (.iload_n 1, 1) := dc_27 aX12_turns_34
theorem dX12_turns_35 : decode cX12_turns 35 = .ok (.ifCond .ge 5, 3) := dc_156 (a0 := 0) (b0 := 5) aX12_turns_35 (by decide)
theorem dX12_turns_38 : decode cX12_turns 38 = .ok (.iconst 0, 1) := dc_3 aX12_turns_38
theorem dX12_turns_39 : decode cX12_turns 39 = .ok (.ireturn, 1) := dc_172 aX12_turns_39
theorem dX12_turns_40 : decode cX12_turns 40 = .ok (.aload_n 0, 1) := dc_42 aX12_turns_40
theorem dX12_turns_41 : decode cX12_turns 41 = .ok (.getfield 362, 3) := dc_180 (a0 := 1) (b0 := 106) aX12_turns_41
theorem dX12_turns_44 : decode cX12_turns 44 = .ok (.iconst 1, 1) := dc_4 aX12_turns_44
theorem dX12_turns_45 : decode cX12_turns 45 = .ok (.isub, 1) := dc_100 aX12_turns_45
theorem dX12_turns_46 : decode cX12_turns 46 = .ok (.istore_n 2, 1) := dc_61 aX12_turns_46
theorem dX12_turns_47 : decode cX12_turns 47 = .ok (.aload_n 0, 1) := dc_42 aX12_turns_47
theorem dX12_turns_48 : decode cX12_turns 48 = .ok (.getfield 126, 3) := dc_180 (a0 := 0) (b0 := 126) aX12_turns_48
theorem dX12_turns_51 : decode cX12_turns 51 = .ok (.iload_n 2, 1) := dc_28 aX12_turns_51
theorem dX12_turns_52 : decode cX12_turns 52 = .ok (.iaload, 1) := dc_46 aX12_turns_52
theorem dX12_turns_53 : decode cX12_turns 53 = .ok (.aload_n 0, 1) := dc_42 aX12_turns_53
theorem dX12_turns_54 : decode cX12_turns 54 = .ok (.getfield 126, 3) := dc_180 (a0 := 0) (b0 := 126) aX12_turns_54
theorem dX12_turns_57 : decode cX12_turns 57 = .ok (.iload_n 1, 1) := dc_27 aX12_turns_57
theorem dX12_turns_58 : decode cX12_turns 58 = .ok (.iaload, 1) := dc_46 aX12_turns_58
theorem dX12_turns_59 : decode cX12_turns 59 = .ok (.if_icmp .ge 9, 3) := dc_162 (a0 := 0) (b0 := 9) aX12_turns_59 (by decide)
theorem dX12_turns_62 : decode cX12_turns 62 = .ok (.iinc 2 (-1), 3) := dc_132 (a0 := 2) (a1 := 255) aX12_turns_62 (by decide)
theorem dX12_turns_65 : decode cX12_turns 65 = .ok (.goto (-18), 3) := dc_167 (a0 := 255) (b0 := 238) aX12_turns_65 (by decide)
theorem dX12_turns_68 : decode cX12_turns 68 = .ok (.aload_n 0, 1) := dc_42 aX12_turns_68
theorem dX12_turns_69 : decode cX12_turns 69 = .ok (.iload_n 1, 1) := dc_27 aX12_turns_69
theorem dX12_turns_70 : decode cX12_turns 70 = .ok (.iload_n 2, 1) := dc_28 aX12_turns_70
theorem dX12_turns_71 : decode cX12_turns 71 = .ok (.invokevirtual 371, 3) := dc_182 (a0 := 1) (b0 := 115) aX12_turns_71
theorem dX12_turns_74 : decode cX12_turns 74 = .ok (.iload_n 1, 1) := dc_27 aX12_turns_74
theorem dX12_turns_75 : decode cX12_turns 75 = .ok (.iconst 1, 1) := dc_4 aX12_turns_75
theorem dX12_turns_76 : decode cX12_turns 76 = .ok (.iadd, 1) := dc_96 aX12_turns_76
theorem dX12_turns_77 : decode cX12_turns 77 = .ok (.istore_n 3, 1) := dc_62 aX12_turns_77
theorem dX12_turns_78 : decode cX12_turns 78 = .ok (.aload_n 0, 1) := dc_42 aX12_turns_78
theorem dX12_turns_79 : decode cX12_turns 79 = .ok (.getfield 362, 3) := dc_180 (a0 := 1) (b0 := 106) aX12_turns_79
theorem dX12_turns_82 : decode cX12_turns 82 = .ok (.iconst 1, 1) := dc_4 aX12_turns_82
theorem dX12_turns_83 : decode cX12_turns 83 = .ok (.isub, 1) := dc_100 aX12_turns_83
theorem dX12_turns_84 : decode cX12_turns 84 = .ok (.istore 4, 2) := dc_54 (a0 := 4) aX12_turns_84
theorem dX12_turns_86 : decode cX12_turns 86 = .ok (.iload_n 3, 1) := dc_29 aX12_turns_86
theorem dX12_turns_87 : decode cX12_turns 87 = .ok (.iload 4, 2) := dc_21 (a0 := 4) aX12_turns_87
theorem dX12_turns_89 : decode cX12_turns 89 = .ok (.if_icmp .ge 19, 3) := dc_162 (a0 := 0) (b0 := 19) aX12_turns_89 (by decide)
theorem dX12_turns_92 : decode cX12_turns 92 = .ok (.aload_n 0, 1) := dc_42 aX12_turns_92
theorem dX12_turns_93 : decode cX12_turns 93 = .ok (.iload_n 3, 1) := dc_29 aX12_turns_93
theorem dX12_turns_94 : decode cX12_turns 94 = .ok (.iload 4, 2) := dc_21 (a0 := 4) aX12_turns_94
theorem dX12_turns_96 : decode cX12_turns 96 = .ok (.invokevirtual 371, 3) := dc_182 (a0 := 1) (b0 := 115) aX12_turns_96
theorem dX12_turns_99 : decode cX12_turns 99 = .ok (.iinc 3 1, 3) := dc_132 (a0 := 3) (a1 := 1) aX12_turns_99 (by decide)
theorem dX12_turns_102 : decode cX12_turns 102 = .ok (.iinc 4 (-1), 3) := dc_132 (a0 := 4) (a1 := 255) aX12_turns_102 (by decide)
theorem dX12_turns_105 : decode cX12_turns 105 = .ok (.goto (-19), 3) := dc_167 (a0 := 255) (b0 := 237) aX12_turns_105 (by decide)
theorem dX12_turns_108 : decode cX12_turns 108 = .ok (.iconst 1, 1) := dc_4 aX12_turns_108
theorem dX12_turns_109 : decode cX12_turns 109 = .ok (.ireturn, 1) := dc_172 aX12_turns_109
noncomputable def sX12_swaps_26 : List Nat := 177 :: []
noncomputable def sX12_swaps_25 : List Nat := 79 :: sX12_swaps_26
noncomputable def sX12_swaps_24 : List Nat := 29 :: sX12_swaps_25
noncomputable def sX12_swaps_23 : List Nat := 28 :: sX12_swaps_24
noncomputable def sX12_swaps_20 : List Nat := 180 :: 0 :: 126 :: sX12_swaps_23
noncomputable def sX12_swaps_19 : List Nat := 42 :: sX12_swaps_20
noncomputable def sX12_swaps_18 : List Nat := 79 :: sX12_swaps_19
noncomputable def sX12_swaps_17 : List Nat := 46 :: sX12_swaps_18
noncomputable def sX12_swaps_16 : List Nat := 28 :: sX12_swaps_17
noncomputable def sX12_swaps_13 : List Nat := 180 :: 0 :: 126 :: sX12_swaps_16
noncomputable def sX12_swaps_12 : List Nat := 42 :: sX12_swaps_13
noncomputable def sX12_swaps_11 : List Nat := 27 :: sX12_swaps_12
noncomputable def sX12_swaps_8 : List Nat := 180 :: 0 :: 126 :: sX12_swaps_11
noncomputable def sX12_swaps_7 : List Nat := 42 :: sX12_swaps_8
noncomputable def sX12_swaps_6 : List Nat := 62 :: sX12_swaps_7
noncomputable def sX12_swaps_5 : List Nat := 46 :: sX12_swaps_6
noncomputable def sX12_swaps_4 : List Nat := 27 :: sX12_swaps_5
noncomputable def sX12_swaps_1 : List Nat := 180 :: 0 :: 126 :: sX12_swaps_4
noncomputable def sX12_swaps_0 : List Nat := 42 :: sX12_swaps_1
theorem aX12_swaps_0 : dc_at cX12_swaps 0 sX12_swaps_0 := dc_base (by decide +kernel)
theorem aX12_swaps_1 : dc_at cX12_swaps 1 sX12_swaps_1 := dc_n1 aX12_swaps_0
theorem aX12_swaps_4 : dc_at cX12_swaps 4 sX12_swaps_4 := dc_n3 aX12_swaps_1
theorem aX12_swaps_5 : dc_at cX12_swaps 5 sX12_swaps_5 := dc_n1 aX12_swaps_4
theorem aX12_swaps_6 : dc_at cX12_swaps 6 sX12_swaps_6 := dc_n1 aX12_swaps_5
theorem aX12_swaps_7 : dc_at cX12_swaps 7 sX12_swaps_7 := dc_n1 aX12_swaps_6
theorem aX12_swaps_8 : dc_at cX12_swaps 8 sX12_swaps_8 := dc_n1 aX12_swaps_7
theorem aX12_swaps_11 : dc_at cX12_swaps 11 sX12_swaps_11 := dc_n3 aX12_swaps_8
theorem aX12_swaps_12 : dc_at cX12_swaps 12 sX12_swaps_12 := dc_n1 aX12_swaps_11
theorem aX12_swaps_13 : dc_at cX12_swaps 13 sX12_swaps_13 := dc_n1 aX12_swaps_12
theorem aX12_swaps_16 : dc_at cX12_swaps 16 sX12_swaps_16 := dc_n3 aX12_swaps_13
theorem aX12_swaps_17 : dc_at cX12_swaps 17 sX12_swaps_17 := dc_n1 aX12_swaps_16
theorem aX12_swaps_18 : dc_at cX12_swaps 18 sX12_swaps_18 := dc_n1 aX12_swaps_17
theorem aX12_swaps_19 : dc_at cX12_swaps 19 sX12_swaps_19 := dc_n1 aX12_swaps_18
theorem aX12_swaps_20 : dc_at cX12_swaps 20 sX12_swaps_20 := dc_n1 aX12_swaps_19
theorem aX12_swaps_23 : dc_at cX12_swaps 23 sX12_swaps_23 := dc_n3 aX12_swaps_20
theorem aX12_swaps_24 : dc_at cX12_swaps 24 sX12_swaps_24 := dc_n1 aX12_swaps_23
theorem aX12_swaps_25 : dc_at cX12_swaps 25 sX12_swaps_25 := dc_n1 aX12_swaps_24
theorem aX12_swaps_26 : dc_at cX12_swaps 26 sX12_swaps_26 := dc_n1 aX12_swaps_25
theorem dX12_swaps_0 : decode cX12_swaps 0 = .ok (.aload_n 0, 1) := dc_42 aX12_swaps_0
theorem dX12_swaps_1 : decode cX12_swaps 1 = .ok (.getfield 126, 3) := dc_180 (a0 := 0) (b0 := 126) aX12_swaps_1
theorem dX12_swaps_4 : decode cX12_swaps 4 = .ok (.iload_n 1, 1) := dc_27 aX12_swaps_4
theorem dX12_swaps_5 : decode cX12_swaps 5 = .ok (.iaload, 1) := dc_46 aX12_swaps_5
theorem dX12_swaps_6 : decode cX12_swaps 6 = .ok (.istore_n 3, 1) := dc_62 aX12_swaps_6
theorem dX12_swaps_7 : decode cX12_swaps 7 = .ok (.aload_n 0, 1) := dc_42 aX12_swaps_7
theorem dX12_swaps_8 : decode cX12_swaps 8 = .ok (.getfield 126, 3) := dc_180 (a0 := 0) (b0 := 126) aX12_swaps_8
theorem dX12_swaps_11 : decode cX12_swaps 11 = .ok (.iload_n 1, 1) := dc_27 aX12_swaps_11
theorem dX12_swaps_12 : decode cX12_swaps 12 = .ok (.aload_n 0, 1) := dc_42 aX12_swaps_12
theorem dX12_swaps_13 : decode cX12_swaps 13 = .ok (.getfield 126, 3) := dc_180 (a0 := 0) (b0 := 126) aX12_swaps_13
theorem dX12_swaps_16 : decode cX12_swaps 16 = .ok (.iload_n 2, 1) := dc_28 aX12_swaps_16
theorem dX12_swaps_17 : decode cX12_swaps 17 = .ok (.iaload, 1) := dc_46 aX12_swaps_17
theorem dX12_swaps_18 : decode cX12_swaps 18 = .ok (.iastore, 1) := dc_79 aX12_swaps_18
theorem dX12_swaps_19 : decode cX12_swaps 19 = .ok (.aload_n 0, 1) := dc_42 aX12_swaps_19
theorem dX12_swaps_20 : decode cX12_swaps 20 = .ok (.getfield 126, 3) := dc_180 (a0 := 0) (b0 := 126) aX12_swaps_20
theorem dX12_swaps_23 : decode cX12_swaps 23 = .ok (.iload_n 2, 1) := dc_28 aX12_swaps_23
theorem dX12_swaps_24 : decode cX12_swaps 24 = .ok (.iload_n 3, 1) := dc_29 aX12_swaps_24
theorem dX12_swaps_25 : decode cX12_swaps 25 = .ok (.iastore, 1) := dc_79 aX12_swaps_25
theorem dX12_swaps_26 : decode cX12_swaps 26 = .ok (.return_, 1) := dc_177 aX12_swaps_26
set_option maxRecDepth 20000 in
theorem ggX12_asks_X12_hitsBy : GoodIn wsX12_asks wsX12_hitsBy := goodIn_k _ [[8], [1, 0, 0, 5, 0, 0], [7, 4, 0, 0, 0, 0, 0, 0, 0, 0, 0, 0, 0, 0, 8, 0, 0, 0, 0, 0, 0, 0, 0, 0, 0, 0, 0, 0, 0, 0, 0, 0, 0, 0, 0, 0, 0, 0, 0, 0, 0, 0, 0, 0, 0, 0, 0, 0, 0, 0, 0, 0, 0, 0, 0, 0, 0, 0, 0, 0, 0, 0, 0, 0, 0, 0, 0, 0, 0, 0, 0, 0]] (by rfl) (by decide +kernel)
set_option maxRecDepth 20000 in
theorem gX12_asks_X12_hitsBy : GoodIn wsX12_asks (wsV RX12 375 RX12 yX12_hitsBy wsX12_hitsBy) := goodIn_app (goodIn_of _ (by decide +kernel)) ggX12_asks_X12_hitsBy
set_option maxRecDepth 20000 in
theorem ggX12_asks_X12_turns : GoodIn wsX12_asks wsX12_turns := goodIn_k _ [[28], [1, 1, 25, 0, 0], [7, 24, 0, 0, 0, 0, 0, 0, 0, 0, 0, 0, 0, 0, 0, 0, 0, 0, 0, 0, 0, 0, 0, 0, 0, 0, 0, 0, 0, 0, 0, 0, 0, 0, 0, 0, 0, 0, 0, 0, 0, 0, 0, 0, 0, 0, 0, 0, 0, 0, 0, 0, 0, 0, 0, 0, 0, 0, 0, 0]] (by rfl) (by decide +kernel)
set_option maxRecDepth 20000 in
theorem gX12_asks_X12_turns : GoodIn wsX12_asks (wsV RX12 378 RX12 yX12_turns wsX12_turns) := goodIn_app (goodIn_of _ (by decide +kernel)) ggX12_asks_X12_turns
noncomputable def sX12_asks_126 : List Nat := 172 :: []
noncomputable def sX12_asks_124 : List Nat := 21 :: 5 :: sX12_asks_126
noncomputable def sX12_asks_121 : List Nat := 167 :: 255 :: 232 :: sX12_asks_124
noncomputable def sX12_asks_119 : List Nat := 54 :: 6 :: sX12_asks_121
noncomputable def sX12_asks_116 : List Nat := 182 :: 1 :: 122 :: sX12_asks_119
noncomputable def sX12_asks_115 : List Nat := 42 :: sX12_asks_116
noncomputable def sX12_asks_112 : List Nat := 132 :: 5 :: 1 :: sX12_asks_115
noncomputable def sX12_asks_109 : List Nat := 161 :: 0 :: 6 :: sX12_asks_112
noncomputable def sX12_asks_107 : List Nat := 21 :: 4 :: sX12_asks_109
noncomputable def sX12_asks_104 : List Nat := 182 :: 1 :: 119 :: sX12_asks_107
noncomputable def sX12_asks_103 : List Nat := 29 :: sX12_asks_104
noncomputable def sX12_asks_102 : List Nat := 42 :: sX12_asks_103
noncomputable def sX12_asks_99 : List Nat := 153 :: 0 :: 25 :: sX12_asks_102
noncomputable def sX12_asks_97 : List Nat := 21 :: 6 :: sX12_asks_99
noncomputable def sX12_asks_95 : List Nat := 54 :: 6 :: sX12_asks_97
noncomputable def sX12_asks_94 : List Nat := 4 :: sX12_asks_95
noncomputable def sX12_asks_92 : List Nat := 54 :: 5 :: sX12_asks_94
noncomputable def sX12_asks_91 : List Nat := 3 :: sX12_asks_92
noncomputable def sX12_asks_90 : List Nat := 172 :: sX12_asks_91
noncomputable def sX12_asks_89 : List Nat := 2 :: sX12_asks_90
noncomputable def sX12_asks_86 : List Nat := 164 :: 0 :: 5 :: sX12_asks_89
noncomputable def sX12_asks_84 : List Nat := 16 :: 8 :: sX12_asks_86
noncomputable def sX12_asks_81 : List Nat := 180 :: 1 :: 106 :: sX12_asks_84
noncomputable def sX12_asks_80 : List Nat := 42 :: sX12_asks_81
noncomputable def sX12_asks_79 : List Nat := 172 :: sX12_asks_80
noncomputable def sX12_asks_77 : List Nat := 21 :: 4 :: sX12_asks_79
noncomputable def sX12_asks_74 : List Nat := 154 :: 0 :: 6 :: sX12_asks_77
noncomputable def sX12_asks_73 : List Nat := 28 :: sX12_asks_74
noncomputable def sX12_asks_71 : List Nat := 54 :: 4 :: sX12_asks_73
noncomputable def sX12_asks_68 : List Nat := 182 :: 1 :: 119 :: sX12_asks_71
noncomputable def sX12_asks_67 : List Nat := 29 :: sX12_asks_68
noncomputable def sX12_asks_66 : List Nat := 42 :: sX12_asks_67
noncomputable def sX12_asks_63 : List Nat := 167 :: 255 :: 201 :: sX12_asks_66
noncomputable def sX12_asks_60 : List Nat := 132 :: 4 :: 1 :: sX12_asks_63
noncomputable def sX12_asks_57 : List Nat := 181 :: 1 :: 106 :: sX12_asks_60
noncomputable def sX12_asks_56 : List Nat := 96 :: sX12_asks_57
noncomputable def sX12_asks_55 : List Nat := 4 :: sX12_asks_56
noncomputable def sX12_asks_52 : List Nat := 180 :: 1 :: 106 :: sX12_asks_55
noncomputable def sX12_asks_51 : List Nat := 89 :: sX12_asks_52
noncomputable def sX12_asks_50 : List Nat := 42 :: sX12_asks_51
noncomputable def sX12_asks_49 : List Nat := 79 :: sX12_asks_50
noncomputable def sX12_asks_46 : List Nat := 180 :: 1 :: 106 :: sX12_asks_49
noncomputable def sX12_asks_45 : List Nat := 42 :: sX12_asks_46
noncomputable def sX12_asks_42 : List Nat := 180 :: 1 :: 106 :: sX12_asks_45
noncomputable def sX12_asks_41 : List Nat := 42 :: sX12_asks_42
noncomputable def sX12_asks_38 : List Nat := 180 :: 0 :: 126 :: sX12_asks_41
noncomputable def sX12_asks_37 : List Nat := 42 :: sX12_asks_38
noncomputable def sX12_asks_36 : List Nat := 79 :: sX12_asks_37
noncomputable def sX12_asks_34 : List Nat := 21 :: 4 :: sX12_asks_36
noncomputable def sX12_asks_31 : List Nat := 180 :: 1 :: 106 :: sX12_asks_34
noncomputable def sX12_asks_30 : List Nat := 42 :: sX12_asks_31
noncomputable def sX12_asks_27 : List Nat := 180 :: 0 :: 123 :: sX12_asks_30
noncomputable def sX12_asks_26 : List Nat := 42 :: sX12_asks_27
noncomputable def sX12_asks_23 : List Nat := 167 :: 0 :: 37 :: sX12_asks_26
noncomputable def sX12_asks_20 : List Nat := 160 :: 0 :: 6 :: sX12_asks_23
noncomputable def sX12_asks_19 : List Nat := 2 :: sX12_asks_20
noncomputable def sX12_asks_18 : List Nat := 46 :: sX12_asks_19
noncomputable def sX12_asks_16 : List Nat := 21 :: 4 :: sX12_asks_18
noncomputable def sX12_asks_15 : List Nat := 43 :: sX12_asks_16
noncomputable def sX12_asks_12 : List Nat := 162 :: 0 :: 54 :: sX12_asks_15
noncomputable def sX12_asks_10 : List Nat := 16 :: 20 :: sX12_asks_12
noncomputable def sX12_asks_8 : List Nat := 21 :: 4 :: sX12_asks_10
noncomputable def sX12_asks_6 : List Nat := 54 :: 4 :: sX12_asks_8
noncomputable def sX12_asks_5 : List Nat := 3 :: sX12_asks_6
noncomputable def sX12_asks_2 : List Nat := 181 :: 1 :: 106 :: sX12_asks_5
noncomputable def sX12_asks_1 : List Nat := 3 :: sX12_asks_2
noncomputable def sX12_asks_0 : List Nat := 42 :: sX12_asks_1
theorem aX12_asks_0 : dc_at cX12_asks 0 sX12_asks_0 := dc_base (by decide +kernel)
theorem aX12_asks_1 : dc_at cX12_asks 1 sX12_asks_1 := dc_n1 aX12_asks_0
theorem aX12_asks_2 : dc_at cX12_asks 2 sX12_asks_2 := dc_n1 aX12_asks_1
theorem aX12_asks_5 : dc_at cX12_asks 5 sX12_asks_5 := dc_n3 aX12_asks_2
theorem aX12_asks_6 : dc_at cX12_asks 6 sX12_asks_6 := dc_n1 aX12_asks_5
theorem aX12_asks_8 : dc_at cX12_asks 8 sX12_asks_8 := dc_n2 aX12_asks_6
theorem aX12_asks_10 : dc_at cX12_asks 10 sX12_asks_10 := dc_n2 aX12_asks_8
theorem aX12_asks_12 : dc_at cX12_asks 12 sX12_asks_12 := dc_n2 aX12_asks_10
theorem aX12_asks_15 : dc_at cX12_asks 15 sX12_asks_15 := dc_n3 aX12_asks_12
theorem aX12_asks_16 : dc_at cX12_asks 16 sX12_asks_16 := dc_n1 aX12_asks_15
theorem aX12_asks_18 : dc_at cX12_asks 18 sX12_asks_18 := dc_n2 aX12_asks_16
theorem aX12_asks_19 : dc_at cX12_asks 19 sX12_asks_19 := dc_n1 aX12_asks_18
theorem aX12_asks_20 : dc_at cX12_asks 20 sX12_asks_20 := dc_n1 aX12_asks_19
theorem aX12_asks_23 : dc_at cX12_asks 23 sX12_asks_23 := dc_n3 aX12_asks_20
theorem aX12_asks_26 : dc_at cX12_asks 26 sX12_asks_26 := dc_n3 aX12_asks_23
theorem aX12_asks_27 : dc_at cX12_asks 27 sX12_asks_27 := dc_n1 aX12_asks_26
theorem aX12_asks_30 : dc_at cX12_asks 30 sX12_asks_30 := dc_n3 aX12_asks_27
theorem aX12_asks_31 : dc_at cX12_asks 31 sX12_asks_31 := dc_n1 aX12_asks_30
theorem aX12_asks_34 : dc_at cX12_asks 34 sX12_asks_34 := dc_n3 aX12_asks_31
theorem aX12_asks_36 : dc_at cX12_asks 36 sX12_asks_36 := dc_n2 aX12_asks_34
theorem aX12_asks_37 : dc_at cX12_asks 37 sX12_asks_37 := dc_n1 aX12_asks_36
theorem aX12_asks_38 : dc_at cX12_asks 38 sX12_asks_38 := dc_n1 aX12_asks_37
theorem aX12_asks_41 : dc_at cX12_asks 41 sX12_asks_41 := dc_n3 aX12_asks_38
theorem aX12_asks_42 : dc_at cX12_asks 42 sX12_asks_42 := dc_n1 aX12_asks_41
theorem aX12_asks_45 : dc_at cX12_asks 45 sX12_asks_45 := dc_n3 aX12_asks_42
theorem aX12_asks_46 : dc_at cX12_asks 46 sX12_asks_46 := dc_n1 aX12_asks_45
theorem aX12_asks_49 : dc_at cX12_asks 49 sX12_asks_49 := dc_n3 aX12_asks_46
theorem aX12_asks_50 : dc_at cX12_asks 50 sX12_asks_50 := dc_n1 aX12_asks_49
theorem aX12_asks_51 : dc_at cX12_asks 51 sX12_asks_51 := dc_n1 aX12_asks_50
theorem aX12_asks_52 : dc_at cX12_asks 52 sX12_asks_52 := dc_n1 aX12_asks_51
theorem aX12_asks_55 : dc_at cX12_asks 55 sX12_asks_55 := dc_n3 aX12_asks_52
theorem aX12_asks_56 : dc_at cX12_asks 56 sX12_asks_56 := dc_n1 aX12_asks_55
theorem aX12_asks_57 : dc_at cX12_asks 57 sX12_asks_57 := dc_n1 aX12_asks_56
theorem aX12_asks_60 : dc_at cX12_asks 60 sX12_asks_60 := dc_n3 aX12_asks_57
theorem aX12_asks_63 : dc_at cX12_asks 63 sX12_asks_63 := dc_n3 aX12_asks_60
theorem aX12_asks_66 : dc_at cX12_asks 66 sX12_asks_66 := dc_n3 aX12_asks_63
theorem aX12_asks_67 : dc_at cX12_asks 67 sX12_asks_67 := dc_n1 aX12_asks_66
theorem aX12_asks_68 : dc_at cX12_asks 68 sX12_asks_68 := dc_n1 aX12_asks_67
theorem aX12_asks_71 : dc_at cX12_asks 71 sX12_asks_71 := dc_n3 aX12_asks_68
theorem aX12_asks_73 : dc_at cX12_asks 73 sX12_asks_73 := dc_n2 aX12_asks_71
theorem aX12_asks_74 : dc_at cX12_asks 74 sX12_asks_74 := dc_n1 aX12_asks_73
theorem aX12_asks_77 : dc_at cX12_asks 77 sX12_asks_77 := dc_n3 aX12_asks_74
theorem aX12_asks_79 : dc_at cX12_asks 79 sX12_asks_79 := dc_n2 aX12_asks_77
theorem aX12_asks_80 : dc_at cX12_asks 80 sX12_asks_80 := dc_n1 aX12_asks_79
theorem aX12_asks_81 : dc_at cX12_asks 81 sX12_asks_81 := dc_n1 aX12_asks_80
theorem aX12_asks_84 : dc_at cX12_asks 84 sX12_asks_84 := dc_n3 aX12_asks_81
theorem aX12_asks_86 : dc_at cX12_asks 86 sX12_asks_86 := dc_n2 aX12_asks_84
theorem aX12_asks_89 : dc_at cX12_asks 89 sX12_asks_89 := dc_n3 aX12_asks_86
theorem aX12_asks_90 : dc_at cX12_asks 90 sX12_asks_90 := dc_n1 aX12_asks_89
theorem aX12_asks_91 : dc_at cX12_asks 91 sX12_asks_91 := dc_n1 aX12_asks_90
theorem aX12_asks_92 : dc_at cX12_asks 92 sX12_asks_92 := dc_n1 aX12_asks_91
theorem aX12_asks_94 : dc_at cX12_asks 94 sX12_asks_94 := dc_n2 aX12_asks_92
theorem aX12_asks_95 : dc_at cX12_asks 95 sX12_asks_95 := dc_n1 aX12_asks_94
theorem aX12_asks_97 : dc_at cX12_asks 97 sX12_asks_97 := dc_n2 aX12_asks_95
theorem aX12_asks_99 : dc_at cX12_asks 99 sX12_asks_99 := dc_n2 aX12_asks_97
theorem aX12_asks_102 : dc_at cX12_asks 102 sX12_asks_102 := dc_n3 aX12_asks_99
theorem aX12_asks_103 : dc_at cX12_asks 103 sX12_asks_103 := dc_n1 aX12_asks_102
theorem aX12_asks_104 : dc_at cX12_asks 104 sX12_asks_104 := dc_n1 aX12_asks_103
theorem aX12_asks_107 : dc_at cX12_asks 107 sX12_asks_107 := dc_n3 aX12_asks_104
theorem aX12_asks_109 : dc_at cX12_asks 109 sX12_asks_109 := dc_n2 aX12_asks_107
theorem aX12_asks_112 : dc_at cX12_asks 112 sX12_asks_112 := dc_n3 aX12_asks_109
theorem aX12_asks_115 : dc_at cX12_asks 115 sX12_asks_115 := dc_n3 aX12_asks_112
theorem aX12_asks_116 : dc_at cX12_asks 116 sX12_asks_116 := dc_n1 aX12_asks_115
theorem aX12_asks_119 : dc_at cX12_asks 119 sX12_asks_119 := dc_n3 aX12_asks_116
theorem aX12_asks_121 : dc_at cX12_asks 121 sX12_asks_121 := dc_n2 aX12_asks_119
theorem aX12_asks_124 : dc_at cX12_asks 124 sX12_asks_124 := dc_n3 aX12_asks_121
theorem aX12_asks_126 : dc_at cX12_asks 126 sX12_asks_126 := dc_n2 aX12_asks_124
theorem dX12_asks_0 : decode cX12_asks 0 = .ok (.aload_n 0, 1) := dc_42 aX12_asks_0
theorem dX12_asks_1 : decode cX12_asks 1 = .ok (.iconst 0, 1) := dc_3 aX12_asks_1
theorem dX12_asks_2 : decode cX12_asks 2 = .ok (.putfield 362, 3) := dc_181 (a0 := 1) (b0 := 106) aX12_asks_2
theorem dX12_asks_5 : decode cX12_asks 5 = .ok (.iconst 0, 1) := dc_3 aX12_asks_5
theorem dX12_asks_6 : decode cX12_asks 6 = .ok (.istore 4, 2) := dc_54 (a0 := 4) aX12_asks_6
theorem dX12_asks_8 : decode cX12_asks 8 = .ok (.iload 4, 2) := dc_21 (a0 := 4) aX12_asks_8
theorem dX12_asks_10 : decode cX12_asks 10 = .ok (.bipush 20, 2) := dc_16 (a0 := 20) aX12_asks_10 (by decide)
theorem dX12_asks_12 : decode cX12_asks 12 = .ok (.if_icmp .ge 54, 3) := dc_162 (a0 := 0) (b0 := 54) aX12_asks_12 (by decide)
theorem dX12_asks_15 : decode cX12_asks 15 = .ok (.aload_n 1, 1) := dc_43 aX12_asks_15
theorem dX12_asks_16 : decode cX12_asks 16 = .ok (.iload 4, 2) := dc_21 (a0 := 4) aX12_asks_16
theorem dX12_asks_18 : decode cX12_asks 18 = .ok (.iaload, 1) := dc_46 aX12_asks_18
theorem dX12_asks_19 : decode cX12_asks 19 = .ok (.iconst (-1), 1) := dc_2 aX12_asks_19
theorem dX12_asks_20 : decode cX12_asks 20 = .ok (.if_icmp .ne 6, 3) := dc_160 (a0 := 0) (b0 := 6) aX12_asks_20 (by decide)
theorem dX12_asks_23 : decode cX12_asks 23 = .ok (.goto 37, 3) := dc_167 (a0 := 0) (b0 := 37) aX12_asks_23 (by decide)
theorem dX12_asks_26 : decode cX12_asks 26 = .ok (.aload_n 0, 1) := dc_42 aX12_asks_26
theorem dX12_asks_27 : decode cX12_asks 27 = .ok (.getfield 123, 3) := dc_180 (a0 := 0) (b0 := 123) aX12_asks_27
theorem dX12_asks_30 : decode cX12_asks 30 = .ok (.aload_n 0, 1) := dc_42 aX12_asks_30
theorem dX12_asks_31 : decode cX12_asks 31 = .ok (.getfield 362, 3) := dc_180 (a0 := 1) (b0 := 106) aX12_asks_31
theorem dX12_asks_34 : decode cX12_asks 34 = .ok (.iload 4, 2) := dc_21 (a0 := 4) aX12_asks_34
theorem dX12_asks_36 : decode cX12_asks 36 = .ok (.iastore, 1) := dc_79 aX12_asks_36
theorem dX12_asks_37 : decode cX12_asks 37 = .ok (.aload_n 0, 1) := dc_42 aX12_asks_37
theorem dX12_asks_38 : decode cX12_asks 38 = .ok (.getfield 126, 3) := dc_180 (a0 := 0) (b0 := 126) aX12_asks_38
theorem dX12_asks_41 : decode cX12_asks 41 = .ok (.aload_n 0, 1) := dc_42 aX12_asks_41
theorem dX12_asks_42 : decode cX12_asks 42 = .ok (.getfield 362, 3) := dc_180 (a0 := 1) (b0 := 106) aX12_asks_42
theorem dX12_asks_45 : decode cX12_asks 45 = .ok (.aload_n 0, 1) := dc_42 aX12_asks_45
theorem dX12_asks_46 : decode cX12_asks 46 = .ok (.getfield 362, 3) := dc_180 (a0 := 1) (b0 := 106) aX12_asks_46
theorem dX12_asks_49 : decode cX12_asks 49 = .ok (.iastore, 1) := dc_79 aX12_asks_49
theorem dX12_asks_50 : decode cX12_asks 50 = .ok (.aload_n 0, 1) := dc_42 aX12_asks_50
theorem dX12_asks_51 : decode cX12_asks 51 = .ok (.dup, 1) := dc_89 aX12_asks_51
theorem dX12_asks_52 : decode cX12_asks 52 = .ok (.getfield 362, 3) := dc_180 (a0 := 1) (b0 := 106) aX12_asks_52
theorem dX12_asks_55 : decode cX12_asks 55 = .ok (.iconst 1, 1) := dc_4 aX12_asks_55
theorem dX12_asks_56 : decode cX12_asks 56 = .ok (.iadd, 1) := dc_96 aX12_asks_56
theorem dX12_asks_57 : decode cX12_asks 57 = .ok (.putfield 362, 3) := dc_181 (a0 := 1) (b0 := 106) aX12_asks_57
theorem dX12_asks_60 : decode cX12_asks 60 = .ok (.iinc 4 1, 3) := dc_132 (a0 := 4) (a1 := 1) aX12_asks_60 (by decide)
theorem dX12_asks_63 : decode cX12_asks 63 = .ok (.goto (-55), 3) := dc_167 (a0 := 255) (b0 := 201) aX12_asks_63 (by decide)
theorem dX12_asks_66 : decode cX12_asks 66 = .ok (.aload_n 0, 1) := dc_42 aX12_asks_66
theorem dX12_asks_67 : decode cX12_asks 67 = .ok (.iload_n 3, 1) := dc_29 aX12_asks_67
theorem dX12_asks_68 : decode cX12_asks 68 = .ok (.invokevirtual 375, 3) := dc_182 (a0 := 1) (b0 := 119) aX12_asks_68
theorem dX12_asks_71 : decode cX12_asks 71 = .ok (.istore 4, 2) := dc_54 (a0 := 4) aX12_asks_71
theorem dX12_asks_73 : decode cX12_asks 73 = .ok (.iload_n 2, 1) := dc_28 aX12_asks_73
theorem dX12_asks_74 : decode cX12_asks 74 = .ok (.ifCond .ne 6, 3) := dc_154 (a0 := 0) (b0 := 6) aX12_asks_74 (by decide)
theorem dX12_asks_77 : decode cX12_asks 77 = .ok (.iload 4, 2) := dc_21 (a0 := 4) aX12_asks_77
theorem dX12_asks_79 : decode cX12_asks 79 = .ok (.ireturn, 1) := dc_172 aX12_asks_79
theorem dX12_asks_80 : decode cX12_asks 80 = .ok (.aload_n 0, 1) := dc_42 aX12_asks_80
theorem dX12_asks_81 : decode cX12_asks 81 = .ok (.getfield 362, 3) := dc_180 (a0 := 1) (b0 := 106) aX12_asks_81
theorem dX12_asks_84 : decode cX12_asks 84 = .ok (.bipush 8, 2) := dc_16 (a0 := 8) aX12_asks_84 (by decide)
theorem dX12_asks_86 : decode cX12_asks 86 = .ok (.if_icmp .le 5, 3) := dc_164 (a0 := 0) (b0 := 5) aX12_asks_86 (by decide)
theorem dX12_asks_89 : decode cX12_asks 89 = .ok (.iconst (-1), 1) := dc_2 aX12_asks_89
theorem dX12_asks_90 : decode cX12_asks 90 = .ok (.ireturn, 1) := dc_172 aX12_asks_90
theorem dX12_asks_91 : decode cX12_asks 91 = .ok (.iconst 0, 1) := dc_3 aX12_asks_91
theorem dX12_asks_92 : decode cX12_asks 92 = .ok (.istore 5, 2) := dc_54 (a0 := 5) aX12_asks_92
theorem dX12_asks_94 : decode cX12_asks 94 = .ok (.iconst 1, 1) := dc_4 aX12_asks_94
theorem dX12_asks_95 : decode cX12_asks 95 = .ok (.istore 6, 2) := dc_54 (a0 := 6) aX12_asks_95
theorem dX12_asks_97 : decode cX12_asks 97 = .ok (.iload 6, 2) := dc_21 (a0 := 6) aX12_asks_97
theorem dX12_asks_99 : decode cX12_asks 99 = .ok (.ifCond .eq 25, 3) := dc_153 (a0 := 0) (b0 := 25) aX12_asks_99 (by decide)
theorem dX12_asks_102 : decode cX12_asks 102 = .ok (.aload_n 0, 1) := dc_42 aX12_asks_102
theorem dX12_asks_103 : decode cX12_asks 103 = .ok (.iload_n 3, 1) := dc_29 aX12_asks_103
theorem dX12_asks_104 : decode cX12_asks 104 = .ok (.invokevirtual 375, 3) := dc_182 (a0 := 1) (b0 := 119) aX12_asks_104
theorem dX12_asks_107 : decode cX12_asks 107 = .ok (.iload 4, 2) := dc_21 (a0 := 4) aX12_asks_107
theorem dX12_asks_109 : decode cX12_asks 109 = .ok (.if_icmp .lt 6, 3) := dc_161 (a0 := 0) (b0 := 6) aX12_asks_109 (by decide)
theorem dX12_asks_112 : decode cX12_asks 112 = .ok (.iinc 5 1, 3) := dc_132 (a0 := 5) (a1 := 1) aX12_asks_112 (by decide)
theorem dX12_asks_115 : decode cX12_asks 115 = .ok (.aload_n 0, 1) := dc_42 aX12_asks_115
theorem dX12_asks_116 : decode cX12_asks 116 = .ok (.invokevirtual 378, 3) := dc_182 (a0 := 1) (b0 := 122) aX12_asks_116
theorem dX12_asks_119 : decode cX12_asks 119 = .ok (.istore 6, 2) := dc_54 (a0 := 6) aX12_asks_119
theorem dX12_asks_121 : decode cX12_asks 121 = .ok (.goto (-24), 3) := dc_167 (a0 := 255) (b0 := 232) aX12_asks_121 (by decide)
theorem dX12_asks_124 : decode cX12_asks 124 = .ok (.iload 5, 2) := dc_21 (a0 := 5) aX12_asks_124
theorem dX12_asks_126 : decode cX12_asks 126 = .ok (.ireturn, 1) := dc_172 aX12_asks_126
set_option maxRecDepth 20000 in
theorem ggX12_hits_X12_within : GoodIn wsX12_hits wsX12_within := goodIn_k _ [[6]] (by rfl) (by decide +kernel)
set_option maxRecDepth 20000 in
theorem gX12_hits_X12_within : GoodIn wsX12_hits (va_wsS RX12 270 yX12_within wsX12_within) := goodIn_app (goodIn_of _ (by decide +kernel)) ggX12_hits_X12_within
set_option maxRecDepth 20000 in
theorem ggX12_hits_X12_right : GoodIn wsX12_hits wsX12_right := goodIn_k _ [[10], [1, 43, 0, 0, 0, 0, 0, 0, 0, 0, 0, 0, 0, 0, 0, 0, 0, 0, 0, 0, 0, 0, 0, 0, 0, 0, 0, 0, 0, 0, 0, 0, 0, 0, 0, 0, 0, 0, 0, 0, 0, 0, 0, 0, 0, 0, 0, 0, 0, 0, 0, 0, 0, 0, 0, 0, 0, 0, 0]] (by rfl) (by decide +kernel)
set_option maxRecDepth 20000 in
theorem gX12_hits_X12_right : GoodIn wsX12_hits (wsV RX12 209 RX12 yX12_right wsX12_right) := goodIn_app (goodIn_of _ (by decide +kernel)) ggX12_hits_X12_right
set_option maxRecDepth 20000 in
theorem ggX12_hits_X12_asks : GoodIn wsX12_hits wsX12_asks := goodIn_k _ [[14, 0, 0, 0, 0, 0, 0], [5, 15, 0, 0, 0, 0, 0, 0, 0, 0, 0, 0, 0, 0, 0, 0], [2, 33, 0, 0, 0, 0, 0, 0, 0, 0, 0, 0, 0, 0, 0, 0, 0, 0, 0, 0, 0, 0, 0, 0, 0, 0, 0, 0, 0, 0, 0, 0, 0, 0, 0, 0, 0, 0, 0, 0, 0, 0, 0, 0, 0, 0, 0, 0, 0, 0, 0, 0, 0, 0, 0, 0, 0, 0, 0, 0, 0, 0, 0, 0, 0, 0, 0, 0]] (by rfl) (by decide +kernel)
set_option maxRecDepth 20000 in
theorem gX12_hits_X12_asks : GoodIn wsX12_hits (wsV RX12 381 RX12 yX12_asks wsX12_asks) := goodIn_app (goodIn_of _ (by decide +kernel)) ggX12_hits_X12_asks
noncomputable def sX12_hits_49 : List Nat := 172 :: []
noncomputable def sX12_hits_46 : List Nat := 182 :: 1 :: 125 :: sX12_hits_49
noncomputable def sX12_hits_45 : List Nat := 28 :: sX12_hits_46
noncomputable def sX12_hits_44 : List Nat := 27 :: sX12_hits_45
noncomputable def sX12_hits_41 : List Nat := 180 :: 0 :: 114 :: sX12_hits_44
noncomputable def sX12_hits_40 : List Nat := 42 :: sX12_hits_41
noncomputable def sX12_hits_39 : List Nat := 42 :: sX12_hits_40
noncomputable def sX12_hits_38 : List Nat := 172 :: sX12_hits_39
noncomputable def sX12_hits_37 : List Nat := 3 :: sX12_hits_38
noncomputable def sX12_hits_34 : List Nat := 154 :: 0 :: 5 :: sX12_hits_37
noncomputable def sX12_hits_31 : List Nat := 182 :: 0 :: 209 :: sX12_hits_34
noncomputable def sX12_hits_30 : List Nat := 4 :: sX12_hits_31
noncomputable def sX12_hits_29 : List Nat := 3 :: sX12_hits_30
noncomputable def sX12_hits_26 : List Nat := 167 :: 0 :: 4 :: sX12_hits_29
noncomputable def sX12_hits_25 : List Nat := 4 :: sX12_hits_26
noncomputable def sX12_hits_22 : List Nat := 153 :: 0 :: 7 :: sX12_hits_25
noncomputable def sX12_hits_19 : List Nat := 184 :: 1 :: 14 :: sX12_hits_22
noncomputable def sX12_hits_17 : List Nat := 16 :: 120 :: sX12_hits_19
noncomputable def sX12_hits_16 : List Nat := 3 :: sX12_hits_17
noncomputable def sX12_hits_15 : List Nat := 28 :: sX12_hits_16
noncomputable def sX12_hits_12 : List Nat := 160 :: 0 :: 17 :: sX12_hits_15
noncomputable def sX12_hits_11 : List Nat := 4 :: sX12_hits_12
noncomputable def sX12_hits_10 : List Nat := 27 :: sX12_hits_11
noncomputable def sX12_hits_7 : List Nat := 153 :: 0 :: 8 :: sX12_hits_10
noncomputable def sX12_hits_6 : List Nat := 27 :: sX12_hits_7
noncomputable def sX12_hits_5 : List Nat := 42 :: sX12_hits_6
noncomputable def sX12_hits_2 : List Nat := 181 :: 0 :: 129 :: sX12_hits_5
noncomputable def sX12_hits_1 : List Nat := 3 :: sX12_hits_2
noncomputable def sX12_hits_0 : List Nat := 42 :: sX12_hits_1
theorem aX12_hits_0 : dc_at cX12_hits 0 sX12_hits_0 := dc_base (by decide +kernel)
theorem aX12_hits_1 : dc_at cX12_hits 1 sX12_hits_1 := dc_n1 aX12_hits_0
theorem aX12_hits_2 : dc_at cX12_hits 2 sX12_hits_2 := dc_n1 aX12_hits_1
theorem aX12_hits_5 : dc_at cX12_hits 5 sX12_hits_5 := dc_n3 aX12_hits_2
theorem aX12_hits_6 : dc_at cX12_hits 6 sX12_hits_6 := dc_n1 aX12_hits_5
theorem aX12_hits_7 : dc_at cX12_hits 7 sX12_hits_7 := dc_n1 aX12_hits_6
theorem aX12_hits_10 : dc_at cX12_hits 10 sX12_hits_10 := dc_n3 aX12_hits_7
theorem aX12_hits_11 : dc_at cX12_hits 11 sX12_hits_11 := dc_n1 aX12_hits_10
theorem aX12_hits_12 : dc_at cX12_hits 12 sX12_hits_12 := dc_n1 aX12_hits_11
theorem aX12_hits_15 : dc_at cX12_hits 15 sX12_hits_15 := dc_n3 aX12_hits_12
theorem aX12_hits_16 : dc_at cX12_hits 16 sX12_hits_16 := dc_n1 aX12_hits_15
theorem aX12_hits_17 : dc_at cX12_hits 17 sX12_hits_17 := dc_n1 aX12_hits_16
theorem aX12_hits_19 : dc_at cX12_hits 19 sX12_hits_19 := dc_n2 aX12_hits_17
theorem aX12_hits_22 : dc_at cX12_hits 22 sX12_hits_22 := dc_n3 aX12_hits_19
theorem aX12_hits_25 : dc_at cX12_hits 25 sX12_hits_25 := dc_n3 aX12_hits_22
theorem aX12_hits_26 : dc_at cX12_hits 26 sX12_hits_26 := dc_n1 aX12_hits_25
theorem aX12_hits_29 : dc_at cX12_hits 29 sX12_hits_29 := dc_n3 aX12_hits_26
theorem aX12_hits_30 : dc_at cX12_hits 30 sX12_hits_30 := dc_n1 aX12_hits_29
theorem aX12_hits_31 : dc_at cX12_hits 31 sX12_hits_31 := dc_n1 aX12_hits_30
theorem aX12_hits_34 : dc_at cX12_hits 34 sX12_hits_34 := dc_n3 aX12_hits_31
theorem aX12_hits_37 : dc_at cX12_hits 37 sX12_hits_37 := dc_n3 aX12_hits_34
theorem aX12_hits_38 : dc_at cX12_hits 38 sX12_hits_38 := dc_n1 aX12_hits_37
theorem aX12_hits_39 : dc_at cX12_hits 39 sX12_hits_39 := dc_n1 aX12_hits_38
theorem aX12_hits_40 : dc_at cX12_hits 40 sX12_hits_40 := dc_n1 aX12_hits_39
theorem aX12_hits_41 : dc_at cX12_hits 41 sX12_hits_41 := dc_n1 aX12_hits_40
theorem aX12_hits_44 : dc_at cX12_hits 44 sX12_hits_44 := dc_n3 aX12_hits_41
theorem aX12_hits_45 : dc_at cX12_hits 45 sX12_hits_45 := dc_n1 aX12_hits_44
theorem aX12_hits_46 : dc_at cX12_hits 46 sX12_hits_46 := dc_n1 aX12_hits_45
theorem aX12_hits_49 : dc_at cX12_hits 49 sX12_hits_49 := dc_n3 aX12_hits_46
theorem dX12_hits_0 : decode cX12_hits 0 = .ok (.aload_n 0, 1) := dc_42 aX12_hits_0
theorem dX12_hits_1 : decode cX12_hits 1 = .ok (.iconst 0, 1) := dc_3 aX12_hits_1
theorem dX12_hits_2 : decode cX12_hits 2 = .ok (.putfield 129, 3) := dc_181 (a0 := 0) (b0 := 129) aX12_hits_2
theorem dX12_hits_5 : decode cX12_hits 5 = .ok (.aload_n 0, 1) := dc_42 aX12_hits_5
theorem dX12_hits_6 : decode cX12_hits 6 = .ok (.iload_n 1, 1) := dc_27 aX12_hits_6
theorem dX12_hits_7 : decode cX12_hits 7 = .ok (.ifCond .eq 8, 3) := dc_153 (a0 := 0) (b0 := 8) aX12_hits_7 (by decide)
theorem dX12_hits_10 : decode cX12_hits 10 = .ok (.iload_n 1, 1) := dc_27 aX12_hits_10
theorem dX12_hits_11 : decode cX12_hits 11 = .ok (.iconst 1, 1) := dc_4 aX12_hits_11
theorem dX12_hits_12 : decode cX12_hits 12 = .ok (.if_icmp .ne 17, 3) := dc_160 (a0 := 0) (b0 := 17) aX12_hits_12 (by decide)
theorem dX12_hits_15 : decode cX12_hits 15 = .ok (.iload_n 2, 1) := dc_28 aX12_hits_15
theorem dX12_hits_16 : decode cX12_hits 16 = .ok (.iconst 0, 1) := dc_3 aX12_hits_16
theorem dX12_hits_17 : decode cX12_hits 17 = .ok (.bipush 120, 2) := dc_16 (a0 := 120) aX12_hits_17 (by decide)
theorem dX12_hits_19 : decode cX12_hits 19 = .ok (.invokestatic 270, 3) := dc_184 (a0 := 1) (b0 := 14) aX12_hits_19
theorem dX12_hits_22 : decode cX12_hits 22 = .ok (.ifCond .eq 7, 3) := dc_153 (a0 := 0) (b0 := 7) aX12_hits_22 (by decide)
theorem dX12_hits_25 : decode cX12_hits 25 = .ok (.iconst 1, 1) := dc_4 aX12_hits_25
theorem dX12_hits_26 : decode cX12_hits 26 = .ok (.goto 4, 3) := dc_167 (a0 := 0) (b0 := 4) aX12_hits_26 (by decide)
theorem dX12_hits_29 : decode cX12_hits 29 = .ok (.iconst 0, 1) := dc_3 aX12_hits_29
theorem dX12_hits_30 : decode cX12_hits 30 = .ok (.iconst 1, 1) := dc_4 aX12_hits_30
theorem dX12_hits_31 : decode cX12_hits 31 = .ok (.invokevirtual 209, 3) := dc_182 (a0 := 0) (b0 := 209) aX12_hits_31
theorem dX12_hits_34 : decode cX12_hits 34 = .ok (.ifCond .ne 5, 3) := dc_154 (a0 := 0) (b0 := 5) aX12_hits_34 (by decide)
theorem dX12_hits_37 : decode cX12_hits 37 = .ok (.iconst 0, 1) := dc_3 aX12_hits_37
theorem dX12_hits_38 : decode cX12_hits 38 = .ok (.ireturn, 1) := dc_172 aX12_hits_38
theorem dX12_hits_39 : decode cX12_hits 39 = .ok (.aload_n 0, 1) := dc_42 aX12_hits_39
theorem dX12_hits_40 : decode cX12_hits 40 = .ok (.aload_n 0, 1) := dc_42 aX12_hits_40
theorem dX12_hits_41 : decode cX12_hits 41 = .ok (.getfield 114, 3) := dc_180 (a0 := 0) (b0 := 114) aX12_hits_41
theorem dX12_hits_44 : decode cX12_hits 44 = .ok (.iload_n 1, 1) := dc_27 aX12_hits_44
theorem dX12_hits_45 : decode cX12_hits 45 = .ok (.iload_n 2, 1) := dc_28 aX12_hits_45
theorem dX12_hits_46 : decode cX12_hits 46 = .ok (.invokevirtual 381, 3) := dc_182 (a0 := 1) (b0 := 125) aX12_hits_46
theorem dX12_hits_49 : decode cX12_hits 49 = .ok (.ireturn, 1) := dc_172 aX12_hits_49
set_option maxRecDepth 20000 in
theorem ggX12_fates_X12_right : GoodIn wsX12_fates wsX12_right := goodIn_k _ [[7], [1, 40, 0, 0, 0, 0, 0, 0, 0, 0, 0, 0, 0, 0, 0, 0, 0, 0, 0, 0, 0, 0, 0, 0, 0, 0, 0, 0, 0, 0, 0, 0, 0, 0, 0, 0, 0, 0, 0, 0, 0, 0, 0, 0, 0, 0, 0, 0, 0, 0, 0, 0, 0, 0, 0, 0, 0, 0, 0]] (by rfl) (by decide +kernel)
set_option maxRecDepth 20000 in
theorem gX12_fates_X12_right : GoodIn wsX12_fates (wsV RX12 209 RX12 yX12_right wsX12_right) := goodIn_app (goodIn_of _ (by decide +kernel)) ggX12_fates_X12_right
set_option maxRecDepth 20000 in
theorem ggX12_fates_X12_asks : GoodIn wsX12_fates wsX12_asks := goodIn_k _ [[11, 0, 0, 0, 0, 0, 0], [6, 11, 0, 0, 0, 0], [2, 20, 0, 0, 0, 0, 0, 0, 0, 0, 0, 0, 0, 0, 0, 0, 0, 0, 0, 0, 0, 0, 0, 0, 0, 0, 0, 0, 0, 0, 0, 0, 0, 0, 0, 0, 0, 0, 0, 0, 0, 0, 0, 0, 0, 0, 0, 0, 0, 0, 0, 0, 0, 0, 0, 0, 0, 0, 0, 0, 0, 0, 0, 0, 0, 0, 0, 0, 0, 0, 0, 0, 0, 0, 0, 0, 0, 0]] (by rfl) (by decide +kernel)
set_option maxRecDepth 20000 in
theorem gX12_fates_X12_asks : GoodIn wsX12_fates (wsV RX12 381 RX12 yX12_asks wsX12_asks) := goodIn_app (goodIn_of _ (by decide +kernel)) ggX12_fates_X12_asks
noncomputable def sX12_fates_39 : List Nat := 172 :: []
noncomputable def sX12_fates_36 : List Nat := 182 :: 1 :: 125 :: sX12_fates_39
noncomputable def sX12_fates_35 : List Nat := 2 :: sX12_fates_36
noncomputable def sX12_fates_34 : List Nat := 27 :: sX12_fates_35
noncomputable def sX12_fates_31 : List Nat := 180 :: 0 :: 120 :: sX12_fates_34
noncomputable def sX12_fates_30 : List Nat := 42 :: sX12_fates_31
noncomputable def sX12_fates_29 : List Nat := 42 :: sX12_fates_30
noncomputable def sX12_fates_28 : List Nat := 172 :: sX12_fates_29
noncomputable def sX12_fates_27 : List Nat := 3 :: sX12_fates_28
noncomputable def sX12_fates_24 : List Nat := 154 :: 0 :: 5 :: sX12_fates_27
noncomputable def sX12_fates_21 : List Nat := 182 :: 0 :: 209 :: sX12_fates_24
noncomputable def sX12_fates_20 : List Nat := 4 :: sX12_fates_21
noncomputable def sX12_fates_19 : List Nat := 3 :: sX12_fates_20
noncomputable def sX12_fates_16 : List Nat := 167 :: 0 :: 4 :: sX12_fates_19
noncomputable def sX12_fates_15 : List Nat := 4 :: sX12_fates_16
noncomputable def sX12_fates_12 : List Nat := 160 :: 0 :: 7 :: sX12_fates_15
noncomputable def sX12_fates_11 : List Nat := 4 :: sX12_fates_12
noncomputable def sX12_fates_10 : List Nat := 27 :: sX12_fates_11
noncomputable def sX12_fates_7 : List Nat := 153 :: 0 :: 8 :: sX12_fates_10
noncomputable def sX12_fates_6 : List Nat := 27 :: sX12_fates_7
noncomputable def sX12_fates_5 : List Nat := 42 :: sX12_fates_6
noncomputable def sX12_fates_2 : List Nat := 181 :: 0 :: 129 :: sX12_fates_5
noncomputable def sX12_fates_1 : List Nat := 3 :: sX12_fates_2
noncomputable def sX12_fates_0 : List Nat := 42 :: sX12_fates_1
theorem aX12_fates_0 : dc_at cX12_fates 0 sX12_fates_0 := dc_base (by decide +kernel)
theorem aX12_fates_1 : dc_at cX12_fates 1 sX12_fates_1 := dc_n1 aX12_fates_0
theorem aX12_fates_2 : dc_at cX12_fates 2 sX12_fates_2 := dc_n1 aX12_fates_1
theorem aX12_fates_5 : dc_at cX12_fates 5 sX12_fates_5 := dc_n3 aX12_fates_2
theorem aX12_fates_6 : dc_at cX12_fates 6 sX12_fates_6 := dc_n1 aX12_fates_5
theorem aX12_fates_7 : dc_at cX12_fates 7 sX12_fates_7 := dc_n1 aX12_fates_6
theorem aX12_fates_10 : dc_at cX12_fates 10 sX12_fates_10 := dc_n3 aX12_fates_7
theorem aX12_fates_11 : dc_at cX12_fates 11 sX12_fates_11 := dc_n1 aX12_fates_10
theorem aX12_fates_12 : dc_at cX12_fates 12 sX12_fates_12 := dc_n1 aX12_fates_11
theorem aX12_fates_15 : dc_at cX12_fates 15 sX12_fates_15 := dc_n3 aX12_fates_12
theorem aX12_fates_16 : dc_at cX12_fates 16 sX12_fates_16 := dc_n1 aX12_fates_15
theorem aX12_fates_19 : dc_at cX12_fates 19 sX12_fates_19 := dc_n3 aX12_fates_16
theorem aX12_fates_20 : dc_at cX12_fates 20 sX12_fates_20 := dc_n1 aX12_fates_19
theorem aX12_fates_21 : dc_at cX12_fates 21 sX12_fates_21 := dc_n1 aX12_fates_20
theorem aX12_fates_24 : dc_at cX12_fates 24 sX12_fates_24 := dc_n3 aX12_fates_21
theorem aX12_fates_27 : dc_at cX12_fates 27 sX12_fates_27 := dc_n3 aX12_fates_24
theorem aX12_fates_28 : dc_at cX12_fates 28 sX12_fates_28 := dc_n1 aX12_fates_27
theorem aX12_fates_29 : dc_at cX12_fates 29 sX12_fates_29 := dc_n1 aX12_fates_28
theorem aX12_fates_30 : dc_at cX12_fates 30 sX12_fates_30 := dc_n1 aX12_fates_29
theorem aX12_fates_31 : dc_at cX12_fates 31 sX12_fates_31 := dc_n1 aX12_fates_30
theorem aX12_fates_34 : dc_at cX12_fates 34 sX12_fates_34 := dc_n3 aX12_fates_31
theorem aX12_fates_35 : dc_at cX12_fates 35 sX12_fates_35 := dc_n1 aX12_fates_34
theorem aX12_fates_36 : dc_at cX12_fates 36 sX12_fates_36 := dc_n1 aX12_fates_35
theorem aX12_fates_39 : dc_at cX12_fates 39 sX12_fates_39 := dc_n3 aX12_fates_36
theorem dX12_fates_0 : decode cX12_fates 0 = .ok (.aload_n 0, 1) := dc_42 aX12_fates_0
theorem dX12_fates_1 : decode cX12_fates 1 = .ok (.iconst 0, 1) := dc_3 aX12_fates_1
theorem dX12_fates_2 : decode cX12_fates 2 = .ok (.putfield 129, 3) := dc_181 (a0 := 0) (b0 := 129) aX12_fates_2
theorem dX12_fates_5 : decode cX12_fates 5 = .ok (.aload_n 0, 1) := dc_42 aX12_fates_5
theorem dX12_fates_6 : decode cX12_fates 6 = .ok (.iload_n 1, 1) := dc_27 aX12_fates_6
theorem dX12_fates_7 : decode cX12_fates 7 = .ok (.ifCond .eq 8, 3) := dc_153 (a0 := 0) (b0 := 8) aX12_fates_7 (by decide)
theorem dX12_fates_10 : decode cX12_fates 10 = .ok (.iload_n 1, 1) := dc_27 aX12_fates_10
theorem dX12_fates_11 : decode cX12_fates 11 = .ok (.iconst 1, 1) := dc_4 aX12_fates_11
theorem dX12_fates_12 : decode cX12_fates 12 = .ok (.if_icmp .ne 7, 3) := dc_160 (a0 := 0) (b0 := 7) aX12_fates_12 (by decide)
theorem dX12_fates_15 : decode cX12_fates 15 = .ok (.iconst 1, 1) := dc_4 aX12_fates_15
theorem dX12_fates_16 : decode cX12_fates 16 = .ok (.goto 4, 3) := dc_167 (a0 := 0) (b0 := 4) aX12_fates_16 (by decide)
theorem dX12_fates_19 : decode cX12_fates 19 = .ok (.iconst 0, 1) := dc_3 aX12_fates_19
theorem dX12_fates_20 : decode cX12_fates 20 = .ok (.iconst 1, 1) := dc_4 aX12_fates_20
theorem dX12_fates_21 : decode cX12_fates 21 = .ok (.invokevirtual 209, 3) := dc_182 (a0 := 0) (b0 := 209) aX12_fates_21
theorem dX12_fates_24 : decode cX12_fates 24 = .ok (.ifCond .ne 5, 3) := dc_154 (a0 := 0) (b0 := 5) aX12_fates_24 (by decide)
theorem dX12_fates_27 : decode cX12_fates 27 = .ok (.iconst 0, 1) := dc_3 aX12_fates_27
theorem dX12_fates_28 : decode cX12_fates 28 = .ok (.ireturn, 1) := dc_172 aX12_fates_28
theorem dX12_fates_29 : decode cX12_fates 29 = .ok (.aload_n 0, 1) := dc_42 aX12_fates_29
theorem dX12_fates_30 : decode cX12_fates 30 = .ok (.aload_n 0, 1) := dc_42 aX12_fates_30
theorem dX12_fates_31 : decode cX12_fates 31 = .ok (.getfield 120, 3) := dc_180 (a0 := 0) (b0 := 120) aX12_fates_31
theorem dX12_fates_34 : decode cX12_fates 34 = .ok (.iload_n 1, 1) := dc_27 aX12_fates_34
theorem dX12_fates_35 : decode cX12_fates 35 = .ok (.iconst (-1), 1) := dc_2 aX12_fates_35
theorem dX12_fates_36 : decode cX12_fates 36 = .ok (.invokevirtual 381, 3) := dc_182 (a0 := 1) (b0 := 125) aX12_fates_36
theorem dX12_fates_39 : decode cX12_fates 39 = .ok (.ireturn, 1) := dc_172 aX12_fates_39
