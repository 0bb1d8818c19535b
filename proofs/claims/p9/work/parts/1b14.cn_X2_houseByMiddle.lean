set_option maxHeartbeats 4000000 in
set_option maxRecDepth 100000 in
theorem cn_X2_houseByMiddle (l : Launch) (D : va_G) (cB cI cZ : ClassId) (N : Nat) (a0 : Nat → Nat) (I0 : Nat → Int32) (M0 : Nat → Nat → Int32) (x1 : Int32) (x2 : Int32) (x3 : Int32) (R : Int32) (hf : fX2_houseByMiddle N I0 M0 x1 x2 x3 = some R) : Met l yX2_houseByMiddle wsX2_houseByMiddle ({ frames := 2, cells := 0, slots := 0, locals := 47 }) (va_Pc [.ref (a0 0), .int x1, .int x2, .int x3] (wb_pre D [(cB, .byte), (cI, .int), (cZ, .boolean)] (wWX2 cB cI cZ a0 I0 M0))) (vp_Si (fun r => r = R)) 0 0 (fun _ => False) := by
  refine Met.ofW (cc := cX2_houseByMiddle) (maxL := 8) (ret := (some .int)) (by decide) rfl ?_
  intro p e s m args below meth c s₁ B hml hv
  obtain ⟨rfl, hP, hK⟩ := hv
  have hx := B.exec
  have hb := B.bytes
  have hr := B.returns
  have hts := atoms_spec (ws := wsX2_houseByMiddle) B.pre
  have hown : s.vm.findClass RX2 = some m.cls := findClass_of_methodNamed B.named
  have hlocks := B.notSynchronized
  have hl := lv_entry ([.ref (a0 0), .int x1, .int x2, .int x3]) (n := 8) (Nat.le_of_ble_eq_true rfl)
  rw [lg_entry_eq]
  generalize (lg_sl ([.ref (a0 0), .int x1, .int x2, .int x3]) ++ List.replicate (8 - (lg_sl ([.ref (a0 0), .int x1, .int x2, .int x3])).length) Slot.unset).toArray = ls at hl ⊢
  have hl : lv_has ls 8 [(0, .ref (a0 0)), (1, .int x1), (2, .int x2), (3, .int x3)] := hl
  unfold fX2_houseByMiddle at hf
  have J118 : ∀ (y118_4 : Int32) (y118_7 : Int32), ∀ (ls : Array Slot), lv_has ls 8 [(4, .int y118_4), (7, .int y118_7)] → fX2_houseByMiddle_J118 N I0 M0 x1 x2 x3 y118_4 y118_7 = some R → W p l e (headSpec wsX2_houseByMiddle { frames := 2, cells := 0, slots := 0, locals := 47 }).room s m [.ref (a0 0), .int x1, .int x2, .int x3].toArray below meth c s.heap [] 0 0 (MQ below (vp_Si (fun r => r = R)) [.ref (a0 0), .int x1, .int x2, .int x3].toArray s 0 0 (fun _ => False)) (F0 m 118 ls []) := by
    intro y118_4 y118_7 ls hl hf
    unfold fX2_houseByMiddle_J118 at hf
    refine lv_iload hx hb dX2_houseByMiddle_118 (lv_at hl 0 rfl) ?_
    refine lv_if_eq (tgt := 132) hx hb dX2_houseByMiddle_120 (by decide) (fun hc => ?_) (fun hc => ?_)
    · replace hf := wb_t hc hf
      refine lv_iload hx hb dX2_houseByMiddle_132 (lv_at hl 1 rfl) ?_
      refine lv_sipush (v := (360 : Int32)) hx hb dX2_houseByMiddle_134 (by decide) ?_
      refine lv_irem hx hb dX2_houseByMiddle_137 (by decide) ?_
      exact W.iret (v := (y118_7 - y118_7 / (360 : Int32) * (360 : Int32))) hx hb hr (fun t ht hW => ⟨_, rfl, Option.some.inj hf, ht⟩) (fun _ h => nomatch h) dX2_houseByMiddle_138
    · replace hf := wb_f hc hf
      refine lv_iload hx hb dX2_houseByMiddle_123 (lv_at hl 1 rfl) ?_
      refine lv_sipush (v := (180 : Int32)) hx hb dX2_houseByMiddle_125 (by decide) ?_
      refine lv_iadd hx hb dX2_houseByMiddle_128 ?_
      refine lv_goto (tgt := 134) hx hb dX2_houseByMiddle_129 (by decide) ?_
      refine lv_sipush (v := (360 : Int32)) hx hb dX2_houseByMiddle_134 (by decide) ?_
      refine lv_irem hx hb dX2_houseByMiddle_137 (by decide) ?_
      exact W.iret (v := ((y118_7 + (180 : Int32)) - (y118_7 + (180 : Int32)) / (360 : Int32) * (360 : Int32))) hx hb hr (fun t ht hW => ⟨_, rfl, Option.some.inj hf, ht⟩) (fun _ h => nomatch h) dX2_houseByMiddle_138
  have J44 : ∀ (y44_4 : Int32) (z44_0 : Int32), ∀ (ls : Array Slot), lv_has ls 8 [(0, .ref (a0 0)), (1, .int x1), (2, .int x2), (4, .int y44_4)] → fX2_houseByMiddle_J44 N I0 M0 x1 x2 x3 y44_4 z44_0 = some R → W p l e (headSpec wsX2_houseByMiddle { frames := 2, cells := 0, slots := 0, locals := 47 }).room s m [.ref (a0 0), .int x1, .int x2, .int x3].toArray below meth c s.heap [] 0 0 (MQ below (vp_Si (fun r => r = R)) [.ref (a0 0), .int x1, .int x2, .int x3].toArray s 0 0 (fun _ => False)) (F0 m 44 ls [.int z44_0]) := by
    intro y44_4 z44_0 ls hl hf
    unfold fX2_houseByMiddle_J44 at hf
    refine lv_istore (lv' := [(5, .int z44_0), (0, .ref (a0 0)), (1, .int x1), (2, .int x2), (4, .int y44_4)]) hx hb dX2_houseByMiddle_44 hl (by decide) rfl (fun ls hl => ?_)
    refine lv_aload_n hx hb dX2_houseByMiddle_46 rfl (lv_at hl 1 rfl) ?_
    refine lv_iload_n hx hb dX2_houseByMiddle_47 rfl (lv_at hl 3 rfl) ?_
    refine lv_bipush (v := (60 : Int32)) hx hb dX2_houseByMiddle_48 (by decide) ?_
    refine lv_iload_n hx hb dX2_houseByMiddle_50 rfl (lv_at hl 2 rfl) ?_
    refine lv_imul hx hb dX2_houseByMiddle_51 ?_
    obtain ⟨r1, hr1, hf⟩ := wb_b hf
    refine vp_callSi (W.runV (As := [.int x2, .int ((60 : Int32) * x1)]) (rest := []) ⟨hx, hb, hml, hown, hts⟩ (cn_X2_middleOf l D cB cI cZ N a0 I0 M0 x2 ((60 : Int32) * x1) r1 hr1) (cwV 2 hts gX2_houseByMiddle_X2_middleOf rfl rfl rfl cdX2_middleOf ⟨Nat.le_of_ble_eq_true rfl, Nat.le_of_ble_eq_true rfl⟩) (wb_preV hP hK (va_recv hK hP (ci := 2) (q0 := 0) rfl rfl)) rfl rfl hl.1 rfl (lv_room (Nat.le_of_ble_eq_true rfl)) dX2_houseByMiddle_52 ⟨Nat.le_of_ble_eq_true rfl, Nat.le_of_ble_eq_true rfl⟩) (fun r9 e9 => ?_)
    rw [e9]
    refine lv_bipush (v := (60 : Int32)) hx hb dX2_houseByMiddle_55 (by decide) ?_
    refine lv_idiv hx hb dX2_houseByMiddle_57 (by decide) ?_
    obtain ⟨v2, ev2, hf⟩ := wb_v hf
    refine wb_topi ev2 ?_
    refine lv_istore (lv' := [(6, .int v2), (5, .int z44_0), (0, .ref (a0 0)), (1, .int x1), (2, .int x2), (4, .int y44_4)]) hx hb dX2_houseByMiddle_58 hl (by decide) rfl (fun ls hl => ?_)
    refine lv_iload hx hb dX2_houseByMiddle_60 (lv_at hl 1 rfl) ?_
    refine lv_bipush (v := (10 : Int32)) hx hb dX2_houseByMiddle_62 (by decide) ?_
    refine lv_icmp_lt (tgt := 93) hx hb dX2_houseByMiddle_64 (by decide) (fun hc => ?_) (fun hc => ?_)
    · replace hf := wb_t hc hf
      refine lv_iload_n hx hb dX2_houseByMiddle_93 rfl (lv_at hl 3 rfl) ?_
      refine lv_iload hx hb dX2_houseByMiddle_94 (lv_at hl 1 rfl) ?_
      refine lv_iconst (v := (1 : Int32)) hx hb dX2_houseByMiddle_96 (by decide) ?_
      refine lv_isub hx hb dX2_houseByMiddle_97 ?_
      refine lv_iload hx hb dX2_houseByMiddle_98 (lv_at hl 0 rfl) ?_
      refine lv_sipush (v := (180 : Int32)) hx hb dX2_houseByMiddle_100 (by decide) ?_
      refine lv_iadd hx hb dX2_houseByMiddle_103 ?_
      refine lv_iload_n hx hb dX2_houseByMiddle_104 rfl (lv_at hl 3 rfl) ?_
      refine lv_isub hx hb dX2_houseByMiddle_105 ?_
      refine lv_sipush (v := (360 : Int32)) hx hb dX2_houseByMiddle_106 (by decide) ?_
      obtain ⟨r3, hr3, hf⟩ := wb_b hf
      refine vp_callSi (W.runS (As := [.int ((v2 + (180 : Int32)) - x1), .int (360 : Int32)]) (rest := [.int (z44_0 - (1 : Int32)), .int x1]) ⟨hx, hb, hml, hown, hts⟩ (cn_J9_floorMod_7cf53 l D cB cI cZ N ((v2 + (180 : Int32)) - x1) (360 : Int32) r3 hr3) (va_cwS 2 hts gX2_houseByMiddle_J9_floorMod_7cf53 rfl rfl rfl csJ9_floorMod_7cf53 ⟨Nat.le_of_ble_eq_true rfl, Nat.le_of_ble_eq_true rfl⟩) (wb_preS (hP.sub (ws' := ([] : va_W)) [] rfl) hK) rfl rfl hl.1 rfl (lv_room (Nat.le_of_ble_eq_true rfl)) dX2_houseByMiddle_109 ⟨Nat.le_of_ble_eq_true rfl, Nat.le_of_ble_eq_true rfl⟩) (fun r9 e9 => ?_)
      rw [e9]
      refine lv_imul hx hb dX2_houseByMiddle_112 ?_
      refine lv_iconst (v := (3 : Int32)) hx hb dX2_houseByMiddle_113 (by decide) ?_
      refine lv_idiv hx hb dX2_houseByMiddle_114 (by decide) ?_
      refine lv_iadd hx hb dX2_houseByMiddle_115 ?_
      obtain ⟨v4, ev4, hf⟩ := wb_v hf
      refine wb_topi ev4 ?_
      refine lv_istore (lv' := [(7, .int v4), (6, .int v2), (5, .int z44_0), (0, .ref (a0 0)), (1, .int x1), (2, .int x2), (4, .int y44_4)]) hx hb dX2_houseByMiddle_116 hl (by decide) rfl (fun ls hl => ?_)
      exact J118 y44_4 v4 ls (lv_sub hl [6, 0] rfl) hf
    · replace hf := wb_f hc hf
      refine lv_iload hx hb dX2_houseByMiddle_67 (lv_at hl 0 rfl) ?_
      refine lv_iload hx hb dX2_houseByMiddle_69 (lv_at hl 1 rfl) ?_
      refine lv_bipush (v := (10 : Int32)) hx hb dX2_houseByMiddle_71 (by decide) ?_
      refine lv_isub hx hb dX2_houseByMiddle_73 ?_
      refine lv_iload_n hx hb dX2_houseByMiddle_74 rfl (lv_at hl 3 rfl) ?_
      refine lv_iload hx hb dX2_houseByMiddle_75 (lv_at hl 0 rfl) ?_
      refine lv_isub hx hb dX2_houseByMiddle_77 ?_
      refine lv_sipush (v := (360 : Int32)) hx hb dX2_houseByMiddle_78 (by decide) ?_
      obtain ⟨r5, hr5, hf⟩ := wb_b hf
      refine vp_callSi (W.runS (As := [.int (x1 - v2), .int (360 : Int32)]) (rest := [.int (z44_0 - (10 : Int32)), .int v2]) ⟨hx, hb, hml, hown, hts⟩ (cn_J9_floorMod_7cf53 l D cB cI cZ N (x1 - v2) (360 : Int32) r5 hr5) (va_cwS 2 hts gX2_houseByMiddle_J9_floorMod_7cf53 rfl rfl rfl csJ9_floorMod_7cf53 ⟨Nat.le_of_ble_eq_true rfl, Nat.le_of_ble_eq_true rfl⟩) (wb_preS (hP.sub (ws' := ([] : va_W)) [] rfl) hK) rfl rfl hl.1 rfl (lv_room (Nat.le_of_ble_eq_true rfl)) dX2_houseByMiddle_81 ⟨Nat.le_of_ble_eq_true rfl, Nat.le_of_ble_eq_true rfl⟩) (fun r9 e9 => ?_)
      rw [e9]
      refine lv_imul hx hb dX2_houseByMiddle_84 ?_
      refine lv_iconst (v := (3 : Int32)) hx hb dX2_houseByMiddle_85 (by decide) ?_
      refine lv_idiv hx hb dX2_houseByMiddle_86 (by decide) ?_
      refine lv_iadd hx hb dX2_houseByMiddle_87 ?_
      obtain ⟨v6, ev6, hf⟩ := wb_v hf
      refine wb_topi ev6 ?_
      refine lv_istore (lv' := [(7, .int v6), (6, .int v2), (5, .int z44_0), (0, .ref (a0 0)), (1, .int x1), (2, .int x2), (4, .int y44_4)]) hx hb dX2_houseByMiddle_88 hl (by decide) rfl (fun ls hl => ?_)
      refine lv_goto (tgt := 118) hx hb dX2_houseByMiddle_90 (by decide) ?_
      exact J118 y44_4 v6 ls (lv_sub hl [6, 0] rfl) hf
  have J16 : ∀ (z16_0 : Int32), ∀ (ls : Array Slot), lv_has ls 8 [(0, .ref (a0 0)), (1, .int x1), (2, .int x2), (3, .int x3)] → fX2_houseByMiddle_J16 N I0 M0 x1 x2 x3 z16_0 = some R → W p l e (headSpec wsX2_houseByMiddle { frames := 2, cells := 0, slots := 0, locals := 47 }).room s m [.ref (a0 0), .int x1, .int x2, .int x3].toArray below meth c s.heap [] 0 0 (MQ below (vp_Si (fun r => r = R)) [.ref (a0 0), .int x1, .int x2, .int x3].toArray s 0 0 (fun _ => False)) (F0 m 16 ls [.int z16_0]) := by
    intro z16_0 ls hl hf
    unfold fX2_houseByMiddle_J16 at hf
    refine lv_istore (lv' := [(4, .int z16_0), (0, .ref (a0 0)), (1, .int x1), (2, .int x2), (3, .int x3)]) hx hb dX2_houseByMiddle_16 hl (by decide) rfl (fun ls hl => ?_)
    refine lv_iload hx hb dX2_houseByMiddle_18 (lv_at hl 0 rfl) ?_
    refine lv_if_ne (tgt := 27) hx hb dX2_houseByMiddle_20 (by decide) (fun hc => ?_) (fun hc => ?_)
    · replace hf := wb_f hc hf
      refine lv_iload_n hx hb dX2_houseByMiddle_27 rfl (lv_at hl 4 rfl) ?_
      refine lv_bipush (v := (7 : Int32)) hx hb dX2_houseByMiddle_28 (by decide) ?_
      refine lv_icmp_ge (tgt := 40) hx hb dX2_houseByMiddle_30 (by decide) (fun hc => ?_) (fun hc => ?_)
      · replace hf := wb_t hc hf
        refine lv_iload_n hx hb dX2_houseByMiddle_40 rfl (lv_at hl 4 rfl) ?_
        refine lv_bipush (v := (6 : Int32)) hx hb dX2_houseByMiddle_41 (by decide) ?_
        refine lv_isub hx hb dX2_houseByMiddle_43 ?_
        exact J44 z16_0 (x3 - (6 : Int32)) ls (lv_sub hl [1, 2, 3, 0] rfl) hf
      · replace hf := wb_f hc hf
        refine lv_iload_n hx hb dX2_houseByMiddle_33 rfl (lv_at hl 4 rfl) ?_
        refine lv_bipush (v := (6 : Int32)) hx hb dX2_houseByMiddle_34 (by decide) ?_
        refine lv_iadd hx hb dX2_houseByMiddle_36 ?_
        refine lv_goto (tgt := 44) hx hb dX2_houseByMiddle_37 (by decide) ?_
        exact J44 z16_0 (x3 + (6 : Int32)) ls (lv_sub hl [1, 2, 3, 0] rfl) hf
    · replace hf := wb_t hc hf
      refine lv_iload_n hx hb dX2_houseByMiddle_23 rfl (lv_at hl 4 rfl) ?_
      refine lv_goto (tgt := 44) hx hb dX2_houseByMiddle_24 (by decide) ?_
      exact J44 z16_0 x3 ls (lv_sub hl [1, 2, 3, 0] rfl) hf
  have J15 : ∀ (ls : Array Slot), lv_has ls 8 [(0, .ref (a0 0)), (1, .int x1), (2, .int x2), (3, .int x3)] → fX2_houseByMiddle_J15 N I0 M0 x1 x2 x3 = some R → W p l e (headSpec wsX2_houseByMiddle { frames := 2, cells := 0, slots := 0, locals := 47 }).room s m [.ref (a0 0), .int x1, .int x2, .int x3].toArray below meth c s.heap [] 0 0 (MQ below (vp_Si (fun r => r = R)) [.ref (a0 0), .int x1, .int x2, .int x3].toArray s 0 0 (fun _ => False)) (F0 m 15 ls []) := by
    intro ls hl hf
    unfold fX2_houseByMiddle_J15 at hf
    refine lv_iconst (v := (0 : Int32)) hx hb dX2_houseByMiddle_15 (by decide) ?_
    exact J16 (0 : Int32) ls (lv_sub hl [0, 1, 2, 3] rfl) hf
  refine lv_iload_n hx hb dX2_houseByMiddle_0 rfl (lv_at hl 3 rfl) ?_
  refine lv_iconst (v := (4 : Int32)) hx hb dX2_houseByMiddle_1 (by decide) ?_
  refine lv_icmp_lt (tgt := 15) hx hb dX2_houseByMiddle_2 (by decide) (fun hc => ?_) (fun hc => ?_)
  · replace hf := wb_t hc hf
    exact J15 ls (lv_sub hl [0, 1, 2, 3] rfl) hf
  · replace hf := wb_f hc hf
    refine lv_iload_n hx hb dX2_houseByMiddle_5 rfl (lv_at hl 3 rfl) ?_
    refine lv_bipush (v := (9 : Int32)) hx hb dX2_houseByMiddle_6 (by decide) ?_
    refine lv_icmp_gt (tgt := 15) hx hb dX2_houseByMiddle_8 (by decide) (fun hc => ?_) (fun hc => ?_)
    · replace hf := wb_t hc hf
      exact J15 ls (lv_sub hl [0, 1, 2, 3] rfl) hf
    · replace hf := wb_f hc hf
      refine lv_iconst (v := (1 : Int32)) hx hb dX2_houseByMiddle_11 (by decide) ?_
      refine lv_goto (tgt := 16) hx hb dX2_houseByMiddle_12 (by decide) ?_
      exact J16 (1 : Int32) ls (lv_sub hl [0, 1, 2, 3] rfl) hf

