set_option maxHeartbeats 4000000 in
set_option maxRecDepth 100000 in
theorem cn_X2_middleOf (l : Launch) (D : va_G) (cB cI cZ : ClassId) (N : Nat) (a0 : Nat → Nat) (I0 : Nat → Int32) (M0 : Nat → Nat → Int32) (x1 : Int32) (x2 : Int32) (R : Int32) (hf : fX2_middleOf N I0 M0 x1 x2 = some R) : Met l yX2_middleOf wsX2_middleOf ({ frames := 1, cells := 0, slots := 0, locals := 25 }) (va_Pc [.ref (a0 0), .int x1, .int x2] (wb_pre D [(cB, .byte), (cI, .int), (cZ, .boolean)] (wWX2 cB cI cZ a0 I0 M0))) (vp_Si (fun r => r = R)) 0 0 (fun _ => False) := by
  refine Met.ofW (cc := cX2_middleOf) (maxL := 3) (ret := (some .int)) (by decide) rfl ?_
  intro p e s m args below meth c s₁ B hml hv
  obtain ⟨rfl, hP, hK⟩ := hv
  have hx := B.exec
  have hb := B.bytes
  have hr := B.returns
  have hts := atoms_spec (ws := wsX2_middleOf) B.pre
  have hown : s.vm.findClass RX2 = some m.cls := findClass_of_methodNamed B.named
  have hlocks := B.notSynchronized
  have hl := lv_entry ([.ref (a0 0), .int x1, .int x2]) (n := 3) (Nat.le_of_ble_eq_true rfl)
  rw [lg_entry_eq]
  generalize (lg_sl ([.ref (a0 0), .int x1, .int x2]) ++ List.replicate (3 - (lg_sl ([.ref (a0 0), .int x1, .int x2])).length) Slot.unset).toArray = ls at hl ⊢
  have hl : lv_has ls 3 [(0, .ref (a0 0)), (1, .int x1), (2, .int x2)] := hl
  unfold fX2_middleOf at hf
  refine lv_aload_n hx hb dX2_middleOf_0 rfl (lv_at hl 0 rfl) ?_
  refine lv_iconst (v := (0 : Int32)) hx hb dX2_middleOf_1 (by decide) ?_
  refine lv_aload_n hx hb dX2_middleOf_2 rfl (lv_at hl 0 rfl) ?_
  refine lv_iload_n hx hb dX2_middleOf_3 rfl (lv_at hl 1 rfl) ?_
  refine lv_iload_n hx hb dX2_middleOf_4 rfl (lv_at hl 2 rfl) ?_
  obtain ⟨r1, hr1, hf⟩ := wb_b hf
  refine vp_callSi (W.runV (As := [.int x1, .int x2]) (rest := [.int (0 : Int32), .ref (a0 0)]) ⟨hx, hb, hml, hown, hts⟩ (cn_X2_climbOf l D cB cI cZ N a0 I0 M0 x1 x2 r1 hr1) (cwV 2 hts gX2_middleOf_X2_climbOf rfl rfl rfl cdX2_climbOf ⟨Nat.le_of_ble_eq_true rfl, Nat.le_of_ble_eq_true rfl⟩) (wb_preV hP hK (va_recv hK hP (ci := 2) (q0 := 0) rfl rfl)) rfl rfl hl.1 rfl (lv_room (Nat.le_of_ble_eq_true rfl)) dX2_middleOf_5 ⟨Nat.le_of_ble_eq_true rfl, Nat.le_of_ble_eq_true rfl⟩) (fun r9 e9 => ?_)
  rw [e9]
  refine lv_ldc (v := (1620000 : Int32)) hx hb hown (hts (.constant RX2 63 (1620000)) (List.mem_of_getElem? (i := 1) rfl)) dX2_middleOf_8 ?_
  refine lv_isub hx hb dX2_middleOf_10 ?_
  refine lv_ldc (v := (6480000 : Int32)) hx hb hown (hts (.constant RX2 59 (6480000)) (List.mem_of_getElem? (i := 2) rfl)) dX2_middleOf_11 ?_
  obtain ⟨r2, hr2, hf⟩ := wb_b hf
  refine vp_callSi (W.runS (As := [.int (r1 - (1620000 : Int32)), .int (6480000 : Int32)]) (rest := [.int (0 : Int32), .ref (a0 0)]) ⟨hx, hb, hml, hown, hts⟩ (cn_J9_floorMod_7cf53 l D cB cI cZ N (r1 - (1620000 : Int32)) (6480000 : Int32) r2 hr2) (va_cwS 2 hts gX2_middleOf_J9_floorMod_7cf53 rfl rfl rfl csJ9_floorMod_7cf53 ⟨Nat.le_of_ble_eq_true rfl, Nat.le_of_ble_eq_true rfl⟩) (wb_preS (hP.sub (ws' := ([] : va_W)) [] rfl) hK) rfl rfl hl.1 rfl (lv_room (Nat.le_of_ble_eq_true rfl)) dX2_middleOf_13 ⟨Nat.le_of_ble_eq_true rfl, Nat.le_of_ble_eq_true rfl⟩) (fun r9 e9 => ?_)
  rw [e9]
  obtain ⟨r3, hr3, hf⟩ := wb_b hf
  refine vp_callSi (W.runV (As := [.int (0 : Int32), .int r2]) (rest := []) ⟨hx, hb, hml, hown, hts⟩ (cn_X2_placeOf l D cB cI cZ N a0 I0 M0 (0 : Int32) r2 r3 hr3) (cwV 2 hts gX2_middleOf_X2_placeOf rfl rfl rfl cdX2_placeOf ⟨Nat.le_of_ble_eq_true rfl, Nat.le_of_ble_eq_true rfl⟩) (wb_preV hP hK (va_recv hK hP (ci := 2) (q0 := 0) rfl rfl)) rfl rfl hl.1 rfl (lv_room (Nat.le_of_ble_eq_true rfl)) dX2_middleOf_16 ⟨Nat.le_of_ble_eq_true rfl, Nat.le_of_ble_eq_true rfl⟩) (fun r9 e9 => ?_)
  rw [e9]
  exact W.iret (v := r3) hx hb hr (fun t ht hW => ⟨_, rfl, Option.some.inj hf, ht⟩) (fun _ h => nomatch h) dX2_middleOf_19

