set_option maxHeartbeats 4000000 in
set_option maxRecDepth 100000 in
theorem cn_X2_risingAt (l : Launch) (D : va_G) (cB cI cZ : ClassId) (N : Nat) (a0 : Nat → Nat) (I0 : Nat → Int32) (M0 : Nat → Nat → Int32) (x1 : Int32) (x2 : Int32) (x3 : Int32) (R : Int32) (hf : fX2_risingAt N I0 M0 x1 x2 x3 = some R) : Met l yX2_risingAt wsX2_risingAt ({ frames := 1, cells := 0, slots := 0, locals := 25 }) (va_Pc [.ref (a0 0), .int x1, .int x2, .int x3] (wb_pre D [(cB, .byte), (cI, .int), (cZ, .boolean)] (wWX2 cB cI cZ a0 I0 M0))) (vp_Si (fun r => r = R)) 0 0 (fun _ => False) := by
  refine Met.ofW (cc := cX2_risingAt) (maxL := 4) (ret := (some .int)) (by decide) rfl ?_
  intro p e s m args below meth c s₁ B hml hv
  obtain ⟨rfl, hP, hK⟩ := hv
  have hx := B.exec
  have hb := B.bytes
  have hr := B.returns
  have hts := atoms_spec (ws := wsX2_risingAt) B.pre
  have hown : s.vm.findClass RX2 = some m.cls := findClass_of_methodNamed B.named
  have hlocks := B.notSynchronized
  have hl := lv_entry ([.ref (a0 0), .int x1, .int x2, .int x3]) (n := 4) (Nat.le_of_ble_eq_true rfl)
  rw [lg_entry_eq]
  generalize (lg_sl ([.ref (a0 0), .int x1, .int x2, .int x3]) ++ List.replicate (4 - (lg_sl ([.ref (a0 0), .int x1, .int x2, .int x3])).length) Slot.unset).toArray = ls at hl ⊢
  have hl : lv_has ls 4 [(0, .ref (a0 0)), (1, .int x1), (2, .int x2), (3, .int x3)] := hl
  unfold fX2_risingAt at hf
  refine lv_aload_n hx hb dX2_risingAt_0 rfl (lv_at hl 0 rfl) ?_
  refine lv_iload_n hx hb dX2_risingAt_1 rfl (lv_at hl 1 rfl) ?_
  refine lv_aload_n hx hb dX2_risingAt_2 rfl (lv_at hl 0 rfl) ?_
  refine lv_iload_n hx hb dX2_risingAt_3 rfl (lv_at hl 1 rfl) ?_
  refine lv_iload_n hx hb dX2_risingAt_4 rfl (lv_at hl 2 rfl) ?_
  obtain ⟨r1, hr1, hf⟩ := wb_b hf
  refine vp_callSi (W.runV (As := [.int x1, .int x2]) (rest := [.int x1, .ref (a0 0)]) ⟨hx, hb, hml, hown, hts⟩ (cn_X2_climbOf l D cB cI cZ N a0 I0 M0 x1 x2 r1 hr1) (cwV 2 hts gX2_risingAt_X2_climbOf rfl rfl rfl cdX2_climbOf ⟨Nat.le_of_ble_eq_true rfl, Nat.le_of_ble_eq_true rfl⟩) (wb_preV hP hK (va_recv hK hP (ci := 2) (q0 := 0) rfl rfl)) rfl rfl hl.1 rfl (lv_room (Nat.le_of_ble_eq_true rfl)) dX2_risingAt_5 ⟨Nat.le_of_ble_eq_true rfl, Nat.le_of_ble_eq_true rfl⟩) (fun r9 e9 => ?_)
  rw [e9]
  refine lv_sipush (v := (18000 : Int32)) hx hb dX2_risingAt_8 (by decide) ?_
  refine lv_iload_n hx hb dX2_risingAt_11 rfl (lv_at hl 3 rfl) ?_
  refine lv_imul hx hb dX2_risingAt_12 ?_
  refine lv_iadd hx hb dX2_risingAt_13 ?_
  refine lv_ldc (v := (6480000 : Int32)) hx hb hown (hts (.constant RX2 59 (6480000)) (List.mem_of_getElem? (i := 1) rfl)) dX2_risingAt_14 ?_
  refine lv_irem hx hb dX2_risingAt_16 (by decide) ?_
  obtain ⟨r2, hr2, hf⟩ := wb_b hf
  refine vp_callSi (W.runV (As := [.int x1, .int ((r1 + ((18000 : Int32) * x3)) - (r1 + ((18000 : Int32) * x3)) / (6480000 : Int32) * (6480000 : Int32))]) (rest := []) ⟨hx, hb, hml, hown, hts⟩ (cn_X2_placeOf l D cB cI cZ N a0 I0 M0 x1 ((r1 + ((18000 : Int32) * x3)) - (r1 + ((18000 : Int32) * x3)) / (6480000 : Int32) * (6480000 : Int32)) r2 hr2) (cwV 2 hts gX2_risingAt_X2_placeOf rfl rfl rfl cdX2_placeOf ⟨Nat.le_of_ble_eq_true rfl, Nat.le_of_ble_eq_true rfl⟩) (wb_preV hP hK (va_recv hK hP (ci := 2) (q0 := 0) rfl rfl)) rfl rfl hl.1 rfl (lv_room (Nat.le_of_ble_eq_true rfl)) dX2_risingAt_17 ⟨Nat.le_of_ble_eq_true rfl, Nat.le_of_ble_eq_true rfl⟩) (fun r9 e9 => ?_)
  rw [e9]
  exact W.iret (v := r2) hx hb hr (fun t ht hW => ⟨_, rfl, Option.some.inj hf, ht⟩) (fun _ h => nomatch h) dX2_risingAt_20

