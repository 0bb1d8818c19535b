set_option maxHeartbeats 4000000 in
set_option maxRecDepth 100000 in
theorem cn_X5_degreeOn (l : Launch) (D : va_G) (cB cI cZ : ClassId) (N : Nat) (a0 : Nat → Nat) (I0 : Nat → Int32) (M0 : Nat → Nat → Int32) (x1 : Int32) (x2 : Int32) (x3 : Int32) (R : Int32) (hf : fX5_degreeOn N I0 M0 x1 x2 x3 = some R) : Met l yX5_degreeOn wsX5_degreeOn ({ frames := 3, cells := 0, slots := 0, locals := 92 }) (va_Pc [.ref (a0 0), .int x1, .int x2, .int x3] (wb_pre D [(cB, .byte), (cI, .int), (cZ, .boolean)] (wWX5 cB cI cZ a0 I0 M0))) (vp_Si (fun r => r = R)) 0 0 (fun _ => False) := by
  refine Met.ofW (cc := cX5_degreeOn) (maxL := 4) (ret := (some .int)) (by decide) rfl ?_
  intro p e s m args below meth c s₁ B hml hv
  obtain ⟨rfl, hP, hK⟩ := hv
  have hx := B.exec
  have hb := B.bytes
  have hr := B.returns
  have hts := atoms_spec (ws := wsX5_degreeOn) B.pre
  have hown : s.vm.findClass RX5 = some m.cls := findClass_of_methodNamed B.named
  have hlocks := B.notSynchronized
  have hl := lv_entry ([.ref (a0 0), .int x1, .int x2, .int x3]) (n := 4) (Nat.le_of_ble_eq_true rfl)
  rw [lg_entry_eq]
  generalize (lg_sl ([.ref (a0 0), .int x1, .int x2, .int x3]) ++ List.replicate (4 - (lg_sl ([.ref (a0 0), .int x1, .int x2, .int x3])).length) Slot.unset).toArray = ls at hl ⊢
  have hl : lv_has ls 4 [(0, .ref (a0 0)), (1, .int x1), (2, .int x2), (3, .int x3)] := hl
  unfold fX5_degreeOn at hf
  refine lv_aload_n hx hb dX5_degreeOn_0 rfl (lv_at hl 0 rfl) ?_
  refine lv_iload_n hx hb dX5_degreeOn_1 rfl (lv_at hl 1 rfl) ?_
  refine lv_iload_n hx hb dX5_degreeOn_2 rfl (lv_at hl 2 rfl) ?_
  refine lv_iload_n hx hb dX5_degreeOn_3 rfl (lv_at hl 3 rfl) ?_
  obtain ⟨r1, hr1, hf⟩ := wb_b hf
  refine vp_callSi (W.runV (As := [.int x1, .int x2, .int x3]) (rest := []) ⟨hx, hb, hml, hown, hts⟩ (cn_X5_placeOn l D cB cI cZ N a0 I0 M0 x1 x2 x3 r1 hr1) (cwV 3 hts gX5_degreeOn_X5_placeOn rfl rfl rfl cdX5_placeOn ⟨Nat.le_of_ble_eq_true rfl, Nat.le_of_ble_eq_true rfl⟩) (wb_preV hP hK (va_recv hK hP (ci := 5) (q0 := 0) rfl rfl)) rfl rfl hl.1 rfl (lv_room (Nat.le_of_ble_eq_true rfl)) dX5_degreeOn_4 ⟨Nat.le_of_ble_eq_true rfl, Nat.le_of_ble_eq_true rfl⟩) (fun r9 e9 => ?_)
  rw [e9]
  refine lv_bipush (v := (60 : Int32)) hx hb dX5_degreeOn_7 (by decide) ?_
  refine lv_idiv hx hb dX5_degreeOn_9 (by decide) ?_
  exact W.iret (v := (r1 / (60 : Int32))) hx hb hr (fun t ht hW => ⟨_, rfl, Option.some.inj hf, ht⟩) (fun _ h => nomatch h) dX5_degreeOn_10

