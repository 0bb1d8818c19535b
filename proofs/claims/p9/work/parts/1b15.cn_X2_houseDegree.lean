set_option maxHeartbeats 4000000 in
set_option maxRecDepth 100000 in
theorem cn_X2_houseDegree (l : Launch) (D : va_G) (cB cI cZ : ClassId) (N : Nat) (a0 : Nat → Nat) (I0 : Nat → Int32) (M0 : Nat → Nat → Int32) (x1 : Int32) (x2 : Int32) (x3 : Int32) (x4 : Int32) (R : Int32) (hf : fX2_houseDegree N I0 M0 x1 x2 x3 x4 = some R) : Met l yX2_houseDegree wsX2_houseDegree ({ frames := 3, cells := 0, slots := 0, locals := 74 }) (va_Pc [.ref (a0 0), .int x1, .int x2, .int x3, .int x4] (wb_pre D [(cB, .byte), (cI, .int), (cZ, .boolean)] (wWX2 cB cI cZ a0 I0 M0))) (vp_Si (fun r => r = R)) 0 0 (fun _ => False) := by
  refine Met.ofW (cc := cX2_houseDegree) (maxL := 5) (ret := (some .int)) (by decide) rfl ?_
  intro p e s m args below meth c s₁ B hml hv
  obtain ⟨rfl, hP, hK⟩ := hv
  have hx := B.exec
  have hb := B.bytes
  have hr := B.returns
  have hts := atoms_spec (ws := wsX2_houseDegree) B.pre
  have hown : s.vm.findClass RX2 = some m.cls := findClass_of_methodNamed B.named
  have hlocks := B.notSynchronized
  have hl := lv_entry ([.ref (a0 0), .int x1, .int x2, .int x3, .int x4]) (n := 5) (Nat.le_of_ble_eq_true rfl)
  rw [lg_entry_eq]
  generalize (lg_sl ([.ref (a0 0), .int x1, .int x2, .int x3, .int x4]) ++ List.replicate (5 - (lg_sl ([.ref (a0 0), .int x1, .int x2, .int x3, .int x4])).length) Slot.unset).toArray = ls at hl ⊢
  have hl : lv_has ls 5 [(0, .ref (a0 0)), (1, .int x1), (2, .int x2), (3, .int x3), (4, .int x4)] := hl
  unfold fX2_houseDegree at hf
  refine lv_iload_n hx hb dX2_houseDegree_0 rfl (lv_at hl 2 rfl) ?_
  refine lv_if_ne (tgt := 20) hx hb dX2_houseDegree_1 (by decide) (fun hc => ?_) (fun hc => ?_)
  · replace hf := wb_f hc hf
    refine lv_iload_n hx hb dX2_houseDegree_20 rfl (lv_at hl 2 rfl) ?_
    refine lv_iconst (v := (1 : Int32)) hx hb dX2_houseDegree_21 (by decide) ?_
    refine lv_icmp_ne (tgt := 39) hx hb dX2_houseDegree_22 (by decide) (fun hc => ?_) (fun hc => ?_)
    · replace hf := wb_f hc hf
      refine lv_aload_n hx hb dX2_houseDegree_39 rfl (lv_at hl 0 rfl) ?_
      refine lv_iload_n hx hb dX2_houseDegree_40 rfl (lv_at hl 1 rfl) ?_
      refine lv_iload_n hx hb dX2_houseDegree_41 rfl (lv_at hl 3 rfl) ?_
      refine lv_iload hx hb dX2_houseDegree_42 (lv_at hl 4 rfl) ?_
      obtain ⟨r1, hr1, hf⟩ := wb_b hf
      refine vp_callSi (W.runV (As := [.int x1, .int x3, .int x4]) (rest := []) ⟨hx, hb, hml, hown, hts⟩ (cn_X2_houseByMiddle l D cB cI cZ N a0 I0 M0 x1 x3 x4 r1 hr1) (cwV 3 hts gX2_houseDegree_X2_houseByMiddle rfl rfl rfl cdX2_houseByMiddle ⟨Nat.le_of_ble_eq_true rfl, Nat.le_of_ble_eq_true rfl⟩) (wb_preV hP hK (va_recv hK hP (ci := 2) (q0 := 0) rfl rfl)) rfl rfl hl.1 rfl (lv_room (Nat.le_of_ble_eq_true rfl)) dX2_houseDegree_44 ⟨Nat.le_of_ble_eq_true rfl, Nat.le_of_ble_eq_true rfl⟩) (fun r9 e9 => ?_)
      rw [e9]
      exact W.iret (v := r1) hx hb hr (fun t ht hW => ⟨_, rfl, Option.some.inj hf, ht⟩) (fun _ h => nomatch h) dX2_houseDegree_47
    · replace hf := wb_t hc hf
      refine lv_iload_n hx hb dX2_houseDegree_25 rfl (lv_at hl 1 rfl) ?_
      refine lv_bipush (v := (30 : Int32)) hx hb dX2_houseDegree_26 (by decide) ?_
      refine lv_iload hx hb dX2_houseDegree_28 (lv_at hl 4 rfl) ?_
      refine lv_iconst (v := (1 : Int32)) hx hb dX2_houseDegree_30 (by decide) ?_
      refine lv_isub hx hb dX2_houseDegree_31 ?_
      refine lv_imul hx hb dX2_houseDegree_32 ?_
      refine lv_iadd hx hb dX2_houseDegree_33 ?_
      refine lv_sipush (v := (360 : Int32)) hx hb dX2_houseDegree_34 (by decide) ?_
      refine lv_irem hx hb dX2_houseDegree_37 (by decide) ?_
      exact W.iret (v := ((x1 + ((30 : Int32) * (x4 - (1 : Int32)))) - (x1 + ((30 : Int32) * (x4 - (1 : Int32)))) / (360 : Int32) * (360 : Int32))) hx hb hr (fun t ht hW => ⟨_, rfl, Option.some.inj hf, ht⟩) (fun _ h => nomatch h) dX2_houseDegree_38
  · replace hf := wb_t hc hf
    refine lv_iload_n hx hb dX2_houseDegree_4 rfl (lv_at hl 1 rfl) ?_
    refine lv_bipush (v := (30 : Int32)) hx hb dX2_houseDegree_5 (by decide) ?_
    refine lv_idiv hx hb dX2_houseDegree_7 (by decide) ?_
    refine lv_iload hx hb dX2_houseDegree_8 (lv_at hl 4 rfl) ?_
    refine lv_iadd hx hb dX2_houseDegree_10 ?_
    refine lv_iconst (v := (1 : Int32)) hx hb dX2_houseDegree_11 (by decide) ?_
    refine lv_isub hx hb dX2_houseDegree_12 ?_
    refine lv_bipush (v := (12 : Int32)) hx hb dX2_houseDegree_13 (by decide) ?_
    refine lv_irem hx hb dX2_houseDegree_15 (by decide) ?_
    refine lv_bipush (v := (30 : Int32)) hx hb dX2_houseDegree_16 (by decide) ?_
    refine lv_imul hx hb dX2_houseDegree_18 ?_
    exact W.iret (v := (((((x1 / (30 : Int32)) + x4) - (1 : Int32)) - (((x1 / (30 : Int32)) + x4) - (1 : Int32)) / (12 : Int32) * (12 : Int32)) * (30 : Int32))) hx hb hr (fun t ht hW => ⟨_, rfl, Option.some.inj hf, ht⟩) (fun _ h => nomatch h) dX2_houseDegree_19

