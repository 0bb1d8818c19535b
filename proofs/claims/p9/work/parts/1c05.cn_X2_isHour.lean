set_option maxHeartbeats 4000000 in
set_option maxRecDepth 100000 in
theorem cn_X2_isHour (l : Launch) (D : va_G) (cB cI cZ : ClassId) (N : Nat) (a0 : Nat → Nat) (I0 : Nat → Int32) (M0 : Nat → Nat → Int32) (x1 : Int32) (x2 : Int32) (x3 : Int32) (x4 : Int32) (R : Int32) (hf : fX2_isHour N I0 M0 x1 x2 x3 x4 = some R) : Met l yX2_isHour wsX2_isHour ({ frames := 2, cells := 0, slots := 0, locals := 48 }) (va_Pc [.ref (a0 0), .int x1, .int x2, .int x3, .int x4] (wb_pre D [(cB, .byte), (cI, .int), (cZ, .boolean)] (wWX2 cB cI cZ a0 I0 M0))) (vp_Si (fun r => r = R)) 0 0 (fun _ => False) := by
  refine Met.ofW (cc := cX2_isHour) (maxL := 5) (ret := (some .boolean)) (by decide) rfl ?_
  intro p e s m args below meth c s₁ B hml hv
  obtain ⟨rfl, hP, hK⟩ := hv
  have hx := B.exec
  have hb := B.bytes
  have hr := B.returns
  have hts := atoms_spec (ws := wsX2_isHour) B.pre
  have hown : s.vm.findClass RX2 = some m.cls := findClass_of_methodNamed B.named
  have hlocks := B.notSynchronized
  have hl := lv_entry ([.ref (a0 0), .int x1, .int x2, .int x3, .int x4]) (n := 5) (Nat.le_of_ble_eq_true rfl)
  rw [lg_entry_eq]
  generalize (lg_sl ([.ref (a0 0), .int x1, .int x2, .int x3, .int x4]) ++ List.replicate (5 - (lg_sl ([.ref (a0 0), .int x1, .int x2, .int x3, .int x4])).length) Slot.unset).toArray = ls at hl ⊢
  have hl : lv_has ls 5 [(0, .ref (a0 0)), (1, .int x1), (2, .int x2), (3, .int x3), (4, .int x4)] := hl
  unfold fX2_isHour at hf
  refine lv_aload_n hx hb dX2_isHour_0 rfl (lv_at hl 0 rfl) ?_
  refine lv_iload_n hx hb dX2_isHour_1 rfl (lv_at hl 1 rfl) ?_
  refine lv_bipush (v := (60 : Int32)) hx hb dX2_isHour_2 (by decide) ?_
  refine lv_iload_n hx hb dX2_isHour_4 rfl (lv_at hl 3 rfl) ?_
  refine lv_imul hx hb dX2_isHour_5 ?_
  refine lv_iload_n hx hb dX2_isHour_6 rfl (lv_at hl 2 rfl) ?_
  obtain ⟨r1, hr1, hf⟩ := wb_b hf
  refine vp_callSi (W.runV (As := [.int x1, .int ((60 : Int32) * x3), .int x2]) (rest := []) ⟨hx, hb, hml, hown, hts⟩ (cn_X2_risingAt l D cB cI cZ N a0 I0 M0 x1 ((60 : Int32) * x3) x2 r1 hr1) (cwV 3 hts gX2_isHour_X2_risingAt rfl rfl rfl cdX2_risingAt ⟨Nat.le_of_ble_eq_true rfl, Nat.le_of_ble_eq_true rfl⟩) (wb_preV hP hK (va_recv hK hP (ci := 2) (q0 := 0) rfl rfl)) rfl rfl hl.1 rfl (lv_room (Nat.le_of_ble_eq_true rfl)) dX2_isHour_7 ⟨Nat.le_of_ble_eq_true rfl, Nat.le_of_ble_eq_true rfl⟩) (fun r9 e9 => ?_)
  rw [e9]
  refine lv_bipush (v := (60 : Int32)) hx hb dX2_isHour_10 (by decide) ?_
  refine lv_idiv hx hb dX2_isHour_12 (by decide) ?_
  refine lv_iload hx hb dX2_isHour_13 (lv_at hl 4 rfl) ?_
  refine lv_icmp_ne (tgt := 22) hx hb dX2_isHour_15 (by decide) (fun hc => ?_) (fun hc => ?_)
  · replace hf := wb_f hc hf
    refine lv_iconst (v := (0 : Int32)) hx hb dX2_isHour_22 (by decide) ?_
    exact W.zret (v := (0 : Int32)) hx hb hr (by decide) (fun t ht hW => ⟨_, rfl, Option.some.inj hf, ht⟩) (fun _ h => nomatch h) dX2_isHour_23
  · replace hf := wb_t hc hf
    refine lv_iconst (v := (1 : Int32)) hx hb dX2_isHour_18 (by decide) ?_
    refine lv_goto (tgt := 23) hx hb dX2_isHour_19 (by decide) ?_
    exact W.zret (v := (1 : Int32)) hx hb hr (by decide) (fun t ht hW => ⟨_, rfl, Option.some.inj hf, ht⟩) (fun _ h => nomatch h) dX2_isHour_23

