set_option maxHeartbeats 4000000 in
set_option maxRecDepth 100000 in
theorem cn_X5_placeOn (l : Launch) (D : va_G) (cB cI cZ : ClassId) (N : Nat) (a0 : Nat → Nat) (I0 : Nat → Int32) (M0 : Nat → Nat → Int32) (x1 : Int32) (x2 : Int32) (x3 : Int32) (R : Int32) (hf : fX5_placeOn N I0 M0 x1 x2 x3 = some R) : Met l yX5_placeOn wsX5_placeOn ({ frames := 2, cells := 0, slots := 0, locals := 66 }) (va_Pc [.ref (a0 0), .int x1, .int x2, .int x3] (wb_pre D [(cB, .byte), (cI, .int), (cZ, .boolean)] (wWX5 cB cI cZ a0 I0 M0))) (vp_Si (fun r => r = R)) 0 0 (fun _ => False) := by
  refine Met.ofW (cc := cX5_placeOn) (maxL := 7) (ret := (some .int)) (by decide) rfl ?_
  intro p e s m args below meth c s₁ B hml hv
  obtain ⟨rfl, hP, hK⟩ := hv
  have hx := B.exec
  have hb := B.bytes
  have hr := B.returns
  have hts := atoms_spec (ws := wsX5_placeOn) B.pre
  have hown : s.vm.findClass RX5 = some m.cls := findClass_of_methodNamed B.named
  have hlocks := B.notSynchronized
  have hinX5 : ∀ w ∈ u_ws RX5 TX5 6, w ∈ wsX5_placeOn := fun w h => List.mem_cons_of_mem _ (List.mem_append_right _ h)
  have hl := lv_entry ([.ref (a0 0), .int x1, .int x2, .int x3]) (n := 7) (Nat.le_of_ble_eq_true rfl)
  rw [lg_entry_eq]
  generalize (lg_sl ([.ref (a0 0), .int x1, .int x2, .int x3]) ++ List.replicate (7 - (lg_sl ([.ref (a0 0), .int x1, .int x2, .int x3])).length) Slot.unset).toArray = ls at hl ⊢
  have hl : lv_has ls 7 [(0, .ref (a0 0)), (1, .int x1), (2, .int x2), (3, .int x3)] := hl
  unfold fX5_placeOn at hf
  refine lv_bipush (v := (7 : Int32)) hx hb dX5_placeOn_0 (by decide) ?_
  refine lv_iload_n hx hb dX5_placeOn_2 rfl (lv_at hl 1 rfl) ?_
  refine lv_imul hx hb dX5_placeOn_3 ?_
  refine lv_iload_n hx hb dX5_placeOn_4 rfl (lv_at hl 2 rfl) ?_
  refine lv_iadd hx hb dX5_placeOn_5 ?_
  obtain ⟨v1, ev1, hf⟩ := wb_v hf
  refine wb_topi ev1 ?_
  refine lv_istore (lv' := [(4, .int v1), (0, .ref (a0 0)), (1, .int x1), (2, .int x2), (3, .int x3)]) hx hb dX5_placeOn_6 hl (by decide) rfl (fun ls hl => ?_)
  refine lv_aload_n hx hb dX5_placeOn_8 rfl (lv_at hl 1 rfl) ?_
  refine va_get (D := D) (ci := 5) (v := .ref (a0 2)) (C := RX5) (T := TX5) (N := 6) hx hb hts hinX5 hown hK hP 0 rfl rfl 1 (by decide) (hts (.fieldLink RX5 15 "WheelBook$House" "goes" "[I") (List.mem_of_getElem? (i := 1) rfl)) (fun _ h9 => h9) rfl dX5_placeOn_9 ?_
  refine lv_iload hx hb dX5_placeOn_12 (lv_at hl 0 rfl) ?_
  obtain ⟨hin, hf⟩ := wb_n hf
  refine va_iald hx hb hK hP 2 1 rfl rfl hin dX5_placeOn_14 ?_
  refine lv_i2l hx hb dX5_placeOn_15 rfl ?_
  refine lv_iload_n hx hb dX5_placeOn_16 rfl (lv_at hl 4 rfl) ?_
  refine lv_i2l hx hb dX5_placeOn_17 rfl ?_
  refine lv_lmul hx hb dX5_placeOn_18 ?_
  refine lv_ldc2 (v := (1000 : Int64)) hx hb hown (hts (.constantLong RX5 119 (1000)) (List.mem_of_getElem? (i := 2) rfl)) dX5_placeOn_19 ?_
  refine lv_ldiv hx hb dX5_placeOn_22 (by decide) ?_
  obtain ⟨v2, ev2, hf⟩ := wb_v hf
  refine wb_topl ev2 ?_
  refine lv_lstore (lv' := [(5, .long v2), (4, .int v1), (0, .ref (a0 0)), (1, .int x1), (2, .int x2), (3, .int x3)]) hx hb dX5_placeOn_23 hl (by decide) rfl (fun ls hl => ?_)
  refine lv_aload_n hx hb dX5_placeOn_25 rfl (lv_at hl 2 rfl) ?_
  refine va_get (D := D) (ci := 5) (v := .ref (a0 1)) (C := RX5) (T := TX5) (N := 6) hx hb hts hinX5 hown hK hP 0 rfl rfl 0 (by decide) (hts (.fieldLink RX5 11 "WheelBook$House" "at" "[I") (List.mem_of_getElem? (i := 3) rfl)) (fun _ h9 => h9) rfl dX5_placeOn_26 ?_
  refine lv_iload hx hb dX5_placeOn_29 (lv_at hl 1 rfl) ?_
  obtain ⟨hin, hf⟩ := wb_n hf
  refine va_iald hx hb hK hP 1 1 rfl rfl hin dX5_placeOn_31 ?_
  refine lv_i2l hx hb dX5_placeOn_32 rfl ?_
  refine lv_lload hx hb dX5_placeOn_33 (lv_at hl 0 rfl) ?_
  refine lv_ladd hx hb dX5_placeOn_35 ?_
  refine lv_aload_n hx hb dX5_placeOn_36 rfl (lv_at hl 2 rfl) ?_
  refine lv_iload hx hb dX5_placeOn_37 (lv_at hl 1 rfl) ?_
  refine lv_iload_n hx hb dX5_placeOn_39 rfl (lv_at hl 5 rfl) ?_
  obtain ⟨r3, hr3, hf⟩ := wb_b hf
  refine vp_callSl (W.runV (As := [.int v1, .int x3]) (rest := [.long ((M0 0 (v1).toNatClampNeg).toInt64 + v2)]) ⟨hx, hb, hml, hown, hts⟩ (cn_X5_swingOn l D cB cI cZ N a0 I0 M0 v1 x3 r3 hr3) (cwV 2 hts gX5_placeOn_X5_swingOn rfl rfl rfl cdX5_swingOn ⟨Nat.le_of_ble_eq_true rfl, Nat.le_of_ble_eq_true rfl⟩) (wb_preV hP hK (va_recv hK hP (ci := 5) (q0 := 0) rfl rfl)) rfl rfl hl.1 rfl (lv_room (Nat.le_of_ble_eq_true rfl)) dX5_placeOn_40 ⟨Nat.le_of_ble_eq_true rfl, Nat.le_of_ble_eq_true rfl⟩) (fun r9 e9 => ?_)
  rw [e9]
  refine lv_ladd hx hb dX5_placeOn_43 ?_
  refine lv_ldc2 (v := (21600 : Int64)) hx hb hown (hts (.constantLong RX5 125 (21600)) (List.mem_of_getElem? (i := 4) rfl)) dX5_placeOn_44 ?_
  obtain ⟨r4, hr4, hf⟩ := wb_b hf
  refine vp_callSl (W.runS (As := [.long (((M0 0 (v1).toNatClampNeg).toInt64 + v2) + r3), .long (21600 : Int64)]) (rest := []) ⟨hx, hb, hml, hown, hts⟩ (cn_J9_floorMod_f86c9 l D cB cI cZ N (((M0 0 (v1).toNatClampNeg).toInt64 + v2) + r3) (21600 : Int64) r4 hr4) (va_cwS 2 hts gX5_placeOn_J9_floorMod_f86c9 rfl rfl rfl csJ9_floorMod_f86c9 ⟨Nat.le_of_ble_eq_true rfl, Nat.le_of_ble_eq_true rfl⟩) (wb_preS (hP.sub (ws' := ([] : va_W)) [] rfl) hK) rfl rfl hl.1 rfl (lv_room (Nat.le_of_ble_eq_true rfl)) dX5_placeOn_47 ⟨Nat.le_of_ble_eq_true rfl, Nat.le_of_ble_eq_true rfl⟩) (fun r9 e9 => ?_)
  rw [e9]
  refine lv_l2i hx hb dX5_placeOn_50 rfl ?_
  exact W.iret (v := r4.toInt32) hx hb hr (fun t ht hW => ⟨_, rfl, Option.some.inj hf, ht⟩) (fun _ h => nomatch h) dX5_placeOn_51

