set_option maxHeartbeats 4000000 in
set_option maxRecDepth 100000 in
theorem cn_X5_swingOn (l : Launch) (D : va_G) (cB cI cZ : ClassId) (N : Nat) (a0 : Nat → Nat) (I0 : Nat → Int32) (M0 : Nat → Nat → Int32) (x1 : Int32) (x2 : Int32) (R : Int64) (hf : fX5_swingOn N I0 M0 x1 x2 = some R) : Met l yX5_swingOn wsX5_swingOn ({ frames := 1, cells := 0, slots := 0, locals := 40 }) (va_Pc [.ref (a0 0), .int x1, .int x2] (wb_pre D [(cB, .byte), (cI, .int), (cZ, .boolean)] (wWX5 cB cI cZ a0 I0 M0))) (vp_Sl (fun r => r = R)) 0 0 (fun _ => False) := by
  refine Met.ofW (cc := cX5_swingOn) (maxL := 7) (ret := (some .long)) (by decide) rfl ?_
  intro p e s m args below meth c s₁ B hml hv
  obtain ⟨rfl, hP, hK⟩ := hv
  have hx := B.exec
  have hb := B.bytes
  have hr := B.returns
  have hts := atoms_spec (ws := wsX5_swingOn) B.pre
  have hown : s.vm.findClass RX5 = some m.cls := findClass_of_methodNamed B.named
  have hlocks := B.notSynchronized
  have hinX5 : ∀ w ∈ u_ws RX5 TX5 6, w ∈ wsX5_swingOn := fun w h => List.mem_cons_of_mem _ (List.mem_append_right _ h)
  have hl := lv_entry ([.ref (a0 0), .int x1, .int x2]) (n := 7) (Nat.le_of_ble_eq_true rfl)
  rw [lg_entry_eq]
  generalize (lg_sl ([.ref (a0 0), .int x1, .int x2]) ++ List.replicate (7 - (lg_sl ([.ref (a0 0), .int x1, .int x2])).length) Slot.unset).toArray = ls at hl ⊢
  have hl : lv_has ls 7 [(0, .ref (a0 0)), (1, .int x1), (2, .int x2)] := hl
  unfold fX5_swingOn at hf
  refine lv_aload_n hx hb dX5_swingOn_0 rfl (lv_at hl 0 rfl) ?_
  refine va_get (D := D) (ci := 5) (v := .ref (a0 4)) (C := RX5) (T := TX5) (N := 6) hx hb hts hinX5 hown hK hP 0 rfl rfl 3 (by decide) (hts (.fieldLink RX5 21 "WheelBook$House" "period" "[I") (List.mem_of_getElem? (i := 1) rfl)) (fun _ h9 => h9) rfl dX5_swingOn_1 ?_
  refine lv_iload_n hx hb dX5_swingOn_4 rfl (lv_at hl 1 rfl) ?_
  obtain ⟨hin, hf⟩ := wb_n hf
  refine va_iald hx hb hK hP 4 1 rfl rfl hin dX5_swingOn_5 ?_
  obtain ⟨v1, ev1, hf⟩ := wb_v hf
  refine wb_topi ev1 ?_
  refine lv_istore_n (lv' := [(3, .int v1), (0, .ref (a0 0)), (1, .int x1), (2, .int x2)]) hx hb dX5_swingOn_6 rfl hl (by decide) rfl (fun ls hl => ?_)
  refine lv_aload_n hx hb dX5_swingOn_7 rfl (lv_at hl 1 rfl) ?_
  refine va_get (D := D) (ci := 5) (v := .ref (a0 3)) (C := RX5) (T := TX5) (N := 6) hx hb hts hinX5 hown hK hP 0 rfl rfl 2 (by decide) (hts (.fieldLink RX5 18 "WheelBook$House" "swing" "[I") (List.mem_of_getElem? (i := 2) rfl)) (fun _ h9 => h9) rfl dX5_swingOn_8 ?_
  refine lv_iload_n hx hb dX5_swingOn_11 rfl (lv_at hl 2 rfl) ?_
  obtain ⟨hin, hf⟩ := wb_n hf
  refine va_iald hx hb hK hP 3 1 rfl rfl hin dX5_swingOn_12 ?_
  refine lv_if_eq (tgt := 21) hx hb dX5_swingOn_13 (by decide) (fun hc => ?_) (fun hc => ?_)
  · replace hf := wb_t hc hf
    refine lv_lconst (v := (0 : Int64)) hx hb dX5_swingOn_21 (by decide) ?_
    exact W.lret (v := (0 : Int64)) hx hb hr (fun t ht hW => ⟨_, rfl, Option.some.inj hf, ht⟩) (fun _ h => nomatch h) dX5_swingOn_22
  · replace hf := wb_f hc hf
    refine lv_iload_n hx hb dX5_swingOn_16 rfl (lv_at hl 0 rfl) ?_
    refine lv_iconst (v := (1 : Int32)) hx hb dX5_swingOn_17 (by decide) ?_
    refine lv_icmp_ge (tgt := 23) hx hb dX5_swingOn_18 (by decide) (fun hc => ?_) (fun hc => ?_)
    · replace hf := wb_t hc hf
      refine lv_iload_n hx hb dX5_swingOn_23 rfl (lv_at hl 3 rfl) ?_
      refine lv_iload_n hx hb dX5_swingOn_24 rfl (lv_at hl 0 rfl) ?_
      obtain ⟨hz, hf⟩ := wb_n hf
      refine lv_irem hx hb dX5_swingOn_25 hz ?_
      obtain ⟨v2, ev2, hf⟩ := wb_v hf
      refine wb_topi ev2 ?_
      refine lv_istore (lv' := [(4, .int v2), (3, .int v1), (0, .ref (a0 0)), (1, .int x1), (2, .int x2)]) hx hb dX5_swingOn_26 hl (by decide) rfl (fun ls hl => ?_)
      refine lv_ldc2 (v := (2 : Int64)) hx hb hown (hts (.constantLong RX5 133 (2)) (List.mem_of_getElem? (i := 3) rfl)) dX5_swingOn_28 ?_
      refine lv_iconst (v := (2 : Int32)) hx hb dX5_swingOn_31 (by decide) ?_
      refine lv_iload hx hb dX5_swingOn_32 (lv_at hl 0 rfl) ?_
      refine lv_imul hx hb dX5_swingOn_34 ?_
      refine lv_iload_n hx hb dX5_swingOn_35 rfl (lv_at hl 1 rfl) ?_
      refine lv_isub hx hb dX5_swingOn_36 ?_
      refine va_mabs hx hb (hml.trans hl.1.symm) hown (hts (.methodLink RX5 135 Lib.Math.abs.name) (List.mem_of_getElem? (i := 4) rfl)) (hts (.static Lib.Math.abs.name) (List.mem_of_getElem? (i := 5) rfl)) (hts (.initialized "java/lang/Math") (List.mem_of_getElem? (i := 6) rfl)) (hts (.code Lib.Math.abs.name Lib.Math.abs.code 1 (some .int)) (List.mem_of_getElem? (i := 7) rfl)) (Nat.le_of_ble_eq_true rfl) (Nat.le_of_ble_eq_true rfl) (Nat.zero_le _) (Nat.zero_le _) dX5_swingOn_37 ?_
      refine lv_i2l hx hb dX5_swingOn_40 rfl ?_
      refine lv_lmul hx hb dX5_swingOn_41 ?_
      refine lv_iload_n hx hb dX5_swingOn_42 rfl (lv_at hl 1 rfl) ?_
      refine lv_i2l hx hb dX5_swingOn_43 rfl ?_
      refine lv_lsub hx hb dX5_swingOn_44 ?_
      obtain ⟨v3, ev3, hf⟩ := wb_v hf
      refine wb_topl ev3 ?_
      refine lv_lstore (lv' := [(5, .long v3), (4, .int v2), (3, .int v1), (0, .ref (a0 0)), (1, .int x1), (2, .int x2)]) hx hb dX5_swingOn_45 hl (by decide) rfl (fun ls hl => ?_)
      refine lv_lload hx hb dX5_swingOn_47 (lv_at hl 0 rfl) ?_
      refine lv_aload_n hx hb dX5_swingOn_49 rfl (lv_at hl 3 rfl) ?_
      refine va_get (D := D) (ci := 5) (v := .ref (a0 3)) (C := RX5) (T := TX5) (N := 6) hx hb hts hinX5 hown hK hP 0 rfl rfl 2 (by decide) (hts (.fieldLink RX5 18 "WheelBook$House" "swing" "[I") (List.mem_of_getElem? (i := 2) rfl)) (fun _ h9 => h9) rfl dX5_swingOn_50 ?_
      refine lv_iload_n hx hb dX5_swingOn_53 rfl (lv_at hl 4 rfl) ?_
      obtain ⟨hin, hf⟩ := wb_n hf
      refine va_iald hx hb hK hP 3 1 rfl rfl hin dX5_swingOn_54 ?_
      refine lv_i2l hx hb dX5_swingOn_55 rfl ?_
      refine lv_lmul hx hb dX5_swingOn_56 ?_
      refine lv_iload_n hx hb dX5_swingOn_57 rfl (lv_at hl 2 rfl) ?_
      refine lv_i2l hx hb dX5_swingOn_58 rfl ?_
      obtain ⟨r4, hr4, hf⟩ := wb_b hf
      refine vp_callSl (W.runS (As := [.long (v3 * (M0 2 (x1).toNatClampNeg).toInt64), .long v1.toInt64]) (rest := []) ⟨hx, hb, hml, hown, hts⟩ (cn_J9_floorDiv_f86c9 l D cB cI cZ N (v3 * (M0 2 (x1).toNatClampNeg).toInt64) v1.toInt64 r4 hr4) (va_cwS 2 hts gX5_swingOn_J9_floorDiv_f86c9 rfl rfl rfl csJ9_floorDiv_f86c9 ⟨Nat.le_of_ble_eq_true rfl, Nat.le_of_ble_eq_true rfl⟩) (wb_preS (hP.sub (ws' := ([] : va_W)) [] rfl) hK) rfl rfl hl.1 rfl (lv_room (Nat.le_of_ble_eq_true rfl)) dX5_swingOn_59 ⟨Nat.le_of_ble_eq_true rfl, Nat.le_of_ble_eq_true rfl⟩) (fun r9 e9 => ?_)
      rw [e9]
      exact W.lret (v := r4) hx hb hr (fun t ht hW => ⟨_, rfl, Option.some.inj hf, ht⟩) (fun _ h => nomatch h) dX5_swingOn_62
    · replace hf := wb_f hc hf
      refine lv_lconst (v := (0 : Int64)) hx hb dX5_swingOn_21 (by decide) ?_
      exact W.lret (v := (0 : Int64)) hx hb hr (fun t ht hW => ⟨_, rfl, Option.some.inj hf, ht⟩) (fun _ h => nomatch h) dX5_swingOn_22

