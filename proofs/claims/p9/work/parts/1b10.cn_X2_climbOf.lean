set_option maxHeartbeats 4000000 in
set_option maxRecDepth 100000 in
theorem cn_X2_climbOf (l : Launch) (D : va_G) (cB cI cZ : ClassId) (N : Nat) (a0 : Nat → Nat) (I0 : Nat → Int32) (M0 : Nat → Nat → Int32) (x1 : Int32) (x2 : Int32) (R : Int32) (hf : fX2_climbOf N I0 M0 x1 x2 = some R) : Met l yX2_climbOf wsX2_climbOf ({ frames := 0, cells := 0, slots := 0, locals := 0 }) (va_Pc [.ref (a0 0), .int x1, .int x2] (wb_pre D [(cB, .byte), (cI, .int), (cZ, .boolean)] (wWX2 cB cI cZ a0 I0 M0))) (vp_Si (fun r => r = R)) 0 0 (fun _ => False) := by
  refine Met.ofW (cc := cX2_climbOf) (maxL := 6) (ret := (some .int)) (by decide) rfl ?_
  intro p e s m args below meth c s₁ B hml hv
  obtain ⟨rfl, hP, hK⟩ := hv
  have hx := B.exec
  have hb := B.bytes
  have hr := B.returns
  have hts := atoms_spec (ws := wsX2_climbOf) B.pre
  have hown : s.vm.findClass RX2 = some m.cls := findClass_of_methodNamed B.named
  have hlocks := B.notSynchronized
  have hinX2 : ∀ w ∈ u_ws RX2 TX2 2, w ∈ wsX2_climbOf := fun w h => List.mem_cons_of_mem _ (List.mem_append_right _ h)
  have hl := lv_entry ([.ref (a0 0), .int x1, .int x2]) (n := 6) (Nat.le_of_ble_eq_true rfl)
  rw [lg_entry_eq]
  generalize (lg_sl ([.ref (a0 0), .int x1, .int x2]) ++ List.replicate (6 - (lg_sl ([.ref (a0 0), .int x1, .int x2])).length) Slot.unset).toArray = ls at hl ⊢
  have hl : lv_has ls 6 [(0, .ref (a0 0)), (1, .int x1), (2, .int x2)] := hl
  unfold fX2_climbOf at hf
  refine lv_iload_n hx hb dX2_climbOf_0 rfl (lv_at hl 2 rfl) ?_
  refine lv_sipush (v := (1800 : Int32)) hx hb dX2_climbOf_1 (by decide) ?_
  refine lv_idiv hx hb dX2_climbOf_4 (by decide) ?_
  obtain ⟨v1, ev1, hf⟩ := wb_v hf
  refine wb_topi ev1 ?_
  refine lv_istore_n (lv' := [(3, .int v1), (0, .ref (a0 0)), (1, .int x1), (2, .int x2)]) hx hb dX2_climbOf_5 rfl hl (by decide) rfl (fun ls hl => ?_)
  refine lv_aload_n hx hb dX2_climbOf_6 rfl (lv_at hl 1 rfl) ?_
  refine va_get (D := D) (ci := 2) (v := .ref (a0 1)) (C := RX2) (T := TX2) (N := 2) hx hb hts hinX2 hown hK hP 0 rfl rfl 0 (by decide) (hts (.fieldLink RX2 11 "WheelBook$Climates" "ahead" "[I") (List.mem_of_getElem? (i := 1) rfl)) (fun _ h9 => h9) rfl dX2_climbOf_7 ?_
  refine lv_bipush (v := (13 : Int32)) hx hb dX2_climbOf_10 (by decide) ?_
  refine lv_iload_n hx hb dX2_climbOf_12 rfl (lv_at hl 2 rfl) ?_
  refine lv_imul hx hb dX2_climbOf_13 ?_
  refine lv_iload_n hx hb dX2_climbOf_14 rfl (lv_at hl 0 rfl) ?_
  refine lv_iadd hx hb dX2_climbOf_15 ?_
  obtain ⟨hin, hf⟩ := wb_n hf
  refine va_iald hx hb hK hP 1 1 rfl rfl hin dX2_climbOf_16 ?_
  obtain ⟨v2, ev2, hf⟩ := wb_v hf
  refine wb_topi ev2 ?_
  refine lv_istore (lv' := [(4, .int v2), (3, .int v1), (0, .ref (a0 0)), (1, .int x1), (2, .int x2)]) hx hb dX2_climbOf_17 hl (by decide) rfl (fun ls hl => ?_)
  refine lv_aload_n hx hb dX2_climbOf_19 rfl (lv_at hl 2 rfl) ?_
  refine va_get (D := D) (ci := 2) (v := .ref (a0 1)) (C := RX2) (T := TX2) (N := 2) hx hb hts hinX2 hown hK hP 0 rfl rfl 0 (by decide) (hts (.fieldLink RX2 11 "WheelBook$Climates" "ahead" "[I") (List.mem_of_getElem? (i := 1) rfl)) (fun _ h9 => h9) rfl dX2_climbOf_20 ?_
  refine lv_bipush (v := (13 : Int32)) hx hb dX2_climbOf_23 (by decide) ?_
  refine lv_iload_n hx hb dX2_climbOf_25 rfl (lv_at hl 3 rfl) ?_
  refine lv_imul hx hb dX2_climbOf_26 ?_
  refine lv_iload_n hx hb dX2_climbOf_27 rfl (lv_at hl 1 rfl) ?_
  refine lv_iadd hx hb dX2_climbOf_28 ?_
  refine lv_iconst (v := (1 : Int32)) hx hb dX2_climbOf_29 (by decide) ?_
  refine lv_iadd hx hb dX2_climbOf_30 ?_
  obtain ⟨hin, hf⟩ := wb_n hf
  refine va_iald hx hb hK hP 1 1 rfl rfl hin dX2_climbOf_31 ?_
  refine lv_iload hx hb dX2_climbOf_32 (lv_at hl 0 rfl) ?_
  refine lv_isub hx hb dX2_climbOf_34 ?_
  obtain ⟨v3, ev3, hf⟩ := wb_v hf
  refine wb_topi ev3 ?_
  refine lv_istore (lv' := [(5, .int v3), (4, .int v2), (3, .int v1), (0, .ref (a0 0)), (1, .int x1), (2, .int x2)]) hx hb dX2_climbOf_35 hl (by decide) rfl (fun ls hl => ?_)
  refine lv_sipush (v := (1800 : Int32)) hx hb dX2_climbOf_37 (by decide) ?_
  refine lv_iload hx hb dX2_climbOf_40 (lv_at hl 1 rfl) ?_
  refine lv_imul hx hb dX2_climbOf_42 ?_
  refine lv_iload hx hb dX2_climbOf_43 (lv_at hl 0 rfl) ?_
  refine lv_iload_n hx hb dX2_climbOf_45 rfl (lv_at hl 5 rfl) ?_
  refine lv_sipush (v := (1800 : Int32)) hx hb dX2_climbOf_46 (by decide) ?_
  refine lv_irem hx hb dX2_climbOf_49 (by decide) ?_
  refine lv_imul hx hb dX2_climbOf_50 ?_
  refine lv_iadd hx hb dX2_climbOf_51 ?_
  exact W.iret (v := (((1800 : Int32) * v2) + (v3 * (x2 - x2 / (1800 : Int32) * (1800 : Int32))))) hx hb hr (fun t ht hW => ⟨_, rfl, Option.some.inj hf, ht⟩) (fun _ h => nomatch h) dX2_climbOf_52

