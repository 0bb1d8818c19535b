set_option maxHeartbeats 4000000 in
set_option maxRecDepth 100000 in
theorem cn_X3_isShared (l : Launch) (D : va_G) (cB cI cZ : ClassId) (N : Nat) (a0 : Nat → Nat) (I0 : Nat → Int32) (M0 : Nat → Nat → Int32) (x1 : Int32) (x2 : Int32) (R : Int32) (hf : fX3_isShared N I0 M0 x1 x2 = some R) : Met l yX3_isShared wsX3_isShared ({ frames := 0, cells := 0, slots := 0, locals := 0 }) (va_Pc [.ref (a0 0), .int x1, .int x2] (wb_pre D [(cB, .byte), (cI, .int), (cZ, .boolean)] (wWX3 cB cI cZ a0 I0 M0))) (vp_Si (fun r => r = R)) 0 0 (fun _ => False) := by
  refine Met.ofW (cc := cX3_isShared) (maxL := 3) (ret := (some .boolean)) (by decide) rfl ?_
  intro p e s m args below meth c s₁ B hml hv
  obtain ⟨rfl, hP, hK⟩ := hv
  have hx := B.exec
  have hb := B.bytes
  have hr := B.returns
  have hts := atoms_spec (ws := wsX3_isShared) B.pre
  have hown : s.vm.findClass RX3 = some m.cls := findClass_of_methodNamed B.named
  have hlocks := B.notSynchronized
  have hinX3 : ∀ w ∈ u_ws RX3 TX3 1, w ∈ wsX3_isShared := fun w h => List.mem_cons_of_mem _ (List.mem_append_right _ h)
  have hl := lv_entry ([.ref (a0 0), .int x1, .int x2]) (n := 3) (Nat.le_of_ble_eq_true rfl)
  rw [lg_entry_eq]
  generalize (lg_sl ([.ref (a0 0), .int x1, .int x2]) ++ List.replicate (3 - (lg_sl ([.ref (a0 0), .int x1, .int x2])).length) Slot.unset).toArray = ls at hl ⊢
  have hl : lv_has ls 3 [(0, .ref (a0 0)), (1, .int x1), (2, .int x2)] := hl
  unfold fX3_isShared at hf
  refine lv_aload_n hx hb dX3_isShared_0 rfl (lv_at hl 0 rfl) ?_
  refine va_get (D := D) (ci := 3) (v := .ref (a0 1)) (C := RX3) (T := TX3) (N := 1) hx hb hts hinX3 hown hK hP 0 rfl rfl 0 (by decide) (hts (.fieldLink RX3 9 "WheelBook$Fit" "sharers" "[I") (List.mem_of_getElem? (i := 1) rfl)) (fun _ h9 => h9) rfl dX3_isShared_1 ?_
  refine lv_iload_n hx hb dX3_isShared_4 rfl (lv_at hl 1 rfl) ?_
  obtain ⟨hin, hf⟩ := wb_n hf
  refine va_iald hx hb hK hP 1 1 rfl rfl hin dX3_isShared_5 ?_
  refine lv_iconst (v := (-1 : Int32)) hx hb dX3_isShared_6 (by decide) ?_
  refine lv_icmp_eq (tgt := 28) hx hb dX3_isShared_7 (by decide) (fun hc => ?_) (fun hc => ?_)
  · replace hf := wb_t hc hf
    refine lv_iconst (v := (0 : Int32)) hx hb dX3_isShared_28 (by decide) ?_
    exact W.zret (v := (0 : Int32)) hx hb hr (by decide) (fun t ht hW => ⟨_, rfl, Option.some.inj hf, ht⟩) (fun _ h => nomatch h) dX3_isShared_29
  · replace hf := wb_f hc hf
    refine lv_aload_n hx hb dX3_isShared_10 rfl (lv_at hl 0 rfl) ?_
    refine va_get (D := D) (ci := 3) (v := .ref (a0 1)) (C := RX3) (T := TX3) (N := 1) hx hb hts hinX3 hown hK hP 0 rfl rfl 0 (by decide) (hts (.fieldLink RX3 9 "WheelBook$Fit" "sharers" "[I") (List.mem_of_getElem? (i := 1) rfl)) (fun _ h9 => h9) rfl dX3_isShared_11 ?_
    refine lv_iload_n hx hb dX3_isShared_14 rfl (lv_at hl 1 rfl) ?_
    obtain ⟨hin, hf⟩ := wb_n hf
    refine va_iald hx hb hK hP 1 1 rfl rfl hin dX3_isShared_15 ?_
    refine lv_iload_n hx hb dX3_isShared_16 rfl (lv_at hl 2 rfl) ?_
    refine lv_ishr hx hb dX3_isShared_17 ?_
    refine lv_iconst (v := (1 : Int32)) hx hb dX3_isShared_18 (by decide) ?_
    refine lv_iand hx hb dX3_isShared_19 ?_
    refine lv_iconst (v := (1 : Int32)) hx hb dX3_isShared_20 (by decide) ?_
    refine lv_icmp_ne (tgt := 28) hx hb dX3_isShared_21 (by decide) (fun hc => ?_) (fun hc => ?_)
    · replace hf := wb_f hc hf
      refine lv_iconst (v := (0 : Int32)) hx hb dX3_isShared_28 (by decide) ?_
      exact W.zret (v := (0 : Int32)) hx hb hr (by decide) (fun t ht hW => ⟨_, rfl, Option.some.inj hf, ht⟩) (fun _ h => nomatch h) dX3_isShared_29
    · replace hf := wb_t hc hf
      refine lv_iconst (v := (1 : Int32)) hx hb dX3_isShared_24 (by decide) ?_
      refine lv_goto (tgt := 29) hx hb dX3_isShared_25 (by decide) ?_
      exact W.zret (v := (1 : Int32)) hx hb hr (by decide) (fun t ht hW => ⟨_, rfl, Option.some.inj hf, ht⟩) (fun _ h => nomatch h) dX3_isShared_29

