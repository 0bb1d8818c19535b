set_option maxHeartbeats 4000000 in
set_option maxRecDepth 100000 in
theorem cn_X1_degreeOf (l : Launch) (D : va_G) (cB cI cZ : ClassId) (N : Nat) (a0 : Nat → Nat) (I0 : Nat → Int32) (M0 : Nat → Nat → Int32) (x1 : Int32) (x2 : Int32) (R : Int32) (hf : fX1_degreeOf N I0 M0 x1 x2 = some R) : Met l yX1_degreeOf wsX1_degreeOf ({ frames := 0, cells := 0, slots := 0, locals := 0 }) (va_Pc [.ref (a0 0), .int x1, .int x2] (wb_pre D [(cB, .byte), (cI, .int), (cZ, .boolean)] (wWX1 cB cI cZ a0 I0 M0))) (vp_Si (fun r => r = R)) 0 0 (fun _ => False) := by
  refine Met.ofW (cc := cX1_degreeOf) (maxL := 3) (ret := (some .int)) pn_X1 rfl ?_
  intro p e s m args below meth c s₁ B hml hv
  obtain ⟨rfl, hP, hK⟩ := hv
  have hx := B.exec
  have hb := B.bytes
  have hr := B.returns
  have hts := atoms_spec (ws := wsX1_degreeOf) B.pre
  have hown : s.vm.findClass RX1 = some m.cls := (findClass_of_methodNamed B.named :)
  have hlocks := B.notSynchronized
  have hinX1 : ∀ w ∈ u_ws RX1 TX1 2, w ∈ wsX1_degreeOf := fun w h => List.mem_cons_of_mem _ (List.mem_append_right _ h)
  have hl := lv_entry ([.ref (a0 0), .int x1, .int x2]) (n := 3) (Nat.le_of_ble_eq_true rfl)
  rw [lg_entry_eq]
  generalize (lg_sl ([.ref (a0 0), .int x1, .int x2]) ++ List.replicate (3 - (lg_sl ([.ref (a0 0), .int x1, .int x2])).length) Slot.unset).toArray = ls at hl ⊢
  have hl : lv_has ls 3 [(0, .ref (a0 0)), (1, .int x1), (2, .int x2)] := hl
  unfold fX1_degreeOf at hf
  refine lv_aload_n hx hb dX1_degreeOf_0 rfl (lv_at hl 0 rfl) ?_
  refine va_get (D := D) (ci := 1) (v := .ref (a0 1)) (C := RX1) (T := TX1) (N := 2) hx hb hts hinX1 hown hK hP 0 rfl rfl 0 (by decide) (hts (.fieldLink RX1 9 "WheelBook$Books" "degrees" "[I") (List.mem_of_getElem? (i := 1) rfl)) (fun _ h9 => h9) rfl dX1_degreeOf_1 ?_
  refine lv_bipush (v := (22 : Int32)) hx hb dX1_degreeOf_4 (by decide) ?_
  refine lv_iload_n hx hb dX1_degreeOf_6 rfl (lv_at hl 1 rfl) ?_
  refine lv_imul hx hb dX1_degreeOf_7 ?_
  refine lv_iload_n hx hb dX1_degreeOf_8 rfl (lv_at hl 2 rfl) ?_
  refine lv_iadd hx hb dX1_degreeOf_9 ?_
  obtain ⟨hin, hf⟩ := wb_n hf
  refine va_iald hx hb hK hP 1 1 rfl rfl hin dX1_degreeOf_10 ?_
  exact W.iret (v := (M0 0 ((((22 : Int32) * x1) + x2)).toNatClampNeg)) hx hb hr (fun t ht hW => ⟨_, rfl, Option.some.inj hf, ht⟩) (fun _ h => nomatch h) dX1_degreeOf_11

set_option maxHeartbeats 4000000 in
set_option maxRecDepth 100000 in
theorem cn_X4_isRead (l : Launch) (D : va_G) (cB cI cZ : ClassId) (N : Nat) (a0 : Nat → Nat) (I0 : Nat → Int32) (M0 : Nat → Nat → Int32) (x1 : Int32) (x2 : Int32) (R : Int32) (hf : fX4_isRead N I0 M0 x1 x2 = some R) : Met l yX4_isRead wsX4_isRead ({ frames := 0, cells := 0, slots := 0, locals := 0 }) (va_Pc [.ref (a0 0), .int x1, .int x2] (wb_pre D [(cB, .byte), (cI, .int), (cZ, .boolean)] (wWX4 cB cI cZ a0 I0 M0))) (vp_Si (fun r => r = R)) 0 0 (fun _ => False) := by
  refine Met.ofW (cc := cX4_isRead) (maxL := 3) (ret := (some .boolean)) pn_X4 rfl ?_
  intro p e s m args below meth c s₁ B hml hv
  obtain ⟨rfl, hP, hK⟩ := hv
  have hx := B.exec
  have hb := B.bytes
  have hr := B.returns
  have hts := atoms_spec (ws := wsX4_isRead) B.pre
  have hown : s.vm.findClass RX4 = some m.cls := (findClass_of_methodNamed B.named :)
  have hlocks := B.notSynchronized
  have hinX4 : ∀ w ∈ u_ws RX4 TX4 2, w ∈ wsX4_isRead := fun w h => List.mem_cons_of_mem _ (List.mem_append_right _ h)
  have hl := lv_entry ([.ref (a0 0), .int x1, .int x2]) (n := 3) (Nat.le_of_ble_eq_true rfl)
  rw [lg_entry_eq]
  generalize (lg_sl ([.ref (a0 0), .int x1, .int x2]) ++ List.replicate (3 - (lg_sl ([.ref (a0 0), .int x1, .int x2])).length) Slot.unset).toArray = ls at hl ⊢
  have hl : lv_has ls 3 [(0, .ref (a0 0)), (1, .int x1), (2, .int x2)] := hl
  unfold fX4_isRead at hf
  refine lv_aload_n hx hb dX4_isRead_0 rfl (lv_at hl 0 rfl) ?_
  refine va_get (D := D) (ci := 4) (v := .ref (a0 1)) (C := RX4) (T := TX4) (N := 2) hx hb hts hinX4 hown hK hP 0 rfl rfl 0 (by decide) (hts (.fieldLink RX4 9 "WheelBook$Hands" "stoodFor" "[I") (List.mem_of_getElem? (i := 1) rfl)) (fun _ h9 => h9) rfl dX4_isRead_1 ?_
  refine lv_iload_n hx hb dX4_isRead_4 rfl (lv_at hl 1 rfl) ?_
  obtain ⟨hin, hf⟩ := wb_n hf
  refine va_iald hx hb hK hP 1 1 rfl rfl hin dX4_isRead_5 ?_
  refine lv_iload_n hx hb dX4_isRead_6 rfl (lv_at hl 2 rfl) ?_
  refine lv_ishr hx hb dX4_isRead_7 ?_
  refine lv_iconst (v := (1 : Int32)) hx hb dX4_isRead_8 (by decide) ?_
  refine lv_iand hx hb dX4_isRead_9 ?_
  refine lv_iconst (v := (1 : Int32)) hx hb dX4_isRead_10 (by decide) ?_
  refine lv_icmp_ne (tgt := 18) hx hb dX4_isRead_11 (by decide) (fun hc => ?_) (fun hc => ?_)
  · replace hf := wb_f hc hf
    refine lv_iconst (v := (0 : Int32)) hx hb dX4_isRead_18 (by decide) ?_
    exact W.zret (v := (0 : Int32)) hx hb hr (by decide) (fun t ht hW => ⟨_, rfl, Option.some.inj hf, ht⟩) (fun _ h => nomatch h) dX4_isRead_19
  · replace hf := wb_t hc hf
    refine lv_iconst (v := (1 : Int32)) hx hb dX4_isRead_14 (by decide) ?_
    refine lv_goto (tgt := 19) hx hb dX4_isRead_15 (by decide) ?_
    exact W.zret (v := (1 : Int32)) hx hb hr (by decide) (fun t ht hW => ⟨_, rfl, Option.some.inj hf, ht⟩) (fun _ h => nomatch h) dX4_isRead_19

set_option maxHeartbeats 4000000 in
set_option maxRecDepth 100000 in
theorem cn_X4_misreading (l : Launch) (D : va_G) (cB cI cZ : ClassId) (N : Nat) (a0 : Nat → Nat) (I0 : Nat → Int32) (M0 : Nat → Nat → Int32) (x1 : Int32) (x2 : Int32) (R : Int32) (hf : fX4_misreading N I0 M0 x1 x2 = some R) : Met l yX4_misreading wsX4_misreading ({ frames := 1, cells := 0, slots := 0, locals := 22 }) (va_Pc [.ref (a0 0), .int x1, .int x2] (wb_pre D [(cB, .byte), (cI, .int), (cZ, .boolean)] (wWX4 cB cI cZ a0 I0 M0))) (vp_Si (fun r => r = R)) 0 0 (fun _ => False) := by
  refine Met.ofW (cc := cX4_misreading) (maxL := 4) (ret := (some .int)) pn_X4 rfl ?_
  intro p e s m args below meth c s₁ B hml hv
  obtain ⟨rfl, hP, hK⟩ := hv
  have hx := B.exec
  have hb := B.bytes
  have hr := B.returns
  have hts := atoms_spec (ws := wsX4_misreading) B.pre
  have hown : s.vm.findClass RX4 = some m.cls := (findClass_of_methodNamed B.named :)
  have hlocks := B.notSynchronized
  have hl := lv_entry ([.ref (a0 0), .int x1, .int x2]) (n := 4) (Nat.le_of_ble_eq_true rfl)
  rw [lg_entry_eq]
  generalize (lg_sl ([.ref (a0 0), .int x1, .int x2]) ++ List.replicate (4 - (lg_sl ([.ref (a0 0), .int x1, .int x2])).length) Slot.unset).toArray = ls at hl ⊢
  have hl : lv_has ls 4 [(0, .ref (a0 0)), (1, .int x1), (2, .int x2)] := hl
  unfold fX4_misreading at hf
  have J70 : ∀ (ls : Array Slot), lv_has ls 4 [] → fX4_misreading_J70 N I0 M0 x1 x2 = some R → W p l e (headSpec wsX4_misreading { frames := 1, cells := 0, slots := 0, locals := 22 }).room s m [.ref (a0 0), .int x1, .int x2].toArray below meth c s.heap [] 0 0 (MQ below (vp_Si (fun r => r = R)) [.ref (a0 0), .int x1, .int x2].toArray s 0 0 (fun _ => False)) (F0 m 70 ls []) := by
    intro ls hl hf
    unfold fX4_misreading_J70 at hf
    refine lv_iconst (v := (0 : Int32)) hx hb dX4_misreading_70 (by decide) ?_
    refine lv_istore_n (lv' := [(3, .int (0 : Int32))]) hx hb dX4_misreading_71 rfl hl (by decide) rfl (fun ls hl => ?_)
    refine lv_iload_n hx hb dX4_misreading_72 rfl (lv_at hl 0 rfl) ?_
    refine lv_if_eq (tgt := 80) hx hb dX4_misreading_73 (by decide) (fun hc => ?_) (fun hc => absurd hc (by decide))
    refine lv_bipush (v := (9 : Int32)) hx hb dX4_misreading_80 (by decide) ?_
    exact W.iret (v := (9 : Int32)) hx hb hr (fun t ht hW => ⟨_, rfl, Option.some.inj hf, ht⟩) (fun _ h => nomatch h) dX4_misreading_82
  refine lv_iload_n hx hb dX4_misreading_0 rfl (lv_at hl 1 rfl) ?_
  refine lv_iload_n hx hb dX4_misreading_1 rfl (lv_at hl 2 rfl) ?_
  refine lv_icmp_ne (tgt := 7) hx hb dX4_misreading_2 (by decide) (fun hc => ?_) (fun hc => ?_)
  · replace hf := wb_f hc hf
    refine lv_iload_n hx hb dX4_misreading_7 rfl (lv_at hl 1 rfl) ?_
    refine lv_bipush (v := (30 : Int32)) hx hb dX4_misreading_8 (by decide) ?_
    refine lv_idiv hx hb dX4_misreading_10 (by decide) ?_
    refine lv_iload_n hx hb dX4_misreading_11 rfl (lv_at hl 2 rfl) ?_
    refine lv_bipush (v := (30 : Int32)) hx hb dX4_misreading_12 (by decide) ?_
    refine lv_idiv hx hb dX4_misreading_14 (by decide) ?_
    refine lv_icmp_ne (tgt := 40) hx hb dX4_misreading_15 (by decide) (fun hc => ?_) (fun hc => ?_)
    · replace hf := wb_f hc hf
      refine lv_iload_n hx hb dX4_misreading_40 rfl (lv_at hl 1 rfl) ?_
      refine lv_bipush (v := (30 : Int32)) hx hb dX4_misreading_41 (by decide) ?_
      refine lv_irem hx hb dX4_misreading_43 (by decide) ?_
      refine lv_iload_n hx hb dX4_misreading_44 rfl (lv_at hl 2 rfl) ?_
      refine lv_bipush (v := (30 : Int32)) hx hb dX4_misreading_45 (by decide) ?_
      refine lv_irem hx hb dX4_misreading_47 (by decide) ?_
      refine lv_icmp_ne (tgt := 70) hx hb dX4_misreading_48 (by decide) (fun hc => ?_) (fun hc => ?_)
      · replace hf := wb_f hc hf
        exact J70 ls (lv_sub hl [] rfl) hf
      · replace hf := wb_t hc hf
        refine lv_aload_n hx hb dX4_misreading_51 rfl (lv_at hl 0 rfl) ?_
        refine lv_iload_n hx hb dX4_misreading_52 rfl (lv_at hl 1 rfl) ?_
        refine lv_bipush (v := (30 : Int32)) hx hb dX4_misreading_53 (by decide) ?_
        refine lv_idiv hx hb dX4_misreading_55 (by decide) ?_
        refine lv_iload_n hx hb dX4_misreading_56 rfl (lv_at hl 2 rfl) ?_
        refine lv_bipush (v := (30 : Int32)) hx hb dX4_misreading_57 (by decide) ?_
        refine lv_idiv hx hb dX4_misreading_59 (by decide) ?_
        obtain ⟨r1, hr1, hf⟩ := wb_b hf
        refine vp_callSi (W.runV (As := [.int (x1 / (30 : Int32)), .int (x2 / (30 : Int32))]) (rest := []) ⟨hx, hb, hml, hown, hts⟩ (cn_X4_isRead l D cB cI cZ N a0 I0 M0 (x1 / (30 : Int32)) (x2 / (30 : Int32)) r1 hr1) (cwV 2 hts gX4_misreading_X4_isRead rfl rfl rfl cdX4_isRead ⟨Nat.le_of_ble_eq_true rfl, Nat.le_of_ble_eq_true rfl⟩) (wb_preV hP hK (wr_4 hK hP (q0 := 0) rfl)) rfl rfl hl.1 rfl (lv_room (Nat.le_of_ble_eq_true rfl)) dX4_misreading_60 ⟨Nat.le_of_ble_eq_true rfl, Nat.le_of_ble_eq_true rfl⟩) (fun r9 e9 => ?_)
        rw [e9]
        refine lv_if_eq (tgt := 70) hx hb dX4_misreading_63 (by decide) (fun hc => ?_) (fun hc => ?_)
        · replace hf := wb_t hc hf
          exact J70 ls (lv_sub hl [] rfl) hf
        · replace hf := wb_f hc hf
          refine lv_iconst (v := (1 : Int32)) hx hb dX4_misreading_66 (by decide) ?_
          refine lv_goto (tgt := 71) hx hb dX4_misreading_67 (by decide) ?_
          refine lv_istore_n (lv' := [(3, .int (1 : Int32)), (0, .ref (a0 0)), (1, .int x1), (2, .int x2)]) hx hb dX4_misreading_71 rfl hl (by decide) rfl (fun ls hl => ?_)
          refine lv_iload_n hx hb dX4_misreading_72 rfl (lv_at hl 0 rfl) ?_
          refine lv_if_eq (tgt := 80) hx hb dX4_misreading_73 (by decide) (fun hc => absurd hc (by decide)) (fun hc => ?_)
          refine lv_iconst (v := (2 : Int32)) hx hb dX4_misreading_76 (by decide) ?_
          refine lv_goto (tgt := 82) hx hb dX4_misreading_77 (by decide) ?_
          exact W.iret (v := (2 : Int32)) hx hb hr (fun t ht hW => ⟨_, rfl, Option.some.inj hf, ht⟩) (fun _ h => nomatch h) dX4_misreading_82
    · replace hf := wb_t hc hf
      refine lv_aload_n hx hb dX4_misreading_18 rfl (lv_at hl 0 rfl) ?_
      refine lv_iload_n hx hb dX4_misreading_19 rfl (lv_at hl 1 rfl) ?_
      refine lv_bipush (v := (30 : Int32)) hx hb dX4_misreading_20 (by decide) ?_
      refine lv_irem hx hb dX4_misreading_22 (by decide) ?_
      refine lv_iload_n hx hb dX4_misreading_23 rfl (lv_at hl 2 rfl) ?_
      refine lv_bipush (v := (30 : Int32)) hx hb dX4_misreading_24 (by decide) ?_
      refine lv_irem hx hb dX4_misreading_26 (by decide) ?_
      obtain ⟨r2, hr2, hf⟩ := wb_b hf
      refine vp_callSi (W.runV (As := [.int (x1 - x1 / (30 : Int32) * (30 : Int32)), .int (x2 - x2 / (30 : Int32) * (30 : Int32))]) (rest := []) ⟨hx, hb, hml, hown, hts⟩ (cn_X4_isRead l D cB cI cZ N a0 I0 M0 (x1 - x1 / (30 : Int32) * (30 : Int32)) (x2 - x2 / (30 : Int32) * (30 : Int32)) r2 hr2) (cwV 2 hts gX4_misreading_X4_isRead rfl rfl rfl cdX4_isRead ⟨Nat.le_of_ble_eq_true rfl, Nat.le_of_ble_eq_true rfl⟩) (wb_preV hP hK (wr_4 hK hP (q0 := 0) rfl)) rfl rfl hl.1 rfl (lv_room (Nat.le_of_ble_eq_true rfl)) dX4_misreading_27 ⟨Nat.le_of_ble_eq_true rfl, Nat.le_of_ble_eq_true rfl⟩) (fun r9 e9 => ?_)
      rw [e9]
      refine lv_if_eq (tgt := 37) hx hb dX4_misreading_30 (by decide) (fun hc => ?_) (fun hc => ?_)
      · replace hf := wb_t hc hf
        refine lv_bipush (v := (9 : Int32)) hx hb dX4_misreading_37 (by decide) ?_
        exact W.iret (v := (9 : Int32)) hx hb hr (fun t ht hW => ⟨_, rfl, Option.some.inj hf, ht⟩) (fun _ h => nomatch h) dX4_misreading_39
      · replace hf := wb_f hc hf
        refine lv_iconst (v := (1 : Int32)) hx hb dX4_misreading_33 (by decide) ?_
        refine lv_goto (tgt := 39) hx hb dX4_misreading_34 (by decide) ?_
        exact W.iret (v := (1 : Int32)) hx hb hr (fun t ht hW => ⟨_, rfl, Option.some.inj hf, ht⟩) (fun _ h => nomatch h) dX4_misreading_39
  · replace hf := wb_t hc hf
    refine lv_iconst (v := (0 : Int32)) hx hb dX4_misreading_5 (by decide) ?_
    exact W.iret (v := (0 : Int32)) hx hb hr (fun t ht hW => ⟨_, rfl, Option.some.inj hf, ht⟩) (fun _ h => nomatch h) dX4_misreading_6

set_option maxHeartbeats 4000000 in
set_option maxRecDepth 100000 in
theorem cn_X4_costBeside (l : Launch) (D : va_G) (cB cI cZ : ClassId) (N : Nat) (a0 : Nat → Nat) (I0 : Nat → Int32) (M0 : Nat → Nat → Int32) (x1 : Int32) (x2 : Int32) (R : Int32) (hf : fX4_costBeside N I0 M0 x1 x2 = some R) : Met l yX4_costBeside wsX4_costBeside ({ frames := 2, cells := 0, slots := 0, locals := 45 }) (va_Pc [.ref (a0 0), .int x1, .int x2] (wb_pre D [(cB, .byte), (cI, .int), (cZ, .boolean)] (wWX4 cB cI cZ a0 I0 M0))) (vp_Si (fun r => r = R)) 0 0 (fun _ => False) := by
  refine Met.ofW (cc := cX4_costBeside) (maxL := 4) (ret := (some .int)) pn_X4 rfl ?_
  intro p e s m args below meth c s₁ B hml hv
  obtain ⟨rfl, hP, hK⟩ := hv
  have hx := B.exec
  have hb := B.bytes
  have hr := B.returns
  have hts := atoms_spec (ws := wsX4_costBeside) B.pre
  have hown : s.vm.findClass RX4 = some m.cls := (findClass_of_methodNamed B.named :)
  have hlocks := B.notSynchronized
  have hl := lv_entry ([.ref (a0 0), .int x1, .int x2]) (n := 4) (Nat.le_of_ble_eq_true rfl)
  rw [lg_entry_eq]
  generalize (lg_sl ([.ref (a0 0), .int x1, .int x2]) ++ List.replicate (4 - (lg_sl ([.ref (a0 0), .int x1, .int x2])).length) Slot.unset).toArray = ls at hl ⊢
  have hl : lv_has ls 4 [(0, .ref (a0 0)), (1, .int x1), (2, .int x2)] := hl
  unfold fX4_costBeside at hf
  refine lv_aload_n hx hb dX4_costBeside_0 rfl (lv_at hl 0 rfl) ?_
  refine lv_iload_n hx hb dX4_costBeside_1 rfl (lv_at hl 1 rfl) ?_
  refine lv_iload_n hx hb dX4_costBeside_2 rfl (lv_at hl 2 rfl) ?_
  obtain ⟨r1, hr1, hf⟩ := wb_b hf
  refine vp_callSi (W.runV (As := [.int x1, .int x2]) (rest := []) ⟨hx, hb, hml, hown, hts⟩ (cn_X4_misreading l D cB cI cZ N a0 I0 M0 x1 x2 r1 hr1) (cwV 2 hts gX4_costBeside_X4_misreading rfl rfl rfl cdX4_misreading ⟨Nat.le_of_ble_eq_true rfl, Nat.le_of_ble_eq_true rfl⟩) (wb_preV hP hK (wr_4 hK hP (q0 := 0) rfl)) rfl rfl hl.1 rfl (lv_room (Nat.le_of_ble_eq_true rfl)) dX4_costBeside_3 ⟨Nat.le_of_ble_eq_true rfl, Nat.le_of_ble_eq_true rfl⟩) (fun r9 e9 => ?_)
  rw [e9]
  refine lv_istore_n (lv' := [(3, .int r1), (0, .ref (a0 0)), (1, .int x1), (2, .int x2)]) hx hb dX4_costBeside_6 rfl hl (by decide) rfl (fun ls hl => ?_)
  refine lv_iload_n hx hb dX4_costBeside_7 rfl (lv_at hl 0 rfl) ?_
  refine lv_iconst (v := (2 : Int32)) hx hb dX4_costBeside_8 (by decide) ?_
  refine lv_icmp_ne (tgt := 16) hx hb dX4_costBeside_9 (by decide) (fun hc => ?_) (fun hc => ?_)
  · replace hf := wb_f hc hf
    refine lv_iload_n hx hb dX4_costBeside_16 rfl (lv_at hl 0 rfl) ?_
    exact W.iret (v := r1) hx hb hr (fun t ht hW => ⟨_, rfl, Option.some.inj hf, ht⟩) (fun _ h => nomatch h) dX4_costBeside_17
  · replace hf := wb_t hc hf
    refine lv_iconst (v := (1 : Int32)) hx hb dX4_costBeside_12 (by decide) ?_
    refine lv_goto (tgt := 17) hx hb dX4_costBeside_13 (by decide) ?_
    exact W.iret (v := (1 : Int32)) hx hb hr (fun t ht hW => ⟨_, rfl, Option.some.inj hf, ht⟩) (fun _ h => nomatch h) dX4_costBeside_17

set_option maxHeartbeats 4000000 in
set_option maxRecDepth 100000 in
theorem cn_X0_areOne (l : Launch) (D : va_G) (cB cI cZ : ClassId) (N : Nat) (a0 : Nat → Nat) (I0 : Nat → Int32) (M0 : Nat → Nat → Int32) (a1 : Nat → Nat) (I1 : Nat → Int32) (M1 : Nat → Nat → Int32) (x2 : Int32) (x3 : Int32) (x4 : Int32) (R : Int32) (hf : fX0_areOne N I0 M0 I1 M1 x2 x3 x4 = some R) : Met l yX0_areOne wsX0_areOne ({ frames := 3, cells := 0, slots := 0, locals := 68 }) (va_Pc [.ref (a0 0), .ref (a1 0), .int x2, .int x3, .int x4] (wb_pre D [(cB, .byte), (cI, .int), (cZ, .boolean)] ((wWX4 cB cI cZ a0 I0 M0) ++ (wWX1 cB cI cZ a1 I1 M1)))) (vp_Si (fun r => r = R)) 0 0 (fun _ => False) := by
  refine Met.ofW (cc := cX0_areOne) (maxL := 9) (ret := (some .boolean)) pn_X0 rfl ?_
  intro p e s m args below meth c s₁ B hml hv
  obtain ⟨rfl, hP, hK⟩ := hv
  have hx := B.exec
  have hb := B.bytes
  have hr := B.returns
  have hts := atoms_spec (ws := wsX0_areOne) B.pre
  have hown : s.vm.findClass RX0 = some m.cls := (findClass_of_methodNamed B.named :)
  have hlocks := B.notSynchronized
  have hl := lv_entry ([.ref (a0 0), .ref (a1 0), .int x2, .int x3, .int x4]) (n := 9) (Nat.le_of_ble_eq_true rfl)
  rw [lg_entry_eq]
  generalize (lg_sl ([.ref (a0 0), .ref (a1 0), .int x2, .int x3, .int x4]) ++ List.replicate (9 - (lg_sl ([.ref (a0 0), .ref (a1 0), .int x2, .int x3, .int x4])).length) Slot.unset).toArray = ls at hl ⊢
  have hl : lv_has ls 9 [(0, .ref (a0 0)), (1, .ref (a1 0)), (2, .int x2), (3, .int x3), (4, .int x4)] := hl
  unfold fX0_areOne at hf
  refine lv_iconst (v := (0 : Int32)) hx hb dX0_areOne_0 (by decide) ?_
  refine lv_istore (lv' := [(5, .int (0 : Int32)), (0, .ref (a0 0)), (1, .ref (a1 0)), (2, .int x2), (3, .int x3), (4, .int x4)]) hx hb dX0_areOne_1 hl (by decide) rfl (fun ls hl => ?_)
  refine lv_iconst (v := (0 : Int32)) hx hb dX0_areOne_3 (by decide) ?_
  refine lv_istore (lv' := [(6, .int (0 : Int32)), (5, .int (0 : Int32)), (0, .ref (a0 0)), (1, .ref (a1 0)), (2, .int x2), (3, .int x3), (4, .int x4)]) hx hb dX0_areOne_4 hl (by decide) rfl (fun ls hl => ?_)
  have L6 : ∀ (fu6 : Nat) (y6_5 : Int32) (y6_6 : Int32), ∀ (ls : Array Slot), lv_has ls 9 [(0, .ref (a0 0)), (1, .ref (a1 0)), (2, .int x2), (3, .int x3), (4, .int x4), (5, .int y6_5), (6, .int y6_6)] → fX0_areOne_L6 N I0 M0 I1 M1 x2 x3 x4 fu6 y6_5 y6_6 = some R → W p l e (headSpec wsX0_areOne { frames := 3, cells := 0, slots := 0, locals := 68 }).room s m [.ref (a0 0), .ref (a1 0), .int x2, .int x3, .int x4].toArray below meth c s.heap [] 0 0 (MQ below (vp_Si (fun r => r = R)) [.ref (a0 0), .ref (a1 0), .int x2, .int x3, .int x4].toArray s 0 0 (fun _ => False)) (F0 m 6 ls []) := by
    intro fu6
    induction fu6 with
    | zero =>
      intro y6_5 y6_6 ls hl hf
      exact absurd hf (by rw [fX0_areOne_L6.eq_1]; exact fun h => nomatch h)
    | succ fu6 ih6 =>
      intro y6_5 y6_6 ls hl hf
      rw [fX0_areOne_L6.eq_2] at hf
      refine lv_iload hx hb dX0_areOne_6 (lv_at hl 6 rfl) ?_
      refine lv_bipush (v := (7 : Int32)) hx hb dX0_areOne_8 (by decide) ?_
      refine lv_icmp_ge (tgt := 78) hx hb dX0_areOne_10 (by decide) (fun hc => ?_) (fun hc => ?_)
      · replace hf := wb_t hc hf
        refine lv_iload hx hb dX0_areOne_78 (lv_at hl 5 rfl) ?_
        refine lv_iload hx hb dX0_areOne_80 (lv_at hl 4 rfl) ?_
        refine lv_icmp_lt (tgt := 89) hx hb dX0_areOne_82 (by decide) (fun hc => ?_) (fun hc => ?_)
        · replace hf := wb_t hc hf
          refine lv_iconst (v := (0 : Int32)) hx hb dX0_areOne_89 (by decide) ?_
          exact W.zret (v := (0 : Int32)) hx hb hr (by decide) (fun t ht hW => ⟨_, rfl, Option.some.inj hf, ht⟩) (fun _ h => nomatch h) dX0_areOne_90
        · replace hf := wb_f hc hf
          refine lv_iconst (v := (1 : Int32)) hx hb dX0_areOne_85 (by decide) ?_
          refine lv_goto (tgt := 90) hx hb dX0_areOne_86 (by decide) ?_
          exact W.zret (v := (1 : Int32)) hx hb hr (by decide) (fun t ht hW => ⟨_, rfl, Option.some.inj hf, ht⟩) (fun _ h => nomatch h) dX0_areOne_90
      · replace hf := wb_f hc hf
        refine lv_aload_n hx hb dX0_areOne_13 rfl (lv_at hl 1 rfl) ?_
        refine lv_iload_n hx hb dX0_areOne_14 rfl (lv_at hl 2 rfl) ?_
        refine lv_iload hx hb dX0_areOne_15 (lv_at hl 6 rfl) ?_
        obtain ⟨r1, hr1, hf⟩ := wb_b hf
        refine vp_callSi (W.runV (As := [.int x2, .int y6_6]) (rest := []) ⟨hx, hb, hml, hown, hts⟩ (cn_X1_degreeOf l D cB cI cZ N a1 I1 M1 x2 y6_6 r1 hr1) (cwV 2 hts gX0_areOne_X1_degreeOf rfl rfl rfl cdX1_degreeOf ⟨Nat.le_of_ble_eq_true rfl, Nat.le_of_ble_eq_true rfl⟩) (wb_preV (hP.sub (ws' := (wWX1 cB cI cZ a1 I1 M1)) [2, 3, 4] rfl) hK (wr_1 hK hP (q0 := 2) rfl)) rfl rfl hl.1 rfl (lv_room (Nat.le_of_ble_eq_true rfl)) dX0_areOne_17 ⟨Nat.le_of_ble_eq_true rfl, Nat.le_of_ble_eq_true rfl⟩) (fun r9 e9 => ?_)
        rw [e9]
        refine lv_istore (lv' := [(7, .int r1), (0, .ref (a0 0)), (1, .ref (a1 0)), (2, .int x2), (3, .int x3), (4, .int x4), (5, .int y6_5), (6, .int y6_6)]) hx hb dX0_areOne_20 hl (by decide) rfl (fun ls hl => ?_)
        refine lv_aload_n hx hb dX0_areOne_22 rfl (lv_at hl 2 rfl) ?_
        refine lv_iload_n hx hb dX0_areOne_23 rfl (lv_at hl 4 rfl) ?_
        refine lv_iload hx hb dX0_areOne_24 (lv_at hl 7 rfl) ?_
        obtain ⟨r2, hr2, hf⟩ := wb_b hf
        refine vp_callSi (W.runV (As := [.int x3, .int y6_6]) (rest := []) ⟨hx, hb, hml, hown, hts⟩ (cn_X1_degreeOf l D cB cI cZ N a1 I1 M1 x3 y6_6 r2 hr2) (cwV 2 hts gX0_areOne_X1_degreeOf rfl rfl rfl cdX1_degreeOf ⟨Nat.le_of_ble_eq_true rfl, Nat.le_of_ble_eq_true rfl⟩) (wb_preV (hP.sub (ws' := (wWX1 cB cI cZ a1 I1 M1)) [2, 3, 4] rfl) hK (wr_1 hK hP (q0 := 2) rfl)) rfl rfl hl.1 rfl (lv_room (Nat.le_of_ble_eq_true rfl)) dX0_areOne_26 ⟨Nat.le_of_ble_eq_true rfl, Nat.le_of_ble_eq_true rfl⟩) (fun r9 e9 => ?_)
        rw [e9]
        refine lv_istore (lv' := [(8, .int r2), (7, .int r1), (0, .ref (a0 0)), (1, .ref (a1 0)), (2, .int x2), (3, .int x3), (4, .int x4), (5, .int y6_5), (6, .int y6_6)]) hx hb dX0_areOne_29 hl (by decide) rfl (fun ls hl => ?_)
        refine lv_iload hx hb dX0_areOne_31 (lv_at hl 1 rfl) ?_
        refine lv_iconst (v := (-1 : Int32)) hx hb dX0_areOne_33 (by decide) ?_
        refine lv_icmp_eq (tgt := 72) hx hb dX0_areOne_34 (by decide) (fun hc => ?_) (fun hc => ?_)
        · replace hf := wb_t hc hf
          obtain ⟨v3, ev3, hf⟩ := wb_v hf
          refine lv_iinc (v := v3) (lv' := [(6, .int v3), (8, .int r2), (7, .int r1), (0, .ref (a0 0)), (1, .ref (a1 0)), (2, .int x2), (3, .int x3), (4, .int x4), (5, .int y6_5)]) hx hb dX0_areOne_72 hl (k := 8) rfl (by rw [ev3]; rfl) (by decide) rfl (fun ls hl => ?_)
          refine lv_goto (tgt := 6) hx hb dX0_areOne_75 (by decide) ?_
          exact ih6 y6_5 v3 ls (lv_sub hl [3, 4, 5, 6, 7, 8, 0] rfl) hf
        · replace hf := wb_f hc hf
          refine lv_iload hx hb dX0_areOne_37 (lv_at hl 0 rfl) ?_
          refine lv_iconst (v := (-1 : Int32)) hx hb dX0_areOne_39 (by decide) ?_
          refine lv_icmp_eq (tgt := 72) hx hb dX0_areOne_40 (by decide) (fun hc => ?_) (fun hc => ?_)
          · replace hf := wb_t hc hf
            obtain ⟨v4, ev4, hf⟩ := wb_v hf
            refine lv_iinc (v := v4) (lv' := [(6, .int v4), (8, .int r2), (7, .int r1), (0, .ref (a0 0)), (1, .ref (a1 0)), (2, .int x2), (3, .int x3), (4, .int x4), (5, .int y6_5)]) hx hb dX0_areOne_72 hl (k := 8) rfl (by rw [ev4]; rfl) (by decide) rfl (fun ls hl => ?_)
            refine lv_goto (tgt := 6) hx hb dX0_areOne_75 (by decide) ?_
            exact ih6 y6_5 v4 ls (lv_sub hl [3, 4, 5, 6, 7, 8, 0] rfl) hf
          · replace hf := wb_f hc hf
            refine lv_aload_n hx hb dX0_areOne_43 rfl (lv_at hl 2 rfl) ?_
            refine lv_iload hx hb dX0_areOne_44 (lv_at hl 1 rfl) ?_
            refine lv_iload hx hb dX0_areOne_46 (lv_at hl 0 rfl) ?_
            obtain ⟨r5, hr5, hf⟩ := wb_b hf
            refine vp_callSi (W.runV (As := [.int r1, .int r2]) (rest := []) ⟨hx, hb, hml, hown, hts⟩ (cn_X4_costBeside l D cB cI cZ N a0 I0 M0 r1 r2 r5 hr5) (cwV 2 hts gX0_areOne_X4_costBeside rfl rfl rfl cdX4_costBeside ⟨Nat.le_of_ble_eq_true rfl, Nat.le_of_ble_eq_true rfl⟩) (wb_preV (hP.sub (ws' := (wWX4 cB cI cZ a0 I0 M0)) [0, 1] rfl) hK (wr_4 hK hP (q0 := 0) rfl)) rfl rfl hl.1 rfl (lv_room (Nat.le_of_ble_eq_true rfl)) dX0_areOne_48 ⟨Nat.le_of_ble_eq_true rfl, Nat.le_of_ble_eq_true rfl⟩) (fun r9 e9 => ?_)
            rw [e9]
            refine lv_iconst (v := (1 : Int32)) hx hb dX0_areOne_51 (by decide) ?_
            refine lv_icmp_le (tgt := 69) hx hb dX0_areOne_52 (by decide) (fun hc => ?_) (fun hc => ?_)
            · replace hf := wb_t hc hf
              obtain ⟨v6, ev6, hf⟩ := wb_v hf
              refine lv_iinc (v := v6) (lv' := [(5, .int v6), (8, .int r2), (7, .int r1), (0, .ref (a0 0)), (1, .ref (a1 0)), (2, .int x2), (3, .int x3), (4, .int x4), (6, .int y6_6)]) hx hb dX0_areOne_69 hl (k := 7) rfl (by rw [ev6]; rfl) (by decide) rfl (fun ls hl => ?_)
              obtain ⟨v7, ev7, hf⟩ := wb_v hf
              refine lv_iinc (v := v7) (lv' := [(6, .int v7), (5, .int v6), (8, .int r2), (7, .int r1), (0, .ref (a0 0)), (1, .ref (a1 0)), (2, .int x2), (3, .int x3), (4, .int x4)]) hx hb dX0_areOne_72 hl (k := 8) rfl (by rw [ev7]; rfl) (by decide) rfl (fun ls hl => ?_)
              refine lv_goto (tgt := 6) hx hb dX0_areOne_75 (by decide) ?_
              exact ih6 v6 v7 ls (lv_sub hl [4, 5, 6, 7, 8, 1, 0] rfl) hf
            · replace hf := wb_f hc hf
              refine lv_aload_n hx hb dX0_areOne_55 rfl (lv_at hl 2 rfl) ?_
              refine lv_iload hx hb dX0_areOne_56 (lv_at hl 0 rfl) ?_
              refine lv_iload hx hb dX0_areOne_58 (lv_at hl 1 rfl) ?_
              obtain ⟨r8, hr8, hf⟩ := wb_b hf
              refine vp_callSi (W.runV (As := [.int r2, .int r1]) (rest := []) ⟨hx, hb, hml, hown, hts⟩ (cn_X4_costBeside l D cB cI cZ N a0 I0 M0 r2 r1 r8 hr8) (cwV 2 hts gX0_areOne_X4_costBeside rfl rfl rfl cdX4_costBeside ⟨Nat.le_of_ble_eq_true rfl, Nat.le_of_ble_eq_true rfl⟩) (wb_preV (hP.sub (ws' := (wWX4 cB cI cZ a0 I0 M0)) [0, 1] rfl) hK (wr_4 hK hP (q0 := 0) rfl)) rfl rfl hl.1 rfl (lv_room (Nat.le_of_ble_eq_true rfl)) dX0_areOne_60 ⟨Nat.le_of_ble_eq_true rfl, Nat.le_of_ble_eq_true rfl⟩) (fun r9 e9 => ?_)
              rw [e9]
              refine lv_iconst (v := (1 : Int32)) hx hb dX0_areOne_63 (by decide) ?_
              refine lv_icmp_le (tgt := 69) hx hb dX0_areOne_64 (by decide) (fun hc => ?_) (fun hc => ?_)
              · replace hf := wb_t hc hf
                obtain ⟨v9, ev9, hf⟩ := wb_v hf
                refine lv_iinc (v := v9) (lv' := [(5, .int v9), (8, .int r2), (7, .int r1), (0, .ref (a0 0)), (1, .ref (a1 0)), (2, .int x2), (3, .int x3), (4, .int x4), (6, .int y6_6)]) hx hb dX0_areOne_69 hl (k := 7) rfl (by rw [ev9]; rfl) (by decide) rfl (fun ls hl => ?_)
                obtain ⟨v10, ev10, hf⟩ := wb_v hf
                refine lv_iinc (v := v10) (lv' := [(6, .int v10), (5, .int v9), (8, .int r2), (7, .int r1), (0, .ref (a0 0)), (1, .ref (a1 0)), (2, .int x2), (3, .int x3), (4, .int x4)]) hx hb dX0_areOne_72 hl (k := 8) rfl (by rw [ev10]; rfl) (by decide) rfl (fun ls hl => ?_)
                refine lv_goto (tgt := 6) hx hb dX0_areOne_75 (by decide) ?_
                exact ih6 v9 v10 ls (lv_sub hl [4, 5, 6, 7, 8, 1, 0] rfl) hf
              · replace hf := wb_f hc hf
                refine lv_iconst (v := (0 : Int32)) hx hb dX0_areOne_67 (by decide) ?_
                exact W.zret (v := (0 : Int32)) hx hb hr (by decide) (fun t ht hW => ⟨_, rfl, Option.some.inj hf, ht⟩) (fun _ h => nomatch h) dX0_areOne_68
  exact L6 N (0 : Int32) (0 : Int32) ls (lv_sub hl [2, 3, 4, 5, 6, 1, 0] rfl) hf

set_option maxHeartbeats 4000000 in
set_option maxRecDepth 100000 in
theorem cn_X0_join (l : Launch) (D : va_G) (cB cI cZ : ClassId) (N : Nat) (a0 : Nat → Nat) (I0 : Nat → Int32) (M0 : Nat → Nat → Int32) (x1 : Int32) (x2 : Int32) (x3 : Int32) (sz : Nat) (R : (Nat → Int32) × (Nat → Nat → Int32)) (hf : fX0_join N I0 M0 x1 x2 x3 = some R) : Met l yX0_join wsX0_join ({ frames := 1, cells := 0, slots := 0, locals := 40 }) (va_Pc [.ref (a0 0), .int x1, .int x2, .int x3] (wb_preD D [(cB, .byte), (cI, .int), (cZ, .boolean)] (wWX0 cB cI cZ a0 I0 M0) sz)) (va_Qv (fun _ : Unit => True) (fun _ t => wb_post D [(cB, .byte), (cI, .int), (cZ, .boolean)] (va_A (wWX0 cB cI cZ a0 I0 M0) sz) (wWX0 cB cI cZ a0 R.1 R.2) t) (va_A (wWX0 cB cI cZ a0 I0 M0) sz)) 0 0 (va_A (wWX0 cB cI cZ a0 I0 M0) sz) := by
  refine Met.ofW (cc := cX0_join) (maxL := 6) (ret := none) pn_X0 rfl ?_
  intro p e s m args below meth c s₁ B hml hv
  obtain ⟨rfl, hsz, hP, hK, hD0⟩ := hv
  have hx := B.exec
  have hb := B.bytes
  have hr := B.returns
  have hts := atoms_spec (ws := wsX0_join) B.pre
  have hown : s.vm.findClass RX0 = some m.cls := (findClass_of_methodNamed B.named :)
  have hlocks := B.notSynchronized
  have hinX0 : ∀ w ∈ u_ws RX0 TX0 1, w ∈ wsX0_join := fun w h => List.mem_cons_of_mem _ (List.mem_append_right _ h)
  subst hsz
  have hD := hD0.self (sz := s.heap.size)
  generalize hAe : va_A (wWX0 cB cI cZ a0 I0 M0) s.heap.size = A at hD ⊢
  have hA : ∀ q : Nat, s.heap.size ≤ q → A q := fun q h => by rw [← hAe]; exact Or.inr h
  have hS : va_S A s.heap s.heap [] := va_S.rf
  have hl := lv_entry ([.ref (a0 0), .int x1, .int x2, .int x3]) (n := 6) (Nat.le_of_ble_eq_true rfl)
  rw [lg_entry_eq]
  generalize (lg_sl ([.ref (a0 0), .int x1, .int x2, .int x3]) ++ List.replicate (6 - (lg_sl ([.ref (a0 0), .int x1, .int x2, .int x3])).length) Slot.unset).toArray = ls at hl ⊢
  have hl : lv_has ls 6 [(0, .ref (a0 0)), (1, .int x1), (2, .int x2), (3, .int x3)] := hl
  unfold fX0_join at hf
  obtain ⟨H, hHe⟩ : ∃ H : Heap, H = s.heap := ⟨_, rfl⟩
  obtain ⟨locs, hle⟩ : ∃ locs : List Loc, locs = [] := ⟨_, rfl⟩
  refine wb_start (H := H) (locs := locs) hHe hle ?_
  rw [← hHe] at hP
  have hS : va_S A s.heap H locs := by rw [hHe, hle]; exact va_S.rf
  refine lv_iload_n hx hb dX0_join_0 rfl (lv_at hl 1 rfl) ?_
  refine lv_iload_n hx hb dX0_join_1 rfl (lv_at hl 2 rfl) ?_
  refine va_mmin hx hb (hml.trans hl.1.symm) hown (hts (.methodLink RX0 34 Lib.Math.min.name) (List.mem_of_getElem? (i := 1) rfl)) (hts (.static Lib.Math.min.name) (List.mem_of_getElem? (i := 2) rfl)) (hts (.initialized "java/lang/Math") (List.mem_of_getElem? (i := 3) rfl)) (hts (.code Lib.Math.min.name Lib.Math.min.code 2 (some .int)) (List.mem_of_getElem? (i := 4) rfl)) (Nat.le_of_ble_eq_true rfl) (Nat.le_of_ble_eq_true rfl) (Nat.zero_le _) (Nat.zero_le _) dX0_join_2 ?_
  obtain ⟨v1, ev1, hf⟩ := wb_v hf
  refine wb_topi ev1 ?_
  refine lv_istore (lv' := [(4, .int v1), (0, .ref (a0 0)), (1, .int x1), (2, .int x2), (3, .int x3)]) hx hb dX0_join_5 hl (by decide) rfl (fun ls hl => ?_)
  refine lv_iconst (v := (0 : Int32)) hx hb dX0_join_7 (by decide) ?_
  refine lv_istore (lv' := [(5, .int (0 : Int32)), (4, .int v1), (0, .ref (a0 0)), (1, .int x1), (2, .int x2), (3, .int x3)]) hx hb dX0_join_8 hl (by decide) rfl (fun ls hl => ?_)
  have L10 : ∀ (fu10 : Nat) (I0_l10 : Nat → Int32) (M0_l10 : Nat → Nat → Int32) (y10_5 : Int32) (H : Heap) (locs : List Loc), va_P D vwCl (wWX0 cB cI cZ a0 I0_l10 M0_l10) H → va_D A (wWX0 cB cI cZ a0 I0_l10 M0_l10) → va_S A s.heap H locs → ∀ (ls : Array Slot), lv_has ls 6 [(0, .ref (a0 0)), (1, .int x1), (2, .int x2), (3, .int x3), (4, .int v1), (5, .int y10_5)] → fX0_join_L10 N x1 x2 x3 v1 fu10 I0_l10 M0_l10 y10_5 = some R → W p l e (headSpec wsX0_join { frames := 1, cells := 0, slots := 0, locals := 40 }).room s m [.ref (a0 0), .int x1, .int x2, .int x3].toArray below meth c H locs 0 0 (MQ below (va_Qv (fun _ : Unit => True) (fun _ t => wb_post D [(cB, .byte), (cI, .int), (cZ, .boolean)] A (wWX0 cB cI cZ a0 R.1 R.2) t) A) [.ref (a0 0), .int x1, .int x2, .int x3].toArray s 0 0 A) (F0 m 10 ls []) := by
    intro fu10
    induction fu10 with
    | zero =>
      intro I0_l10 M0_l10 y10_5 H locs hP hD hS ls hl hf
      exact absurd hf (by rw [fX0_join_L10.eq_1]; exact fun h => nomatch h)
    | succ fu10 ih10 =>
      intro I0_l10 M0_l10 y10_5 H locs hP hD hS ls hl hf
      rw [fX0_join_L10.eq_2] at hf
      refine lv_iload hx hb dX0_join_10 (lv_at hl 5 rfl) ?_
      refine lv_iload_n hx hb dX0_join_12 rfl (lv_at hl 3 rfl) ?_
      refine lv_icmp_gt (tgt := 53) hx hb dX0_join_13 (by decide) (fun hc => ?_) (fun hc => ?_)
      · replace hf := wb_t hc hf
        exact W.vret hx hb hr (fun t ht hW => by rw [← Option.some.inj hf]; exact ⟨⟨(), rfl, trivial, by rw [ht]; exact hP, va_K.moved hW.alike hK, hD⟩, hS.F ht⟩) hS.2.2 dX0_join_53
      · replace hf := wb_f hc hf
        refine lv_aload_n hx hb dX0_join_16 rfl (lv_at hl 0 rfl) ?_
        refine va_get (D := D) (ci := 0) (v := .ref (a0 1)) (C := RX0) (T := TX0) (N := 1) hx hb hts hinX0 hown hK hP 0 rfl rfl 0 (by decide) (hts (.fieldLink RX0 9 "WheelBook$Births" "part" "[I") (List.mem_of_getElem? (i := 5) rfl)) (fun _ h9 => h9) rfl dX0_join_17 ?_
        refine lv_iload hx hb dX0_join_20 (lv_at hl 5 rfl) ?_
        obtain ⟨hin, hf⟩ := wb_n hf
        refine va_iald hx hb hK hP 1 1 rfl rfl hin dX0_join_22 ?_
        refine lv_iload_n hx hb dX0_join_23 rfl (lv_at hl 1 rfl) ?_
        refine lv_icmp_eq (tgt := 38) hx hb dX0_join_24 (by decide) (fun hc => ?_) (fun hc => ?_)
        · replace hf := wb_t hc hf
          refine lv_aload_n hx hb dX0_join_38 rfl (lv_at hl 0 rfl) ?_
          refine va_get (D := D) (ci := 0) (v := .ref (a0 1)) (C := RX0) (T := TX0) (N := 1) hx hb hts hinX0 hown hK hP 0 rfl rfl 0 (by decide) (hts (.fieldLink RX0 9 "WheelBook$Births" "part" "[I") (List.mem_of_getElem? (i := 5) rfl)) (fun _ h9 => h9) rfl dX0_join_39 ?_
          refine lv_iload hx hb dX0_join_42 (lv_at hl 5 rfl) ?_
          refine lv_iload hx hb dX0_join_44 (lv_at hl 4 rfl) ?_
          obtain ⟨hin, hf⟩ := wb_n hf
          refine va_iast hx hb hK hP hD hS 1 1 rfl rfl hin dX0_join_46 (fun H locs hP hD hS => ?_)
          have hP : va_P D vwCl (wWX0 cB cI cZ a0 I0_l10 (wb_um M0_l10 0 (y10_5).toNatClampNeg v1)) H := hP
          have hD : va_D A (wWX0 cB cI cZ a0 I0_l10 (wb_um M0_l10 0 (y10_5).toNatClampNeg v1)) := hD
          obtain ⟨M0_2, eM0_2, hf⟩ := wb_v hf
          rw [← eM0_2] at hP hD
          obtain ⟨v3, ev3, hf⟩ := wb_v hf
          refine lv_iinc (v := v3) (lv' := [(5, .int v3), (0, .ref (a0 0)), (1, .int x1), (2, .int x2), (3, .int x3), (4, .int v1)]) hx hb dX0_join_47 hl (k := 5) rfl (by rw [ev3]; rfl) (by decide) rfl (fun ls hl => ?_)
          refine lv_goto (tgt := 10) hx hb dX0_join_50 (by decide) ?_
          exact ih10 I0_l10 M0_2 v3 H locs hP hD hS ls (lv_sub hl [1, 2, 3, 4, 5, 0] rfl) hf
        · replace hf := wb_f hc hf
          refine lv_aload_n hx hb dX0_join_27 rfl (lv_at hl 0 rfl) ?_
          refine va_get (D := D) (ci := 0) (v := .ref (a0 1)) (C := RX0) (T := TX0) (N := 1) hx hb hts hinX0 hown hK hP 0 rfl rfl 0 (by decide) (hts (.fieldLink RX0 9 "WheelBook$Births" "part" "[I") (List.mem_of_getElem? (i := 5) rfl)) (fun _ h9 => h9) rfl dX0_join_28 ?_
          refine lv_iload hx hb dX0_join_31 (lv_at hl 5 rfl) ?_
          obtain ⟨hin, hf⟩ := wb_n hf
          refine va_iald hx hb hK hP 1 1 rfl rfl hin dX0_join_33 ?_
          refine lv_iload_n hx hb dX0_join_34 rfl (lv_at hl 2 rfl) ?_
          refine lv_icmp_ne (tgt := 47) hx hb dX0_join_35 (by decide) (fun hc => ?_) (fun hc => ?_)
          · replace hf := wb_f hc hf
            obtain ⟨v4, ev4, hf⟩ := wb_v hf
            refine lv_iinc (v := v4) (lv' := [(5, .int v4), (0, .ref (a0 0)), (1, .int x1), (2, .int x2), (3, .int x3), (4, .int v1)]) hx hb dX0_join_47 hl (k := 5) rfl (by rw [ev4]; rfl) (by decide) rfl (fun ls hl => ?_)
            refine lv_goto (tgt := 10) hx hb dX0_join_50 (by decide) ?_
            exact ih10 I0_l10 M0_l10 v4 H locs hP hD hS ls (lv_sub hl [1, 2, 3, 4, 5, 0] rfl) hf
          · replace hf := wb_t hc hf
            refine lv_aload_n hx hb dX0_join_38 rfl (lv_at hl 0 rfl) ?_
            refine va_get (D := D) (ci := 0) (v := .ref (a0 1)) (C := RX0) (T := TX0) (N := 1) hx hb hts hinX0 hown hK hP 0 rfl rfl 0 (by decide) (hts (.fieldLink RX0 9 "WheelBook$Births" "part" "[I") (List.mem_of_getElem? (i := 5) rfl)) (fun _ h9 => h9) rfl dX0_join_39 ?_
            refine lv_iload hx hb dX0_join_42 (lv_at hl 5 rfl) ?_
            refine lv_iload hx hb dX0_join_44 (lv_at hl 4 rfl) ?_
            obtain ⟨hin, hf⟩ := wb_n hf
            refine va_iast hx hb hK hP hD hS 1 1 rfl rfl hin dX0_join_46 (fun H locs hP hD hS => ?_)
            have hP : va_P D vwCl (wWX0 cB cI cZ a0 I0_l10 (wb_um M0_l10 0 (y10_5).toNatClampNeg v1)) H := hP
            have hD : va_D A (wWX0 cB cI cZ a0 I0_l10 (wb_um M0_l10 0 (y10_5).toNatClampNeg v1)) := hD
            obtain ⟨M0_5, eM0_5, hf⟩ := wb_v hf
            rw [← eM0_5] at hP hD
            obtain ⟨v6, ev6, hf⟩ := wb_v hf
            refine lv_iinc (v := v6) (lv' := [(5, .int v6), (0, .ref (a0 0)), (1, .int x1), (2, .int x2), (3, .int x3), (4, .int v1)]) hx hb dX0_join_47 hl (k := 5) rfl (by rw [ev6]; rfl) (by decide) rfl (fun ls hl => ?_)
            refine lv_goto (tgt := 10) hx hb dX0_join_50 (by decide) ?_
            exact ih10 I0_l10 M0_5 v6 H locs hP hD hS ls (lv_sub hl [1, 2, 3, 4, 5, 0] rfl) hf
  exact L10 N I0 M0 (0 : Int32) H locs hP hD hS ls (lv_sub hl [2, 3, 4, 5, 1, 0] rfl) hf

set_option maxHeartbeats 4000000 in
set_option maxRecDepth 100000 in
theorem cn_X0_partBy (l : Launch) (D : va_G) (cB cI cZ : ClassId) (N : Nat) (a0 : Nat → Nat) (I0 : Nat → Int32) (M0 : Nat → Nat → Int32) (a1 : Nat → Nat) (I1 : Nat → Int32) (M1 : Nat → Nat → Int32) (a2 : Nat → Nat) (I2 : Nat → Int32) (M2 : Nat → Nat → Int32) (x3 : Int32) (sz : Nat) (R : (Nat → Int32) × (Nat → Nat → Int32)) (hf : fX0_partBy N I0 M0 I1 M1 I2 M2 x3 = some R) : Met l yX0_partBy wsX0_partBy ({ frames := 4, cells := 0, slots := 0, locals := 96 }) (va_Pc [.ref (a0 0), .ref (a1 0), .ref (a2 0), .int x3] (wb_preD D [(cB, .byte), (cI, .int), (cZ, .boolean)] ((wWX0 cB cI cZ a0 I0 M0) ++ ((wWX4 cB cI cZ a1 I1 M1) ++ (wWX1 cB cI cZ a2 I2 M2))) sz)) (va_Qv (fun _ : Unit => True) (fun _ t => wb_post D [(cB, .byte), (cI, .int), (cZ, .boolean)] (va_A ((wWX0 cB cI cZ a0 I0 M0) ++ ((wWX4 cB cI cZ a1 I1 M1) ++ (wWX1 cB cI cZ a2 I2 M2))) sz) ((wWX0 cB cI cZ a0 R.1 R.2) ++ ((wWX4 cB cI cZ a1 I1 M1) ++ (wWX1 cB cI cZ a2 I2 M2))) t) (va_A ((wWX0 cB cI cZ a0 I0 M0) ++ ((wWX4 cB cI cZ a1 I1 M1) ++ (wWX1 cB cI cZ a2 I2 M2))) sz)) 0 0 (va_A ((wWX0 cB cI cZ a0 I0 M0) ++ ((wWX4 cB cI cZ a1 I1 M1) ++ (wWX1 cB cI cZ a2 I2 M2))) sz) := by
  refine Met.ofW (cc := cX0_partBy) (maxL := 6) (ret := none) pn_X0 rfl ?_
  intro p e s m args below meth c s₁ B hml hv
  obtain ⟨rfl, hsz, hP, hK, hD0⟩ := hv
  have hx := B.exec
  have hb := B.bytes
  have hr := B.returns
  have hts := atoms_spec (ws := wsX0_partBy) B.pre
  have hown : s.vm.findClass RX0 = some m.cls := (findClass_of_methodNamed B.named :)
  have hlocks := B.notSynchronized
  have hinX0 : ∀ w ∈ u_ws RX0 TX0 1, w ∈ wsX0_partBy := fun w h => List.mem_cons_of_mem _ (List.mem_append_left _ (List.mem_append_left _ (List.mem_append_right _ h)))
  subst hsz
  have hD := hD0.self (sz := s.heap.size)
  generalize hAe : va_A ((wWX0 cB cI cZ a0 I0 M0) ++ ((wWX4 cB cI cZ a1 I1 M1) ++ (wWX1 cB cI cZ a2 I2 M2))) s.heap.size = A at hD ⊢
  have hA : ∀ q : Nat, s.heap.size ≤ q → A q := fun q h => by rw [← hAe]; exact Or.inr h
  have hS : va_S A s.heap s.heap [] := va_S.rf
  have hl := lv_entry ([.ref (a0 0), .ref (a1 0), .ref (a2 0), .int x3]) (n := 6) (Nat.le_of_ble_eq_true rfl)
  rw [lg_entry_eq]
  generalize (lg_sl ([.ref (a0 0), .ref (a1 0), .ref (a2 0), .int x3]) ++ List.replicate (6 - (lg_sl ([.ref (a0 0), .ref (a1 0), .ref (a2 0), .int x3])).length) Slot.unset).toArray = ls at hl ⊢
  have hl : lv_has ls 6 [(0, .ref (a0 0)), (1, .ref (a1 0)), (2, .ref (a2 0)), (3, .int x3)] := hl
  unfold fX0_partBy at hf
  obtain ⟨H, hHe⟩ : ∃ H : Heap, H = s.heap := ⟨_, rfl⟩
  obtain ⟨locs, hle⟩ : ∃ locs : List Loc, locs = [] := ⟨_, rfl⟩
  refine wb_start (H := H) (locs := locs) hHe hle ?_
  rw [← hHe] at hP
  have hS : va_S A s.heap H locs := by rw [hHe, hle]; exact va_S.rf
  refine lv_iconst (v := (0 : Int32)) hx hb dX0_partBy_0 (by decide) ?_
  refine lv_istore (lv' := [(4, .int (0 : Int32)), (0, .ref (a0 0)), (1, .ref (a1 0)), (2, .ref (a2 0)), (3, .int x3)]) hx hb dX0_partBy_1 hl (by decide) rfl (fun ls hl => ?_)
  have L3 : ∀ (fu3 : Nat) (I0_l3 : Nat → Int32) (M0_l3 : Nat → Nat → Int32) (y3_4 : Int32) (H : Heap) (locs : List Loc), va_P D vwCl ((wWX0 cB cI cZ a0 I0_l3 M0_l3) ++ ((wWX4 cB cI cZ a1 I1 M1) ++ (wWX1 cB cI cZ a2 I2 M2))) H → va_D A ((wWX0 cB cI cZ a0 I0_l3 M0_l3) ++ ((wWX4 cB cI cZ a1 I1 M1) ++ (wWX1 cB cI cZ a2 I2 M2))) → va_S A s.heap H locs → ∀ (ls : Array Slot), lv_has ls 6 [(0, .ref (a0 0)), (1, .ref (a1 0)), (2, .ref (a2 0)), (3, .int x3), (4, .int y3_4)] → fX0_partBy_L3 N I1 M1 I2 M2 x3 fu3 I0_l3 M0_l3 y3_4 = some R → W p l e (headSpec wsX0_partBy { frames := 4, cells := 0, slots := 0, locals := 96 }).room s m [.ref (a0 0), .ref (a1 0), .ref (a2 0), .int x3].toArray below meth c H locs 0 0 (MQ below (va_Qv (fun _ : Unit => True) (fun _ t => wb_post D [(cB, .byte), (cI, .int), (cZ, .boolean)] A ((wWX0 cB cI cZ a0 R.1 R.2) ++ ((wWX4 cB cI cZ a1 I1 M1) ++ (wWX1 cB cI cZ a2 I2 M2))) t) A) [.ref (a0 0), .ref (a1 0), .ref (a2 0), .int x3].toArray s 0 0 A) (F0 m 3 ls []) := by
    intro fu3
    induction fu3 with
    | zero =>
      intro I0_l3 M0_l3 y3_4 H locs hP hD hS ls hl hf
      exact absurd hf (by rw [fX0_partBy_L3.eq_1]; exact fun h => nomatch h)
    | succ fu3 ih3 =>
      intro I0_l3 M0_l3 y3_4 H locs hP hD hS ls hl hf
      rw [fX0_partBy_L3.eq_2] at hf
      refine lv_iload hx hb dX0_partBy_3 (lv_at hl 4 rfl) ?_
      refine lv_bipush (v := (120 : Int32)) hx hb dX0_partBy_5 (by decide) ?_
      refine lv_icmp_ge (tgt := 91) hx hb dX0_partBy_7 (by decide) (fun hc => ?_) (fun hc => ?_)
      · replace hf := wb_t hc hf
        exact W.vret hx hb hr (fun t ht hW => by rw [← Option.some.inj hf]; exact ⟨⟨(), rfl, trivial, by rw [ht]; exact hP, va_K.moved hW.alike hK, hD⟩, hS.F ht⟩) hS.2.2 dX0_partBy_91
      · replace hf := wb_f hc hf
        refine lv_aload_n hx hb dX0_partBy_10 rfl (lv_at hl 0 rfl) ?_
        refine va_get (D := D) (ci := 0) (v := .ref (a0 1)) (C := RX0) (T := TX0) (N := 1) hx hb hts hinX0 hown hK hP 0 rfl rfl 0 (by decide) (hts (.fieldLink RX0 9 "WheelBook$Births" "part" "[I") (List.mem_of_getElem? (i := 1) rfl)) (fun _ h9 => h9) rfl dX0_partBy_11 ?_
        refine lv_iload hx hb dX0_partBy_14 (lv_at hl 4 rfl) ?_
        refine lv_iload hx hb dX0_partBy_16 (lv_at hl 4 rfl) ?_
        obtain ⟨hin, hf⟩ := wb_n hf
        refine va_iast hx hb hK hP hD hS 1 1 rfl rfl hin dX0_partBy_18 (fun H locs hP hD hS => ?_)
        have hP : va_P D vwCl ((wWX0 cB cI cZ a0 I0_l3 (wb_um M0_l3 0 (y3_4).toNatClampNeg y3_4)) ++ ((wWX4 cB cI cZ a1 I1 M1) ++ (wWX1 cB cI cZ a2 I2 M2))) H := hP
        have hD : va_D A ((wWX0 cB cI cZ a0 I0_l3 (wb_um M0_l3 0 (y3_4).toNatClampNeg y3_4)) ++ ((wWX4 cB cI cZ a1 I1 M1) ++ (wWX1 cB cI cZ a2 I2 M2))) := hD
        obtain ⟨M0_1, eM0_1, hf⟩ := wb_v hf
        rw [← eM0_1] at hP hD
        refine lv_iconst (v := (0 : Int32)) hx hb dX0_partBy_19 (by decide) ?_
        refine lv_istore (lv' := [(5, .int (0 : Int32)), (0, .ref (a0 0)), (1, .ref (a1 0)), (2, .ref (a2 0)), (3, .int x3), (4, .int y3_4)]) hx hb dX0_partBy_20 hl (by decide) rfl (fun ls hl => ?_)
        have L22 : ∀ (fu22 : Nat) (I0_l22 : Nat → Int32) (M0_l22 : Nat → Nat → Int32) (y22_5 : Int32) (H : Heap) (locs : List Loc), va_P D vwCl ((wWX0 cB cI cZ a0 I0_l22 M0_l22) ++ ((wWX4 cB cI cZ a1 I1 M1) ++ (wWX1 cB cI cZ a2 I2 M2))) H → va_D A ((wWX0 cB cI cZ a0 I0_l22 M0_l22) ++ ((wWX4 cB cI cZ a1 I1 M1) ++ (wWX1 cB cI cZ a2 I2 M2))) → va_S A s.heap H locs → ∀ (ls : Array Slot), lv_has ls 6 [(0, .ref (a0 0)), (1, .ref (a1 0)), (2, .ref (a2 0)), (3, .int x3), (4, .int y3_4), (5, .int y22_5)] → fX0_partBy_L22 N I1 M1 I2 M2 x3 y3_4 (fX0_partBy_L3 N I1 M1 I2 M2 x3 fu3) fu22 I0_l22 M0_l22 y22_5 = some R → W p l e (headSpec wsX0_partBy { frames := 4, cells := 0, slots := 0, locals := 96 }).room s m [.ref (a0 0), .ref (a1 0), .ref (a2 0), .int x3].toArray below meth c H locs 0 0 (MQ below (va_Qv (fun _ : Unit => True) (fun _ t => wb_post D [(cB, .byte), (cI, .int), (cZ, .boolean)] A ((wWX0 cB cI cZ a0 R.1 R.2) ++ ((wWX4 cB cI cZ a1 I1 M1) ++ (wWX1 cB cI cZ a2 I2 M2))) t) A) [.ref (a0 0), .ref (a1 0), .ref (a2 0), .int x3].toArray s 0 0 A) (F0 m 22 ls []) := by
          intro fu22
          induction fu22 with
          | zero =>
            intro I0_l22 M0_l22 y22_5 H locs hP hD hS ls hl hf
            exact absurd hf (by rw [fX0_partBy_L22.eq_1]; exact fun h => nomatch h)
          | succ fu22 ih22 =>
            intro I0_l22 M0_l22 y22_5 H locs hP hD hS ls hl hf
            rw [fX0_partBy_L22.eq_2] at hf
            refine lv_iload hx hb dX0_partBy_22 (lv_at hl 5 rfl) ?_
            refine lv_iload hx hb dX0_partBy_24 (lv_at hl 4 rfl) ?_
            refine lv_icmp_ge (tgt := 85) hx hb dX0_partBy_26 (by decide) (fun hc => ?_) (fun hc => ?_)
            · replace hf := wb_t hc hf
              obtain ⟨v2, ev2, hf⟩ := wb_v hf
              refine lv_iinc (v := v2) (lv' := [(4, .int v2), (0, .ref (a0 0)), (1, .ref (a1 0)), (2, .ref (a2 0)), (3, .int x3), (5, .int y22_5)]) hx hb dX0_partBy_85 hl (k := 4) rfl (by rw [ev2]; rfl) (by decide) rfl (fun ls hl => ?_)
              refine lv_goto (tgt := 3) hx hb dX0_partBy_88 (by decide) ?_
              exact ih3 I0_l22 M0_l22 v2 H locs hP hD hS ls (lv_sub hl [1, 2, 3, 4, 0] rfl) hf
            · replace hf := wb_f hc hf
              refine lv_aload_n hx hb dX0_partBy_29 rfl (lv_at hl 0 rfl) ?_
              refine va_get (D := D) (ci := 0) (v := .ref (a0 1)) (C := RX0) (T := TX0) (N := 1) hx hb hts hinX0 hown hK hP 0 rfl rfl 0 (by decide) (hts (.fieldLink RX0 9 "WheelBook$Births" "part" "[I") (List.mem_of_getElem? (i := 1) rfl)) (fun _ h9 => h9) rfl dX0_partBy_30 ?_
              refine lv_iload hx hb dX0_partBy_33 (lv_at hl 5 rfl) ?_
              obtain ⟨hin, hf⟩ := wb_n hf
              refine va_iald hx hb hK hP 1 1 rfl rfl hin dX0_partBy_35 ?_
              refine lv_aload_n hx hb dX0_partBy_36 rfl (lv_at hl 0 rfl) ?_
              refine va_get (D := D) (ci := 0) (v := .ref (a0 1)) (C := RX0) (T := TX0) (N := 1) hx hb hts hinX0 hown hK hP 0 rfl rfl 0 (by decide) (hts (.fieldLink RX0 9 "WheelBook$Births" "part" "[I") (List.mem_of_getElem? (i := 1) rfl)) (fun _ h9 => h9) rfl dX0_partBy_37 ?_
              refine lv_iload hx hb dX0_partBy_40 (lv_at hl 4 rfl) ?_
              obtain ⟨hin, hf⟩ := wb_n hf
              refine va_iald hx hb hK hP 1 1 rfl rfl hin dX0_partBy_42 ?_
              refine lv_icmp_eq (tgt := 79) hx hb dX0_partBy_43 (by decide) (fun hc => ?_) (fun hc => ?_)
              · replace hf := wb_t hc hf
                obtain ⟨v3, ev3, hf⟩ := wb_v hf
                refine lv_iinc (v := v3) (lv' := [(5, .int v3), (0, .ref (a0 0)), (1, .ref (a1 0)), (2, .ref (a2 0)), (3, .int x3), (4, .int y3_4)]) hx hb dX0_partBy_79 hl (k := 5) rfl (by rw [ev3]; rfl) (by decide) rfl (fun ls hl => ?_)
                refine lv_goto (tgt := 22) hx hb dX0_partBy_82 (by decide) ?_
                exact ih22 I0_l22 M0_l22 v3 H locs hP hD hS ls (lv_sub hl [1, 2, 3, 4, 5, 0] rfl) hf
              · replace hf := wb_f hc hf
                refine lv_aload_n hx hb dX0_partBy_46 rfl (lv_at hl 1 rfl) ?_
                refine lv_aload_n hx hb dX0_partBy_47 rfl (lv_at hl 2 rfl) ?_
                refine lv_iload hx hb dX0_partBy_48 (lv_at hl 4 rfl) ?_
                refine lv_iload hx hb dX0_partBy_50 (lv_at hl 5 rfl) ?_
                refine lv_iload_n hx hb dX0_partBy_52 rfl (lv_at hl 3 rfl) ?_
                obtain ⟨r4, hr4, hf⟩ := wb_b hf
                refine vp_callSi (W.runS (As := [.ref (a1 0), .ref (a2 0), .int y3_4, .int y22_5, .int x3]) (rest := []) ⟨hx, hb, hml, hown, hts⟩ (cn_X0_areOne l D cB cI cZ N a1 I1 M1 a2 I2 M2 y3_4 y22_5 x3 r4 hr4) (va_cwS 5 hts gX0_partBy_X0_areOne rfl rfl rfl csX0_areOne ⟨Nat.le_of_ble_eq_true rfl, Nat.le_of_ble_eq_true rfl⟩) (wb_preS (hP.sub (ws' := ((wWX4 cB cI cZ a1 I1 M1) ++ (wWX1 cB cI cZ a2 I2 M2))) [2, 3, 4, 5, 6] rfl) hK) rfl rfl hl.1 rfl (lv_room (Nat.le_of_ble_eq_true rfl)) dX0_partBy_53 ⟨Nat.le_of_ble_eq_true rfl, Nat.le_of_ble_eq_true rfl⟩) (fun r9 e9 => ?_)
                rw [e9]
                refine lv_if_eq (tgt := 79) hx hb dX0_partBy_56 (by decide) (fun hc => ?_) (fun hc => ?_)
                · replace hf := wb_t hc hf
                  obtain ⟨v5, ev5, hf⟩ := wb_v hf
                  refine lv_iinc (v := v5) (lv' := [(5, .int v5), (0, .ref (a0 0)), (1, .ref (a1 0)), (2, .ref (a2 0)), (3, .int x3), (4, .int y3_4)]) hx hb dX0_partBy_79 hl (k := 5) rfl (by rw [ev5]; rfl) (by decide) rfl (fun ls hl => ?_)
                  refine lv_goto (tgt := 22) hx hb dX0_partBy_82 (by decide) ?_
                  exact ih22 I0_l22 M0_l22 v5 H locs hP hD hS ls (lv_sub hl [1, 2, 3, 4, 5, 0] rfl) hf
                · replace hf := wb_f hc hf
                  refine lv_aload_n hx hb dX0_partBy_59 rfl (lv_at hl 0 rfl) ?_
                  refine lv_aload_n hx hb dX0_partBy_60 rfl (lv_at hl 0 rfl) ?_
                  refine va_get (D := D) (ci := 0) (v := .ref (a0 1)) (C := RX0) (T := TX0) (N := 1) hx hb hts hinX0 hown hK hP 0 rfl rfl 0 (by decide) (hts (.fieldLink RX0 9 "WheelBook$Births" "part" "[I") (List.mem_of_getElem? (i := 1) rfl)) (fun _ h9 => h9) rfl dX0_partBy_61 ?_
                  refine lv_iload hx hb dX0_partBy_64 (lv_at hl 4 rfl) ?_
                  obtain ⟨hin, hf⟩ := wb_n hf
                  refine va_iald hx hb hK hP 1 1 rfl rfl hin dX0_partBy_66 ?_
                  refine lv_aload_n hx hb dX0_partBy_67 rfl (lv_at hl 0 rfl) ?_
                  refine va_get (D := D) (ci := 0) (v := .ref (a0 1)) (C := RX0) (T := TX0) (N := 1) hx hb hts hinX0 hown hK hP 0 rfl rfl 0 (by decide) (hts (.fieldLink RX0 9 "WheelBook$Births" "part" "[I") (List.mem_of_getElem? (i := 1) rfl)) (fun _ h9 => h9) rfl dX0_partBy_68 ?_
                  refine lv_iload hx hb dX0_partBy_71 (lv_at hl 5 rfl) ?_
                  obtain ⟨hin, hf⟩ := wb_n hf
                  refine va_iald hx hb hK hP 1 1 rfl rfl hin dX0_partBy_73 ?_
                  refine lv_iload hx hb dX0_partBy_74 (lv_at hl 4 rfl) ?_
                  obtain ⟨r6, hr6, hf⟩ := wb_b hf
                  have hPc := hP.sub (ws' := (wWX0 cB cI cZ a0 I0_l22 M0_l22)) [0, 1] rfl
                  have hDc := hD.sub (ws' := (wWX0 cB cI cZ a0 I0_l22 M0_l22)) [0, 1] (by decide) rfl
                  have hFc := va_free (wc := (wWX0 cB cI cZ a0 I0_l22 M0_l22)) hD hS hA [0, 1] rfl
                  refine va_callv (va_runV (As := [.int (M0_l22 0 (y3_4).toNatClampNeg), .int (M0_l22 0 (y22_5).toNatClampNeg), .int y3_4]) (rest := []) ⟨hx, hb, hml, hown, hts⟩ (cn_X0_join l D cB cI cZ N a0 I0_l22 M0_l22 (M0_l22 0 (y3_4).toNatClampNeg) (M0_l22 0 (y22_5).toNatClampNeg) y3_4 H.size r6 hr6) (cwV 3 hts gX0_partBy_X0_join rfl rfl rfl cdX0_join ⟨Nat.le_of_ble_eq_true rfl, Nat.le_of_ble_eq_true rfl⟩) (wb_preDV hPc hK hDc (wr_0 hK hP (q0 := 0) rfl)) rfl rfl hl.1 rfl (lv_room (Nat.le_of_ble_eq_true rfl)) dX0_partBy_76 ⟨Nat.le_of_ble_eq_true rfl, Nat.le_of_ble_eq_true rfl⟩) hS (fun q _ h => hFc q h) hFc (fun u t H locs ht hvm hw hB hz1 hk1 hS => ?_)
                  obtain ⟨hP, hD⟩ := wj_s (wc := (wWX0 cB cI cZ a0 I0_l22 M0_l22)) (w1 := (wWX0 cB cI cZ a0 r6.1 r6.2)) (wf := ((wWX0 cB cI cZ a0 r6.1 r6.2) ++ ((wWX4 cB cI cZ a1 I1 M1) ++ (wWX1 cB cI cZ a2 I2 M2)))) 0 2 hP hD rfl rfl hk1 hFc ht hB
                  obtain ⟨v7, ev7, hf⟩ := wb_v hf
                  refine lv_iinc (v := v7) (lv' := [(5, .int v7), (0, .ref (a0 0)), (1, .ref (a1 0)), (2, .ref (a2 0)), (3, .int x3), (4, .int y3_4)]) hx hb dX0_partBy_79 hl (k := 5) rfl (by rw [ev7]; rfl) (by decide) rfl (fun ls hl => ?_)
                  refine lv_goto (tgt := 22) hx hb dX0_partBy_82 (by decide) ?_
                  exact ih22 r6.1 r6.2 v7 H locs hP hD hS ls (lv_sub hl [1, 2, 3, 4, 5, 0] rfl) hf
        exact L22 N I0_l3 M0_1 (0 : Int32) H locs hP hD hS ls (lv_sub hl [1, 2, 3, 4, 5, 0] rfl) hf
  exact L3 N I0 M0 (0 : Int32) H locs hP hD hS ls (lv_sub hl [1, 2, 3, 4, 0] rfl) hf

set_option maxHeartbeats 4000000 in
set_option maxRecDepth 100000 in
theorem cn_X0_leastOf (l : Launch) (D : va_G) (cB cI cZ : ClassId) (N : Nat) (a0 : Nat → Nat) (I0 : Nat → Int32) (M0 : Nat → Nat → Int32) (x1 : Int32) (R : Int32) (hf : fX0_leastOf N I0 M0 x1 = some R) : Met l yX0_leastOf wsX0_leastOf ({ frames := 0, cells := 0, slots := 0, locals := 0 }) (va_Pc [.ref (a0 0), .int x1] (wb_pre D [(cB, .byte), (cI, .int), (cZ, .boolean)] (wWX0 cB cI cZ a0 I0 M0))) (vp_Si (fun r => r = R)) 0 0 (fun _ => False) := by
  refine Met.ofW (cc := cX0_leastOf) (maxL := 2) (ret := (some .int)) pn_X0 rfl ?_
  intro p e s m args below meth c s₁ B hml hv
  obtain ⟨rfl, hP, hK⟩ := hv
  have hx := B.exec
  have hb := B.bytes
  have hr := B.returns
  have hts := atoms_spec (ws := wsX0_leastOf) B.pre
  have hown : s.vm.findClass RX0 = some m.cls := (findClass_of_methodNamed B.named :)
  have hlocks := B.notSynchronized
  have hinX0 : ∀ w ∈ u_ws RX0 TX0 1, w ∈ wsX0_leastOf := fun w h => List.mem_cons_of_mem _ (List.mem_append_right _ h)
  have hl := lv_entry ([.ref (a0 0), .int x1]) (n := 2) (Nat.le_of_ble_eq_true rfl)
  rw [lg_entry_eq]
  generalize (lg_sl ([.ref (a0 0), .int x1]) ++ List.replicate (2 - (lg_sl ([.ref (a0 0), .int x1])).length) Slot.unset).toArray = ls at hl ⊢
  have hl : lv_has ls 2 [(0, .ref (a0 0)), (1, .int x1)] := hl
  unfold fX0_leastOf at hf
  refine lv_aload_n hx hb dX0_leastOf_0 rfl (lv_at hl 0 rfl) ?_
  refine va_get (D := D) (ci := 0) (v := .ref (a0 1)) (C := RX0) (T := TX0) (N := 1) hx hb hts hinX0 hown hK hP 0 rfl rfl 0 (by decide) (hts (.fieldLink RX0 9 "WheelBook$Births" "part" "[I") (List.mem_of_getElem? (i := 1) rfl)) (fun _ h9 => h9) rfl dX0_leastOf_1 ?_
  refine lv_iload_n hx hb dX0_leastOf_4 rfl (lv_at hl 1 rfl) ?_
  obtain ⟨hin, hf⟩ := wb_n hf
  refine va_iald hx hb hK hP 1 1 rfl rfl hin dX0_leastOf_5 ?_
  exact W.iret (v := (M0 0 (x1).toNatClampNeg)) hx hb hr (fun t ht hW => ⟨_, rfl, Option.some.inj hf, ht⟩) (fun _ h => nomatch h) dX0_leastOf_6

set_option maxHeartbeats 4000000 in
set_option maxRecDepth 100000 in
theorem cn_X1_tellsSomething (l : Launch) (D : va_G) (cB cI cZ : ClassId) (N : Nat) (a0 : Nat → Nat) (I0 : Nat → Int32) (M0 : Nat → Nat → Int32) (x1 : Int32) (R : Int32) (hf : fX1_tellsSomething N I0 M0 x1 = some R) : Met l yX1_tellsSomething wsX1_tellsSomething ({ frames := 1, cells := 0, slots := 0, locals := 22 }) (va_Pc [.ref (a0 0), .int x1] (wb_pre D [(cB, .byte), (cI, .int), (cZ, .boolean)] (wWX1 cB cI cZ a0 I0 M0))) (vp_Si (fun r => r = R)) 0 0 (fun _ => False) := by
  refine Met.ofW (cc := cX1_tellsSomething) (maxL := 3) (ret := (some .boolean)) pn_X1 rfl ?_
  intro p e s m args below meth c s₁ B hml hv
  obtain ⟨rfl, hP, hK⟩ := hv
  have hx := B.exec
  have hb := B.bytes
  have hr := B.returns
  have hts := atoms_spec (ws := wsX1_tellsSomething) B.pre
  have hown : s.vm.findClass RX1 = some m.cls := (findClass_of_methodNamed B.named :)
  have hlocks := B.notSynchronized
  have hl := lv_entry ([.ref (a0 0), .int x1]) (n := 3) (Nat.le_of_ble_eq_true rfl)
  rw [lg_entry_eq]
  generalize (lg_sl ([.ref (a0 0), .int x1]) ++ List.replicate (3 - (lg_sl ([.ref (a0 0), .int x1])).length) Slot.unset).toArray = ls at hl ⊢
  have hl : lv_has ls 3 [(0, .ref (a0 0)), (1, .int x1)] := hl
  unfold fX1_tellsSomething at hf
  refine lv_iconst (v := (0 : Int32)) hx hb dX1_tellsSomething_0 (by decide) ?_
  refine lv_istore_n (lv' := [(2, .int (0 : Int32)), (0, .ref (a0 0)), (1, .int x1)]) hx hb dX1_tellsSomething_1 rfl hl (by decide) rfl (fun ls hl => ?_)
  have L2 : ∀ (fu2 : Nat) (y2_2 : Int32), ∀ (ls : Array Slot), lv_has ls 3 [(0, .ref (a0 0)), (1, .int x1), (2, .int y2_2)] → fX1_tellsSomething_L2 N I0 M0 x1 fu2 y2_2 = some R → W p l e (headSpec wsX1_tellsSomething { frames := 1, cells := 0, slots := 0, locals := 22 }).room s m [.ref (a0 0), .int x1].toArray below meth c s.heap [] 0 0 (MQ below (vp_Si (fun r => r = R)) [.ref (a0 0), .int x1].toArray s 0 0 (fun _ => False)) (F0 m 2 ls []) := by
    intro fu2
    induction fu2 with
    | zero =>
      intro y2_2 ls hl hf
      exact absurd hf (by rw [fX1_tellsSomething_L2.eq_1]; exact fun h => nomatch h)
    | succ fu2 ih2 =>
      intro y2_2 ls hl hf
      rw [fX1_tellsSomething_L2.eq_2] at hf
      refine lv_iload_n hx hb dX1_tellsSomething_2 rfl (lv_at hl 2 rfl) ?_
      refine lv_bipush (v := (22 : Int32)) hx hb dX1_tellsSomething_3 (by decide) ?_
      refine lv_icmp_ge (tgt := 26) hx hb dX1_tellsSomething_5 (by decide) (fun hc => ?_) (fun hc => ?_)
      · replace hf := wb_t hc hf
        refine lv_iconst (v := (0 : Int32)) hx hb dX1_tellsSomething_26 (by decide) ?_
        exact W.zret (v := (0 : Int32)) hx hb hr (by decide) (fun t ht hW => ⟨_, rfl, Option.some.inj hf, ht⟩) (fun _ h => nomatch h) dX1_tellsSomething_27
      · replace hf := wb_f hc hf
        refine lv_aload_n hx hb dX1_tellsSomething_8 rfl (lv_at hl 0 rfl) ?_
        refine lv_iload_n hx hb dX1_tellsSomething_9 rfl (lv_at hl 1 rfl) ?_
        refine lv_iload_n hx hb dX1_tellsSomething_10 rfl (lv_at hl 2 rfl) ?_
        obtain ⟨r1, hr1, hf⟩ := wb_b hf
        refine vp_callSi (W.runV (As := [.int x1, .int y2_2]) (rest := []) ⟨hx, hb, hml, hown, hts⟩ (cn_X1_degreeOf l D cB cI cZ N a0 I0 M0 x1 y2_2 r1 hr1) (cwV 2 hts gX1_tellsSomething_X1_degreeOf rfl rfl rfl cdX1_degreeOf ⟨Nat.le_of_ble_eq_true rfl, Nat.le_of_ble_eq_true rfl⟩) (wb_preV hP hK (wr_1 hK hP (q0 := 0) rfl)) rfl rfl hl.1 rfl (lv_room (Nat.le_of_ble_eq_true rfl)) dX1_tellsSomething_11 ⟨Nat.le_of_ble_eq_true rfl, Nat.le_of_ble_eq_true rfl⟩) (fun r9 e9 => ?_)
        rw [e9]
        refine lv_iconst (v := (-1 : Int32)) hx hb dX1_tellsSomething_14 (by decide) ?_
        refine lv_icmp_eq (tgt := 20) hx hb dX1_tellsSomething_15 (by decide) (fun hc => ?_) (fun hc => ?_)
        · replace hf := wb_t hc hf
          obtain ⟨v2, ev2, hf⟩ := wb_v hf
          refine lv_iinc (v := v2) (lv' := [(2, .int v2), (0, .ref (a0 0)), (1, .int x1)]) hx hb dX1_tellsSomething_20 hl (k := 2) rfl (by rw [ev2]; rfl) (by decide) rfl (fun ls hl => ?_)
          refine lv_goto (tgt := 2) hx hb dX1_tellsSomething_23 (by decide) ?_
          exact ih2 v2 ls (lv_sub hl [1, 2, 0] rfl) hf
        · replace hf := wb_f hc hf
          refine lv_iconst (v := (1 : Int32)) hx hb dX1_tellsSomething_18 (by decide) ?_
          exact W.zret (v := (1 : Int32)) hx hb hr (by decide) (fun t ht hW => ⟨_, rfl, Option.some.inj hf, ht⟩) (fun _ h => nomatch h) dX1_tellsSomething_19
  exact L2 N (0 : Int32) ls (lv_sub hl [1, 2, 0] rfl) hf

set_option maxHeartbeats 4000000 in
set_option maxRecDepth 100000 in
theorem cn_X0_howManyParts (l : Launch) (D : va_G) (cB cI cZ : ClassId) (N : Nat) (a0 : Nat → Nat) (I0 : Nat → Int32) (M0 : Nat → Nat → Int32) (a1 : Nat → Nat) (I1 : Nat → Int32) (M1 : Nat → Nat → Int32) (R : Int32) (hf : fX0_howManyParts N I0 M0 I1 M1 = some R) : Met l yX0_howManyParts wsX0_howManyParts ({ frames := 2, cells := 0, slots := 0, locals := 44 }) (va_Pc [.ref (a0 0), .ref (a1 0)] (wb_pre D [(cB, .byte), (cI, .int), (cZ, .boolean)] ((wWX0 cB cI cZ a0 I0 M0) ++ (wWX1 cB cI cZ a1 I1 M1)))) (vp_Si (fun r => r = R)) 0 0 (fun _ => False) := by
  refine Met.ofW (cc := cX0_howManyParts) (maxL := 4) (ret := (some .int)) pn_X0 rfl ?_
  intro p e s m args below meth c s₁ B hml hv
  obtain ⟨rfl, hP, hK⟩ := hv
  have hx := B.exec
  have hb := B.bytes
  have hr := B.returns
  have hts := atoms_spec (ws := wsX0_howManyParts) B.pre
  have hown : s.vm.findClass RX0 = some m.cls := (findClass_of_methodNamed B.named :)
  have hlocks := B.notSynchronized
  have hinX0 : ∀ w ∈ u_ws RX0 TX0 1, w ∈ wsX0_howManyParts := fun w h => List.mem_cons_of_mem _ (List.mem_append_left _ (List.mem_append_right _ h))
  have hl := lv_entry ([.ref (a0 0), .ref (a1 0)]) (n := 4) (Nat.le_of_ble_eq_true rfl)
  rw [lg_entry_eq]
  generalize (lg_sl ([.ref (a0 0), .ref (a1 0)]) ++ List.replicate (4 - (lg_sl ([.ref (a0 0), .ref (a1 0)])).length) Slot.unset).toArray = ls at hl ⊢
  have hl : lv_has ls 4 [(0, .ref (a0 0)), (1, .ref (a1 0))] := hl
  unfold fX0_howManyParts at hf
  refine lv_iconst (v := (0 : Int32)) hx hb dX0_howManyParts_0 (by decide) ?_
  refine lv_istore_n (lv' := [(2, .int (0 : Int32)), (0, .ref (a0 0)), (1, .ref (a1 0))]) hx hb dX0_howManyParts_1 rfl hl (by decide) rfl (fun ls hl => ?_)
  refine lv_iconst (v := (0 : Int32)) hx hb dX0_howManyParts_2 (by decide) ?_
  refine lv_istore_n (lv' := [(3, .int (0 : Int32)), (2, .int (0 : Int32)), (0, .ref (a0 0)), (1, .ref (a1 0))]) hx hb dX0_howManyParts_3 rfl hl (by decide) rfl (fun ls hl => ?_)
  have L4 : ∀ (fu4 : Nat) (y4_2 : Int32) (y4_3 : Int32), ∀ (ls : Array Slot), lv_has ls 4 [(0, .ref (a0 0)), (1, .ref (a1 0)), (2, .int y4_2), (3, .int y4_3)] → fX0_howManyParts_L4 N I0 M0 I1 M1 fu4 y4_2 y4_3 = some R → W p l e (headSpec wsX0_howManyParts { frames := 2, cells := 0, slots := 0, locals := 44 }).room s m [.ref (a0 0), .ref (a1 0)].toArray below meth c s.heap [] 0 0 (MQ below (vp_Si (fun r => r = R)) [.ref (a0 0), .ref (a1 0)].toArray s 0 0 (fun _ => False)) (F0 m 4 ls []) := by
    intro fu4
    induction fu4 with
    | zero =>
      intro y4_2 y4_3 ls hl hf
      exact absurd hf (by rw [fX0_howManyParts_L4.eq_1]; exact fun h => nomatch h)
    | succ fu4 ih4 =>
      intro y4_2 y4_3 ls hl hf
      rw [fX0_howManyParts_L4.eq_2] at hf
      refine lv_iload_n hx hb dX0_howManyParts_4 rfl (lv_at hl 3 rfl) ?_
      refine lv_bipush (v := (120 : Int32)) hx hb dX0_howManyParts_5 (by decide) ?_
      refine lv_icmp_ge (tgt := 37) hx hb dX0_howManyParts_7 (by decide) (fun hc => ?_) (fun hc => ?_)
      · replace hf := wb_t hc hf
        refine lv_iload_n hx hb dX0_howManyParts_37 rfl (lv_at hl 2 rfl) ?_
        exact W.iret (v := y4_2) hx hb hr (fun t ht hW => ⟨_, rfl, Option.some.inj hf, ht⟩) (fun _ h => nomatch h) dX0_howManyParts_38
      · replace hf := wb_f hc hf
        refine lv_aload_n hx hb dX0_howManyParts_10 rfl (lv_at hl 0 rfl) ?_
        refine va_get (D := D) (ci := 0) (v := .ref (a0 1)) (C := RX0) (T := TX0) (N := 1) hx hb hts hinX0 hown hK hP 0 rfl rfl 0 (by decide) (hts (.fieldLink RX0 9 "WheelBook$Births" "part" "[I") (List.mem_of_getElem? (i := 1) rfl)) (fun _ h9 => h9) rfl dX0_howManyParts_11 ?_
        refine lv_iload_n hx hb dX0_howManyParts_14 rfl (lv_at hl 3 rfl) ?_
        obtain ⟨hin, hf⟩ := wb_n hf
        refine va_iald hx hb hK hP 1 1 rfl rfl hin dX0_howManyParts_15 ?_
        refine lv_iload_n hx hb dX0_howManyParts_16 rfl (lv_at hl 3 rfl) ?_
        refine lv_icmp_ne (tgt := 31) hx hb dX0_howManyParts_17 (by decide) (fun hc => ?_) (fun hc => ?_)
        · replace hf := wb_f hc hf
          obtain ⟨v1, ev1, hf⟩ := wb_v hf
          refine lv_iinc (v := v1) (lv' := [(3, .int v1), (0, .ref (a0 0)), (1, .ref (a1 0)), (2, .int y4_2)]) hx hb dX0_howManyParts_31 hl (k := 3) rfl (by rw [ev1]; rfl) (by decide) rfl (fun ls hl => ?_)
          refine lv_goto (tgt := 4) hx hb dX0_howManyParts_34 (by decide) ?_
          exact ih4 y4_2 v1 ls (lv_sub hl [1, 2, 3, 0] rfl) hf
        · replace hf := wb_t hc hf
          refine lv_aload_n hx hb dX0_howManyParts_20 rfl (lv_at hl 1 rfl) ?_
          refine lv_iload_n hx hb dX0_howManyParts_21 rfl (lv_at hl 3 rfl) ?_
          obtain ⟨r2, hr2, hf⟩ := wb_b hf
          refine vp_callSi (W.runV (As := [.int y4_3]) (rest := []) ⟨hx, hb, hml, hown, hts⟩ (cn_X1_tellsSomething l D cB cI cZ N a1 I1 M1 y4_3 r2 hr2) (cwV 1 hts gX0_howManyParts_X1_tellsSomething rfl rfl rfl cdX1_tellsSomething ⟨Nat.le_of_ble_eq_true rfl, Nat.le_of_ble_eq_true rfl⟩) (wb_preV (hP.sub (ws' := (wWX1 cB cI cZ a1 I1 M1)) [2, 3, 4] rfl) hK (wr_1 hK hP (q0 := 2) rfl)) rfl rfl hl.1 rfl (lv_room (Nat.le_of_ble_eq_true rfl)) dX0_howManyParts_22 ⟨Nat.le_of_ble_eq_true rfl, Nat.le_of_ble_eq_true rfl⟩) (fun r9 e9 => ?_)
          rw [e9]
          refine lv_if_eq (tgt := 31) hx hb dX0_howManyParts_25 (by decide) (fun hc => ?_) (fun hc => ?_)
          · replace hf := wb_t hc hf
            obtain ⟨v3, ev3, hf⟩ := wb_v hf
            refine lv_iinc (v := v3) (lv' := [(3, .int v3), (0, .ref (a0 0)), (1, .ref (a1 0)), (2, .int y4_2)]) hx hb dX0_howManyParts_31 hl (k := 3) rfl (by rw [ev3]; rfl) (by decide) rfl (fun ls hl => ?_)
            refine lv_goto (tgt := 4) hx hb dX0_howManyParts_34 (by decide) ?_
            exact ih4 y4_2 v3 ls (lv_sub hl [1, 2, 3, 0] rfl) hf
          · replace hf := wb_f hc hf
            obtain ⟨v4, ev4, hf⟩ := wb_v hf
            refine lv_iinc (v := v4) (lv' := [(2, .int v4), (0, .ref (a0 0)), (1, .ref (a1 0)), (3, .int y4_3)]) hx hb dX0_howManyParts_28 hl (k := 2) rfl (by rw [ev4]; rfl) (by decide) rfl (fun ls hl => ?_)
            obtain ⟨v5, ev5, hf⟩ := wb_v hf
            refine lv_iinc (v := v5) (lv' := [(3, .int v5), (2, .int v4), (0, .ref (a0 0)), (1, .ref (a1 0))]) hx hb dX0_howManyParts_31 hl (k := 3) rfl (by rw [ev5]; rfl) (by decide) rfl (fun ls hl => ?_)
            refine lv_goto (tgt := 4) hx hb dX0_howManyParts_34 (by decide) ?_
            exact ih4 v4 v5 ls (lv_sub hl [2, 3, 1, 0] rfl) hf
  exact L4 N (0 : Int32) (0 : Int32) ls (lv_sub hl [2, 3, 1, 0] rfl) hf

set_option maxHeartbeats 4000000 in
set_option maxRecDepth 100000 in
theorem cn_X1_keepDraft (l : Launch) (D : va_G) (cB cI cZ : ClassId) (N : Nat) (a0 : Nat → Nat) (I0 : Nat → Int32) (M0 : Nat → Nat → Int32) (x1 : Int32) (sz : Nat) (R : (Nat → Int32) × (Nat → Nat → Int32)) (hf : fX1_keepDraft N I0 M0 x1 = some R) : Met l yX1_keepDraft wsX1_keepDraft ({ frames := 1, cells := 0, slots := 0, locals := 80 }) (va_Pc [.ref (a0 0), .int x1] (wb_preD D [(cB, .byte), (cI, .int), (cZ, .boolean)] (wWX1 cB cI cZ a0 I0 M0) sz)) (va_Qv (fun _ : Unit => True) (fun _ t => wb_post D [(cB, .byte), (cI, .int), (cZ, .boolean)] (va_A (wWX1 cB cI cZ a0 I0 M0) sz) (wWX1 cB cI cZ a0 R.1 R.2) t) (va_A (wWX1 cB cI cZ a0 I0 M0) sz)) 0 0 (va_A (wWX1 cB cI cZ a0 I0 M0) sz) := by
  refine Met.ofW (cc := cX1_keepDraft) (maxL := 2) (ret := none) pn_X1 rfl ?_
  intro p e s m args below meth c s₁ B hml hv
  obtain ⟨rfl, hsz, hP, hK, hD0⟩ := hv
  have hx := B.exec
  have hb := B.bytes
  have hr := B.returns
  have hts := atoms_spec (ws := wsX1_keepDraft) B.pre
  have hown : s.vm.findClass RX1 = some m.cls := (findClass_of_methodNamed B.named :)
  have hlocks := B.notSynchronized
  have hinX1 : ∀ w ∈ u_ws RX1 TX1 2, w ∈ wsX1_keepDraft := fun w h => List.mem_cons_of_mem _ (List.mem_append_right _ h)
  subst hsz
  have hD := hD0.self (sz := s.heap.size)
  generalize hAe : va_A (wWX1 cB cI cZ a0 I0 M0) s.heap.size = A at hD ⊢
  have hA : ∀ q : Nat, s.heap.size ≤ q → A q := fun q h => by rw [← hAe]; exact Or.inr h
  have hS : va_S A s.heap s.heap [] := va_S.rf
  have hl := lv_entry ([.ref (a0 0), .int x1]) (n := 2) (Nat.le_of_ble_eq_true rfl)
  rw [lg_entry_eq]
  generalize (lg_sl ([.ref (a0 0), .int x1]) ++ List.replicate (2 - (lg_sl ([.ref (a0 0), .int x1])).length) Slot.unset).toArray = ls at hl ⊢
  have hl : lv_has ls 2 [(0, .ref (a0 0)), (1, .int x1)] := hl
  unfold fX1_keepDraft at hf
  obtain ⟨H, hHe⟩ : ∃ H : Heap, H = s.heap := ⟨_, rfl⟩
  obtain ⟨locs, hle⟩ : ∃ locs : List Loc, locs = [] := ⟨_, rfl⟩
  refine wb_start (H := H) (locs := locs) hHe hle ?_
  rw [← hHe] at hP
  have hS : va_S A s.heap H locs := by rw [hHe, hle]; exact va_S.rf
  refine lv_aload_n hx hb dX1_keepDraft_0 rfl (lv_at hl 0 rfl) ?_
  refine va_get (D := D) (ci := 1) (v := .ref (a0 2)) (C := RX1) (T := TX1) (N := 2) hx hb hts hinX1 hown hK hP 0 rfl rfl 1 (by decide) (hts (.fieldLink RX1 15 "WheelBook$Books" "draft" "[I") (List.mem_of_getElem? (i := 1) rfl)) (fun _ h9 => h9) rfl dX1_keepDraft_1 ?_
  refine lv_iconst (v := (0 : Int32)) hx hb dX1_keepDraft_4 (by decide) ?_
  refine lv_aload_n hx hb dX1_keepDraft_5 rfl (lv_at hl 0 rfl) ?_
  refine va_get (D := D) (ci := 1) (v := .ref (a0 1)) (C := RX1) (T := TX1) (N := 2) hx hb hts hinX1 hown hK hP 0 rfl rfl 0 (by decide) (hts (.fieldLink RX1 9 "WheelBook$Books" "degrees" "[I") (List.mem_of_getElem? (i := 2) rfl)) (fun _ h9 => h9) rfl dX1_keepDraft_6 ?_
  refine lv_bipush (v := (22 : Int32)) hx hb dX1_keepDraft_9 (by decide) ?_
  refine lv_iload_n hx hb dX1_keepDraft_11 rfl (lv_at hl 1 rfl) ?_
  refine lv_imul hx hb dX1_keepDraft_12 ?_
  refine lv_bipush (v := (22 : Int32)) hx hb dX1_keepDraft_13 (by decide) ?_
  obtain ⟨hcp, hf⟩ := wb_n hf
  obtain ⟨hcp1, hcp2, hcp3, hcp4, hcp5⟩ := wb_cp hcp
  refine va_copyi hx hb (hml.trans hl.1.symm) hown (hts (.methodLink RX1 24 arraycopyName) (List.mem_of_getElem? (i := 3) rfl)) (hts (.native arraycopyName) (List.mem_of_getElem? (i := 4) rfl)) (hts (.static arraycopyName) (List.mem_of_getElem? (i := 5) rfl)) (hts (.initialized "java/lang/System") (List.mem_of_getElem? (i := 6) rfl)) hK hP hD hS 2 1 1 1 rfl rfl rfl rfl rfl hcp1 hcp2 hcp3 hcp4 hcp5 (fun _ _ => rfl) (Nat.le_of_ble_eq_true rfl) (by decide +kernel) dX1_keepDraft_15 (fun H locs hP hD hS => ?_)
  have hP : va_P D vwCl (wWX1 cB cI cZ a0 I0 (wb_mm M0 0 (va_cpy (M0 1) (M0 0) ((0 : Int32)).toNatClampNeg (((22 : Int32) * x1)).toNatClampNeg ((22 : Int32)).toNatClampNeg))) H := hP
  have hD : va_D A (wWX1 cB cI cZ a0 I0 (wb_mm M0 0 (va_cpy (M0 1) (M0 0) ((0 : Int32)).toNatClampNeg (((22 : Int32) * x1)).toNatClampNeg ((22 : Int32)).toNatClampNeg))) := hD
  obtain ⟨M0_1, eM0_1, hf⟩ := wb_v hf
  rw [← eM0_1] at hP hD
  exact W.vret hx hb hr (fun t ht hW => by rw [← Option.some.inj hf]; exact ⟨⟨(), rfl, trivial, by rw [ht]; exact hP, va_K.moved hW.alike hK, hD⟩, hS.F ht⟩) hS.2.2 dX1_keepDraft_18

set_option maxHeartbeats 4000000 in
set_option maxRecDepth 100000 in
theorem cn_J7_fill_53178 (l : Launch) (D : va_G) (cB cI cZ : ClassId) (N : Nat) (b0 : Nat) (n0 : Nat) (f0 : Nat → Int32) (x1 : Int32) (sz : Nat) (R : (Nat → Int32)) (hf : fJ7_fill_53178 N n0 f0 x1 = some R) : Met l yJ7_fill_53178 wsJ7_fill_53178 ({ frames := 0, cells := 0, slots := 0, locals := 0 }) (va_Pc [.ref b0, .int x1] (wb_preD D [(cB, .byte), (cI, .int), (cZ, .boolean)] ([((b0, .inl (cI, n0, .inl f0)) : Nat × va_E)] : va_W) sz)) (va_Qv (fun _ : Unit => True) (fun _ t => wb_post D [(cB, .byte), (cI, .int), (cZ, .boolean)] (va_A ([((b0, .inl (cI, n0, .inl f0)) : Nat × va_E)] : va_W) sz) ([((b0, .inl (cI, n0, .inl R)) : Nat × va_E)] : va_W) t) (va_A ([((b0, .inl (cI, n0, .inl f0)) : Nat × va_E)] : va_W) sz)) 0 0 (va_A ([((b0, .inl (cI, n0, .inl f0)) : Nat × va_E)] : va_W) sz) := by
  refine va_MetF (cc := cJ7_fill_53178) (maxL := 4) (ret := none) (by decide +kernel) rfl ?_
  intro p e s m args below meth c s₁ B hml hv
  obtain ⟨rfl, hsz, hP, hK, hD0⟩ := hv
  have hx := B.exec
  have hb := B.bytes
  have hr := B.returns
  have hts := atoms_spec (ws := wsJ7_fill_53178) B.pre
  have hown : s.vm.findClass RJ7 = some m.cls := (findClass_of_methodNamed B.named :)
  have hlocks := B.notSynchronized
  subst hsz
  have hD := hD0.self (sz := s.heap.size)
  generalize hAe : va_A ([((b0, .inl (cI, n0, .inl f0)) : Nat × va_E)] : va_W) s.heap.size = A at hD ⊢
  have hA : ∀ q : Nat, s.heap.size ≤ q → A q := fun q h => by rw [← hAe]; exact Or.inr h
  have hS : va_S A s.heap s.heap [] := va_S.rf
  have hl := lv_entry ([.ref b0, .int x1]) (n := 4) (Nat.le_of_ble_eq_true rfl)
  rw [lg_entry_eq]
  generalize (lg_sl ([.ref b0, .int x1]) ++ List.replicate (4 - (lg_sl ([.ref b0, .int x1])).length) Slot.unset).toArray = ls at hl ⊢
  have hl : lv_has ls 4 [(0, .ref b0), (1, .int x1)] := hl
  unfold fJ7_fill_53178 at hf
  obtain ⟨H, hHe⟩ : ∃ H : Heap, H = s.heap := ⟨_, rfl⟩
  obtain ⟨locs, hle⟩ : ∃ locs : List Loc, locs = [] := ⟨_, rfl⟩
  refine wb_start (H := H) (locs := locs) hHe hle ?_
  rw [← hHe] at hP
  have hS : va_S A s.heap H locs := by rw [hHe, hle]; exact va_S.rf
  refine lv_iconst (v := (0 : Int32)) hx hb dJ7_fill_53178_0 (by decide) ?_
  refine lv_istore_n (lv' := [(2, .int (0 : Int32)), (0, .ref b0), (1, .int x1)]) hx hb dJ7_fill_53178_1 rfl hl (by decide) rfl (fun ls hl => ?_)
  refine lv_aload_n hx hb dJ7_fill_53178_2 rfl (lv_at hl 1 rfl) ?_
  refine va_alen (v := (Int32.ofNat n0)) hx hb hK hP 0 1 rfl rfl (by rfl) dJ7_fill_53178_3 ?_
  obtain ⟨v1, ev1, hf⟩ := wb_v hf
  refine wb_topi ev1 ?_
  refine lv_istore_n (lv' := [(3, .int v1), (2, .int (0 : Int32)), (0, .ref b0), (1, .int x1)]) hx hb dJ7_fill_53178_4 rfl hl (by decide) rfl (fun ls hl => ?_)
  have L5 : ∀ (fu5 : Nat) (f0_l5 : Nat → Int32) (y5_2 : Int32) (H : Heap) (locs : List Loc), va_P D vwCl ([((b0, .inl (cI, n0, .inl f0_l5)) : Nat × va_E)] : va_W) H → va_D A ([((b0, .inl (cI, n0, .inl f0_l5)) : Nat × va_E)] : va_W) → va_S A s.heap H locs → ∀ (ls : Array Slot), lv_has ls 4 [(0, .ref b0), (1, .int x1), (2, .int y5_2), (3, .int v1)] → fJ7_fill_53178_L5 N n0 x1 v1 fu5 f0_l5 y5_2 = some R → W p l e (headSpec wsJ7_fill_53178 { frames := 0, cells := 0, slots := 0, locals := 0 }).room s m [.ref b0, .int x1].toArray below meth c H locs 0 0 (MQ below (va_Qv (fun _ : Unit => True) (fun _ t => wb_post D [(cB, .byte), (cI, .int), (cZ, .boolean)] A ([((b0, .inl (cI, n0, .inl R)) : Nat × va_E)] : va_W) t) A) [.ref b0, .int x1].toArray s 0 0 A) (F0 m 5 ls []) := by
    intro fu5
    induction fu5 with
    | zero =>
      intro f0_l5 y5_2 H locs hP hD hS ls hl hf
      exact absurd hf (by rw [fJ7_fill_53178_L5.eq_1]; exact fun h => nomatch h)
    | succ fu5 ih5 =>
      intro f0_l5 y5_2 H locs hP hD hS ls hl hf
      rw [fJ7_fill_53178_L5.eq_2] at hf
      refine lv_iload_n hx hb dJ7_fill_53178_5 rfl (lv_at hl 2 rfl) ?_
      refine lv_iload_n hx hb dJ7_fill_53178_6 rfl (lv_at hl 3 rfl) ?_
      refine lv_icmp_ge (tgt := 20) hx hb dJ7_fill_53178_7 (by decide) (fun hc => ?_) (fun hc => ?_)
      · replace hf := wb_t hc hf
        exact W.vret hx hb hr (fun t ht hW => by rw [← Option.some.inj hf]; exact ⟨⟨(), rfl, trivial, by rw [ht]; exact hP, va_K.moved hW.alike hK, hD⟩, hS.F ht⟩) hS.2.2 dJ7_fill_53178_20
      · replace hf := wb_f hc hf
        refine lv_aload_n hx hb dJ7_fill_53178_10 rfl (lv_at hl 0 rfl) ?_
        refine lv_iload_n hx hb dJ7_fill_53178_11 rfl (lv_at hl 2 rfl) ?_
        refine lv_iload_n hx hb dJ7_fill_53178_12 rfl (lv_at hl 1 rfl) ?_
        obtain ⟨hin, hf⟩ := wb_n hf
        refine va_iast hx hb hK hP hD hS 0 1 rfl rfl hin dJ7_fill_53178_13 (fun H locs hP hD hS => ?_)
        have hP : va_P D vwCl ([((b0, .inl (cI, n0, .inl (upd f0_l5 (y5_2).toNatClampNeg x1))) : Nat × va_E)] : va_W) H := hP
        have hD : va_D A ([((b0, .inl (cI, n0, .inl (upd f0_l5 (y5_2).toNatClampNeg x1))) : Nat × va_E)] : va_W) := hD
        obtain ⟨f0_2, ef0_2, hf⟩ := wb_v hf
        rw [← ef0_2] at hP hD
        obtain ⟨v3, ev3, hf⟩ := wb_v hf
        refine lv_iinc (v := v3) (lv' := [(2, .int v3), (0, .ref b0), (1, .int x1), (3, .int v1)]) hx hb dJ7_fill_53178_14 hl (k := 2) rfl (by rw [ev3]; rfl) (by decide) rfl (fun ls hl => ?_)
        refine lv_goto (tgt := 5) hx hb dJ7_fill_53178_17 (by decide) ?_
        exact ih5 f0_2 v3 H locs hP hD hS ls (lv_sub hl [1, 2, 0, 3] rfl) hf
  exact L5 N f0 (0 : Int32) H locs hP hD hS ls (lv_sub hl [2, 3, 1, 0] rfl) hf

set_option maxHeartbeats 4000000 in
set_option maxRecDepth 100000 in
theorem cn_X9_isAtEnd (l : Launch) (D : va_G) (cB cI cZ : ClassId) (N : Nat) (a0 : Nat → Nat) (I0 : Nat → Int32) (M0 : Nat → Nat → Int32) (R : Int32) (hf : fX9_isAtEnd N I0 M0 = some R) : Met l yX9_isAtEnd wsX9_isAtEnd ({ frames := 0, cells := 0, slots := 0, locals := 0 }) (va_Pc [.ref (a0 0)] (wb_pre D [(cB, .byte), (cI, .int), (cZ, .boolean)] (wWX9 cB cI cZ a0 I0 M0))) (vp_Si (fun r => r = R)) 0 0 (fun _ => False) := by
  refine Met.ofW (cc := cX9_isAtEnd) (maxL := 1) (ret := (some .boolean)) pn_X9 rfl ?_
  intro p e s m args below meth c s₁ B hml hv
  obtain ⟨rfl, hP, hK⟩ := hv
  have hx := B.exec
  have hb := B.bytes
  have hr := B.returns
  have hts := atoms_spec (ws := wsX9_isAtEnd) B.pre
  have hown : s.vm.findClass RX9 = some m.cls := (findClass_of_methodNamed B.named :)
  have hlocks := B.notSynchronized
  have hinX9 : ∀ w ∈ u_ws RX9 TX9 10, w ∈ wsX9_isAtEnd := fun w h => List.mem_cons_of_mem _ (List.mem_append_right _ h)
  have hl := lv_entry ([.ref (a0 0)]) (n := 1) (Nat.le_of_ble_eq_true rfl)
  rw [lg_entry_eq]
  generalize (lg_sl ([.ref (a0 0)]) ++ List.replicate (1 - (lg_sl ([.ref (a0 0)])).length) Slot.unset).toArray = ls at hl ⊢
  have hl : lv_has ls 1 [(0, .ref (a0 0))] := hl
  unfold fX9_isAtEnd at hf
  refine lv_aload_n hx hb dX9_isAtEnd_0 rfl (lv_at hl 0 rfl) ?_
  refine va_get (D := D) (ci := 9) (v := .int (I0 4)) (C := RX9) (T := TX9) (N := 10) hx hb hts hinX9 hown hK hP 0 rfl rfl 5 (by decide) (hts (.fieldLink RX9 40 "WheelBook$Text" "kind" "I") (List.mem_of_getElem? (i := 1) rfl)) (fun _ h9 => h9) rfl dX9_isAtEnd_1 ?_
  refine lv_if_ne (tgt := 11) hx hb dX9_isAtEnd_4 (by decide) (fun hc => ?_) (fun hc => ?_)
  · replace hf := wb_f hc hf
    refine lv_iconst (v := (0 : Int32)) hx hb dX9_isAtEnd_11 (by decide) ?_
    exact W.zret (v := (0 : Int32)) hx hb hr (by decide) (fun t ht hW => ⟨_, rfl, Option.some.inj hf, ht⟩) (fun _ h => nomatch h) dX9_isAtEnd_12
  · replace hf := wb_t hc hf
    refine lv_iconst (v := (1 : Int32)) hx hb dX9_isAtEnd_7 (by decide) ?_
    refine lv_goto (tgt := 12) hx hb dX9_isAtEnd_8 (by decide) ?_
    exact W.zret (v := (1 : Int32)) hx hb hr (by decide) (fun t ht hW => ⟨_, rfl, Option.some.inj hf, ht⟩) (fun _ h => nomatch h) dX9_isAtEnd_12

set_option maxHeartbeats 4000000 in
set_option maxRecDepth 100000 in
theorem cn_X9_isWord (l : Launch) (D : va_G) (cB cI cZ : ClassId) (N : Nat) (aK aV : Nat → Nat) (a0 : Nat → Nat) (I0 : Nat → Int32) (M0 : Nat → Nat → Int32) (w1 : Nat) (hw1 : w1 < 19) (R : Int32) (hf : fX9_isWord N I0 M0 w1 = some R) : Met l yX9_isWord wsX9_isWord ({ frames := 4, cells := 0, slots := 0, locals := 121 }) (va_Pc [.ref (a0 0), .ref (aK w1)] (wb_preE D [(cB, .byte), (cI, .int), (cZ, .boolean)] (wWX9 cB cI cZ a0 I0 M0) aK aV)) (vp_Si (fun r => r = R)) 0 0 (fun _ => False) := by
  refine Met.ofW (cc := cX9_isWord) (maxL := 3) (ret := (some .boolean)) pn_X9 rfl ?_
  intro p e s m args below meth c s₁ B hml hv
  obtain ⟨rfl, ⟨hP, hK⟩, hZ⟩ := hv
  have hZ : wb_Z aK aV (fun _ => False) s s.heap := hZ
  have hSZ : va_S (fun _ : Nat => False) s.heap s.heap [] := va_S.rf
  have hx := B.exec
  have hb := B.bytes
  have hr := B.returns
  have hts := atoms_spec (ws := wsX9_isWord) B.pre
  have hown : s.vm.findClass RX9 = some m.cls := (findClass_of_methodNamed B.named :)
  have hlocks := B.notSynchronized
  have hinX9 : ∀ w ∈ u_ws RX9 TX9 10, w ∈ wsX9_isWord := fun w h => List.mem_cons_of_mem _ (List.mem_append_right _ h)
  have hl := lv_entry ([.ref (a0 0), .ref (aK w1)]) (n := 3) (Nat.le_of_ble_eq_true rfl)
  rw [lg_entry_eq]
  generalize (lg_sl ([.ref (a0 0), .ref (aK w1)]) ++ List.replicate (3 - (lg_sl ([.ref (a0 0), .ref (aK w1)])).length) Slot.unset).toArray = ls at hl ⊢
  have hl : lv_has ls 3 [(0, .ref (a0 0)), (1, .ref (aK w1))] := hl
  unfold fX9_isWord at hf
  refine lv_aload_n hx hb dX9_isWord_0 rfl (lv_at hl 0 rfl) ?_
  refine va_get (D := D) (ci := 9) (v := .int (I0 4)) (C := RX9) (T := TX9) (N := 10) hx hb hts hinX9 hown hK hP 0 rfl rfl 5 (by decide) (hts (.fieldLink RX9 40 "WheelBook$Text" "kind" "I") (List.mem_of_getElem? (i := 1) rfl)) (fun _ h9 => h9) rfl dX9_isWord_1 ?_
  refine lv_iconst (v := (1 : Int32)) hx hb dX9_isWord_4 (by decide) ?_
  refine lv_icmp_ne (tgt := 24) hx hb dX9_isWord_5 (by decide) (fun hc => ?_) (fun hc => ?_)
  · replace hf := wb_f hc hf
    refine lv_iconst (v := (0 : Int32)) hx hb dX9_isWord_24 (by decide) ?_
    exact W.zret (v := (0 : Int32)) hx hb hr (by decide) (fun t ht hW => ⟨_, rfl, Option.some.inj hf, ht⟩) (fun _ h => nomatch h) dX9_isWord_25
  · replace hf := wb_t hc hf
    refine lv_aload_n hx hb dX9_isWord_8 rfl (lv_at hl 0 rfl) ?_
    refine va_get (D := D) (ci := 9) (v := .int (I0 3)) (C := RX9) (T := TX9) (N := 10) hx hb hts hinX9 hown hK hP 0 rfl rfl 4 (by decide) (hts (.fieldLink RX9 31 "WheelBook$Text" "at" "I") (List.mem_of_getElem? (i := 2) rfl)) (fun _ h9 => h9) rfl dX9_isWord_9 ?_
    refine lv_aload_n hx hb dX9_isWord_12 rfl (lv_at hl 0 rfl) ?_
    refine va_get (D := D) (ci := 9) (v := .int (I0 2)) (C := RX9) (T := TX9) (N := 10) hx hb hts hinX9 hown hK hP 0 rfl rfl 3 (by decide) (hts (.fieldLink RX9 47 "WheelBook$Text" "start" "I") (List.mem_of_getElem? (i := 3) rfl)) (fun _ h9 => h9) rfl dX9_isWord_13 ?_
    refine lv_isub hx hb dX9_isWord_16 ?_
    refine lv_aload_n hx hb dX9_isWord_17 rfl (lv_at hl 1 rfl) ?_
    refine vp_callSi (W.runV (As := []) (rest := [.int ((I0 3) - (I0 2))]) ⟨hx, hb, hml, hown, hts⟩ (cz_J0_length_8abf5 l aK aV w1 hw1) (cwV 0 hts gX9_isWord_J0_length_8abf5 rfl rfl rfl cdJ0_length_8abf5 ⟨Nat.le_of_ble_eq_true rfl, Nat.le_of_ble_eq_true rfl⟩) (wb_preZV hZ hSZ (vk_recv hZ.1 hw1 hSZ)) rfl rfl hl.1 rfl (lv_room (Nat.le_of_ble_eq_true rfl)) dX9_isWord_18 ⟨Nat.le_of_ble_eq_true rfl, Nat.le_of_ble_eq_true rfl⟩) (fun r9 e9 => ?_)
    rw [e9]
    refine lv_icmp_eq (tgt := 26) hx hb dX9_isWord_21 (by decide) (fun hc => ?_) (fun hc => ?_)
    · replace hf := wb_t hc hf
      refine lv_iconst (v := (0 : Int32)) hx hb dX9_isWord_26 (by decide) ?_
      refine lv_istore_n (lv' := [(2, .int (0 : Int32)), (0, .ref (a0 0)), (1, .ref (aK w1))]) hx hb dX9_isWord_27 rfl hl (by decide) rfl (fun ls hl => ?_)
      have L28 : ∀ (fu28 : Nat) (y28_2 : Int32), ∀ (ls : Array Slot), lv_has ls 3 [(0, .ref (a0 0)), (1, .ref (aK w1)), (2, .int y28_2)] → fX9_isWord_L28 N I0 M0 w1 fu28 y28_2 = some R → W p l e (headSpec wsX9_isWord { frames := 4, cells := 0, slots := 0, locals := 121 }).room s m [.ref (a0 0), .ref (aK w1)].toArray below meth c s.heap [] 0 0 (MQ below (vp_Si (fun r => r = R)) [.ref (a0 0), .ref (aK w1)].toArray s 0 0 (fun _ => False)) (F0 m 28 ls []) := by
        intro fu28
        induction fu28 with
        | zero =>
          intro y28_2 ls hl hf
          exact absurd hf (by rw [fX9_isWord_L28.eq_1]; exact fun h => nomatch h)
        | succ fu28 ih28 =>
          intro y28_2 ls hl hf
          rw [fX9_isWord_L28.eq_2] at hf
          refine lv_iload_n hx hb dX9_isWord_28 rfl (lv_at hl 2 rfl) ?_
          refine lv_aload_n hx hb dX9_isWord_29 rfl (lv_at hl 1 rfl) ?_
          refine vp_callSi (W.runV (As := []) (rest := [.int y28_2]) ⟨hx, hb, hml, hown, hts⟩ (cz_J0_length_8abf5 l aK aV w1 hw1) (cwV 0 hts gX9_isWord_J0_length_8abf5 rfl rfl rfl cdJ0_length_8abf5 ⟨Nat.le_of_ble_eq_true rfl, Nat.le_of_ble_eq_true rfl⟩) (wb_preZV hZ hSZ (vk_recv hZ.1 hw1 hSZ)) rfl rfl hl.1 rfl (lv_room (Nat.le_of_ble_eq_true rfl)) dX9_isWord_30 ⟨Nat.le_of_ble_eq_true rfl, Nat.le_of_ble_eq_true rfl⟩) (fun r9 e9 => ?_)
          rw [e9]
          refine lv_icmp_ge (tgt := 63) hx hb dX9_isWord_33 (by decide) (fun hc => ?_) (fun hc => ?_)
          · replace hf := wb_t hc hf
            refine lv_iconst (v := (1 : Int32)) hx hb dX9_isWord_63 (by decide) ?_
            exact W.zret (v := (1 : Int32)) hx hb hr (by decide) (fun t ht hW => ⟨_, rfl, Option.some.inj hf, ht⟩) (fun _ h => nomatch h) dX9_isWord_64
          · replace hf := wb_f hc hf
            refine lv_aload_n hx hb dX9_isWord_36 rfl (lv_at hl 0 rfl) ?_
            refine va_get (D := D) (ci := 9) (v := .ref (a0 1)) (C := RX9) (T := TX9) (N := 10) hx hb hts hinX9 hown hK hP 0 rfl rfl 0 (by decide) (hts (.fieldLink RX9 11 "WheelBook$Text" "bytes" "[B") (List.mem_of_getElem? (i := 4) rfl)) (fun _ h9 => h9) rfl dX9_isWord_37 ?_
            refine lv_aload_n hx hb dX9_isWord_40 rfl (lv_at hl 0 rfl) ?_
            refine va_get (D := D) (ci := 9) (v := .int (I0 2)) (C := RX9) (T := TX9) (N := 10) hx hb hts hinX9 hown hK hP 0 rfl rfl 3 (by decide) (hts (.fieldLink RX9 47 "WheelBook$Text" "start" "I") (List.mem_of_getElem? (i := 3) rfl)) (fun _ h9 => h9) rfl dX9_isWord_41 ?_
            refine lv_iload_n hx hb dX9_isWord_44 rfl (lv_at hl 2 rfl) ?_
            refine lv_iadd hx hb dX9_isWord_45 ?_
            obtain ⟨hin, hf⟩ := wb_n hf
            refine va_bald hx hb hK hP 1 0 rfl rfl hin dX9_isWord_46 ?_
            refine lv_aload_n hx hb dX9_isWord_47 rfl (lv_at hl 1 rfl) ?_
            refine lv_iload_n hx hb dX9_isWord_48 rfl (lv_at hl 2 rfl) ?_
            obtain ⟨hin, hf⟩ := wb_n hf
            refine vp_callSi (W.runV (As := [.int y28_2]) (rest := [.int (M0 0 (((I0 2) + y28_2)).toNatClampNeg)]) ⟨hx, hb, hml, hown, hts⟩ (cz_J0_charAt_5068e l aK aV w1 hw1 y28_2 hin) (cwV 1 hts gX9_isWord_J0_charAt_5068e rfl rfl rfl cdJ0_charAt_5068e ⟨Nat.le_of_ble_eq_true rfl, Nat.le_of_ble_eq_true rfl⟩) (wb_preZV hZ hSZ (vk_recv hZ.1 hw1 hSZ)) rfl rfl hl.1 rfl (lv_room (Nat.le_of_ble_eq_true rfl)) dX9_isWord_49 ⟨Nat.le_of_ble_eq_true rfl, Nat.le_of_ble_eq_true rfl⟩) (fun r9 e9 => ?_)
            rw [e9]
            refine lv_icmp_eq (tgt := 57) hx hb dX9_isWord_52 (by decide) (fun hc => ?_) (fun hc => ?_)
            · replace hf := wb_t hc hf
              obtain ⟨v1, ev1, hf⟩ := wb_v hf
              refine lv_iinc (v := v1) (lv' := [(2, .int v1), (0, .ref (a0 0)), (1, .ref (aK w1))]) hx hb dX9_isWord_57 hl (k := 2) rfl (by rw [ev1]; rfl) (by decide) rfl (fun ls hl => ?_)
              refine lv_goto (tgt := 28) hx hb dX9_isWord_60 (by decide) ?_
              exact ih28 v1 ls (lv_sub hl [1, 2, 0] rfl) hf
            · replace hf := wb_f hc hf
              refine lv_iconst (v := (0 : Int32)) hx hb dX9_isWord_55 (by decide) ?_
              exact W.zret (v := (0 : Int32)) hx hb hr (by decide) (fun t ht hW => ⟨_, rfl, Option.some.inj hf, ht⟩) (fun _ h => nomatch h) dX9_isWord_56
      exact L28 N (0 : Int32) ls (lv_sub hl [1, 2, 0] rfl) hf
    · replace hf := wb_f hc hf
      refine lv_iconst (v := (0 : Int32)) hx hb dX9_isWord_24 (by decide) ?_
      exact W.zret (v := (0 : Int32)) hx hb hr (by decide) (fun t ht hW => ⟨_, rfl, Option.some.inj hf, ht⟩) (fun _ h => nomatch h) dX9_isWord_25

set_option maxHeartbeats 4000000 in
set_option maxRecDepth 100000 in
theorem cn_X9_namedOf (l : Launch) (D : va_G) (cB cI cZ : ClassId) (N : Nat) (aK aV : Nat → Nat) (a0 : Nat → Nat) (I0 : Nat → Int32) (M0 : Nat → Nat → Int32) (x1 : Int32) (R : Int32) (hf : fX9_namedOf N I0 M0 x1 = some R) : Met l yX9_namedOf wsX9_namedOf ({ frames := 5, cells := 0, slots := 0, locals := 143 }) (va_Pc [.ref (a0 0), .int x1] (wb_preE D [(cB, .byte), (cI, .int), (cZ, .boolean)] (wWX9 cB cI cZ a0 I0 M0) aK aV)) (vp_Si (fun r => r = R)) 0 0 (fun _ => False) := by
  refine Met.ofW (cc := cX9_namedOf) (maxL := 3) (ret := (some .int)) pn_X9 rfl ?_
  intro p e s m args below meth c s₁ B hml hv
  obtain ⟨rfl, ⟨hP, hK⟩, hZ⟩ := hv
  have hZ : wb_Z aK aV (fun _ => False) s s.heap := hZ
  have hSZ : va_S (fun _ : Nat => False) s.heap s.heap [] := va_S.rf
  have hx := B.exec
  have hb := B.bytes
  have hr := B.returns
  have hts := atoms_spec (ws := wsX9_namedOf) B.pre
  have hown : s.vm.findClass RX9 = some m.cls := (findClass_of_methodNamed B.named :)
  have hlocks := B.notSynchronized
  have hl := lv_entry ([.ref (a0 0), .int x1]) (n := 3) (Nat.le_of_ble_eq_true rfl)
  rw [lg_entry_eq]
  generalize (lg_sl ([.ref (a0 0), .int x1]) ++ List.replicate (3 - (lg_sl ([.ref (a0 0), .int x1])).length) Slot.unset).toArray = ls at hl ⊢
  have hl : lv_has ls 3 [(0, .ref (a0 0)), (1, .int x1)] := hl
  unfold fX9_namedOf at hf
  refine lv_iconst (v := (0 : Int32)) hx hb dX9_namedOf_0 (by decide) ?_
  refine lv_istore_n (lv' := [(2, .int (0 : Int32)), (0, .ref (a0 0)), (1, .int x1)]) hx hb dX9_namedOf_1 rfl hl (by decide) rfl (fun ls hl => ?_)
  have L2 : ∀ (fu2 : Nat) (y2_2 : Int32), ∀ (ls : Array Slot), lv_has ls 3 [(0, .ref (a0 0)), (1, .int x1), (2, .int y2_2)] → fX9_namedOf_L2 N I0 M0 x1 fu2 y2_2 = some R → W p l e (headSpec wsX9_namedOf { frames := 5, cells := 0, slots := 0, locals := 143 }).room s m [.ref (a0 0), .int x1].toArray below meth c s.heap [] 0 0 (MQ below (vp_Si (fun r => r = R)) [.ref (a0 0), .int x1].toArray s 0 0 (fun _ => False)) (F0 m 2 ls []) := by
    intro fu2
    induction fu2 with
    | zero =>
      intro y2_2 ls hl hf
      exact absurd hf (by rw [fX9_namedOf_L2.eq_1]; exact fun h => nomatch h)
    | succ fu2 ih2 =>
      intro y2_2 ls hl hf
      rw [fX9_namedOf_L2.eq_2] at hf
      refine lv_iload_n hx hb dX9_namedOf_2 rfl (lv_at hl 2 rfl) ?_
      refine lv_iload_n hx hb dX9_namedOf_3 rfl (lv_at hl 1 rfl) ?_
      refine lv_icmp_ge (tgt := 26) hx hb dX9_namedOf_4 (by decide) (fun hc => ?_) (fun hc => ?_)
      · replace hf := wb_t hc hf
        refine lv_iconst (v := (-1 : Int32)) hx hb dX9_namedOf_26 (by decide) ?_
        exact W.iret (v := (-1 : Int32)) hx hb hr (fun t ht hW => ⟨_, rfl, Option.some.inj hf, ht⟩) (fun _ h => nomatch h) dX9_namedOf_27
      · replace hf := wb_f hc hf
        refine lv_aload_n hx hb dX9_namedOf_7 rfl (lv_at hl 0 rfl) ?_
        refine lv_iload_n hx hb dX9_namedOf_8 rfl (lv_at hl 2 rfl) ?_
        refine va_csr (W.runS (As := [.int y2_2]) (rest := [.ref (a0 0)]) ⟨hx, hb, hml, hown, hts⟩ (cz_X9_nameOf l aK aV y2_2) (va_cwS 1 hts gX9_namedOf_X9_nameOf rfl rfl rfl csX9_nameOf ⟨Nat.le_of_ble_eq_true rfl, Nat.le_of_ble_eq_true rfl⟩) (wb_preZS hZ hSZ) rfl rfl hl.1 rfl (lv_room (Nat.le_of_ble_eq_true rfl)) dX9_namedOf_9 ⟨Nat.le_of_ble_eq_true rfl, Nat.le_of_ble_eq_true rfl⟩) (fun k9 e9 => ?_)
        rw [e9]
        obtain ⟨r1, hr1, hf⟩ := wb_b hf
        refine vp_callSi (W.runV (As := [.ref (aK (zN y2_2))]) (rest := []) ⟨hx, hb, hml, hown, hts⟩ (cn_X9_isWord l D cB cI cZ N aK aV a0 I0 M0 (zN y2_2) (zN_lt _) r1 hr1) (cwV 1 hts gX9_namedOf_X9_isWord rfl rfl rfl cdX9_isWord ⟨Nat.le_of_ble_eq_true rfl, Nat.le_of_ble_eq_true rfl⟩) (wb_preEV hP hK (wr_9 hK hP (q0 := 0) rfl) hZ hSZ) rfl rfl hl.1 rfl (lv_room (Nat.le_of_ble_eq_true rfl)) dX9_namedOf_12 ⟨Nat.le_of_ble_eq_true rfl, Nat.le_of_ble_eq_true rfl⟩) (fun r9 e9 => ?_)
        rw [e9]
        refine lv_if_eq (tgt := 20) hx hb dX9_namedOf_15 (by decide) (fun hc => ?_) (fun hc => ?_)
        · replace hf := wb_t hc hf
          obtain ⟨v2, ev2, hf⟩ := wb_v hf
          refine lv_iinc (v := v2) (lv' := [(2, .int v2), (0, .ref (a0 0)), (1, .int x1)]) hx hb dX9_namedOf_20 hl (k := 2) rfl (by rw [ev2]; rfl) (by decide) rfl (fun ls hl => ?_)
          refine lv_goto (tgt := 2) hx hb dX9_namedOf_23 (by decide) ?_
          exact ih2 v2 ls (lv_sub hl [1, 2, 0] rfl) hf
        · replace hf := wb_f hc hf
          refine lv_iload_n hx hb dX9_namedOf_18 rfl (lv_at hl 2 rfl) ?_
          exact W.iret (v := y2_2) hx hb hr (fun t ht hW => ⟨_, rfl, Option.some.inj hf, ht⟩) (fun _ h => nomatch h) dX9_namedOf_19
  exact L2 N (0 : Int32) ls (lv_sub hl [1, 2, 0] rfl) hf

set_option maxHeartbeats 4000000 in
set_option maxRecDepth 100000 in
theorem cn_X9_isLetter (l : Launch) (D : va_G) (cB cI cZ : ClassId) (N : Nat) (x0 : Int32) (R : Int32) (hf : fX9_isLetter N x0 = some R) : Met l yX9_isLetter wsX9_isLetter ({ frames := 0, cells := 0, slots := 0, locals := 0 }) (va_Pc [.int x0] (wb_pre D [(cB, .byte), (cI, .int), (cZ, .boolean)] ([] : va_W))) (vp_Si (fun r => r = R)) 0 0 (fun _ => False) := by
  refine Met.ofW (cc := cX9_isLetter) (maxL := 1) (ret := (some .boolean)) pn_X9 rfl ?_
  intro p e s m args below meth c s₁ B hml hv
  obtain ⟨rfl, hP, hK⟩ := hv
  have hx := B.exec
  have hb := B.bytes
  have hr := B.returns
  have hts := atoms_spec (ws := wsX9_isLetter) B.pre
  have hown : s.vm.findClass RX9 = some m.cls := (findClass_of_methodNamed B.named :)
  have hlocks := B.notSynchronized
  have hl := lv_entry ([.int x0]) (n := 1) (Nat.le_of_ble_eq_true rfl)
  rw [lg_entry_eq]
  generalize (lg_sl ([.int x0]) ++ List.replicate (1 - (lg_sl ([.int x0])).length) Slot.unset).toArray = ls at hl ⊢
  have hl : lv_has ls 1 [(0, .int x0)] := hl
  unfold fX9_isLetter at hf
  refine lv_iload_n hx hb dX9_isLetter_0 rfl (lv_at hl 0 rfl) ?_
  refine lv_bipush (v := (97 : Int32)) hx hb dX9_isLetter_1 (by decide) ?_
  refine lv_icmp_lt (tgt := 16) hx hb dX9_isLetter_3 (by decide) (fun hc => ?_) (fun hc => ?_)
  · replace hf := wb_t hc hf
    refine lv_iconst (v := (0 : Int32)) hx hb dX9_isLetter_16 (by decide) ?_
    exact W.zret (v := (0 : Int32)) hx hb hr (by decide) (fun t ht hW => ⟨_, rfl, Option.some.inj hf, ht⟩) (fun _ h => nomatch h) dX9_isLetter_17
  · replace hf := wb_f hc hf
    refine lv_iload_n hx hb dX9_isLetter_6 rfl (lv_at hl 0 rfl) ?_
    refine lv_bipush (v := (122 : Int32)) hx hb dX9_isLetter_7 (by decide) ?_
    refine lv_icmp_gt (tgt := 16) hx hb dX9_isLetter_9 (by decide) (fun hc => ?_) (fun hc => ?_)
    · replace hf := wb_t hc hf
      refine lv_iconst (v := (0 : Int32)) hx hb dX9_isLetter_16 (by decide) ?_
      exact W.zret (v := (0 : Int32)) hx hb hr (by decide) (fun t ht hW => ⟨_, rfl, Option.some.inj hf, ht⟩) (fun _ h => nomatch h) dX9_isLetter_17
    · replace hf := wb_f hc hf
      refine lv_iconst (v := (1 : Int32)) hx hb dX9_isLetter_12 (by decide) ?_
      refine lv_goto (tgt := 17) hx hb dX9_isLetter_13 (by decide) ?_
      exact W.zret (v := (1 : Int32)) hx hb hr (by decide) (fun t ht hW => ⟨_, rfl, Option.some.inj hf, ht⟩) (fun _ h => nomatch h) dX9_isLetter_17

set_option maxHeartbeats 4000000 in
set_option maxRecDepth 100000 in
theorem cn_X9_isDigit (l : Launch) (D : va_G) (cB cI cZ : ClassId) (N : Nat) (x0 : Int32) (R : Int32) (hf : fX9_isDigit N x0 = some R) : Met l yX9_isDigit wsX9_isDigit ({ frames := 0, cells := 0, slots := 0, locals := 0 }) (va_Pc [.int x0] (wb_pre D [(cB, .byte), (cI, .int), (cZ, .boolean)] ([] : va_W))) (vp_Si (fun r => r = R)) 0 0 (fun _ => False) := by
  refine Met.ofW (cc := cX9_isDigit) (maxL := 1) (ret := (some .boolean)) pn_X9 rfl ?_
  intro p e s m args below meth c s₁ B hml hv
  obtain ⟨rfl, hP, hK⟩ := hv
  have hx := B.exec
  have hb := B.bytes
  have hr := B.returns
  have hts := atoms_spec (ws := wsX9_isDigit) B.pre
  have hown : s.vm.findClass RX9 = some m.cls := (findClass_of_methodNamed B.named :)
  have hlocks := B.notSynchronized
  have hl := lv_entry ([.int x0]) (n := 1) (Nat.le_of_ble_eq_true rfl)
  rw [lg_entry_eq]
  generalize (lg_sl ([.int x0]) ++ List.replicate (1 - (lg_sl ([.int x0])).length) Slot.unset).toArray = ls at hl ⊢
  have hl : lv_has ls 1 [(0, .int x0)] := hl
  unfold fX9_isDigit at hf
  refine lv_iload_n hx hb dX9_isDigit_0 rfl (lv_at hl 0 rfl) ?_
  refine lv_bipush (v := (48 : Int32)) hx hb dX9_isDigit_1 (by decide) ?_
  refine lv_icmp_lt (tgt := 16) hx hb dX9_isDigit_3 (by decide) (fun hc => ?_) (fun hc => ?_)
  · replace hf := wb_t hc hf
    refine lv_iconst (v := (0 : Int32)) hx hb dX9_isDigit_16 (by decide) ?_
    exact W.zret (v := (0 : Int32)) hx hb hr (by decide) (fun t ht hW => ⟨_, rfl, Option.some.inj hf, ht⟩) (fun _ h => nomatch h) dX9_isDigit_17
  · replace hf := wb_f hc hf
    refine lv_iload_n hx hb dX9_isDigit_6 rfl (lv_at hl 0 rfl) ?_
    refine lv_bipush (v := (57 : Int32)) hx hb dX9_isDigit_7 (by decide) ?_
    refine lv_icmp_gt (tgt := 16) hx hb dX9_isDigit_9 (by decide) (fun hc => ?_) (fun hc => ?_)
    · replace hf := wb_t hc hf
      refine lv_iconst (v := (0 : Int32)) hx hb dX9_isDigit_16 (by decide) ?_
      exact W.zret (v := (0 : Int32)) hx hb hr (by decide) (fun t ht hW => ⟨_, rfl, Option.some.inj hf, ht⟩) (fun _ h => nomatch h) dX9_isDigit_17
    · replace hf := wb_f hc hf
      refine lv_iconst (v := (1 : Int32)) hx hb dX9_isDigit_12 (by decide) ?_
      refine lv_goto (tgt := 17) hx hb dX9_isDigit_13 (by decide) ?_
      exact W.zret (v := (1 : Int32)) hx hb hr (by decide) (fun t ht hW => ⟨_, rfl, Option.some.inj hf, ht⟩) (fun _ h => nomatch h) dX9_isDigit_17

set_option maxHeartbeats 4000000 in
set_option maxRecDepth 100000 in
theorem cn_X9_isBlank (l : Launch) (D : va_G) (cB cI cZ : ClassId) (N : Nat) (x0 : Int32) (R : Int32) (hf : fX9_isBlank N x0 = some R) : Met l yX9_isBlank wsX9_isBlank ({ frames := 0, cells := 0, slots := 0, locals := 0 }) (va_Pc [.int x0] (wb_pre D [(cB, .byte), (cI, .int), (cZ, .boolean)] ([] : va_W))) (vp_Si (fun r => r = R)) 0 0 (fun _ => False) := by
  refine Met.ofW (cc := cX9_isBlank) (maxL := 1) (ret := (some .boolean)) pn_X9 rfl ?_
  intro p e s m args below meth c s₁ B hml hv
  obtain ⟨rfl, hP, hK⟩ := hv
  have hx := B.exec
  have hb := B.bytes
  have hr := B.returns
  have hts := atoms_spec (ws := wsX9_isBlank) B.pre
  have hown : s.vm.findClass RX9 = some m.cls := (findClass_of_methodNamed B.named :)
  have hlocks := B.notSynchronized
  have hl := lv_entry ([.int x0]) (n := 1) (Nat.le_of_ble_eq_true rfl)
  rw [lg_entry_eq]
  generalize (lg_sl ([.int x0]) ++ List.replicate (1 - (lg_sl ([.int x0])).length) Slot.unset).toArray = ls at hl ⊢
  have hl : lv_has ls 1 [(0, .int x0)] := hl
  unfold fX9_isBlank at hf
  refine lv_iload_n hx hb dX9_isBlank_0 rfl (lv_at hl 0 rfl) ?_
  refine lv_bipush (v := (32 : Int32)) hx hb dX9_isBlank_1 (by decide) ?_
  refine lv_icmp_eq (tgt := 12) hx hb dX9_isBlank_3 (by decide) (fun hc => ?_) (fun hc => ?_)
  · replace hf := wb_t hc hf
    refine lv_iconst (v := (1 : Int32)) hx hb dX9_isBlank_12 (by decide) ?_
    refine lv_goto (tgt := 17) hx hb dX9_isBlank_13 (by decide) ?_
    exact W.zret (v := (1 : Int32)) hx hb hr (by decide) (fun t ht hW => ⟨_, rfl, Option.some.inj hf, ht⟩) (fun _ h => nomatch h) dX9_isBlank_17
  · replace hf := wb_f hc hf
    refine lv_iload_n hx hb dX9_isBlank_6 rfl (lv_at hl 0 rfl) ?_
    refine lv_bipush (v := (10 : Int32)) hx hb dX9_isBlank_7 (by decide) ?_
    refine lv_icmp_ne (tgt := 16) hx hb dX9_isBlank_9 (by decide) (fun hc => ?_) (fun hc => ?_)
    · replace hf := wb_f hc hf
      refine lv_iconst (v := (0 : Int32)) hx hb dX9_isBlank_16 (by decide) ?_
      exact W.zret (v := (0 : Int32)) hx hb hr (by decide) (fun t ht hW => ⟨_, rfl, Option.some.inj hf, ht⟩) (fun _ h => nomatch h) dX9_isBlank_17
    · replace hf := wb_t hc hf
      refine lv_iconst (v := (1 : Int32)) hx hb dX9_isBlank_12 (by decide) ?_
      refine lv_goto (tgt := 17) hx hb dX9_isBlank_13 (by decide) ?_
      exact W.zret (v := (1 : Int32)) hx hb hr (by decide) (fun t ht hW => ⟨_, rfl, Option.some.inj hf, ht⟩) (fun _ h => nomatch h) dX9_isBlank_17

set_option maxHeartbeats 4000000 in
set_option maxRecDepth 100000 in
theorem cn_X9_step (l : Launch) (D : va_G) (cB cI cZ : ClassId) (N : Nat) (a0 : Nat → Nat) (I0 : Nat → Int32) (M0 : Nat → Nat → Int32) (sz : Nat) (R : (Nat → Int32) × (Nat → Nat → Int32)) (hf : fX9_step N I0 M0 = some R) : Met l yX9_step wsX9_step ({ frames := 1, cells := 0, slots := 0, locals := 20 }) (va_Pc [.ref (a0 0)] (wb_preD D [(cB, .byte), (cI, .int), (cZ, .boolean)] (wWX9 cB cI cZ a0 I0 M0) sz)) (va_Qv (fun _ : Unit => True) (fun _ t => wb_post D [(cB, .byte), (cI, .int), (cZ, .boolean)] (va_A (wWX9 cB cI cZ a0 I0 M0) sz) (wWX9 cB cI cZ a0 R.1 R.2) t) (va_A (wWX9 cB cI cZ a0 I0 M0) sz)) 0 0 (va_A (wWX9 cB cI cZ a0 I0 M0) sz) := by
  refine Met.ofW (cc := cX9_step) (maxL := 1) (ret := none) pn_X9 rfl ?_
  intro p e s m args below meth c s₁ B hml hv
  obtain ⟨rfl, hsz, hP, hK, hD0⟩ := hv
  have hx := B.exec
  have hb := B.bytes
  have hr := B.returns
  have hts := atoms_spec (ws := wsX9_step) B.pre
  have hown : s.vm.findClass RX9 = some m.cls := (findClass_of_methodNamed B.named :)
  have hlocks := B.notSynchronized
  have hinX9 : ∀ w ∈ u_ws RX9 TX9 10, w ∈ wsX9_step := fun w h => List.mem_cons_of_mem _ (List.mem_append_right _ h)
  subst hsz
  have hD := hD0.self (sz := s.heap.size)
  generalize hAe : va_A (wWX9 cB cI cZ a0 I0 M0) s.heap.size = A at hD ⊢
  have hA : ∀ q : Nat, s.heap.size ≤ q → A q := fun q h => by rw [← hAe]; exact Or.inr h
  have hS : va_S A s.heap s.heap [] := va_S.rf
  have hl := lv_entry ([.ref (a0 0)]) (n := 1) (Nat.le_of_ble_eq_true rfl)
  rw [lg_entry_eq]
  generalize (lg_sl ([.ref (a0 0)]) ++ List.replicate (1 - (lg_sl ([.ref (a0 0)])).length) Slot.unset).toArray = ls at hl ⊢
  have hl : lv_has ls 1 [(0, .ref (a0 0))] := hl
  unfold fX9_step at hf
  obtain ⟨H, hHe⟩ : ∃ H : Heap, H = s.heap := ⟨_, rfl⟩
  obtain ⟨locs, hle⟩ : ∃ locs : List Loc, locs = [] := ⟨_, rfl⟩
  refine wb_start (H := H) (locs := locs) hHe hle ?_
  rw [← hHe] at hP
  have hS : va_S A s.heap H locs := by rw [hHe, hle]; exact va_S.rf
  have J254 : ∀ (I0_j254 : Nat → Int32) (M0_j254 : Nat → Nat → Int32) (z254_0 : Int32) (H : Heap) (locs : List Loc), va_P D vwCl (wWX9 cB cI cZ a0 I0_j254 M0_j254) H → va_D A (wWX9 cB cI cZ a0 I0_j254 M0_j254) → va_S A s.heap H locs → ∀ (ls : Array Slot), lv_has ls 1 [(0, .ref (a0 0))] → fX9_step_J254 N I0_j254 M0_j254 z254_0 = some R → W p l e (headSpec wsX9_step { frames := 1, cells := 0, slots := 0, locals := 20 }).room s m [.ref (a0 0)].toArray below meth c H locs 0 0 (MQ below (va_Qv (fun _ : Unit => True) (fun _ t => wb_post D [(cB, .byte), (cI, .int), (cZ, .boolean)] A (wWX9 cB cI cZ a0 R.1 R.2) t) A) [.ref (a0 0)].toArray s 0 0 A) (F0 m 254 ls [.int z254_0, .ref (a0 0)]) := by
    intro I0_j254 M0_j254 z254_0 H locs hP hD hS ls hl hf
    unfold fX9_step_J254 at hf
    refine va_put (D := D) (ci := 9) (v := .int z254_0) (ty := .int) (C := RX9) (T := TX9) (N := 10) hx hb hts hinX9 tyX9 tyX9_ok nmX9 hown hK hP hD hS 0 rfl rfl 5 (by decide) (hts (.fieldLink RX9 40 "WheelBook$Text" "kind" "I") (List.mem_of_getElem? (i := 5) rfl)) (fun _ h9 => h9) rfl (by decide +kernel) rfl rfl (Nat.le_of_ble_eq_true rfl) dX9_step_254 (fun H locs hP hD hS => ?_)
    have hP : va_P D vwCl (wWX9 cB cI cZ a0 (upd I0_j254 4 z254_0) M0_j254) H := hP
    have hD : va_D A (wWX9 cB cI cZ a0 (upd I0_j254 4 z254_0) M0_j254) := hD
    obtain ⟨I0_1, eI0_1, hf⟩ := wb_v hf
    rw [← eI0_1] at hP hD
    refine lv_aload_n hx hb dX9_step_257 rfl (lv_at hl 0 rfl) ?_
    refine lv_dup hx hb dX9_step_258 rfl ?_
    refine va_get (D := D) (ci := 9) (v := .int (I0_1 3)) (C := RX9) (T := TX9) (N := 10) hx hb hts hinX9 hown hK hP 0 rfl rfl 4 (by decide) (hts (.fieldLink RX9 31 "WheelBook$Text" "at" "I") (List.mem_of_getElem? (i := 1) rfl)) (fun _ h9 => h9) rfl dX9_step_259 ?_
    refine lv_iconst (v := (1 : Int32)) hx hb dX9_step_262 (by decide) ?_
    refine lv_iadd hx hb dX9_step_263 ?_
    refine va_put (D := D) (ci := 9) (v := .int ((I0_1 3) + (1 : Int32))) (ty := .int) (C := RX9) (T := TX9) (N := 10) hx hb hts hinX9 tyX9 tyX9_ok nmX9 hown hK hP hD hS 0 rfl rfl 4 (by decide) (hts (.fieldLink RX9 31 "WheelBook$Text" "at" "I") (List.mem_of_getElem? (i := 1) rfl)) (fun _ h9 => h9) rfl (by decide +kernel) rfl rfl (Nat.le_of_ble_eq_true rfl) dX9_step_264 (fun H locs hP hD hS => ?_)
    have hP : va_P D vwCl (wWX9 cB cI cZ a0 (upd I0_1 3 ((I0_1 3) + (1 : Int32))) M0_j254) H := hP
    have hD : va_D A (wWX9 cB cI cZ a0 (upd I0_1 3 ((I0_1 3) + (1 : Int32))) M0_j254) := hD
    obtain ⟨I0_2, eI0_2, hf⟩ := wb_v hf
    rw [← eI0_2] at hP hD
    exact W.vret hx hb hr (fun t ht hW => by rw [← Option.some.inj hf]; exact ⟨⟨(), rfl, trivial, by rw [ht]; exact hP, va_K.moved hW.alike hK, hD⟩, hS.F ht⟩) hS.2.2 dX9_step_267
  have J39 : ∀ (I0_j39 : Nat → Int32) (M0_j39 : Nat → Nat → Int32) (H : Heap) (locs : List Loc), va_P D vwCl (wWX9 cB cI cZ a0 I0_j39 M0_j39) H → va_D A (wWX9 cB cI cZ a0 I0_j39 M0_j39) → va_S A s.heap H locs → ∀ (ls : Array Slot), lv_has ls 1 [(0, .ref (a0 0))] → fX9_step_J39 N I0_j39 M0_j39 = some R → W p l e (headSpec wsX9_step { frames := 1, cells := 0, slots := 0, locals := 20 }).room s m [.ref (a0 0)].toArray below meth c H locs 0 0 (MQ below (va_Qv (fun _ : Unit => True) (fun _ t => wb_post D [(cB, .byte), (cI, .int), (cZ, .boolean)] A (wWX9 cB cI cZ a0 R.1 R.2) t) A) [.ref (a0 0)].toArray s 0 0 A) (F0 m 39 ls []) := by
    intro I0_j39 M0_j39 H locs hP hD hS ls hl hf
    unfold fX9_step_J39 at hf
    refine lv_aload_n hx hb dX9_step_39 rfl (lv_at hl 0 rfl) ?_
    refine lv_aload_n hx hb dX9_step_40 rfl (lv_at hl 0 rfl) ?_
    refine va_get (D := D) (ci := 9) (v := .int (I0_j39 3)) (C := RX9) (T := TX9) (N := 10) hx hb hts hinX9 hown hK hP 0 rfl rfl 4 (by decide) (hts (.fieldLink RX9 31 "WheelBook$Text" "at" "I") (List.mem_of_getElem? (i := 1) rfl)) (fun _ h9 => h9) rfl dX9_step_41 ?_
    refine va_put (D := D) (ci := 9) (v := .int (I0_j39 3)) (ty := .int) (C := RX9) (T := TX9) (N := 10) hx hb hts hinX9 tyX9 tyX9_ok nmX9 hown hK hP hD hS 0 rfl rfl 3 (by decide) (hts (.fieldLink RX9 47 "WheelBook$Text" "start" "I") (List.mem_of_getElem? (i := 4) rfl)) (fun _ h9 => h9) rfl (by decide +kernel) rfl rfl (Nat.le_of_ble_eq_true rfl) dX9_step_44 (fun H locs hP hD hS => ?_)
    have hP : va_P D vwCl (wWX9 cB cI cZ a0 (upd I0_j39 2 (I0_j39 3)) M0_j39) H := hP
    have hD : va_D A (wWX9 cB cI cZ a0 (upd I0_j39 2 (I0_j39 3)) M0_j39) := hD
    obtain ⟨I0_3, eI0_3, hf⟩ := wb_v hf
    rw [← eI0_3] at hP hD
    refine lv_aload_n hx hb dX9_step_47 rfl (lv_at hl 0 rfl) ?_
    refine va_get (D := D) (ci := 9) (v := .int (I0_3 3)) (C := RX9) (T := TX9) (N := 10) hx hb hts hinX9 hown hK hP 0 rfl rfl 4 (by decide) (hts (.fieldLink RX9 31 "WheelBook$Text" "at" "I") (List.mem_of_getElem? (i := 1) rfl)) (fun _ h9 => h9) rfl dX9_step_48 ?_
    refine lv_aload_n hx hb dX9_step_51 rfl (lv_at hl 0 rfl) ?_
    refine va_get (D := D) (ci := 9) (v := .int (I0_3 1)) (C := RX9) (T := TX9) (N := 10) hx hb hts hinX9 hown hK hP 0 rfl rfl 2 (by decide) (hts (.fieldLink RX9 28 "WheelBook$Text" "end" "I") (List.mem_of_getElem? (i := 2) rfl)) (fun _ h9 => h9) rfl dX9_step_52 ?_
    refine lv_icmp_lt (tgt := 66) hx hb dX9_step_55 (by decide) (fun hc => ?_) (fun hc => ?_)
    · replace hf := wb_t hc hf
      refine lv_aload_n hx hb dX9_step_66 rfl (lv_at hl 0 rfl) ?_
      refine va_get (D := D) (ci := 9) (v := .ref (a0 1)) (C := RX9) (T := TX9) (N := 10) hx hb hts hinX9 hown hK hP 0 rfl rfl 0 (by decide) (hts (.fieldLink RX9 11 "WheelBook$Text" "bytes" "[B") (List.mem_of_getElem? (i := 3) rfl)) (fun _ h9 => h9) rfl dX9_step_67 ?_
      refine lv_aload_n hx hb dX9_step_70 rfl (lv_at hl 0 rfl) ?_
      refine va_get (D := D) (ci := 9) (v := .int (I0_3 3)) (C := RX9) (T := TX9) (N := 10) hx hb hts hinX9 hown hK hP 0 rfl rfl 4 (by decide) (hts (.fieldLink RX9 31 "WheelBook$Text" "at" "I") (List.mem_of_getElem? (i := 1) rfl)) (fun _ h9 => h9) rfl dX9_step_71 ?_
      obtain ⟨hin, hf⟩ := wb_n hf
      refine va_bald hx hb hK hP 1 0 rfl rfl hin dX9_step_74 ?_
      obtain ⟨r4, hr4, hf⟩ := wb_b hf
      refine vp_callSi (W.runS (As := [.int (M0_j39 0 ((I0_3 3)).toNatClampNeg)]) (rest := []) ⟨hx, hb, hml, hown, hts⟩ (cn_X9_isLetter l D cB cI cZ N (M0_j39 0 ((I0_3 3)).toNatClampNeg) r4 hr4) (va_cwS 1 hts gX9_step_X9_isLetter rfl rfl rfl csX9_isLetter ⟨Nat.le_of_ble_eq_true rfl, Nat.le_of_ble_eq_true rfl⟩) (wb_preS (hP.sub (ws' := ([] : va_W)) [] rfl) hK) rfl rfl hl.1 rfl (lv_room (Nat.le_of_ble_eq_true rfl)) dX9_step_75 ⟨Nat.le_of_ble_eq_true rfl, Nat.le_of_ble_eq_true rfl⟩) (fun r9 e9 => ?_)
      rw [e9]
      refine lv_if_eq (tgt := 125) hx hb dX9_step_78 (by decide) (fun hc => ?_) (fun hc => ?_)
      · replace hf := wb_t hc hf
        refine lv_aload_n hx hb dX9_step_125 rfl (lv_at hl 0 rfl) ?_
        refine va_get (D := D) (ci := 9) (v := .ref (a0 1)) (C := RX9) (T := TX9) (N := 10) hx hb hts hinX9 hown hK hP 0 rfl rfl 0 (by decide) (hts (.fieldLink RX9 11 "WheelBook$Text" "bytes" "[B") (List.mem_of_getElem? (i := 3) rfl)) (fun _ h9 => h9) rfl dX9_step_126 ?_
        refine lv_aload_n hx hb dX9_step_129 rfl (lv_at hl 0 rfl) ?_
        refine va_get (D := D) (ci := 9) (v := .int (I0_3 3)) (C := RX9) (T := TX9) (N := 10) hx hb hts hinX9 hown hK hP 0 rfl rfl 4 (by decide) (hts (.fieldLink RX9 31 "WheelBook$Text" "at" "I") (List.mem_of_getElem? (i := 1) rfl)) (fun _ h9 => h9) rfl dX9_step_130 ?_
        obtain ⟨hin, hf⟩ := wb_n hf
        refine va_bald hx hb hK hP 1 0 rfl rfl hin dX9_step_133 ?_
        obtain ⟨r5, hr5, hf⟩ := wb_b hf
        refine vp_callSi (W.runS (As := [.int (M0_j39 0 ((I0_3 3)).toNatClampNeg)]) (rest := []) ⟨hx, hb, hml, hown, hts⟩ (cn_X9_isDigit l D cB cI cZ N (M0_j39 0 ((I0_3 3)).toNatClampNeg) r5 hr5) (va_cwS 1 hts gX9_step_X9_isDigit rfl rfl rfl csX9_isDigit ⟨Nat.le_of_ble_eq_true rfl, Nat.le_of_ble_eq_true rfl⟩) (wb_preS (hP.sub (ws' := ([] : va_W)) [] rfl) hK) rfl rfl hl.1 rfl (lv_room (Nat.le_of_ble_eq_true rfl)) dX9_step_134 ⟨Nat.le_of_ble_eq_true rfl, Nat.le_of_ble_eq_true rfl⟩) (fun r9 e9 => ?_)
        rw [e9]
        refine lv_if_eq (tgt := 234) hx hb dX9_step_137 (by decide) (fun hc => ?_) (fun hc => ?_)
        · replace hf := wb_t hc hf
          refine lv_aload_n hx hb dX9_step_234 rfl (lv_at hl 0 rfl) ?_
          refine lv_aload_n hx hb dX9_step_235 rfl (lv_at hl 0 rfl) ?_
          refine va_get (D := D) (ci := 9) (v := .ref (a0 1)) (C := RX9) (T := TX9) (N := 10) hx hb hts hinX9 hown hK hP 0 rfl rfl 0 (by decide) (hts (.fieldLink RX9 11 "WheelBook$Text" "bytes" "[B") (List.mem_of_getElem? (i := 3) rfl)) (fun _ h9 => h9) rfl dX9_step_236 ?_
          refine lv_aload_n hx hb dX9_step_239 rfl (lv_at hl 0 rfl) ?_
          refine va_get (D := D) (ci := 9) (v := .int (I0_3 3)) (C := RX9) (T := TX9) (N := 10) hx hb hts hinX9 hown hK hP 0 rfl rfl 4 (by decide) (hts (.fieldLink RX9 31 "WheelBook$Text" "at" "I") (List.mem_of_getElem? (i := 1) rfl)) (fun _ h9 => h9) rfl dX9_step_240 ?_
          obtain ⟨hin, hf⟩ := wb_n hf
          refine va_bald hx hb hK hP 1 0 rfl rfl hin dX9_step_243 ?_
          refine lv_bipush (v := (59 : Int32)) hx hb dX9_step_244 (by decide) ?_
          refine lv_icmp_ne (tgt := 253) hx hb dX9_step_246 (by decide) (fun hc => ?_) (fun hc => ?_)
          · replace hf := wb_f hc hf
            refine lv_iconst (v := (4 : Int32)) hx hb dX9_step_253 (by decide) ?_
            exact J254 I0_3 M0_j39 (4 : Int32) H locs hP hD hS ls (lv_sub hl [0] rfl) hf
          · replace hf := wb_t hc hf
            refine lv_iconst (v := (3 : Int32)) hx hb dX9_step_249 (by decide) ?_
            refine lv_goto (tgt := 254) hx hb dX9_step_250 (by decide) ?_
            exact J254 I0_3 M0_j39 (3 : Int32) H locs hP hD hS ls (lv_sub hl [0] rfl) hf
        · replace hf := wb_f hc hf
          refine lv_aload_n hx hb dX9_step_140 rfl (lv_at hl 0 rfl) ?_
          refine lv_iconst (v := (2 : Int32)) hx hb dX9_step_141 (by decide) ?_
          refine va_put (D := D) (ci := 9) (v := .int (2 : Int32)) (ty := .int) (C := RX9) (T := TX9) (N := 10) hx hb hts hinX9 tyX9 tyX9_ok nmX9 hown hK hP hD hS 0 rfl rfl 5 (by decide) (hts (.fieldLink RX9 40 "WheelBook$Text" "kind" "I") (List.mem_of_getElem? (i := 5) rfl)) (fun _ h9 => h9) rfl (by decide +kernel) rfl rfl (Nat.le_of_ble_eq_true rfl) dX9_step_142 (fun H locs hP hD hS => ?_)
          have hP : va_P D vwCl (wWX9 cB cI cZ a0 (upd I0_3 4 (2 : Int32)) M0_j39) H := hP
          have hD : va_D A (wWX9 cB cI cZ a0 (upd I0_3 4 (2 : Int32)) M0_j39) := hD
          obtain ⟨I0_6, eI0_6, hf⟩ := wb_v hf
          rw [← eI0_6] at hP hD
          refine lv_aload_n hx hb dX9_step_145 rfl (lv_at hl 0 rfl) ?_
          refine lv_iconst (v := (0 : Int32)) hx hb dX9_step_146 (by decide) ?_
          refine va_put (D := D) (ci := 9) (v := .int (0 : Int32)) (ty := .int) (C := RX9) (T := TX9) (N := 10) hx hb hts hinX9 tyX9 tyX9_ok nmX9 hown hK hP hD hS 0 rfl rfl 6 (by decide) (hts (.fieldLink RX9 56 "WheelBook$Text" "value" "I") (List.mem_of_getElem? (i := 6) rfl)) (fun _ h9 => h9) rfl (by decide +kernel) rfl rfl (Nat.le_of_ble_eq_true rfl) dX9_step_147 (fun H locs hP hD hS => ?_)
          have hP : va_P D vwCl (wWX9 cB cI cZ a0 (upd I0_6 5 (0 : Int32)) M0_j39) H := hP
          have hD : va_D A (wWX9 cB cI cZ a0 (upd I0_6 5 (0 : Int32)) M0_j39) := hD
          obtain ⟨I0_7, eI0_7, hf⟩ := wb_v hf
          rw [← eI0_7] at hP hD
          have L150 : ∀ (fu150 : Nat) (I0_l150 : Nat → Int32) (M0_l150 : Nat → Nat → Int32) (H : Heap) (locs : List Loc), va_P D vwCl (wWX9 cB cI cZ a0 I0_l150 M0_l150) H → va_D A (wWX9 cB cI cZ a0 I0_l150 M0_l150) → va_S A s.heap H locs → ∀ (ls : Array Slot), lv_has ls 1 [(0, .ref (a0 0))] → fX9_step_L150 N fu150 I0_l150 M0_l150 = some R → W p l e (headSpec wsX9_step { frames := 1, cells := 0, slots := 0, locals := 20 }).room s m [.ref (a0 0)].toArray below meth c H locs 0 0 (MQ below (va_Qv (fun _ : Unit => True) (fun _ t => wb_post D [(cB, .byte), (cI, .int), (cZ, .boolean)] A (wWX9 cB cI cZ a0 R.1 R.2) t) A) [.ref (a0 0)].toArray s 0 0 A) (F0 m 150 ls []) := by
            intro fu150
            induction fu150 with
            | zero =>
              intro I0_l150 M0_l150 H locs hP hD hS ls hl hf
              exact absurd hf (by rw [fX9_step_L150.eq_1]; exact fun h => nomatch h)
            | succ fu150 ih150 =>
              have J218 : ∀ (I0_j218 : Nat → Int32) (M0_j218 : Nat → Nat → Int32) (z218_0 : Int32) (H : Heap) (locs : List Loc), va_P D vwCl (wWX9 cB cI cZ a0 I0_j218 M0_j218) H → va_D A (wWX9 cB cI cZ a0 I0_j218 M0_j218) → va_S A s.heap H locs → ∀ (ls : Array Slot), lv_has ls 1 [(0, .ref (a0 0))] → fX9_step_J218 N (fX9_step_L150 N fu150) I0_j218 M0_j218 z218_0 = some R → W p l e (headSpec wsX9_step { frames := 1, cells := 0, slots := 0, locals := 20 }).room s m [.ref (a0 0)].toArray below meth c H locs 0 0 (MQ below (va_Qv (fun _ : Unit => True) (fun _ t => wb_post D [(cB, .byte), (cI, .int), (cZ, .boolean)] A (wWX9 cB cI cZ a0 R.1 R.2) t) A) [.ref (a0 0)].toArray s 0 0 A) (F0 m 218 ls [.int z218_0, .ref (a0 0)]) := by
                intro I0_j218 M0_j218 z218_0 H locs hP hD hS ls hl hf
                unfold fX9_step_J218 at hf
                refine va_put (D := D) (ci := 9) (v := .int z218_0) (ty := .int) (C := RX9) (T := TX9) (N := 10) hx hb hts hinX9 tyX9 tyX9_ok nmX9 hown hK hP hD hS 0 rfl rfl 6 (by decide) (hts (.fieldLink RX9 56 "WheelBook$Text" "value" "I") (List.mem_of_getElem? (i := 6) rfl)) (fun _ h9 => h9) rfl (by decide +kernel) rfl rfl (Nat.le_of_ble_eq_true rfl) dX9_step_218 (fun H locs hP hD hS => ?_)
                have hP : va_P D vwCl (wWX9 cB cI cZ a0 (upd I0_j218 5 z218_0) M0_j218) H := hP
                have hD : va_D A (wWX9 cB cI cZ a0 (upd I0_j218 5 z218_0) M0_j218) := hD
                obtain ⟨I0_8, eI0_8, hf⟩ := wb_v hf
                rw [← eI0_8] at hP hD
                refine lv_aload_n hx hb dX9_step_221 rfl (lv_at hl 0 rfl) ?_
                refine lv_dup hx hb dX9_step_222 rfl ?_
                refine va_get (D := D) (ci := 9) (v := .int (I0_8 3)) (C := RX9) (T := TX9) (N := 10) hx hb hts hinX9 hown hK hP 0 rfl rfl 4 (by decide) (hts (.fieldLink RX9 31 "WheelBook$Text" "at" "I") (List.mem_of_getElem? (i := 1) rfl)) (fun _ h9 => h9) rfl dX9_step_223 ?_
                refine lv_iconst (v := (1 : Int32)) hx hb dX9_step_226 (by decide) ?_
                refine lv_iadd hx hb dX9_step_227 ?_
                refine va_put (D := D) (ci := 9) (v := .int ((I0_8 3) + (1 : Int32))) (ty := .int) (C := RX9) (T := TX9) (N := 10) hx hb hts hinX9 tyX9 tyX9_ok nmX9 hown hK hP hD hS 0 rfl rfl 4 (by decide) (hts (.fieldLink RX9 31 "WheelBook$Text" "at" "I") (List.mem_of_getElem? (i := 1) rfl)) (fun _ h9 => h9) rfl (by decide +kernel) rfl rfl (Nat.le_of_ble_eq_true rfl) dX9_step_228 (fun H locs hP hD hS => ?_)
                have hP : va_P D vwCl (wWX9 cB cI cZ a0 (upd I0_8 3 ((I0_8 3) + (1 : Int32))) M0_j218) H := hP
                have hD : va_D A (wWX9 cB cI cZ a0 (upd I0_8 3 ((I0_8 3) + (1 : Int32))) M0_j218) := hD
                obtain ⟨I0_9, eI0_9, hf⟩ := wb_v hf
                rw [← eI0_9] at hP hD
                refine lv_goto (tgt := 150) hx hb dX9_step_231 (by decide) ?_
                exact ih150 I0_9 M0_j218 H locs hP hD hS ls (lv_sub hl [0] rfl) hf
              intro I0_l150 M0_l150 H locs hP hD hS ls hl hf
              rw [fX9_step_L150.eq_2] at hf
              refine lv_aload_n hx hb dX9_step_150 rfl (lv_at hl 0 rfl) ?_
              refine va_get (D := D) (ci := 9) (v := .int (I0_l150 3)) (C := RX9) (T := TX9) (N := 10) hx hb hts hinX9 hown hK hP 0 rfl rfl 4 (by decide) (hts (.fieldLink RX9 31 "WheelBook$Text" "at" "I") (List.mem_of_getElem? (i := 1) rfl)) (fun _ h9 => h9) rfl dX9_step_151 ?_
              refine lv_aload_n hx hb dX9_step_154 rfl (lv_at hl 0 rfl) ?_
              refine va_get (D := D) (ci := 9) (v := .int (I0_l150 1)) (C := RX9) (T := TX9) (N := 10) hx hb hts hinX9 hown hK hP 0 rfl rfl 2 (by decide) (hts (.fieldLink RX9 28 "WheelBook$Text" "end" "I") (List.mem_of_getElem? (i := 2) rfl)) (fun _ h9 => h9) rfl dX9_step_155 ?_
              refine lv_icmp_ge (tgt := 267) hx hb dX9_step_158 (by decide) (fun hc => ?_) (fun hc => ?_)
              · replace hf := wb_t hc hf
                exact W.vret hx hb hr (fun t ht hW => by rw [← Option.some.inj hf]; exact ⟨⟨(), rfl, trivial, by rw [ht]; exact hP, va_K.moved hW.alike hK, hD⟩, hS.F ht⟩) hS.2.2 dX9_step_267
              · replace hf := wb_f hc hf
                refine lv_aload_n hx hb dX9_step_161 rfl (lv_at hl 0 rfl) ?_
                refine va_get (D := D) (ci := 9) (v := .ref (a0 1)) (C := RX9) (T := TX9) (N := 10) hx hb hts hinX9 hown hK hP 0 rfl rfl 0 (by decide) (hts (.fieldLink RX9 11 "WheelBook$Text" "bytes" "[B") (List.mem_of_getElem? (i := 3) rfl)) (fun _ h9 => h9) rfl dX9_step_162 ?_
                refine lv_aload_n hx hb dX9_step_165 rfl (lv_at hl 0 rfl) ?_
                refine va_get (D := D) (ci := 9) (v := .int (I0_l150 3)) (C := RX9) (T := TX9) (N := 10) hx hb hts hinX9 hown hK hP 0 rfl rfl 4 (by decide) (hts (.fieldLink RX9 31 "WheelBook$Text" "at" "I") (List.mem_of_getElem? (i := 1) rfl)) (fun _ h9 => h9) rfl dX9_step_166 ?_
                obtain ⟨hin, hf⟩ := wb_n hf
                refine va_bald hx hb hK hP 1 0 rfl rfl hin dX9_step_169 ?_
                obtain ⟨r10, hr10, hf⟩ := wb_b hf
                refine vp_callSi (W.runS (As := [.int (M0_l150 0 ((I0_l150 3)).toNatClampNeg)]) (rest := []) ⟨hx, hb, hml, hown, hts⟩ (cn_X9_isDigit l D cB cI cZ N (M0_l150 0 ((I0_l150 3)).toNatClampNeg) r10 hr10) (va_cwS 1 hts gX9_step_X9_isDigit rfl rfl rfl csX9_isDigit ⟨Nat.le_of_ble_eq_true rfl, Nat.le_of_ble_eq_true rfl⟩) (wb_preS (hP.sub (ws' := ([] : va_W)) [] rfl) hK) rfl rfl hl.1 rfl (lv_room (Nat.le_of_ble_eq_true rfl)) dX9_step_170 ⟨Nat.le_of_ble_eq_true rfl, Nat.le_of_ble_eq_true rfl⟩) (fun r9 e9 => ?_)
                rw [e9]
                refine lv_if_eq (tgt := 267) hx hb dX9_step_173 (by decide) (fun hc => ?_) (fun hc => ?_)
                · replace hf := wb_t hc hf
                  exact W.vret hx hb hr (fun t ht hW => by rw [← Option.some.inj hf]; exact ⟨⟨(), rfl, trivial, by rw [ht]; exact hP, va_K.moved hW.alike hK, hD⟩, hS.F ht⟩) hS.2.2 dX9_step_267
                · replace hf := wb_f hc hf
                  refine lv_aload_n hx hb dX9_step_176 rfl (lv_at hl 0 rfl) ?_
                  refine lv_aload_n hx hb dX9_step_177 rfl (lv_at hl 0 rfl) ?_
                  refine va_get (D := D) (ci := 9) (v := .int (I0_l150 3)) (C := RX9) (T := TX9) (N := 10) hx hb hts hinX9 hown hK hP 0 rfl rfl 4 (by decide) (hts (.fieldLink RX9 31 "WheelBook$Text" "at" "I") (List.mem_of_getElem? (i := 1) rfl)) (fun _ h9 => h9) rfl dX9_step_178 ?_
                  refine lv_aload_n hx hb dX9_step_181 rfl (lv_at hl 0 rfl) ?_
                  refine va_get (D := D) (ci := 9) (v := .int (I0_l150 2)) (C := RX9) (T := TX9) (N := 10) hx hb hts hinX9 hown hK hP 0 rfl rfl 3 (by decide) (hts (.fieldLink RX9 47 "WheelBook$Text" "start" "I") (List.mem_of_getElem? (i := 4) rfl)) (fun _ h9 => h9) rfl dX9_step_182 ?_
                  refine lv_isub hx hb dX9_step_185 ?_
                  refine lv_bipush (v := (7 : Int32)) hx hb dX9_step_186 (by decide) ?_
                  refine lv_icmp_ge (tgt := 214) hx hb dX9_step_188 (by decide) (fun hc => ?_) (fun hc => ?_)
                  · replace hf := wb_t hc hf
                    refine lv_aload_n hx hb dX9_step_214 rfl (lv_at hl 0 rfl) ?_
                    refine va_get (D := D) (ci := 9) (v := .int (I0_l150 5)) (C := RX9) (T := TX9) (N := 10) hx hb hts hinX9 hown hK hP 0 rfl rfl 6 (by decide) (hts (.fieldLink RX9 56 "WheelBook$Text" "value" "I") (List.mem_of_getElem? (i := 6) rfl)) (fun _ h9 => h9) rfl dX9_step_215 ?_
                    exact J218 I0_l150 M0_l150 (I0_l150 5) H locs hP hD hS ls (lv_sub hl [0] rfl) hf
                  · replace hf := wb_f hc hf
                    refine lv_bipush (v := (10 : Int32)) hx hb dX9_step_191 (by decide) ?_
                    refine lv_aload_n hx hb dX9_step_193 rfl (lv_at hl 0 rfl) ?_
                    refine va_get (D := D) (ci := 9) (v := .int (I0_l150 5)) (C := RX9) (T := TX9) (N := 10) hx hb hts hinX9 hown hK hP 0 rfl rfl 6 (by decide) (hts (.fieldLink RX9 56 "WheelBook$Text" "value" "I") (List.mem_of_getElem? (i := 6) rfl)) (fun _ h9 => h9) rfl dX9_step_194 ?_
                    refine lv_imul hx hb dX9_step_197 ?_
                    refine lv_aload_n hx hb dX9_step_198 rfl (lv_at hl 0 rfl) ?_
                    refine va_get (D := D) (ci := 9) (v := .ref (a0 1)) (C := RX9) (T := TX9) (N := 10) hx hb hts hinX9 hown hK hP 0 rfl rfl 0 (by decide) (hts (.fieldLink RX9 11 "WheelBook$Text" "bytes" "[B") (List.mem_of_getElem? (i := 3) rfl)) (fun _ h9 => h9) rfl dX9_step_199 ?_
                    refine lv_aload_n hx hb dX9_step_202 rfl (lv_at hl 0 rfl) ?_
                    refine va_get (D := D) (ci := 9) (v := .int (I0_l150 3)) (C := RX9) (T := TX9) (N := 10) hx hb hts hinX9 hown hK hP 0 rfl rfl 4 (by decide) (hts (.fieldLink RX9 31 "WheelBook$Text" "at" "I") (List.mem_of_getElem? (i := 1) rfl)) (fun _ h9 => h9) rfl dX9_step_203 ?_
                    obtain ⟨hin, hf⟩ := wb_n hf
                    refine va_bald hx hb hK hP 1 0 rfl rfl hin dX9_step_206 ?_
                    refine lv_iadd hx hb dX9_step_207 ?_
                    refine lv_bipush (v := (48 : Int32)) hx hb dX9_step_208 (by decide) ?_
                    refine lv_isub hx hb dX9_step_210 ?_
                    refine lv_goto (tgt := 218) hx hb dX9_step_211 (by decide) ?_
                    exact J218 I0_l150 M0_l150 ((((10 : Int32) * (I0_l150 5)) + (M0_l150 0 ((I0_l150 3)).toNatClampNeg)) - (48 : Int32)) H locs hP hD hS ls (lv_sub hl [0] rfl) hf
          exact L150 N I0_7 M0_j39 H locs hP hD hS ls (lv_sub hl [0] rfl) hf
      · replace hf := wb_f hc hf
        refine lv_aload_n hx hb dX9_step_81 rfl (lv_at hl 0 rfl) ?_
        refine lv_iconst (v := (1 : Int32)) hx hb dX9_step_82 (by decide) ?_
        refine va_put (D := D) (ci := 9) (v := .int (1 : Int32)) (ty := .int) (C := RX9) (T := TX9) (N := 10) hx hb hts hinX9 tyX9 tyX9_ok nmX9 hown hK hP hD hS 0 rfl rfl 5 (by decide) (hts (.fieldLink RX9 40 "WheelBook$Text" "kind" "I") (List.mem_of_getElem? (i := 5) rfl)) (fun _ h9 => h9) rfl (by decide +kernel) rfl rfl (Nat.le_of_ble_eq_true rfl) dX9_step_83 (fun H locs hP hD hS => ?_)
        have hP : va_P D vwCl (wWX9 cB cI cZ a0 (upd I0_3 4 (1 : Int32)) M0_j39) H := hP
        have hD : va_D A (wWX9 cB cI cZ a0 (upd I0_3 4 (1 : Int32)) M0_j39) := hD
        obtain ⟨I0_11, eI0_11, hf⟩ := wb_v hf
        rw [← eI0_11] at hP hD
        have L86 : ∀ (fu86 : Nat) (I0_l86 : Nat → Int32) (M0_l86 : Nat → Nat → Int32) (H : Heap) (locs : List Loc), va_P D vwCl (wWX9 cB cI cZ a0 I0_l86 M0_l86) H → va_D A (wWX9 cB cI cZ a0 I0_l86 M0_l86) → va_S A s.heap H locs → ∀ (ls : Array Slot), lv_has ls 1 [(0, .ref (a0 0))] → fX9_step_L86 N fu86 I0_l86 M0_l86 = some R → W p l e (headSpec wsX9_step { frames := 1, cells := 0, slots := 0, locals := 20 }).room s m [.ref (a0 0)].toArray below meth c H locs 0 0 (MQ below (va_Qv (fun _ : Unit => True) (fun _ t => wb_post D [(cB, .byte), (cI, .int), (cZ, .boolean)] A (wWX9 cB cI cZ a0 R.1 R.2) t) A) [.ref (a0 0)].toArray s 0 0 A) (F0 m 86 ls []) := by
          intro fu86
          induction fu86 with
          | zero =>
            intro I0_l86 M0_l86 H locs hP hD hS ls hl hf
            exact absurd hf (by rw [fX9_step_L86.eq_1]; exact fun h => nomatch h)
          | succ fu86 ih86 =>
            intro I0_l86 M0_l86 H locs hP hD hS ls hl hf
            rw [fX9_step_L86.eq_2] at hf
            refine lv_aload_n hx hb dX9_step_86 rfl (lv_at hl 0 rfl) ?_
            refine va_get (D := D) (ci := 9) (v := .int (I0_l86 3)) (C := RX9) (T := TX9) (N := 10) hx hb hts hinX9 hown hK hP 0 rfl rfl 4 (by decide) (hts (.fieldLink RX9 31 "WheelBook$Text" "at" "I") (List.mem_of_getElem? (i := 1) rfl)) (fun _ h9 => h9) rfl dX9_step_87 ?_
            refine lv_aload_n hx hb dX9_step_90 rfl (lv_at hl 0 rfl) ?_
            refine va_get (D := D) (ci := 9) (v := .int (I0_l86 1)) (C := RX9) (T := TX9) (N := 10) hx hb hts hinX9 hown hK hP 0 rfl rfl 2 (by decide) (hts (.fieldLink RX9 28 "WheelBook$Text" "end" "I") (List.mem_of_getElem? (i := 2) rfl)) (fun _ h9 => h9) rfl dX9_step_91 ?_
            refine lv_icmp_ge (tgt := 267) hx hb dX9_step_94 (by decide) (fun hc => ?_) (fun hc => ?_)
            · replace hf := wb_t hc hf
              exact W.vret hx hb hr (fun t ht hW => by rw [← Option.some.inj hf]; exact ⟨⟨(), rfl, trivial, by rw [ht]; exact hP, va_K.moved hW.alike hK, hD⟩, hS.F ht⟩) hS.2.2 dX9_step_267
            · replace hf := wb_f hc hf
              refine lv_aload_n hx hb dX9_step_97 rfl (lv_at hl 0 rfl) ?_
              refine va_get (D := D) (ci := 9) (v := .ref (a0 1)) (C := RX9) (T := TX9) (N := 10) hx hb hts hinX9 hown hK hP 0 rfl rfl 0 (by decide) (hts (.fieldLink RX9 11 "WheelBook$Text" "bytes" "[B") (List.mem_of_getElem? (i := 3) rfl)) (fun _ h9 => h9) rfl dX9_step_98 ?_
              refine lv_aload_n hx hb dX9_step_101 rfl (lv_at hl 0 rfl) ?_
              refine va_get (D := D) (ci := 9) (v := .int (I0_l86 3)) (C := RX9) (T := TX9) (N := 10) hx hb hts hinX9 hown hK hP 0 rfl rfl 4 (by decide) (hts (.fieldLink RX9 31 "WheelBook$Text" "at" "I") (List.mem_of_getElem? (i := 1) rfl)) (fun _ h9 => h9) rfl dX9_step_102 ?_
              obtain ⟨hin, hf⟩ := wb_n hf
              refine va_bald hx hb hK hP 1 0 rfl rfl hin dX9_step_105 ?_
              obtain ⟨r12, hr12, hf⟩ := wb_b hf
              refine vp_callSi (W.runS (As := [.int (M0_l86 0 ((I0_l86 3)).toNatClampNeg)]) (rest := []) ⟨hx, hb, hml, hown, hts⟩ (cn_X9_isLetter l D cB cI cZ N (M0_l86 0 ((I0_l86 3)).toNatClampNeg) r12 hr12) (va_cwS 1 hts gX9_step_X9_isLetter rfl rfl rfl csX9_isLetter ⟨Nat.le_of_ble_eq_true rfl, Nat.le_of_ble_eq_true rfl⟩) (wb_preS (hP.sub (ws' := ([] : va_W)) [] rfl) hK) rfl rfl hl.1 rfl (lv_room (Nat.le_of_ble_eq_true rfl)) dX9_step_106 ⟨Nat.le_of_ble_eq_true rfl, Nat.le_of_ble_eq_true rfl⟩) (fun r9 e9 => ?_)
              rw [e9]
              refine lv_if_eq (tgt := 267) hx hb dX9_step_109 (by decide) (fun hc => ?_) (fun hc => ?_)
              · replace hf := wb_t hc hf
                exact W.vret hx hb hr (fun t ht hW => by rw [← Option.some.inj hf]; exact ⟨⟨(), rfl, trivial, by rw [ht]; exact hP, va_K.moved hW.alike hK, hD⟩, hS.F ht⟩) hS.2.2 dX9_step_267
              · replace hf := wb_f hc hf
                refine lv_aload_n hx hb dX9_step_112 rfl (lv_at hl 0 rfl) ?_
                refine lv_dup hx hb dX9_step_113 rfl ?_
                refine va_get (D := D) (ci := 9) (v := .int (I0_l86 3)) (C := RX9) (T := TX9) (N := 10) hx hb hts hinX9 hown hK hP 0 rfl rfl 4 (by decide) (hts (.fieldLink RX9 31 "WheelBook$Text" "at" "I") (List.mem_of_getElem? (i := 1) rfl)) (fun _ h9 => h9) rfl dX9_step_114 ?_
                refine lv_iconst (v := (1 : Int32)) hx hb dX9_step_117 (by decide) ?_
                refine lv_iadd hx hb dX9_step_118 ?_
                refine va_put (D := D) (ci := 9) (v := .int ((I0_l86 3) + (1 : Int32))) (ty := .int) (C := RX9) (T := TX9) (N := 10) hx hb hts hinX9 tyX9 tyX9_ok nmX9 hown hK hP hD hS 0 rfl rfl 4 (by decide) (hts (.fieldLink RX9 31 "WheelBook$Text" "at" "I") (List.mem_of_getElem? (i := 1) rfl)) (fun _ h9 => h9) rfl (by decide +kernel) rfl rfl (Nat.le_of_ble_eq_true rfl) dX9_step_119 (fun H locs hP hD hS => ?_)
                have hP : va_P D vwCl (wWX9 cB cI cZ a0 (upd I0_l86 3 ((I0_l86 3) + (1 : Int32))) M0_l86) H := hP
                have hD : va_D A (wWX9 cB cI cZ a0 (upd I0_l86 3 ((I0_l86 3) + (1 : Int32))) M0_l86) := hD
                obtain ⟨I0_13, eI0_13, hf⟩ := wb_v hf
                rw [← eI0_13] at hP hD
                refine lv_goto (tgt := 86) hx hb dX9_step_122 (by decide) ?_
                exact ih86 I0_13 M0_l86 H locs hP hD hS ls (lv_sub hl [0] rfl) hf
        exact L86 N I0_11 M0_j39 H locs hP hD hS ls (lv_sub hl [0] rfl) hf
    · replace hf := wb_f hc hf
      refine lv_aload_n hx hb dX9_step_58 rfl (lv_at hl 0 rfl) ?_
      refine lv_iconst (v := (0 : Int32)) hx hb dX9_step_59 (by decide) ?_
      refine va_put (D := D) (ci := 9) (v := .int (0 : Int32)) (ty := .int) (C := RX9) (T := TX9) (N := 10) hx hb hts hinX9 tyX9 tyX9_ok nmX9 hown hK hP hD hS 0 rfl rfl 5 (by decide) (hts (.fieldLink RX9 40 "WheelBook$Text" "kind" "I") (List.mem_of_getElem? (i := 5) rfl)) (fun _ h9 => h9) rfl (by decide +kernel) rfl rfl (Nat.le_of_ble_eq_true rfl) dX9_step_60 (fun H locs hP hD hS => ?_)
      have hP : va_P D vwCl (wWX9 cB cI cZ a0 (upd I0_3 4 (0 : Int32)) M0_j39) H := hP
      have hD : va_D A (wWX9 cB cI cZ a0 (upd I0_3 4 (0 : Int32)) M0_j39) := hD
      obtain ⟨I0_14, eI0_14, hf⟩ := wb_v hf
      rw [← eI0_14] at hP hD
      refine lv_goto (tgt := 267) hx hb dX9_step_63 (by decide) ?_
      exact W.vret hx hb hr (fun t ht hW => by rw [← Option.some.inj hf]; exact ⟨⟨(), rfl, trivial, by rw [ht]; exact hP, va_K.moved hW.alike hK, hD⟩, hS.F ht⟩) hS.2.2 dX9_step_267
  have L0 : ∀ (fu0 : Nat) (I0_l0 : Nat → Int32) (M0_l0 : Nat → Nat → Int32) (H : Heap) (locs : List Loc), va_P D vwCl (wWX9 cB cI cZ a0 I0_l0 M0_l0) H → va_D A (wWX9 cB cI cZ a0 I0_l0 M0_l0) → va_S A s.heap H locs → ∀ (ls : Array Slot), lv_has ls 1 [(0, .ref (a0 0))] → fX9_step_L0 N fu0 I0_l0 M0_l0 = some R → W p l e (headSpec wsX9_step { frames := 1, cells := 0, slots := 0, locals := 20 }).room s m [.ref (a0 0)].toArray below meth c H locs 0 0 (MQ below (va_Qv (fun _ : Unit => True) (fun _ t => wb_post D [(cB, .byte), (cI, .int), (cZ, .boolean)] A (wWX9 cB cI cZ a0 R.1 R.2) t) A) [.ref (a0 0)].toArray s 0 0 A) (F0 m 0 ls []) := by
    intro fu0
    induction fu0 with
    | zero =>
      intro I0_l0 M0_l0 H locs hP hD hS ls hl hf
      exact absurd hf (by rw [fX9_step_L0.eq_1]; exact fun h => nomatch h)
    | succ fu0 ih0 =>
      intro I0_l0 M0_l0 H locs hP hD hS ls hl hf
      rw [fX9_step_L0.eq_2] at hf
      refine lv_aload_n hx hb dX9_step_0 rfl (lv_at hl 0 rfl) ?_
      refine va_get (D := D) (ci := 9) (v := .int (I0_l0 3)) (C := RX9) (T := TX9) (N := 10) hx hb hts hinX9 hown hK hP 0 rfl rfl 4 (by decide) (hts (.fieldLink RX9 31 "WheelBook$Text" "at" "I") (List.mem_of_getElem? (i := 1) rfl)) (fun _ h9 => h9) rfl dX9_step_1 ?_
      refine lv_aload_n hx hb dX9_step_4 rfl (lv_at hl 0 rfl) ?_
      refine va_get (D := D) (ci := 9) (v := .int (I0_l0 1)) (C := RX9) (T := TX9) (N := 10) hx hb hts hinX9 hown hK hP 0 rfl rfl 2 (by decide) (hts (.fieldLink RX9 28 "WheelBook$Text" "end" "I") (List.mem_of_getElem? (i := 2) rfl)) (fun _ h9 => h9) rfl dX9_step_5 ?_
      refine lv_icmp_ge (tgt := 39) hx hb dX9_step_8 (by decide) (fun hc => ?_) (fun hc => ?_)
      · replace hf := wb_t hc hf
        exact J39 I0_l0 M0_l0 H locs hP hD hS ls (lv_sub hl [0] rfl) hf
      · replace hf := wb_f hc hf
        refine lv_aload_n hx hb dX9_step_11 rfl (lv_at hl 0 rfl) ?_
        refine va_get (D := D) (ci := 9) (v := .ref (a0 1)) (C := RX9) (T := TX9) (N := 10) hx hb hts hinX9 hown hK hP 0 rfl rfl 0 (by decide) (hts (.fieldLink RX9 11 "WheelBook$Text" "bytes" "[B") (List.mem_of_getElem? (i := 3) rfl)) (fun _ h9 => h9) rfl dX9_step_12 ?_
        refine lv_aload_n hx hb dX9_step_15 rfl (lv_at hl 0 rfl) ?_
        refine va_get (D := D) (ci := 9) (v := .int (I0_l0 3)) (C := RX9) (T := TX9) (N := 10) hx hb hts hinX9 hown hK hP 0 rfl rfl 4 (by decide) (hts (.fieldLink RX9 31 "WheelBook$Text" "at" "I") (List.mem_of_getElem? (i := 1) rfl)) (fun _ h9 => h9) rfl dX9_step_16 ?_
        obtain ⟨hin, hf⟩ := wb_n hf
        refine va_bald hx hb hK hP 1 0 rfl rfl hin dX9_step_19 ?_
        obtain ⟨r15, hr15, hf⟩ := wb_b hf
        refine vp_callSi (W.runS (As := [.int (M0_l0 0 ((I0_l0 3)).toNatClampNeg)]) (rest := []) ⟨hx, hb, hml, hown, hts⟩ (cn_X9_isBlank l D cB cI cZ N (M0_l0 0 ((I0_l0 3)).toNatClampNeg) r15 hr15) (va_cwS 1 hts gX9_step_X9_isBlank rfl rfl rfl csX9_isBlank ⟨Nat.le_of_ble_eq_true rfl, Nat.le_of_ble_eq_true rfl⟩) (wb_preS (hP.sub (ws' := ([] : va_W)) [] rfl) hK) rfl rfl hl.1 rfl (lv_room (Nat.le_of_ble_eq_true rfl)) dX9_step_20 ⟨Nat.le_of_ble_eq_true rfl, Nat.le_of_ble_eq_true rfl⟩) (fun r9 e9 => ?_)
        rw [e9]
        refine lv_if_eq (tgt := 39) hx hb dX9_step_23 (by decide) (fun hc => ?_) (fun hc => ?_)
        · replace hf := wb_t hc hf
          exact J39 I0_l0 M0_l0 H locs hP hD hS ls (lv_sub hl [0] rfl) hf
        · replace hf := wb_f hc hf
          refine lv_aload_n hx hb dX9_step_26 rfl (lv_at hl 0 rfl) ?_
          refine lv_dup hx hb dX9_step_27 rfl ?_
          refine va_get (D := D) (ci := 9) (v := .int (I0_l0 3)) (C := RX9) (T := TX9) (N := 10) hx hb hts hinX9 hown hK hP 0 rfl rfl 4 (by decide) (hts (.fieldLink RX9 31 "WheelBook$Text" "at" "I") (List.mem_of_getElem? (i := 1) rfl)) (fun _ h9 => h9) rfl dX9_step_28 ?_
          refine lv_iconst (v := (1 : Int32)) hx hb dX9_step_31 (by decide) ?_
          refine lv_iadd hx hb dX9_step_32 ?_
          refine va_put (D := D) (ci := 9) (v := .int ((I0_l0 3) + (1 : Int32))) (ty := .int) (C := RX9) (T := TX9) (N := 10) hx hb hts hinX9 tyX9 tyX9_ok nmX9 hown hK hP hD hS 0 rfl rfl 4 (by decide) (hts (.fieldLink RX9 31 "WheelBook$Text" "at" "I") (List.mem_of_getElem? (i := 1) rfl)) (fun _ h9 => h9) rfl (by decide +kernel) rfl rfl (Nat.le_of_ble_eq_true rfl) dX9_step_33 (fun H locs hP hD hS => ?_)
          have hP : va_P D vwCl (wWX9 cB cI cZ a0 (upd I0_l0 3 ((I0_l0 3) + (1 : Int32))) M0_l0) H := hP
          have hD : va_D A (wWX9 cB cI cZ a0 (upd I0_l0 3 ((I0_l0 3) + (1 : Int32))) M0_l0) := hD
          obtain ⟨I0_16, eI0_16, hf⟩ := wb_v hf
          rw [← eI0_16] at hP hD
          refine lv_goto (tgt := 0) hx hb dX9_step_36 (by decide) ?_
          exact ih0 I0_16 M0_l0 H locs hP hD hS ls (lv_sub hl [0] rfl) hf
  exact L0 N I0 M0 H locs hP hD hS ls (lv_sub hl [0] rfl) hf

set_option maxHeartbeats 4000000 in
set_option maxRecDepth 100000 in
theorem cn_X9_refuse (l : Launch) (D : va_G) (cB cI cZ : ClassId) (N : Nat) (a0 : Nat → Nat) (I0 : Nat → Int32) (M0 : Nat → Nat → Int32) (x1 : Int32) (sz : Nat) (R : Int32 × (Nat → Int32) × (Nat → Nat → Int32)) (hf : fX9_refuse N I0 M0 x1 = some R) : Met l yX9_refuse wsX9_refuse ({ frames := 0, cells := 0, slots := 0, locals := 0 }) (va_Pc [.ref (a0 0), .int x1] (wb_preD D [(cB, .byte), (cI, .int), (cZ, .boolean)] (wWX9 cB cI cZ a0 I0 M0) sz)) (va_Qi (fun r (_ : Unit) => r = R.1) (fun _ t => wb_post D [(cB, .byte), (cI, .int), (cZ, .boolean)] (va_A (wWX9 cB cI cZ a0 I0 M0) sz) (wWX9 cB cI cZ a0 R.2.1 R.2.2) t) (va_A (wWX9 cB cI cZ a0 I0 M0) sz)) 0 0 (va_A (wWX9 cB cI cZ a0 I0 M0) sz) := by
  refine Met.ofW (cc := cX9_refuse) (maxL := 2) (ret := (some .boolean)) pn_X9 rfl ?_
  intro p e s m args below meth c s₁ B hml hv
  obtain ⟨rfl, hsz, hP, hK, hD0⟩ := hv
  have hx := B.exec
  have hb := B.bytes
  have hr := B.returns
  have hts := atoms_spec (ws := wsX9_refuse) B.pre
  have hown : s.vm.findClass RX9 = some m.cls := (findClass_of_methodNamed B.named :)
  have hlocks := B.notSynchronized
  have hinX9 : ∀ w ∈ u_ws RX9 TX9 10, w ∈ wsX9_refuse := fun w h => List.mem_cons_of_mem _ (List.mem_append_right _ h)
  subst hsz
  have hD := hD0.self (sz := s.heap.size)
  generalize hAe : va_A (wWX9 cB cI cZ a0 I0 M0) s.heap.size = A at hD ⊢
  have hA : ∀ q : Nat, s.heap.size ≤ q → A q := fun q h => by rw [← hAe]; exact Or.inr h
  have hS : va_S A s.heap s.heap [] := va_S.rf
  have hl := lv_entry ([.ref (a0 0), .int x1]) (n := 2) (Nat.le_of_ble_eq_true rfl)
  rw [lg_entry_eq]
  generalize (lg_sl ([.ref (a0 0), .int x1]) ++ List.replicate (2 - (lg_sl ([.ref (a0 0), .int x1])).length) Slot.unset).toArray = ls at hl ⊢
  have hl : lv_has ls 2 [(0, .ref (a0 0)), (1, .int x1)] := hl
  unfold fX9_refuse at hf
  obtain ⟨H, hHe⟩ : ∃ H : Heap, H = s.heap := ⟨_, rfl⟩
  obtain ⟨locs, hle⟩ : ∃ locs : List Loc, locs = [] := ⟨_, rfl⟩
  refine wb_start (H := H) (locs := locs) hHe hle ?_
  rw [← hHe] at hP
  have hS : va_S A s.heap H locs := by rw [hHe, hle]; exact va_S.rf
  refine lv_aload_n hx hb dX9_refuse_0 rfl (lv_at hl 0 rfl) ?_
  refine lv_iload_n hx hb dX9_refuse_1 rfl (lv_at hl 1 rfl) ?_
  refine va_put (D := D) (ci := 9) (v := .int x1) (ty := .int) (C := RX9) (T := TX9) (N := 10) hx hb hts hinX9 tyX9 tyX9_ok nmX9 hown hK hP hD hS 0 rfl rfl 8 (by decide) (hts (.fieldLink RX9 34 "WheelBook$Text" "faultKind" "I") (List.mem_of_getElem? (i := 1) rfl)) (fun _ h9 => h9) rfl (by decide +kernel) rfl rfl (Nat.le_of_ble_eq_true rfl) dX9_refuse_2 (fun H locs hP hD hS => ?_)
  have hP : va_P D vwCl (wWX9 cB cI cZ a0 (upd I0 7 x1) M0) H := hP
  have hD : va_D A (wWX9 cB cI cZ a0 (upd I0 7 x1) M0) := hD
  obtain ⟨I0_1, eI0_1, hf⟩ := wb_v hf
  rw [← eI0_1] at hP hD
  refine lv_aload_n hx hb dX9_refuse_5 rfl (lv_at hl 0 rfl) ?_
  refine lv_aload_n hx hb dX9_refuse_6 rfl (lv_at hl 0 rfl) ?_
  refine va_get (D := D) (ci := 9) (v := .int (I0_1 2)) (C := RX9) (T := TX9) (N := 10) hx hb hts hinX9 hown hK hP 0 rfl rfl 3 (by decide) (hts (.fieldLink RX9 47 "WheelBook$Text" "start" "I") (List.mem_of_getElem? (i := 2) rfl)) (fun _ h9 => h9) rfl dX9_refuse_7 ?_
  refine va_put (D := D) (ci := 9) (v := .int (I0_1 2)) (ty := .int) (C := RX9) (T := TX9) (N := 10) hx hb hts hinX9 tyX9 tyX9_ok nmX9 hown hK hP hD hS 0 rfl rfl 9 (by decide) (hts (.fieldLink RX9 15 "WheelBook$Text" "faultPlace" "I") (List.mem_of_getElem? (i := 3) rfl)) (fun _ h9 => h9) rfl (by decide +kernel) rfl rfl (Nat.le_of_ble_eq_true rfl) dX9_refuse_10 (fun H locs hP hD hS => ?_)
  have hP : va_P D vwCl (wWX9 cB cI cZ a0 (upd I0_1 8 (I0_1 2)) M0) H := hP
  have hD : va_D A (wWX9 cB cI cZ a0 (upd I0_1 8 (I0_1 2)) M0) := hD
  obtain ⟨I0_2, eI0_2, hf⟩ := wb_v hf
  rw [← eI0_2] at hP hD
  refine lv_iconst (v := (0 : Int32)) hx hb dX9_refuse_13 (by decide) ?_
  exact W.zret (v := (0 : Int32)) hx hb hr (by decide) (fun t ht hW => by rw [← Option.some.inj hf]; exact ⟨⟨(0 : Int32), (), rfl, rfl, by rw [ht]; exact hP, va_K.moved hW.alike hK, hD⟩, hS.F ht⟩) hS.2.2 dX9_refuse_14

set_option maxHeartbeats 4000000 in
set_option maxRecDepth 100000 in
theorem cn_X1_isNew (l : Launch) (D : va_G) (cB cI cZ : ClassId) (N : Nat) (a0 : Nat → Nat) (I0 : Nat → Int32) (M0 : Nat → Nat → Int32) (a1 : Nat → Nat) (I1 : Nat → Int32) (M1 : Nat → Nat → Int32) (x2 : Int32) (sz : Nat) (R : Int32 × (Nat → Int32) × (Nat → Nat → Int32)) (hf : fX1_isNew N I0 M0 I1 M1 x2 = some R) : Met l yX1_isNew wsX1_isNew ({ frames := 2, cells := 0, slots := 0, locals := 40 }) (va_Pc [.ref (a0 0), .ref (a1 0), .int x2] (wb_preD D [(cB, .byte), (cI, .int), (cZ, .boolean)] ((wWX1 cB cI cZ a0 I0 M0) ++ (wWX9 cB cI cZ a1 I1 M1)) sz)) (va_Qi (fun r (_ : Unit) => r = R.1) (fun _ t => wb_post D [(cB, .byte), (cI, .int), (cZ, .boolean)] (va_A ((wWX1 cB cI cZ a0 I0 M0) ++ (wWX9 cB cI cZ a1 I1 M1)) sz) ((wWX1 cB cI cZ a0 I0 M0) ++ (wWX9 cB cI cZ a1 R.2.1 R.2.2)) t) (va_A ((wWX1 cB cI cZ a0 I0 M0) ++ (wWX9 cB cI cZ a1 I1 M1)) sz)) 0 0 (va_A ((wWX1 cB cI cZ a0 I0 M0) ++ (wWX9 cB cI cZ a1 I1 M1)) sz) := by
  refine Met.ofW (cc := cX1_isNew) (maxL := 3) (ret := (some .boolean)) pn_X1 rfl ?_
  intro p e s m args below meth c s₁ B hml hv
  obtain ⟨rfl, hsz, hP, hK, hD0⟩ := hv
  have hx := B.exec
  have hb := B.bytes
  have hr := B.returns
  have hts := atoms_spec (ws := wsX1_isNew) B.pre
  have hown : s.vm.findClass RX1 = some m.cls := (findClass_of_methodNamed B.named :)
  have hlocks := B.notSynchronized
  have hinX1 : ∀ w ∈ u_ws RX1 TX1 2, w ∈ wsX1_isNew := fun w h => List.mem_cons_of_mem _ (List.mem_append_left _ (List.mem_append_right _ h))
  subst hsz
  have hD := hD0.self (sz := s.heap.size)
  generalize hAe : va_A ((wWX1 cB cI cZ a0 I0 M0) ++ (wWX9 cB cI cZ a1 I1 M1)) s.heap.size = A at hD ⊢
  have hA : ∀ q : Nat, s.heap.size ≤ q → A q := fun q h => by rw [← hAe]; exact Or.inr h
  have hS : va_S A s.heap s.heap [] := va_S.rf
  have hl := lv_entry ([.ref (a0 0), .ref (a1 0), .int x2]) (n := 3) (Nat.le_of_ble_eq_true rfl)
  rw [lg_entry_eq]
  generalize (lg_sl ([.ref (a0 0), .ref (a1 0), .int x2]) ++ List.replicate (3 - (lg_sl ([.ref (a0 0), .ref (a1 0), .int x2])).length) Slot.unset).toArray = ls at hl ⊢
  have hl : lv_has ls 3 [(0, .ref (a0 0)), (1, .ref (a1 0)), (2, .int x2)] := hl
  unfold fX1_isNew at hf
  obtain ⟨H, hHe⟩ : ∃ H : Heap, H = s.heap := ⟨_, rfl⟩
  obtain ⟨locs, hle⟩ : ∃ locs : List Loc, locs = [] := ⟨_, rfl⟩
  refine wb_start (H := H) (locs := locs) hHe hle ?_
  rw [← hHe] at hP
  have hS : va_S A s.heap H locs := by rw [hHe, hle]; exact va_S.rf
  refine lv_aload_n hx hb dX1_isNew_0 rfl (lv_at hl 0 rfl) ?_
  refine va_get (D := D) (ci := 1) (v := .ref (a0 2)) (C := RX1) (T := TX1) (N := 2) hx hb hts hinX1 hown hK hP 0 rfl rfl 1 (by decide) (hts (.fieldLink RX1 15 "WheelBook$Books" "draft" "[I") (List.mem_of_getElem? (i := 1) rfl)) (fun _ h9 => h9) rfl dX1_isNew_1 ?_
  refine lv_iload_n hx hb dX1_isNew_4 rfl (lv_at hl 2 rfl) ?_
  obtain ⟨hin, hf⟩ := wb_n hf
  refine va_iald hx hb hK hP 2 1 rfl rfl hin dX1_isNew_5 ?_
  refine lv_iconst (v := (-1 : Int32)) hx hb dX1_isNew_6 (by decide) ?_
  refine lv_icmp_eq (tgt := 16) hx hb dX1_isNew_7 (by decide) (fun hc => ?_) (fun hc => ?_)
  · replace hf := wb_t hc hf
    refine lv_aload_n hx hb dX1_isNew_16 rfl (lv_at hl 1 rfl) ?_
    obtain ⟨r1, hr1, hf⟩ := wb_b hf
    have hPc := hP.sub (ws' := (wWX9 cB cI cZ a1 I1 M1)) [3, 4] rfl
    have hDc := hD.sub (ws' := (wWX9 cB cI cZ a1 I1 M1)) [3, 4] (by decide) rfl
    have hFc := va_free (wc := (wWX9 cB cI cZ a1 I1 M1)) hD hS hA [3, 4] rfl
    refine va_callv (va_runV (As := []) (rest := []) ⟨hx, hb, hml, hown, hts⟩ (cn_X9_step l D cB cI cZ N a1 I1 M1 H.size r1 hr1) (cwV 0 hts gX1_isNew_X9_step rfl rfl rfl cdX9_step ⟨Nat.le_of_ble_eq_true rfl, Nat.le_of_ble_eq_true rfl⟩) (wb_preDV hPc hK hDc (wr_9 hK hP (q0 := 3) rfl)) rfl rfl hl.1 rfl (lv_room (Nat.le_of_ble_eq_true rfl)) dX1_isNew_17 ⟨Nat.le_of_ble_eq_true rfl, Nat.le_of_ble_eq_true rfl⟩) hS (fun q _ h => hFc q h) hFc (fun u t H locs ht hvm hw hB hz1 hk1 hS => ?_)
    obtain ⟨hP, hD⟩ := wj_s (wc := (wWX9 cB cI cZ a1 I1 M1)) (w1 := (wWX9 cB cI cZ a1 r1.1 r1.2)) (wf := ((wWX1 cB cI cZ a0 I0 M0) ++ (wWX9 cB cI cZ a1 r1.1 r1.2))) 3 5 hP hD rfl rfl hk1 hFc ht hB
    refine lv_iconst (v := (1 : Int32)) hx hb dX1_isNew_20 (by decide) ?_
    exact W.zret (v := (1 : Int32)) hx hb hr (by decide) (fun t ht hW => by rw [← Option.some.inj hf]; exact ⟨⟨(1 : Int32), (), rfl, rfl, by rw [ht]; exact hP, va_K.moved hW.alike hK, hD⟩, hS.F ht⟩) hS.2.2 dX1_isNew_21
  · replace hf := wb_f hc hf
    refine lv_aload_n hx hb dX1_isNew_10 rfl (lv_at hl 1 rfl) ?_
    refine lv_iconst (v := (3 : Int32)) hx hb dX1_isNew_11 (by decide) ?_
    obtain ⟨r2, hr2, hf⟩ := wb_b hf
    have hPc := hP.sub (ws' := (wWX9 cB cI cZ a1 I1 M1)) [3, 4] rfl
    have hDc := hD.sub (ws' := (wWX9 cB cI cZ a1 I1 M1)) [3, 4] (by decide) rfl
    have hFc := va_free (wc := (wWX9 cB cI cZ a1 I1 M1)) hD hS hA [3, 4] rfl
    refine va_calli (va_runV (As := [.int (3 : Int32)]) (rest := []) ⟨hx, hb, hml, hown, hts⟩ (cn_X9_refuse l D cB cI cZ N a1 I1 M1 (3 : Int32) H.size r2 hr2) (cwV 1 hts gX1_isNew_X9_refuse rfl rfl rfl cdX9_refuse ⟨Nat.le_of_ble_eq_true rfl, Nat.le_of_ble_eq_true rfl⟩) (wb_preDV hPc hK hDc (wr_9 hK hP (q0 := 3) rfl)) rfl rfl hl.1 rfl (lv_room (Nat.le_of_ble_eq_true rfl)) dX1_isNew_12 ⟨Nat.le_of_ble_eq_true rfl, Nat.le_of_ble_eq_true rfl⟩) hS (fun q _ h => hFc q h) hFc (fun r9 u t H locs ht hvm hw hB hz1 hk1 hS => ?_)
    obtain ⟨hP, hD⟩ := wj_s (wc := (wWX9 cB cI cZ a1 I1 M1)) (w1 := (wWX9 cB cI cZ a1 r2.2.1 r2.2.2)) (wf := ((wWX1 cB cI cZ a0 I0 M0) ++ (wWX9 cB cI cZ a1 r2.2.1 r2.2.2))) 3 5 hP hD rfl rfl hk1 hFc ht hB
    rw [hw]
    obtain ⟨hz, hf⟩ := wb_y hf
    exact W.zret (v := r2.1) hx hb hr (congrArg Value.int hz) (fun t ht hW => by rw [← Option.some.inj hf]; exact ⟨⟨r2.1, (), rfl, rfl, by rw [ht]; exact hP, va_K.moved hW.alike hK, hD⟩, hS.F ht⟩) hS.2.2 dX1_isNew_15
