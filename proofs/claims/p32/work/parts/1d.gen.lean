set_option maxHeartbeats 4000000 in
set_option maxRecDepth 100000 in
theorem cn_X3_howManyAlone (l : Launch) (D : va_G) (cB cI cZ : ClassId) (N : Nat) (a0 : Nat → Nat) (I0 : Nat → Int32) (M0 : Nat → Nat → Int32) (x1 : Int32) (R : Int32) (hf : fX3_howManyAlone N I0 M0 x1 = some R) : Met l yX3_howManyAlone wsX3_howManyAlone ({ frames := 0, cells := 0, slots := 0, locals := 0 }) (va_Pc [.ref (a0 0), .int x1] (wb_pre D [(cB, .byte), (cI, .int), (cZ, .boolean)] (wWX3 cB cI cZ a0 I0 M0))) (vp_Si (fun r => r = R)) 0 0 (fun _ => False) := by
  refine Met.ofW (cc := cX3_howManyAlone) (maxL := 4) (ret := (some .int)) pn_X3 rfl ?_
  intro p e s m args below meth c s₁ B hml hv
  obtain ⟨rfl, hP, hK⟩ := hv
  have hx := B.exec
  have hb := B.bytes
  have hr := B.returns
  have hts := atoms_spec (ws := wsX3_howManyAlone) B.pre
  have hown : s.vm.findClass RX3 = some m.cls := (findClass_of_methodNamed B.named :)
  have hlocks := B.notSynchronized
  have hinX3 : ∀ w ∈ u_ws RX3 TX3 1, w ∈ wsX3_howManyAlone := fun w h => List.mem_cons_of_mem _ (List.mem_append_right _ h)
  have hl := lv_entry ([.ref (a0 0), .int x1]) (n := 4) (Nat.le_of_ble_eq_true rfl)
  rw [lg_entry_eq]
  generalize (lg_sl ([.ref (a0 0), .int x1]) ++ List.replicate (4 - (lg_sl ([.ref (a0 0), .int x1])).length) Slot.unset).toArray = ls at hl ⊢
  have hl : lv_has ls 4 [(0, .ref (a0 0)), (1, .int x1)] := hl
  unfold fX3_howManyAlone at hf
  refine lv_iconst (v := (0 : Int32)) hx hb dX3_howManyAlone_0 (by decide) ?_
  refine lv_istore_n (lv' := [(2, .int (0 : Int32)), (0, .ref (a0 0)), (1, .int x1)]) hx hb dX3_howManyAlone_1 rfl hl (by decide) rfl (fun ls hl => ?_)
  refine lv_iconst (v := (0 : Int32)) hx hb dX3_howManyAlone_2 (by decide) ?_
  refine lv_istore_n (lv' := [(3, .int (0 : Int32)), (2, .int (0 : Int32)), (0, .ref (a0 0)), (1, .int x1)]) hx hb dX3_howManyAlone_3 rfl hl (by decide) rfl (fun ls hl => ?_)
  have L4 : ∀ (fu4 : Nat) (y4_2 : Int32) (y4_3 : Int32), ∀ (ls : Array Slot), lv_has ls 4 [(0, .ref (a0 0)), (1, .int x1), (2, .int y4_2), (3, .int y4_3)] → fX3_howManyAlone_L4 N I0 M0 x1 fu4 y4_2 y4_3 = some R → W p l e (headSpec wsX3_howManyAlone { frames := 0, cells := 0, slots := 0, locals := 0 }).room s m [.ref (a0 0), .int x1].toArray below meth c s.heap [] 0 0 (MQ below (vp_Si (fun r => r = R)) [.ref (a0 0), .int x1].toArray s 0 0 (fun _ => False)) (F0 m 4 ls []) := by
    intro fu4
    induction fu4 with
    | zero =>
      intro y4_2 y4_3 ls hl hf
      exact absurd hf (by rw [fX3_howManyAlone_L4.eq_1]; exact fun h => nomatch h)
    | succ fu4 ih4 =>
      intro y4_2 y4_3 ls hl hf
      rw [fX3_howManyAlone_L4.eq_2] at hf
      refine lv_iload_n hx hb dX3_howManyAlone_4 rfl (lv_at hl 3 rfl) ?_
      refine lv_bipush (v := (7 : Int32)) hx hb dX3_howManyAlone_5 (by decide) ?_
      refine lv_icmp_ge (tgt := 31) hx hb dX3_howManyAlone_7 (by decide) (fun hc => ?_) (fun hc => ?_)
      · replace hf := wb_t hc hf
        refine lv_iload_n hx hb dX3_howManyAlone_31 rfl (lv_at hl 2 rfl) ?_
        exact W.iret (v := y4_2) hx hb hr (fun t ht hW => ⟨_, rfl, Option.some.inj hf, ht⟩) (fun _ h => nomatch h) dX3_howManyAlone_32
      · replace hf := wb_f hc hf
        refine lv_aload_n hx hb dX3_howManyAlone_10 rfl (lv_at hl 0 rfl) ?_
        refine va_get (D := D) (ci := 3) (v := .ref (a0 1)) (C := RX3) (T := TX3) (N := 1) hx hb hts hinX3 hown hK hP 0 rfl rfl 0 (by decide) (hts (.fieldLink RX3 9 "WheelBook$Fit" "sharers" "[I") (List.mem_of_getElem? (i := 1) rfl)) (fun _ h9 => h9) rfl dX3_howManyAlone_11 ?_
        refine lv_iload_n hx hb dX3_howManyAlone_14 rfl (lv_at hl 3 rfl) ?_
        obtain ⟨hin, hf⟩ := wb_n hf
        refine va_iald hx hb hK hP 1 1 rfl rfl hin dX3_howManyAlone_15 ?_
        refine lv_iconst (v := (1 : Int32)) hx hb dX3_howManyAlone_16 (by decide) ?_
        refine lv_iload_n hx hb dX3_howManyAlone_17 rfl (lv_at hl 1 rfl) ?_
        refine lv_ishl hx hb dX3_howManyAlone_18 ?_
        refine lv_icmp_ne (tgt := 25) hx hb dX3_howManyAlone_19 (by decide) (fun hc => ?_) (fun hc => ?_)
        · replace hf := wb_f hc hf
          obtain ⟨v1, ev1, hf⟩ := wb_v hf
          refine lv_iinc (v := v1) (lv' := [(3, .int v1), (0, .ref (a0 0)), (1, .int x1), (2, .int y4_2)]) hx hb dX3_howManyAlone_25 hl (k := 3) rfl (by rw [ev1]; rfl) (by decide) rfl (fun ls hl => ?_)
          refine lv_goto (tgt := 4) hx hb dX3_howManyAlone_28 (by decide) ?_
          exact ih4 y4_2 v1 ls (lv_sub hl [1, 2, 3, 0] rfl) hf
        · replace hf := wb_t hc hf
          obtain ⟨v2, ev2, hf⟩ := wb_v hf
          refine lv_iinc (v := v2) (lv' := [(2, .int v2), (0, .ref (a0 0)), (1, .int x1), (3, .int y4_3)]) hx hb dX3_howManyAlone_22 hl (k := 2) rfl (by rw [ev2]; rfl) (by decide) rfl (fun ls hl => ?_)
          obtain ⟨v3, ev3, hf⟩ := wb_v hf
          refine lv_iinc (v := v3) (lv' := [(3, .int v3), (2, .int v2), (0, .ref (a0 0)), (1, .int x1)]) hx hb dX3_howManyAlone_25 hl (k := 3) rfl (by rw [ev3]; rfl) (by decide) rfl (fun ls hl => ?_)
          refine lv_goto (tgt := 4) hx hb dX3_howManyAlone_28 (by decide) ?_
          exact ih4 v2 v3 ls (lv_sub hl [2, 3, 1, 0] rfl) hf
  exact L4 N (0 : Int32) (0 : Int32) ls (lv_sub hl [2, 3, 1, 0] rfl) hf

set_option maxHeartbeats 4000000 in
set_option maxRecDepth 100000 in
theorem cn_J6_bitCount_0f7a4 (l : Launch) (D : va_G) (cB cI cZ : ClassId) (N : Nat) (x0 : Int32) (R : Int32) (hf : fJ6_bitCount_0f7a4 N x0 = some R) : Met l yJ6_bitCount_0f7a4 wsJ6_bitCount_0f7a4 ({ frames := 0, cells := 0, slots := 0, locals := 0 }) (va_Pc [.int x0] (wb_pre D [(cB, .byte), (cI, .int), (cZ, .boolean)] ([] : va_W))) (vp_Si (fun r => r = R)) 0 0 (fun _ => False) := by
  refine va_MetF (cc := cJ6_bitCount_0f7a4) (maxL := 1) (ret := (some .int)) (by decide +kernel) rfl ?_
  intro p e s m args below meth c s₁ B hml hv
  obtain ⟨rfl, hP, hK⟩ := hv
  have hx := B.exec
  have hb := B.bytes
  have hr := B.returns
  have hts := atoms_spec (ws := wsJ6_bitCount_0f7a4) B.pre
  have hown : s.vm.findClass RJ6 = some m.cls := (findClass_of_methodNamed B.named :)
  have hlocks := B.notSynchronized
  have hl := lv_entry ([.int x0]) (n := 1) (Nat.le_of_ble_eq_true rfl)
  rw [lg_entry_eq]
  generalize (lg_sl ([.int x0]) ++ List.replicate (1 - (lg_sl ([.int x0])).length) Slot.unset).toArray = ls at hl ⊢
  have hl : lv_has ls 1 [(0, .int x0)] := hl
  unfold fJ6_bitCount_0f7a4 at hf
  refine lv_iload_n hx hb dJ6_bitCount_0f7a4_0 rfl (lv_at hl 0 rfl) ?_
  refine lv_iload_n hx hb dJ6_bitCount_0f7a4_1 rfl (lv_at hl 0 rfl) ?_
  refine lv_iconst (v := (1 : Int32)) hx hb dJ6_bitCount_0f7a4_2 (by decide) ?_
  refine lv_iushr hx hb dJ6_bitCount_0f7a4_3 rfl ?_
  refine lv_ldcw (v := (1431655765 : Int32)) hx hb hown (hts (.constant RJ6 265 (1431655765)) (List.mem_of_getElem? (i := 1) rfl)) dJ6_bitCount_0f7a4_4 ?_
  refine lv_iand hx hb dJ6_bitCount_0f7a4_7 ?_
  refine lv_isub hx hb dJ6_bitCount_0f7a4_8 ?_
  obtain ⟨v1, ev1, hf⟩ := wb_v hf
  refine wb_topi ev1 ?_
  refine lv_istore_n (lv' := [(0, .int v1)]) hx hb dJ6_bitCount_0f7a4_9 rfl hl (by decide) rfl (fun ls hl => ?_)
  refine lv_iload_n hx hb dJ6_bitCount_0f7a4_10 rfl (lv_at hl 0 rfl) ?_
  refine lv_ldcw (v := (858993459 : Int32)) hx hb hown (hts (.constant RJ6 266 (858993459)) (List.mem_of_getElem? (i := 2) rfl)) dJ6_bitCount_0f7a4_11 ?_
  refine lv_iand hx hb dJ6_bitCount_0f7a4_14 ?_
  refine lv_iload_n hx hb dJ6_bitCount_0f7a4_15 rfl (lv_at hl 0 rfl) ?_
  refine lv_iconst (v := (2 : Int32)) hx hb dJ6_bitCount_0f7a4_16 (by decide) ?_
  refine lv_iushr hx hb dJ6_bitCount_0f7a4_17 rfl ?_
  refine lv_ldcw (v := (858993459 : Int32)) hx hb hown (hts (.constant RJ6 266 (858993459)) (List.mem_of_getElem? (i := 2) rfl)) dJ6_bitCount_0f7a4_18 ?_
  refine lv_iand hx hb dJ6_bitCount_0f7a4_21 ?_
  refine lv_iadd hx hb dJ6_bitCount_0f7a4_22 ?_
  obtain ⟨v2, ev2, hf⟩ := wb_v hf
  refine wb_topi ev2 ?_
  refine lv_istore_n (lv' := [(0, .int v2)]) hx hb dJ6_bitCount_0f7a4_23 rfl hl (by decide) rfl (fun ls hl => ?_)
  refine lv_iload_n hx hb dJ6_bitCount_0f7a4_24 rfl (lv_at hl 0 rfl) ?_
  refine lv_iload_n hx hb dJ6_bitCount_0f7a4_25 rfl (lv_at hl 0 rfl) ?_
  refine lv_iconst (v := (4 : Int32)) hx hb dJ6_bitCount_0f7a4_26 (by decide) ?_
  refine lv_iushr hx hb dJ6_bitCount_0f7a4_27 rfl ?_
  refine lv_iadd hx hb dJ6_bitCount_0f7a4_28 ?_
  refine lv_ldcw (v := (252645135 : Int32)) hx hb hown (hts (.constant RJ6 267 (252645135)) (List.mem_of_getElem? (i := 3) rfl)) dJ6_bitCount_0f7a4_29 ?_
  refine lv_iand hx hb dJ6_bitCount_0f7a4_32 ?_
  obtain ⟨v3, ev3, hf⟩ := wb_v hf
  refine wb_topi ev3 ?_
  refine lv_istore_n (lv' := [(0, .int v3)]) hx hb dJ6_bitCount_0f7a4_33 rfl hl (by decide) rfl (fun ls hl => ?_)
  refine lv_iload_n hx hb dJ6_bitCount_0f7a4_34 rfl (lv_at hl 0 rfl) ?_
  refine lv_iload_n hx hb dJ6_bitCount_0f7a4_35 rfl (lv_at hl 0 rfl) ?_
  refine lv_bipush (v := (8 : Int32)) hx hb dJ6_bitCount_0f7a4_36 (by decide) ?_
  refine lv_iushr hx hb dJ6_bitCount_0f7a4_38 rfl ?_
  refine lv_iadd hx hb dJ6_bitCount_0f7a4_39 ?_
  obtain ⟨v4, ev4, hf⟩ := wb_v hf
  refine wb_topi ev4 ?_
  refine lv_istore_n (lv' := [(0, .int v4)]) hx hb dJ6_bitCount_0f7a4_40 rfl hl (by decide) rfl (fun ls hl => ?_)
  refine lv_iload_n hx hb dJ6_bitCount_0f7a4_41 rfl (lv_at hl 0 rfl) ?_
  refine lv_iload_n hx hb dJ6_bitCount_0f7a4_42 rfl (lv_at hl 0 rfl) ?_
  refine lv_bipush (v := (16 : Int32)) hx hb dJ6_bitCount_0f7a4_43 (by decide) ?_
  refine lv_iushr hx hb dJ6_bitCount_0f7a4_45 rfl ?_
  refine lv_iadd hx hb dJ6_bitCount_0f7a4_46 ?_
  obtain ⟨v5, ev5, hf⟩ := wb_v hf
  refine wb_topi ev5 ?_
  refine lv_istore_n (lv' := [(0, .int v5)]) hx hb dJ6_bitCount_0f7a4_47 rfl hl (by decide) rfl (fun ls hl => ?_)
  refine lv_iload_n hx hb dJ6_bitCount_0f7a4_48 rfl (lv_at hl 0 rfl) ?_
  refine lv_bipush (v := (63 : Int32)) hx hb dJ6_bitCount_0f7a4_49 (by decide) ?_
  refine lv_iand hx hb dJ6_bitCount_0f7a4_51 ?_
  exact W.iret (v := (v5 &&& (63 : Int32))) hx hb hr (fun t ht hW => ⟨_, rfl, Option.some.inj hf, ht⟩) (fun _ h => nomatch h) dJ6_bitCount_0f7a4_52

set_option maxHeartbeats 4000000 in
set_option maxRecDepth 100000 in
theorem cn_X3_weightOf (l : Launch) (D : va_G) (cB cI cZ : ClassId) (N : Nat) (a0 : Nat → Nat) (I0 : Nat → Int32) (M0 : Nat → Nat → Int32) (x1 : Int32) (R : Int32) (hf : fX3_weightOf N I0 M0 x1 = some R) : Met l yX3_weightOf wsX3_weightOf ({ frames := 1, cells := 0, slots := 0, locals := 22 }) (va_Pc [.ref (a0 0), .int x1] (wb_pre D [(cB, .byte), (cI, .int), (cZ, .boolean)] (wWX3 cB cI cZ a0 I0 M0))) (vp_Si (fun r => r = R)) 0 0 (fun _ => False) := by
  refine Met.ofW (cc := cX3_weightOf) (maxL := 5) (ret := (some .int)) pn_X3 rfl ?_
  intro p e s m args below meth c s₁ B hml hv
  obtain ⟨rfl, hP, hK⟩ := hv
  have hx := B.exec
  have hb := B.bytes
  have hr := B.returns
  have hts := atoms_spec (ws := wsX3_weightOf) B.pre
  have hown : s.vm.findClass RX3 = some m.cls := (findClass_of_methodNamed B.named :)
  have hlocks := B.notSynchronized
  have hinX3 : ∀ w ∈ u_ws RX3 TX3 1, w ∈ wsX3_weightOf := fun w h => List.mem_cons_of_mem _ (List.mem_append_right _ h)
  have hl := lv_entry ([.ref (a0 0), .int x1]) (n := 5) (Nat.le_of_ble_eq_true rfl)
  rw [lg_entry_eq]
  generalize (lg_sl ([.ref (a0 0), .int x1]) ++ List.replicate (5 - (lg_sl ([.ref (a0 0), .int x1])).length) Slot.unset).toArray = ls at hl ⊢
  have hl : lv_has ls 5 [(0, .ref (a0 0)), (1, .int x1)] := hl
  unfold fX3_weightOf at hf
  refine lv_iconst (v := (0 : Int32)) hx hb dX3_weightOf_0 (by decide) ?_
  refine lv_istore_n (lv' := [(2, .int (0 : Int32)), (0, .ref (a0 0)), (1, .int x1)]) hx hb dX3_weightOf_1 rfl hl (by decide) rfl (fun ls hl => ?_)
  refine lv_iconst (v := (0 : Int32)) hx hb dX3_weightOf_2 (by decide) ?_
  refine lv_istore_n (lv' := [(3, .int (0 : Int32)), (2, .int (0 : Int32)), (0, .ref (a0 0)), (1, .int x1)]) hx hb dX3_weightOf_3 rfl hl (by decide) rfl (fun ls hl => ?_)
  have L4 : ∀ (fu4 : Nat) (y4_2 : Int32) (y4_3 : Int32), ∀ (ls : Array Slot), lv_has ls 5 [(0, .ref (a0 0)), (1, .int x1), (2, .int y4_2), (3, .int y4_3)] → fX3_weightOf_L4 N I0 M0 x1 fu4 y4_2 y4_3 = some R → W p l e (headSpec wsX3_weightOf { frames := 1, cells := 0, slots := 0, locals := 22 }).room s m [.ref (a0 0), .int x1].toArray below meth c s.heap [] 0 0 (MQ below (vp_Si (fun r => r = R)) [.ref (a0 0), .int x1].toArray s 0 0 (fun _ => False)) (F0 m 4 ls []) := by
    intro fu4
    induction fu4 with
    | zero =>
      intro y4_2 y4_3 ls hl hf
      exact absurd hf (by rw [fX3_weightOf_L4.eq_1]; exact fun h => nomatch h)
    | succ fu4 ih4 =>
      intro y4_2 y4_3 ls hl hf
      rw [fX3_weightOf_L4.eq_2] at hf
      refine lv_iload_n hx hb dX3_weightOf_4 rfl (lv_at hl 3 rfl) ?_
      refine lv_bipush (v := (7 : Int32)) hx hb dX3_weightOf_5 (by decide) ?_
      refine lv_icmp_ge (tgt := 49) hx hb dX3_weightOf_7 (by decide) (fun hc => ?_) (fun hc => ?_)
      · replace hf := wb_t hc hf
        refine lv_iload_n hx hb dX3_weightOf_49 rfl (lv_at hl 2 rfl) ?_
        exact W.iret (v := y4_2) hx hb hr (fun t ht hW => ⟨_, rfl, Option.some.inj hf, ht⟩) (fun _ h => nomatch h) dX3_weightOf_50
      · replace hf := wb_f hc hf
        refine lv_aload_n hx hb dX3_weightOf_10 rfl (lv_at hl 0 rfl) ?_
        refine va_get (D := D) (ci := 3) (v := .ref (a0 1)) (C := RX3) (T := TX3) (N := 1) hx hb hts hinX3 hown hK hP 0 rfl rfl 0 (by decide) (hts (.fieldLink RX3 9 "WheelBook$Fit" "sharers" "[I") (List.mem_of_getElem? (i := 1) rfl)) (fun _ h9 => h9) rfl dX3_weightOf_11 ?_
        refine lv_iload_n hx hb dX3_weightOf_14 rfl (lv_at hl 3 rfl) ?_
        obtain ⟨hin, hf⟩ := wb_n hf
        refine va_iald hx hb hK hP 1 1 rfl rfl hin dX3_weightOf_15 ?_
        obtain ⟨r1, hr1, hf⟩ := wb_b hf
        refine vp_callSi (W.runS (As := [.int (M0 0 (y4_3).toNatClampNeg)]) (rest := []) ⟨hx, hb, hml, hown, hts⟩ (cn_J6_bitCount_0f7a4 l D cB cI cZ N (M0 0 (y4_3).toNatClampNeg) r1 hr1) (va_cwS 1 hts gX3_weightOf_J6_bitCount_0f7a4 rfl rfl rfl csJ6_bitCount_0f7a4 ⟨Nat.le_of_ble_eq_true rfl, Nat.le_of_ble_eq_true rfl⟩) (wb_preS (hP.sub (ws' := ([] : va_W)) [] rfl) hK) rfl rfl hl.1 rfl (lv_room (Nat.le_of_ble_eq_true rfl)) dX3_weightOf_16 ⟨Nat.le_of_ble_eq_true rfl, Nat.le_of_ble_eq_true rfl⟩) (fun r9 e9 => ?_)
        rw [e9]
        refine lv_istore (lv' := [(4, .int r1), (0, .ref (a0 0)), (1, .int x1), (2, .int y4_2), (3, .int y4_3)]) hx hb dX3_weightOf_19 hl (by decide) rfl (fun ls hl => ?_)
        refine lv_aload_n hx hb dX3_weightOf_21 rfl (lv_at hl 1 rfl) ?_
        refine lv_iload_n hx hb dX3_weightOf_22 rfl (lv_at hl 4 rfl) ?_
        refine lv_iload_n hx hb dX3_weightOf_23 rfl (lv_at hl 2 rfl) ?_
        obtain ⟨r2, hr2, hf⟩ := wb_b hf
        refine vp_callSi (W.runV (As := [.int y4_3, .int x1]) (rest := []) ⟨hx, hb, hml, hown, hts⟩ (cn_X3_isShared l D cB cI cZ N a0 I0 M0 y4_3 x1 r2 hr2) (cwV 2 hts gX3_weightOf_X3_isShared rfl rfl rfl cdX3_isShared ⟨Nat.le_of_ble_eq_true rfl, Nat.le_of_ble_eq_true rfl⟩) (wb_preV hP hK (wr_3 hK hP (q0 := 0) rfl)) rfl rfl hl.1 rfl (lv_room (Nat.le_of_ble_eq_true rfl)) dX3_weightOf_24 ⟨Nat.le_of_ble_eq_true rfl, Nat.le_of_ble_eq_true rfl⟩) (fun r9 e9 => ?_)
        rw [e9]
        refine lv_if_eq (tgt := 43) hx hb dX3_weightOf_27 (by decide) (fun hc => ?_) (fun hc => ?_)
        · replace hf := wb_t hc hf
          obtain ⟨v3, ev3, hf⟩ := wb_v hf
          refine lv_iinc (v := v3) (lv' := [(3, .int v3), (4, .int r1), (0, .ref (a0 0)), (1, .int x1), (2, .int y4_2)]) hx hb dX3_weightOf_43 hl (k := 4) rfl (by rw [ev3]; rfl) (by decide) rfl (fun ls hl => ?_)
          refine lv_goto (tgt := 4) hx hb dX3_weightOf_46 (by decide) ?_
          exact ih4 y4_2 v3 ls (lv_sub hl [2, 3, 4, 0] rfl) hf
        · replace hf := wb_f hc hf
          refine lv_iload hx hb dX3_weightOf_30 (lv_at hl 0 rfl) ?_
          refine lv_if_le (tgt := 43) hx hb dX3_weightOf_32 (by decide) (fun hc => ?_) (fun hc => ?_)
          · replace hf := wb_t hc hf
            obtain ⟨v4, ev4, hf⟩ := wb_v hf
            refine lv_iinc (v := v4) (lv' := [(3, .int v4), (4, .int r1), (0, .ref (a0 0)), (1, .int x1), (2, .int y4_2)]) hx hb dX3_weightOf_43 hl (k := 4) rfl (by rw [ev4]; rfl) (by decide) rfl (fun ls hl => ?_)
            refine lv_goto (tgt := 4) hx hb dX3_weightOf_46 (by decide) ?_
            exact ih4 y4_2 v4 ls (lv_sub hl [2, 3, 4, 0] rfl) hf
          · replace hf := wb_f hc hf
            refine lv_iload_n hx hb dX3_weightOf_35 rfl (lv_at hl 3 rfl) ?_
            refine lv_bipush (v := (6 : Int32)) hx hb dX3_weightOf_36 (by decide) ?_
            refine lv_iload hx hb dX3_weightOf_38 (lv_at hl 0 rfl) ?_
            obtain ⟨hz, hf⟩ := wb_n hf
            refine lv_idiv hx hb dX3_weightOf_40 hz ?_
            refine lv_iadd hx hb dX3_weightOf_41 ?_
            obtain ⟨v5, ev5, hf⟩ := wb_v hf
            refine wb_topi ev5 ?_
            refine lv_istore_n (lv' := [(2, .int v5), (4, .int r1), (0, .ref (a0 0)), (1, .int x1), (3, .int y4_3)]) hx hb dX3_weightOf_42 rfl hl (by decide) rfl (fun ls hl => ?_)
            obtain ⟨v6, ev6, hf⟩ := wb_v hf
            refine lv_iinc (v := v6) (lv' := [(3, .int v6), (2, .int v5), (4, .int r1), (0, .ref (a0 0)), (1, .int x1)]) hx hb dX3_weightOf_43 hl (k := 4) rfl (by rw [ev6]; rfl) (by decide) rfl (fun ls hl => ?_)
            refine lv_goto (tgt := 4) hx hb dX3_weightOf_46 (by decide) ?_
            exact ih4 v5 v6 ls (lv_sub hl [3, 4, 1, 0] rfl) hf
  exact L4 N (0 : Int32) (0 : Int32) ls (lv_sub hl [2, 3, 1, 0] rfl) hf

set_option maxHeartbeats 4000000 in
set_option maxRecDepth 100000 in
theorem cn_X3_setFollowed (l : Launch) (D : va_G) (cB cI cZ : ClassId) (N : Nat) (a0 : Nat → Nat) (I0 : Nat → Int32) (M0 : Nat → Nat → Int32) (R : Int32) (hf : fX3_setFollowed N I0 M0 = some R) : Met l yX3_setFollowed wsX3_setFollowed ({ frames := 2, cells := 0, slots := 0, locals := 46 }) (va_Pc [.ref (a0 0)] (wb_pre D [(cB, .byte), (cI, .int), (cZ, .boolean)] (wWX3 cB cI cZ a0 I0 M0))) (vp_Si (fun r => r = R)) 0 0 (fun _ => False) := by
  refine Met.ofW (cc := cX3_setFollowed) (maxL := 5) (ret := (some .int)) pn_X3 rfl ?_
  intro p e s m args below meth c s₁ B hml hv
  obtain ⟨rfl, hP, hK⟩ := hv
  have hx := B.exec
  have hb := B.bytes
  have hr := B.returns
  have hts := atoms_spec (ws := wsX3_setFollowed) B.pre
  have hown : s.vm.findClass RX3 = some m.cls := (findClass_of_methodNamed B.named :)
  have hlocks := B.notSynchronized
  have hl := lv_entry ([.ref (a0 0)]) (n := 5) (Nat.le_of_ble_eq_true rfl)
  rw [lg_entry_eq]
  generalize (lg_sl ([.ref (a0 0)]) ++ List.replicate (5 - (lg_sl ([.ref (a0 0)])).length) Slot.unset).toArray = ls at hl ⊢
  have hl : lv_has ls 5 [(0, .ref (a0 0))] := hl
  unfold fX3_setFollowed at hf
  refine lv_iconst (v := (0 : Int32)) hx hb dX3_setFollowed_0 (by decide) ?_
  refine lv_istore_n (lv' := [(1, .int (0 : Int32)), (0, .ref (a0 0))]) hx hb dX3_setFollowed_1 rfl hl (by decide) rfl (fun ls hl => ?_)
  refine lv_iconst (v := (-1 : Int32)) hx hb dX3_setFollowed_2 (by decide) ?_
  refine lv_istore_n (lv' := [(2, .int (-1 : Int32)), (1, .int (0 : Int32)), (0, .ref (a0 0))]) hx hb dX3_setFollowed_3 rfl hl (by decide) rfl (fun ls hl => ?_)
  refine lv_iconst (v := (1 : Int32)) hx hb dX3_setFollowed_4 (by decide) ?_
  refine lv_istore_n (lv' := [(3, .int (1 : Int32)), (2, .int (-1 : Int32)), (1, .int (0 : Int32)), (0, .ref (a0 0))]) hx hb dX3_setFollowed_5 rfl hl (by decide) rfl (fun ls hl => ?_)
  have L6 : ∀ (fu6 : Nat) (y6_1 : Int32) (y6_2 : Int32) (y6_3 : Int32), ∀ (ls : Array Slot), lv_has ls 5 [(0, .ref (a0 0)), (1, .int y6_1), (2, .int y6_2), (3, .int y6_3)] → fX3_setFollowed_L6 N I0 M0 fu6 y6_1 y6_2 y6_3 = some R → W p l e (headSpec wsX3_setFollowed { frames := 2, cells := 0, slots := 0, locals := 46 }).room s m [.ref (a0 0)].toArray below meth c s.heap [] 0 0 (MQ below (vp_Si (fun r => r = R)) [.ref (a0 0)].toArray s 0 0 (fun _ => False)) (F0 m 6 ls []) := by
    intro fu6
    induction fu6 with
    | zero =>
      intro y6_1 y6_2 y6_3 ls hl hf
      exact absurd hf (by rw [fX3_setFollowed_L6.eq_1]; exact fun h => nomatch h)
    | succ fu6 ih6 =>
      intro y6_1 y6_2 y6_3 ls hl hf
      rw [fX3_setFollowed_L6.eq_2] at hf
      refine lv_iload_n hx hb dX3_setFollowed_6 rfl (lv_at hl 3 rfl) ?_
      refine lv_iconst (v := (4 : Int32)) hx hb dX3_setFollowed_7 (by decide) ?_
      refine lv_icmp_ge (tgt := 35) hx hb dX3_setFollowed_8 (by decide) (fun hc => ?_) (fun hc => ?_)
      · replace hf := wb_t hc hf
        refine lv_iload_n hx hb dX3_setFollowed_35 rfl (lv_at hl 2 rfl) ?_
        exact W.iret (v := y6_2) hx hb hr (fun t ht hW => ⟨_, rfl, Option.some.inj hf, ht⟩) (fun _ h => nomatch h) dX3_setFollowed_36
      · replace hf := wb_f hc hf
        refine lv_aload_n hx hb dX3_setFollowed_11 rfl (lv_at hl 0 rfl) ?_
        refine lv_iload_n hx hb dX3_setFollowed_12 rfl (lv_at hl 3 rfl) ?_
        obtain ⟨r1, hr1, hf⟩ := wb_b hf
        refine vp_callSi (W.runV (As := [.int y6_3]) (rest := []) ⟨hx, hb, hml, hown, hts⟩ (cn_X3_weightOf l D cB cI cZ N a0 I0 M0 y6_3 r1 hr1) (cwV 1 hts gX3_setFollowed_X3_weightOf rfl rfl rfl cdX3_weightOf ⟨Nat.le_of_ble_eq_true rfl, Nat.le_of_ble_eq_true rfl⟩) (wb_preV hP hK (wr_3 hK hP (q0 := 0) rfl)) rfl rfl hl.1 rfl (lv_room (Nat.le_of_ble_eq_true rfl)) dX3_setFollowed_13 ⟨Nat.le_of_ble_eq_true rfl, Nat.le_of_ble_eq_true rfl⟩) (fun r9 e9 => ?_)
        rw [e9]
        refine lv_istore (lv' := [(4, .int r1), (0, .ref (a0 0)), (1, .int y6_1), (2, .int y6_2), (3, .int y6_3)]) hx hb dX3_setFollowed_16 hl (by decide) rfl (fun ls hl => ?_)
        refine lv_iload hx hb dX3_setFollowed_18 (lv_at hl 0 rfl) ?_
        refine lv_iload_n hx hb dX3_setFollowed_20 rfl (lv_at hl 2 rfl) ?_
        refine lv_icmp_le (tgt := 29) hx hb dX3_setFollowed_21 (by decide) (fun hc => ?_) (fun hc => ?_)
        · replace hf := wb_t hc hf
          obtain ⟨v2, ev2, hf⟩ := wb_v hf
          refine lv_iinc (v := v2) (lv' := [(3, .int v2), (4, .int r1), (0, .ref (a0 0)), (1, .int y6_1), (2, .int y6_2)]) hx hb dX3_setFollowed_29 hl (k := 4) rfl (by rw [ev2]; rfl) (by decide) rfl (fun ls hl => ?_)
          refine lv_goto (tgt := 6) hx hb dX3_setFollowed_32 (by decide) ?_
          exact ih6 y6_1 y6_2 v2 ls (lv_sub hl [2, 3, 4, 0] rfl) hf
        · replace hf := wb_f hc hf
          refine lv_iload hx hb dX3_setFollowed_24 (lv_at hl 0 rfl) ?_
          refine lv_istore_n (lv' := [(1, .int r1), (4, .int r1), (0, .ref (a0 0)), (2, .int y6_2), (3, .int y6_3)]) hx hb dX3_setFollowed_26 rfl hl (by decide) rfl (fun ls hl => ?_)
          refine lv_iload_n hx hb dX3_setFollowed_27 rfl (lv_at hl 4 rfl) ?_
          refine lv_istore_n (lv' := [(2, .int y6_3), (1, .int r1), (4, .int r1), (0, .ref (a0 0)), (3, .int y6_3)]) hx hb dX3_setFollowed_28 rfl hl (by decide) rfl (fun ls hl => ?_)
          obtain ⟨v3, ev3, hf⟩ := wb_v hf
          refine lv_iinc (v := v3) (lv' := [(3, .int v3), (2, .int y6_3), (1, .int r1), (4, .int r1), (0, .ref (a0 0))]) hx hb dX3_setFollowed_29 hl (k := 4) rfl (by rw [ev3]; rfl) (by decide) rfl (fun ls hl => ?_)
          refine lv_goto (tgt := 6) hx hb dX3_setFollowed_32 (by decide) ?_
          exact ih6 r1 y6_3 v3 ls (lv_sub hl [4, 2, 1, 0] rfl) hf
  exact L6 N (0 : Int32) (-1 : Int32) (1 : Int32) ls (lv_sub hl [3, 2, 1, 0] rfl) hf

set_option maxHeartbeats 4000000 in
set_option maxRecDepth 100000 in
theorem cn_X4_copyFrom (l : Launch) (D : va_G) (cB cI cZ : ClassId) (N : Nat) (a0 : Nat → Nat) (I0 : Nat → Int32) (M0 : Nat → Nat → Int32) (a1 : Nat → Nat) (I1 : Nat → Int32) (M1 : Nat → Nat → Int32) (sz : Nat) (R : (Nat → Int32) × (Nat → Nat → Int32)) (hf : fX4_copyFrom N I0 M0 I1 M1 = some R) : Met l yX4_copyFrom wsX4_copyFrom ({ frames := 1, cells := 0, slots := 0, locals := 80 }) (va_Pc [.ref (a0 0), .ref (a1 0)] (wb_preD D [(cB, .byte), (cI, .int), (cZ, .boolean)] ((wWX4 cB cI cZ a0 I0 M0) ++ (wWX4 cB cI cZ a1 I1 M1)) sz)) (va_Qv (fun _ : Unit => True) (fun _ t => wb_post D [(cB, .byte), (cI, .int), (cZ, .boolean)] (va_A ((wWX4 cB cI cZ a0 I0 M0) ++ (wWX4 cB cI cZ a1 I1 M1)) sz) ((wWX4 cB cI cZ a0 R.1 R.2) ++ (wWX4 cB cI cZ a1 I1 M1)) t) (va_A ((wWX4 cB cI cZ a0 I0 M0) ++ (wWX4 cB cI cZ a1 I1 M1)) sz)) 0 0 (va_A ((wWX4 cB cI cZ a0 I0 M0) ++ (wWX4 cB cI cZ a1 I1 M1)) sz) := by
  refine Met.ofW (cc := cX4_copyFrom) (maxL := 2) (ret := none) pn_X4 rfl ?_
  intro p e s m args below meth c s₁ B hml hv
  obtain ⟨rfl, hsz, hP, hK, hD0⟩ := hv
  have hx := B.exec
  have hb := B.bytes
  have hr := B.returns
  have hts := atoms_spec (ws := wsX4_copyFrom) B.pre
  have hown : s.vm.findClass RX4 = some m.cls := (findClass_of_methodNamed B.named :)
  have hlocks := B.notSynchronized
  have hinX4 : ∀ w ∈ u_ws RX4 TX4 2, w ∈ wsX4_copyFrom := fun w h => List.mem_cons_of_mem _ (List.mem_append_right _ h)
  subst hsz
  have hD := hD0.self (sz := s.heap.size)
  generalize hAe : va_A ((wWX4 cB cI cZ a0 I0 M0) ++ (wWX4 cB cI cZ a1 I1 M1)) s.heap.size = A at hD ⊢
  have hA : ∀ q : Nat, s.heap.size ≤ q → A q := fun q h => by rw [← hAe]; exact Or.inr h
  have hS : va_S A s.heap s.heap [] := va_S.rf
  have hl := lv_entry ([.ref (a0 0), .ref (a1 0)]) (n := 2) (Nat.le_of_ble_eq_true rfl)
  rw [lg_entry_eq]
  generalize (lg_sl ([.ref (a0 0), .ref (a1 0)]) ++ List.replicate (2 - (lg_sl ([.ref (a0 0), .ref (a1 0)])).length) Slot.unset).toArray = ls at hl ⊢
  have hl : lv_has ls 2 [(0, .ref (a0 0)), (1, .ref (a1 0))] := hl
  unfold fX4_copyFrom at hf
  obtain ⟨H, hHe⟩ : ∃ H : Heap, H = s.heap := ⟨_, rfl⟩
  obtain ⟨locs, hle⟩ : ∃ locs : List Loc, locs = [] := ⟨_, rfl⟩
  refine wb_start (H := H) (locs := locs) hHe hle ?_
  rw [← hHe] at hP
  have hS : va_S A s.heap H locs := by rw [hHe, hle]; exact va_S.rf
  refine lv_aload_n hx hb dX4_copyFrom_0 rfl (lv_at hl 1 rfl) ?_
  refine va_get (D := D) (ci := 4) (v := .ref (a1 1)) (C := RX4) (T := TX4) (N := 2) hx hb hts hinX4 hown hK hP 2 rfl rfl 0 (by decide) (hts (.fieldLink RX4 9 "WheelBook$Hands" "stoodFor" "[I") (List.mem_of_getElem? (i := 1) rfl)) (fun _ h9 => h9) rfl dX4_copyFrom_1 ?_
  refine lv_iconst (v := (0 : Int32)) hx hb dX4_copyFrom_4 (by decide) ?_
  refine lv_aload_n hx hb dX4_copyFrom_5 rfl (lv_at hl 0 rfl) ?_
  refine va_get (D := D) (ci := 4) (v := .ref (a0 1)) (C := RX4) (T := TX4) (N := 2) hx hb hts hinX4 hown hK hP 0 rfl rfl 0 (by decide) (hts (.fieldLink RX4 9 "WheelBook$Hands" "stoodFor" "[I") (List.mem_of_getElem? (i := 1) rfl)) (fun _ h9 => h9) rfl dX4_copyFrom_6 ?_
  refine lv_iconst (v := (0 : Int32)) hx hb dX4_copyFrom_9 (by decide) ?_
  refine lv_bipush (v := (30 : Int32)) hx hb dX4_copyFrom_10 (by decide) ?_
  obtain ⟨hcp, hf⟩ := wb_n hf
  obtain ⟨hcp1, hcp2, hcp3, hcp4, hcp5⟩ := wb_cp hcp
  refine va_copyi hx hb (hml.trans hl.1.symm) hown (hts (.methodLink RX4 15 arraycopyName) (List.mem_of_getElem? (i := 2) rfl)) (hts (.native arraycopyName) (List.mem_of_getElem? (i := 3) rfl)) (hts (.static arraycopyName) (List.mem_of_getElem? (i := 4) rfl)) (hts (.initialized "java/lang/System") (List.mem_of_getElem? (i := 5) rfl)) hK hP hD hS 3 1 1 1 rfl rfl rfl rfl rfl hcp1 hcp2 hcp3 hcp4 hcp5 (fun _ _ => rfl) (Nat.le_of_ble_eq_true rfl) (by decide +kernel) dX4_copyFrom_12 (fun H locs hP hD hS => ?_)
  have hP : va_P D vwCl ((wWX4 cB cI cZ a0 I0 (wb_mm M0 0 (va_cpy (M1 0) (M0 0) ((0 : Int32)).toNatClampNeg ((0 : Int32)).toNatClampNeg ((30 : Int32)).toNatClampNeg))) ++ (wWX4 cB cI cZ a1 I1 M1)) H := hP
  have hD : va_D A ((wWX4 cB cI cZ a0 I0 (wb_mm M0 0 (va_cpy (M1 0) (M0 0) ((0 : Int32)).toNatClampNeg ((0 : Int32)).toNatClampNeg ((30 : Int32)).toNatClampNeg))) ++ (wWX4 cB cI cZ a1 I1 M1)) := hD
  obtain ⟨M0_1, eM0_1, hf⟩ := wb_v hf
  rw [← eM0_1] at hP hD
  refine lv_aload_n hx hb dX4_copyFrom_15 rfl (lv_at hl 0 rfl) ?_
  refine lv_aload_n hx hb dX4_copyFrom_16 rfl (lv_at hl 1 rfl) ?_
  refine va_get (D := D) (ci := 4) (v := .int (I1 0)) (C := RX4) (T := TX4) (N := 2) hx hb hts hinX4 hown hK hP 2 rfl rfl 1 (by decide) (hts (.fieldLink RX4 21 "WheelBook$Hands" "many" "I") (List.mem_of_getElem? (i := 6) rfl)) (fun _ h9 => h9) rfl dX4_copyFrom_17 ?_
  refine va_put (D := D) (ci := 4) (v := .int (I1 0)) (ty := .int) (C := RX4) (T := TX4) (N := 2) hx hb hts hinX4 tyX4 tyX4_ok nmX4 hown hK hP hD hS 0 rfl rfl 1 (by decide) (hts (.fieldLink RX4 21 "WheelBook$Hands" "many" "I") (List.mem_of_getElem? (i := 6) rfl)) (fun _ h9 => h9) rfl (by decide +kernel) rfl rfl (Nat.le_of_ble_eq_true rfl) dX4_copyFrom_20 (fun H locs hP hD hS => ?_)
  have hP : va_P D vwCl ((wWX4 cB cI cZ a0 (upd I0 0 (I1 0)) M0_1) ++ (wWX4 cB cI cZ a1 I1 M1)) H := hP
  have hD : va_D A ((wWX4 cB cI cZ a0 (upd I0 0 (I1 0)) M0_1) ++ (wWX4 cB cI cZ a1 I1 M1)) := hD
  obtain ⟨I0_2, eI0_2, hf⟩ := wb_v hf
  rw [← eI0_2] at hP hD
  exact W.vret hx hb hr (fun t ht hW => by rw [← Option.some.inj hf]; exact ⟨⟨(), rfl, trivial, by rw [ht]; exact hP, va_K.moved hW.alike hK, hD⟩, hS.F ht⟩) hS.2.2 dX4_copyFrom_23

set_option maxHeartbeats 4000000 in
set_option maxRecDepth 100000 in
theorem cn_X9_takeWord (l : Launch) (D : va_G) (cB cI cZ : ClassId) (N : Nat) (aK aV : Nat → Nat) (a0 : Nat → Nat) (I0 : Nat → Int32) (M0 : Nat → Nat → Int32) (w1 : Nat) (hw1 : w1 < 19) (sz : Nat) (R : Int32 × (Nat → Int32) × (Nat → Nat → Int32)) (hf : fX9_takeWord N I0 M0 w1 = some R) : Met l yX9_takeWord wsX9_takeWord ({ frames := 5, cells := 0, slots := 0, locals := 143 }) (va_Pc [.ref (a0 0), .ref (aK w1)] (wb_preDE D [(cB, .byte), (cI, .int), (cZ, .boolean)] (wWX9 cB cI cZ a0 I0 M0) sz aK aV)) (va_Qi (fun r (_ : Unit) => r = R.1) (fun _ t => wb_post D [(cB, .byte), (cI, .int), (cZ, .boolean)] (va_A (wWX9 cB cI cZ a0 I0 M0) sz) (wWX9 cB cI cZ a0 R.2.1 R.2.2) t) (va_A (wWX9 cB cI cZ a0 I0 M0) sz)) 0 0 (va_A (wWX9 cB cI cZ a0 I0 M0) sz) := by
  refine Met.ofW (cc := cX9_takeWord) (maxL := 2) (ret := (some .boolean)) pn_X9 rfl ?_
  intro p e s m args below meth c s₁ B hml hv
  obtain ⟨rfl, ⟨hsz, hP, hK, hD0⟩, hZ⟩ := hv
  have hx := B.exec
  have hb := B.bytes
  have hr := B.returns
  have hts := atoms_spec (ws := wsX9_takeWord) B.pre
  have hown : s.vm.findClass RX9 = some m.cls := (findClass_of_methodNamed B.named :)
  have hlocks := B.notSynchronized
  subst hsz
  have hD := hD0.self (sz := s.heap.size)
  generalize hAe : va_A (wWX9 cB cI cZ a0 I0 M0) s.heap.size = A at hD hZ ⊢
  have hA : ∀ q : Nat, s.heap.size ≤ q → A q := fun q h => by rw [← hAe]; exact Or.inr h
  have hS : va_S A s.heap s.heap [] := va_S.rf
  have hl := lv_entry ([.ref (a0 0), .ref (aK w1)]) (n := 2) (Nat.le_of_ble_eq_true rfl)
  rw [lg_entry_eq]
  generalize (lg_sl ([.ref (a0 0), .ref (aK w1)]) ++ List.replicate (2 - (lg_sl ([.ref (a0 0), .ref (aK w1)])).length) Slot.unset).toArray = ls at hl ⊢
  have hl : lv_has ls 2 [(0, .ref (a0 0)), (1, .ref (aK w1))] := hl
  unfold fX9_takeWord at hf
  obtain ⟨H, hHe⟩ : ∃ H : Heap, H = s.heap := ⟨_, rfl⟩
  obtain ⟨locs, hle⟩ : ∃ locs : List Loc, locs = [] := ⟨_, rfl⟩
  refine wb_start (H := H) (locs := locs) hHe hle ?_
  rw [← hHe] at hP
  have hS : va_S A s.heap H locs := by rw [hHe, hle]; exact va_S.rf
  refine lv_aload_n hx hb dX9_takeWord_0 rfl (lv_at hl 0 rfl) ?_
  refine lv_aload_n hx hb dX9_takeWord_1 rfl (lv_at hl 1 rfl) ?_
  obtain ⟨r1, hr1, hf⟩ := wb_b hf
  refine vp_callSi (W.runV (As := [.ref (aK w1)]) (rest := []) ⟨hx, hb, hml, hown, hts⟩ (cn_X9_isWord l D cB cI cZ N aK aV a0 I0 M0 w1 hw1 r1 hr1) (cwV 1 hts gX9_takeWord_X9_isWord rfl rfl rfl cdX9_isWord ⟨Nat.le_of_ble_eq_true rfl, Nat.le_of_ble_eq_true rfl⟩) (wb_preEV hP hK (wr_9 hK hP (q0 := 0) rfl) hZ hS) rfl rfl hl.1 rfl (lv_room (Nat.le_of_ble_eq_true rfl)) dX9_takeWord_2 ⟨Nat.le_of_ble_eq_true rfl, Nat.le_of_ble_eq_true rfl⟩) (fun r9 e9 => ?_)
  rw [e9]
  refine lv_if_ne (tgt := 14) hx hb dX9_takeWord_5 (by decide) (fun hc => ?_) (fun hc => ?_)
  · replace hf := wb_f hc hf
    refine lv_aload_n hx hb dX9_takeWord_14 rfl (lv_at hl 0 rfl) ?_
    obtain ⟨r2, hr2, hf⟩ := wb_b hf
    have hPc := hP
    have hDc := hD
    have hFc := wj_F hDc hS hA
    refine va_callv (va_runV (As := []) (rest := []) ⟨hx, hb, hml, hown, hts⟩ (cn_X9_step l D cB cI cZ N a0 I0 M0 H.size r2 hr2) (cwV 0 hts gX9_takeWord_X9_step rfl rfl rfl cdX9_step ⟨Nat.le_of_ble_eq_true rfl, Nat.le_of_ble_eq_true rfl⟩) (wb_preDV hPc hK hDc (wr_9 hK hP (q0 := 0) rfl)) rfl rfl hl.1 rfl (lv_room (Nat.le_of_ble_eq_true rfl)) dX9_takeWord_15 ⟨Nat.le_of_ble_eq_true rfl, Nat.le_of_ble_eq_true rfl⟩) hS (fun q _ h => hFc q h) hFc (fun u t H locs ht hvm hw hB hz1 hk1 hS => ?_)
    obtain ⟨hP, hD⟩ := wj_0 hFc ht hB
    refine lv_iconst (v := (1 : Int32)) hx hb dX9_takeWord_18 (by decide) ?_
    exact W.zret (v := (1 : Int32)) hx hb hr (by decide) (fun t ht hW => by rw [← Option.some.inj hf]; exact ⟨⟨(1 : Int32), (), rfl, rfl, by rw [ht]; exact hP, va_K.moved hW.alike hK, hD⟩, hS.F ht⟩) hS.2.2 dX9_takeWord_19
  · replace hf := wb_t hc hf
    refine lv_aload_n hx hb dX9_takeWord_8 rfl (lv_at hl 0 rfl) ?_
    refine lv_iconst (v := (1 : Int32)) hx hb dX9_takeWord_9 (by decide) ?_
    obtain ⟨r3, hr3, hf⟩ := wb_b hf
    have hPc := hP
    have hDc := hD
    have hFc := wj_F hDc hS hA
    refine va_calli (va_runV (As := [.int (1 : Int32)]) (rest := []) ⟨hx, hb, hml, hown, hts⟩ (cn_X9_refuse l D cB cI cZ N a0 I0 M0 (1 : Int32) H.size r3 hr3) (cwV 1 hts gX9_takeWord_X9_refuse rfl rfl rfl cdX9_refuse ⟨Nat.le_of_ble_eq_true rfl, Nat.le_of_ble_eq_true rfl⟩) (wb_preDV hPc hK hDc (wr_9 hK hP (q0 := 0) rfl)) rfl rfl hl.1 rfl (lv_room (Nat.le_of_ble_eq_true rfl)) dX9_takeWord_10 ⟨Nat.le_of_ble_eq_true rfl, Nat.le_of_ble_eq_true rfl⟩) hS (fun q _ h => hFc q h) hFc (fun r9 u t H locs ht hvm hw hB hz1 hk1 hS => ?_)
    obtain ⟨hP, hD⟩ := wj_0 hFc ht hB
    rw [hw]
    obtain ⟨hz, hf⟩ := wb_y hf
    exact W.zret (v := r3.1) hx hb hr (congrArg Value.int hz) (fun t ht hW => by rw [← Option.some.inj hf]; exact ⟨⟨r3.1, (), rfl, rfl, by rw [ht]; exact hP, va_K.moved hW.alike hK, hD⟩, hS.F ht⟩) hS.2.2 dX9_takeWord_13

set_option maxHeartbeats 4000000 in
set_option maxRecDepth 100000 in
theorem cn_X4_readHand (l : Launch) (D : va_G) (cB cI cZ : ClassId) (N : Nat) (aK aV : Nat → Nat) (a0 : Nat → Nat) (I0 : Nat → Int32) (M0 : Nat → Nat → Int32) (a1 : Nat → Nat) (I1 : Nat → Int32) (M1 : Nat → Nat → Int32) (sz : Nat) (R : Int32 × (Nat → Int32) × (Nat → Nat → Int32) × (Nat → Int32) × (Nat → Nat → Int32)) (hf : fX4_readHand N I0 M0 I1 M1 = some R) : Met l yX4_readHand wsX4_readHand ({ frames := 6, cells := 0, slots := 0, locals := 164 }) (va_Pc [.ref (a0 0), .ref (a1 0)] (wb_preDE D [(cB, .byte), (cI, .int), (cZ, .boolean)] ((wWX4 cB cI cZ a0 I0 M0) ++ (wWX9 cB cI cZ a1 I1 M1)) sz aK aV)) (va_Qi (fun r (_ : Unit) => r = R.1) (fun _ t => wb_post D [(cB, .byte), (cI, .int), (cZ, .boolean)] (va_A ((wWX4 cB cI cZ a0 I0 M0) ++ (wWX9 cB cI cZ a1 I1 M1)) sz) ((wWX4 cB cI cZ a0 R.2.1 R.2.2.1) ++ (wWX9 cB cI cZ a1 R.2.2.2.1 R.2.2.2.2)) t) (va_A ((wWX4 cB cI cZ a0 I0 M0) ++ (wWX9 cB cI cZ a1 I1 M1)) sz)) 0 0 (va_A ((wWX4 cB cI cZ a0 I0 M0) ++ (wWX9 cB cI cZ a1 I1 M1)) sz) := by
  refine Met.ofW (cc := cX4_readHand) (maxL := 3) (ret := (some .boolean)) pn_X4 rfl ?_
  intro p e s m args below meth c s₁ B hml hv
  obtain ⟨rfl, ⟨hsz, hP, hK, hD0⟩, hZ⟩ := hv
  have hx := B.exec
  have hb := B.bytes
  have hr := B.returns
  have hts := atoms_spec (ws := wsX4_readHand) B.pre
  have hown : s.vm.findClass RX4 = some m.cls := (findClass_of_methodNamed B.named :)
  have hlocks := B.notSynchronized
  have hinX4 : ∀ w ∈ u_ws RX4 TX4 2, w ∈ wsX4_readHand := fun w h => List.mem_cons_of_mem _ (List.mem_append_left _ (List.mem_append_right _ h))
  have hinX9 : ∀ w ∈ u_ws RX9 TX9 10, w ∈ wsX4_readHand := fun w h => List.mem_cons_of_mem _ (List.mem_append_right _ h)
  subst hsz
  have hD := hD0.self (sz := s.heap.size)
  generalize hAe : va_A ((wWX4 cB cI cZ a0 I0 M0) ++ (wWX9 cB cI cZ a1 I1 M1)) s.heap.size = A at hD hZ ⊢
  have hA : ∀ q : Nat, s.heap.size ≤ q → A q := fun q h => by rw [← hAe]; exact Or.inr h
  have hS : va_S A s.heap s.heap [] := va_S.rf
  have hl := lv_entry ([.ref (a0 0), .ref (a1 0)]) (n := 3) (Nat.le_of_ble_eq_true rfl)
  rw [lg_entry_eq]
  generalize (lg_sl ([.ref (a0 0), .ref (a1 0)]) ++ List.replicate (3 - (lg_sl ([.ref (a0 0), .ref (a1 0)])).length) Slot.unset).toArray = ls at hl ⊢
  have hl : lv_has ls 3 [(0, .ref (a0 0)), (1, .ref (a1 0))] := hl
  unfold fX4_readHand at hf
  obtain ⟨H, hHe⟩ : ∃ H : Heap, H = s.heap := ⟨_, rfl⟩
  obtain ⟨locs, hle⟩ : ∃ locs : List Loc, locs = [] := ⟨_, rfl⟩
  refine wb_start (H := H) (locs := locs) hHe hle ?_
  rw [← hHe] at hP
  have hS : va_S A s.heap H locs := by rw [hHe, hle]; exact va_S.rf
  refine lv_aload_n hx hb dX4_readHand_0 rfl (lv_at hl 0 rfl) ?_
  refine va_get (D := D) (ci := 4) (v := .int (I0 0)) (C := RX4) (T := TX4) (N := 2) hx hb hts hinX4 hown hK hP 0 rfl rfl 1 (by decide) (hts (.fieldLink RX4 21 "WheelBook$Hands" "many" "I") (List.mem_of_getElem? (i := 1) rfl)) (fun _ h9 => h9) rfl dX4_readHand_1 ?_
  refine lv_bipush (v := (30 : Int32)) hx hb dX4_readHand_4 (by decide) ?_
  refine lv_icmp_lt (tgt := 15) hx hb dX4_readHand_6 (by decide) (fun hc => ?_) (fun hc => ?_)
  · replace hf := wb_t hc hf
    refine lv_aload_n hx hb dX4_readHand_15 rfl (lv_at hl 1 rfl) ?_
    obtain ⟨r1, hr1, hf⟩ := wb_b hf
    have hPc := hP.sub (ws' := (wWX9 cB cI cZ a1 I1 M1)) [2, 3] rfl
    have hDc := hD.sub (ws' := (wWX9 cB cI cZ a1 I1 M1)) [2, 3] (by decide) rfl
    have hFc := va_free (wc := (wWX9 cB cI cZ a1 I1 M1)) hD hS hA [2, 3] rfl
    refine va_callv (va_runV (As := []) (rest := []) ⟨hx, hb, hml, hown, hts⟩ (cn_X9_step l D cB cI cZ N a1 I1 M1 H.size r1 hr1) (cwV 0 hts gX4_readHand_X9_step rfl rfl rfl cdX9_step ⟨Nat.le_of_ble_eq_true rfl, Nat.le_of_ble_eq_true rfl⟩) (wb_preDV hPc hK hDc (wr_9 hK hP (q0 := 2) rfl)) rfl rfl hl.1 rfl (lv_room (Nat.le_of_ble_eq_true rfl)) dX4_readHand_16 ⟨Nat.le_of_ble_eq_true rfl, Nat.le_of_ble_eq_true rfl⟩) hS (fun q _ h => hFc q h) hFc (fun u t H locs ht hvm hw hB hz1 hk1 hS => ?_)
    obtain ⟨hP, hD⟩ := wj_s (wc := (wWX9 cB cI cZ a1 I1 M1)) (w1 := (wWX9 cB cI cZ a1 r1.1 r1.2)) (wf := ((wWX4 cB cI cZ a0 I0 M0) ++ (wWX9 cB cI cZ a1 r1.1 r1.2))) 2 4 hP hD rfl rfl hk1 hFc ht hB
    refine lv_aload_n hx hb dX4_readHand_19 rfl (lv_at hl 1 rfl) ?_
    refine lv_iconst (v := (0 : Int32)) hx hb dX4_readHand_20 (by decide) ?_
    refine lv_bipush (v := (29 : Int32)) hx hb dX4_readHand_21 (by decide) ?_
    obtain ⟨r2, hr2, hf⟩ := wb_b hf
    have hPc := hP.sub (ws' := (wWX9 cB cI cZ a1 r1.1 r1.2)) [2, 3] rfl
    have hDc := hD.sub (ws' := (wWX9 cB cI cZ a1 r1.1 r1.2)) [2, 3] (by decide) rfl
    have hFc := va_free (wc := (wWX9 cB cI cZ a1 r1.1 r1.2)) hD hS hA [2, 3] rfl
    refine va_calli (va_runV (As := [.int (0 : Int32), .int (29 : Int32)]) (rest := []) ⟨hx, hb, hml, hown, hts⟩ (cn_X9_takeNumber l D cB cI cZ N a1 r1.1 r1.2 (0 : Int32) (29 : Int32) H.size r2 hr2) (cwV 2 hts gX4_readHand_X9_takeNumber rfl rfl rfl cdX9_takeNumber ⟨Nat.le_of_ble_eq_true rfl, Nat.le_of_ble_eq_true rfl⟩) (wb_preDV hPc hK hDc (wr_9 hK hP (q0 := 2) rfl)) rfl rfl hl.1 rfl (lv_room (Nat.le_of_ble_eq_true rfl)) dX4_readHand_23 ⟨Nat.le_of_ble_eq_true rfl, Nat.le_of_ble_eq_true rfl⟩) hS (fun q _ h => hFc q h) hFc (fun r9 u t H locs ht hvm hw hB hz1 hk1 hS => ?_)
    obtain ⟨hP, hD⟩ := wj_s (wc := (wWX9 cB cI cZ a1 r1.1 r1.2)) (w1 := (wWX9 cB cI cZ a1 r2.2.1 r2.2.2)) (wf := ((wWX4 cB cI cZ a0 I0 M0) ++ (wWX9 cB cI cZ a1 r2.2.1 r2.2.2))) 2 4 hP hD rfl rfl hk1 hFc ht hB
    rw [hw]
    refine lv_if_ne (tgt := 31) hx hb dX4_readHand_26 (by decide) (fun hc => ?_) (fun hc => ?_)
    · replace hf := wb_f hc hf
      refine lv_aload_n hx hb dX4_readHand_31 rfl (lv_at hl 1 rfl) ?_
      refine va_get (D := D) (ci := 9) (v := .int (r2.2.1 6)) (C := RX9) (T := TX9) (N := 10) hx hb hts hinX9 hown hK hP 2 rfl rfl 7 (by decide) (hts (.fieldLink RX4 38 "WheelBook$Text" "number" "I") (List.mem_of_getElem? (i := 2) rfl)) (fun _ h9 => h9) rfl dX4_readHand_32 ?_
      obtain ⟨v3, ev3, hf⟩ := wb_v hf
      refine wb_topi ev3 ?_
      refine lv_istore_n (lv' := [(2, .int v3), (0, .ref (a0 0)), (1, .ref (a1 0))]) hx hb dX4_readHand_35 rfl hl (by decide) rfl (fun ls hl => ?_)
      refine lv_aload_n hx hb dX4_readHand_36 rfl (lv_at hl 2 rfl) ?_
      refine va_ldcS hx hb hown (hZ.2.1 2 (RX4, 41, "for") rfl) dX4_readHand_37 ?_
      obtain ⟨r4, hr4, hf⟩ := wb_b hf
      have hPc := hP.sub (ws' := (wWX9 cB cI cZ a1 r2.2.1 r2.2.2)) [2, 3] rfl
      have hDc := hD.sub (ws' := (wWX9 cB cI cZ a1 r2.2.1 r2.2.2)) [2, 3] (by decide) rfl
      have hFc := va_free (wc := (wWX9 cB cI cZ a1 r2.2.1 r2.2.2)) hD hS hA [2, 3] rfl
      refine va_calli (va_runV (As := [.ref (aK 2)]) (rest := []) ⟨hx, hb, hml, hown, hts⟩ (cn_X9_takeWord l D cB cI cZ N aK aV a1 r2.2.1 r2.2.2 2 (by decide) H.size r4 hr4) (cwV 1 hts gX4_readHand_X9_takeWord rfl rfl rfl cdX9_takeWord ⟨Nat.le_of_ble_eq_true rfl, Nat.le_of_ble_eq_true rfl⟩) (wb_preDEV hPc hK hDc (wr_9 hK hP (q0 := 2) rfl) hZ hS hFc) rfl rfl hl.1 rfl (lv_room (Nat.le_of_ble_eq_true rfl)) dX4_readHand_39 ⟨Nat.le_of_ble_eq_true rfl, Nat.le_of_ble_eq_true rfl⟩) hS (fun q _ h => hFc q h) hFc (fun r9 u t H locs ht hvm hw hB hz1 hk1 hS => ?_)
      obtain ⟨hP, hD⟩ := wj_s (wc := (wWX9 cB cI cZ a1 r2.2.1 r2.2.2)) (w1 := (wWX9 cB cI cZ a1 r4.2.1 r4.2.2)) (wf := ((wWX4 cB cI cZ a0 I0 M0) ++ (wWX9 cB cI cZ a1 r4.2.1 r4.2.2))) 2 4 hP hD rfl rfl hk1 hFc ht hB
      rw [hw]
      refine lv_if_eq (tgt := 55) hx hb dX4_readHand_42 (by decide) (fun hc => ?_) (fun hc => ?_)
      · replace hf := wb_t hc hf
        refine lv_iconst (v := (0 : Int32)) hx hb dX4_readHand_55 (by decide) ?_
        exact W.zret (v := (0 : Int32)) hx hb hr (by decide) (fun t ht hW => by rw [← Option.some.inj hf]; exact ⟨⟨(0 : Int32), (), rfl, rfl, by rw [ht]; exact hP, va_K.moved hW.alike hK, hD⟩, hS.F ht⟩) hS.2.2 dX4_readHand_56
      · replace hf := wb_f hc hf
        refine lv_aload_n hx hb dX4_readHand_45 rfl (lv_at hl 2 rfl) ?_
        refine lv_iconst (v := (0 : Int32)) hx hb dX4_readHand_46 (by decide) ?_
        refine lv_bipush (v := (29 : Int32)) hx hb dX4_readHand_47 (by decide) ?_
        obtain ⟨r5, hr5, hf⟩ := wb_b hf
        have hPc := hP.sub (ws' := (wWX9 cB cI cZ a1 r4.2.1 r4.2.2)) [2, 3] rfl
        have hDc := hD.sub (ws' := (wWX9 cB cI cZ a1 r4.2.1 r4.2.2)) [2, 3] (by decide) rfl
        have hFc := va_free (wc := (wWX9 cB cI cZ a1 r4.2.1 r4.2.2)) hD hS hA [2, 3] rfl
        refine va_calli (va_runV (As := [.int (0 : Int32), .int (29 : Int32)]) (rest := []) ⟨hx, hb, hml, hown, hts⟩ (cn_X9_takeNumber l D cB cI cZ N a1 r4.2.1 r4.2.2 (0 : Int32) (29 : Int32) H.size r5 hr5) (cwV 2 hts gX4_readHand_X9_takeNumber rfl rfl rfl cdX9_takeNumber ⟨Nat.le_of_ble_eq_true rfl, Nat.le_of_ble_eq_true rfl⟩) (wb_preDV hPc hK hDc (wr_9 hK hP (q0 := 2) rfl)) rfl rfl hl.1 rfl (lv_room (Nat.le_of_ble_eq_true rfl)) dX4_readHand_49 ⟨Nat.le_of_ble_eq_true rfl, Nat.le_of_ble_eq_true rfl⟩) hS (fun q _ h => hFc q h) hFc (fun r9 u t H locs ht hvm hw hB hz1 hk1 hS => ?_)
        obtain ⟨hP, hD⟩ := wj_s (wc := (wWX9 cB cI cZ a1 r4.2.1 r4.2.2)) (w1 := (wWX9 cB cI cZ a1 r5.2.1 r5.2.2)) (wf := ((wWX4 cB cI cZ a0 I0 M0) ++ (wWX9 cB cI cZ a1 r5.2.1 r5.2.2))) 2 4 hP hD rfl rfl hk1 hFc ht hB
        rw [hw]
        refine lv_if_ne (tgt := 57) hx hb dX4_readHand_52 (by decide) (fun hc => ?_) (fun hc => ?_)
        · replace hf := wb_f hc hf
          refine lv_aload_n hx hb dX4_readHand_57 rfl (lv_at hl 1 rfl) ?_
          refine va_get (D := D) (ci := 4) (v := .ref (a0 1)) (C := RX4) (T := TX4) (N := 2) hx hb hts hinX4 hown hK hP 0 rfl rfl 0 (by decide) (hts (.fieldLink RX4 9 "WheelBook$Hands" "stoodFor" "[I") (List.mem_of_getElem? (i := 3) rfl)) (fun _ h9 => h9) rfl dX4_readHand_58 ?_
          refine lv_iload_n hx hb dX4_readHand_61 rfl (lv_at hl 0 rfl) ?_
          refine lv_dup2_11 hx hb dX4_readHand_62 rfl rfl ?_
          obtain ⟨hin, hf⟩ := wb_n hf
          refine va_iald hx hb hK hP 1 1 rfl rfl hin dX4_readHand_63 ?_
          refine lv_iconst (v := (1 : Int32)) hx hb dX4_readHand_64 (by decide) ?_
          refine lv_aload_n hx hb dX4_readHand_65 rfl (lv_at hl 2 rfl) ?_
          refine va_get (D := D) (ci := 9) (v := .int (r5.2.1 6)) (C := RX9) (T := TX9) (N := 10) hx hb hts hinX9 hown hK hP 2 rfl rfl 7 (by decide) (hts (.fieldLink RX4 38 "WheelBook$Text" "number" "I") (List.mem_of_getElem? (i := 2) rfl)) (fun _ h9 => h9) rfl dX4_readHand_66 ?_
          refine lv_ishl hx hb dX4_readHand_69 ?_
          refine lv_ior hx hb dX4_readHand_70 ?_
          obtain ⟨hin, hf⟩ := wb_n hf
          refine va_iast hx hb hK hP hD hS 1 1 rfl rfl hin dX4_readHand_71 (fun H locs hP hD hS => ?_)
          have hP : va_P D vwCl ((wWX4 cB cI cZ a0 I0 (wb_um M0 0 (v3).toNatClampNeg ((M0 0 (v3).toNatClampNeg) ||| ((1 : Int32) <<< ((r5.2.1 6) &&& 31))))) ++ (wWX9 cB cI cZ a1 r5.2.1 r5.2.2)) H := hP
          have hD : va_D A ((wWX4 cB cI cZ a0 I0 (wb_um M0 0 (v3).toNatClampNeg ((M0 0 (v3).toNatClampNeg) ||| ((1 : Int32) <<< ((r5.2.1 6) &&& 31))))) ++ (wWX9 cB cI cZ a1 r5.2.1 r5.2.2)) := hD
          obtain ⟨M0_6, eM0_6, hf⟩ := wb_v hf
          rw [← eM0_6] at hP hD
          refine lv_aload_n hx hb dX4_readHand_72 rfl (lv_at hl 1 rfl) ?_
          refine lv_dup hx hb dX4_readHand_73 rfl ?_
          refine va_get (D := D) (ci := 4) (v := .int (I0 0)) (C := RX4) (T := TX4) (N := 2) hx hb hts hinX4 hown hK hP 0 rfl rfl 1 (by decide) (hts (.fieldLink RX4 21 "WheelBook$Hands" "many" "I") (List.mem_of_getElem? (i := 1) rfl)) (fun _ h9 => h9) rfl dX4_readHand_74 ?_
          refine lv_iconst (v := (1 : Int32)) hx hb dX4_readHand_77 (by decide) ?_
          refine lv_iadd hx hb dX4_readHand_78 ?_
          refine va_put (D := D) (ci := 4) (v := .int ((I0 0) + (1 : Int32))) (ty := .int) (C := RX4) (T := TX4) (N := 2) hx hb hts hinX4 tyX4 tyX4_ok nmX4 hown hK hP hD hS 0 rfl rfl 1 (by decide) (hts (.fieldLink RX4 21 "WheelBook$Hands" "many" "I") (List.mem_of_getElem? (i := 1) rfl)) (fun _ h9 => h9) rfl (by decide +kernel) rfl rfl (Nat.le_of_ble_eq_true rfl) dX4_readHand_79 (fun H locs hP hD hS => ?_)
          have hP : va_P D vwCl ((wWX4 cB cI cZ a0 (upd I0 0 ((I0 0) + (1 : Int32))) M0_6) ++ (wWX9 cB cI cZ a1 r5.2.1 r5.2.2)) H := hP
          have hD : va_D A ((wWX4 cB cI cZ a0 (upd I0 0 ((I0 0) + (1 : Int32))) M0_6) ++ (wWX9 cB cI cZ a1 r5.2.1 r5.2.2)) := hD
          obtain ⟨I0_7, eI0_7, hf⟩ := wb_v hf
          rw [← eI0_7] at hP hD
          refine lv_aload_n hx hb dX4_readHand_82 rfl (lv_at hl 2 rfl) ?_
          obtain ⟨r8, hr8, hf⟩ := wb_b hf
          have hPc := hP.sub (ws' := (wWX9 cB cI cZ a1 r5.2.1 r5.2.2)) [2, 3] rfl
          have hDc := hD.sub (ws' := (wWX9 cB cI cZ a1 r5.2.1 r5.2.2)) [2, 3] (by decide) rfl
          have hFc := va_free (wc := (wWX9 cB cI cZ a1 r5.2.1 r5.2.2)) hD hS hA [2, 3] rfl
          refine va_calli (va_runV (As := []) (rest := []) ⟨hx, hb, hml, hown, hts⟩ (cn_X9_takeStop l D cB cI cZ N a1 r5.2.1 r5.2.2 H.size r8 hr8) (cwV 0 hts gX4_readHand_X9_takeStop rfl rfl rfl cdX9_takeStop ⟨Nat.le_of_ble_eq_true rfl, Nat.le_of_ble_eq_true rfl⟩) (wb_preDV hPc hK hDc (wr_9 hK hP (q0 := 2) rfl)) rfl rfl hl.1 rfl (lv_room (Nat.le_of_ble_eq_true rfl)) dX4_readHand_83 ⟨Nat.le_of_ble_eq_true rfl, Nat.le_of_ble_eq_true rfl⟩) hS (fun q _ h => hFc q h) hFc (fun r9 u t H locs ht hvm hw hB hz1 hk1 hS => ?_)
          obtain ⟨hP, hD⟩ := wj_s (wc := (wWX9 cB cI cZ a1 r5.2.1 r5.2.2)) (w1 := (wWX9 cB cI cZ a1 r8.2.1 r8.2.2)) (wf := ((wWX4 cB cI cZ a0 I0_7 M0_6) ++ (wWX9 cB cI cZ a1 r8.2.1 r8.2.2))) 2 4 hP hD rfl rfl hk1 hFc ht hB
          rw [hw]
          obtain ⟨hz, hf⟩ := wb_y hf
          exact W.zret (v := r8.1) hx hb hr (congrArg Value.int hz) (fun t ht hW => by rw [← Option.some.inj hf]; exact ⟨⟨r8.1, (), rfl, rfl, by rw [ht]; exact hP, va_K.moved hW.alike hK, hD⟩, hS.F ht⟩) hS.2.2 dX4_readHand_86
        · replace hf := wb_t hc hf
          refine lv_iconst (v := (0 : Int32)) hx hb dX4_readHand_55 (by decide) ?_
          exact W.zret (v := (0 : Int32)) hx hb hr (by decide) (fun t ht hW => by rw [← Option.some.inj hf]; exact ⟨⟨(0 : Int32), (), rfl, rfl, by rw [ht]; exact hP, va_K.moved hW.alike hK, hD⟩, hS.F ht⟩) hS.2.2 dX4_readHand_56
    · replace hf := wb_t hc hf
      refine lv_iconst (v := (0 : Int32)) hx hb dX4_readHand_29 (by decide) ?_
      exact W.zret (v := (0 : Int32)) hx hb hr (by decide) (fun t ht hW => by rw [← Option.some.inj hf]; exact ⟨⟨(0 : Int32), (), rfl, rfl, by rw [ht]; exact hP, va_K.moved hW.alike hK, hD⟩, hS.F ht⟩) hS.2.2 dX4_readHand_30
  · replace hf := wb_f hc hf
    refine lv_aload_n hx hb dX4_readHand_9 rfl (lv_at hl 1 rfl) ?_
    refine lv_iconst (v := (2 : Int32)) hx hb dX4_readHand_10 (by decide) ?_
    obtain ⟨r9b, hr9b, hf⟩ := wb_b hf
    have hPc := hP.sub (ws' := (wWX9 cB cI cZ a1 I1 M1)) [2, 3] rfl
    have hDc := hD.sub (ws' := (wWX9 cB cI cZ a1 I1 M1)) [2, 3] (by decide) rfl
    have hFc := va_free (wc := (wWX9 cB cI cZ a1 I1 M1)) hD hS hA [2, 3] rfl
    refine va_calli (va_runV (As := [.int (2 : Int32)]) (rest := []) ⟨hx, hb, hml, hown, hts⟩ (cn_X9_refuse l D cB cI cZ N a1 I1 M1 (2 : Int32) H.size r9b hr9b) (cwV 1 hts gX4_readHand_X9_refuse rfl rfl rfl cdX9_refuse ⟨Nat.le_of_ble_eq_true rfl, Nat.le_of_ble_eq_true rfl⟩) (wb_preDV hPc hK hDc (wr_9 hK hP (q0 := 2) rfl)) rfl rfl hl.1 rfl (lv_room (Nat.le_of_ble_eq_true rfl)) dX4_readHand_11 ⟨Nat.le_of_ble_eq_true rfl, Nat.le_of_ble_eq_true rfl⟩) hS (fun q _ h => hFc q h) hFc (fun r9 u t H locs ht hvm hw hB hz1 hk1 hS => ?_)
    obtain ⟨hP, hD⟩ := wj_s (wc := (wWX9 cB cI cZ a1 I1 M1)) (w1 := (wWX9 cB cI cZ a1 r9b.2.1 r9b.2.2)) (wf := ((wWX4 cB cI cZ a0 I0 M0) ++ (wWX9 cB cI cZ a1 r9b.2.1 r9b.2.2))) 2 4 hP hD rfl rfl hk1 hFc ht hB
    rw [hw]
    obtain ⟨hz, hf⟩ := wb_y hf
    exact W.zret (v := r9b.1) hx hb hr (congrArg Value.int hz) (fun t ht hW => by rw [← Option.some.inj hf]; exact ⟨⟨r9b.1, (), rfl, rfl, by rw [ht]; exact hP, va_K.moved hW.alike hK, hD⟩, hS.F ht⟩) hS.2.2 dX4_readHand_14

set_option maxHeartbeats 4000000 in
set_option maxRecDepth 100000 in
theorem cn_X5_copyFrom (l : Launch) (D : va_G) (cB cI cZ : ClassId) (N : Nat) (a0 : Nat → Nat) (I0 : Nat → Int32) (M0 : Nat → Nat → Int32) (a1 : Nat → Nat) (I1 : Nat → Int32) (M1 : Nat → Nat → Int32) (sz : Nat) (R : (Nat → Int32) × (Nat → Nat → Int32)) (hf : fX5_copyFrom N I0 M0 I1 M1 = some R) : Met l yX5_copyFrom wsX5_copyFrom ({ frames := 2, cells := 0, slots := 0, locals := 101 }) (va_Pc [.ref (a0 0), .ref (a1 0)] (wb_preD D [(cB, .byte), (cI, .int), (cZ, .boolean)] ((wWX5 cB cI cZ a0 I0 M0) ++ (wWX5 cB cI cZ a1 I1 M1)) sz)) (va_Qv (fun _ : Unit => True) (fun _ t => wb_post D [(cB, .byte), (cI, .int), (cZ, .boolean)] (va_A ((wWX5 cB cI cZ a0 I0 M0) ++ (wWX5 cB cI cZ a1 I1 M1)) sz) ((wWX5 cB cI cZ a0 R.1 R.2) ++ (wWX5 cB cI cZ a1 I1 M1)) t) (va_A ((wWX5 cB cI cZ a0 I0 M0) ++ (wWX5 cB cI cZ a1 I1 M1)) sz)) 0 0 (va_A ((wWX5 cB cI cZ a0 I0 M0) ++ (wWX5 cB cI cZ a1 I1 M1)) sz) := by
  refine Met.ofW (cc := cX5_copyFrom) (maxL := 2) (ret := none) pn_X5 rfl ?_
  intro p e s m args below meth c s₁ B hml hv
  obtain ⟨rfl, hsz, hP, hK, hD0⟩ := hv
  have hx := B.exec
  have hb := B.bytes
  have hr := B.returns
  have hts := atoms_spec (ws := wsX5_copyFrom) B.pre
  have hown : s.vm.findClass RX5 = some m.cls := (findClass_of_methodNamed B.named :)
  have hlocks := B.notSynchronized
  have hinX5 : ∀ w ∈ u_ws RX5 TX5 6, w ∈ wsX5_copyFrom := fun w h => List.mem_cons_of_mem _ (List.mem_append_left _ (List.mem_append_left _ (List.mem_append_right _ h)))
  subst hsz
  have hD := hD0.self (sz := s.heap.size)
  generalize hAe : va_A ((wWX5 cB cI cZ a0 I0 M0) ++ (wWX5 cB cI cZ a1 I1 M1)) s.heap.size = A at hD ⊢
  have hA : ∀ q : Nat, s.heap.size ≤ q → A q := fun q h => by rw [← hAe]; exact Or.inr h
  have hS : va_S A s.heap s.heap [] := va_S.rf
  have hl := lv_entry ([.ref (a0 0), .ref (a1 0)]) (n := 2) (Nat.le_of_ble_eq_true rfl)
  rw [lg_entry_eq]
  generalize (lg_sl ([.ref (a0 0), .ref (a1 0)]) ++ List.replicate (2 - (lg_sl ([.ref (a0 0), .ref (a1 0)])).length) Slot.unset).toArray = ls at hl ⊢
  have hl : lv_has ls 2 [(0, .ref (a0 0)), (1, .ref (a1 0))] := hl
  unfold fX5_copyFrom at hf
  obtain ⟨H, hHe⟩ : ∃ H : Heap, H = s.heap := ⟨_, rfl⟩
  obtain ⟨locs, hle⟩ : ∃ locs : List Loc, locs = [] := ⟨_, rfl⟩
  refine wb_start (H := H) (locs := locs) hHe hle ?_
  rw [← hHe] at hP
  have hS : va_S A s.heap H locs := by rw [hHe, hle]; exact va_S.rf
  refine lv_aload_n hx hb dX5_copyFrom_0 rfl (lv_at hl 1 rfl) ?_
  refine va_get (D := D) (ci := 5) (v := .ref (a1 1)) (C := RX5) (T := TX5) (N := 6) hx hb hts hinX5 hown hK hP 9 rfl rfl 0 (by decide) (hts (.fieldLink RX5 11 "WheelBook$House" "at" "[I") (List.mem_of_getElem? (i := 1) rfl)) (fun _ h9 => h9) rfl dX5_copyFrom_1 ?_
  refine lv_iconst (v := (0 : Int32)) hx hb dX5_copyFrom_4 (by decide) ?_
  refine lv_aload_n hx hb dX5_copyFrom_5 rfl (lv_at hl 0 rfl) ?_
  refine va_get (D := D) (ci := 5) (v := .ref (a0 1)) (C := RX5) (T := TX5) (N := 6) hx hb hts hinX5 hown hK hP 0 rfl rfl 0 (by decide) (hts (.fieldLink RX5 11 "WheelBook$House" "at" "[I") (List.mem_of_getElem? (i := 1) rfl)) (fun _ h9 => h9) rfl dX5_copyFrom_6 ?_
  refine lv_iconst (v := (0 : Int32)) hx hb dX5_copyFrom_9 (by decide) ?_
  refine lv_bipush (v := (28 : Int32)) hx hb dX5_copyFrom_10 (by decide) ?_
  obtain ⟨hcp, hf⟩ := wb_n hf
  obtain ⟨hcp1, hcp2, hcp3, hcp4, hcp5⟩ := wb_cp hcp
  refine va_copyi hx hb (hml.trans hl.1.symm) hown (hts (.methodLink RX5 44 arraycopyName) (List.mem_of_getElem? (i := 2) rfl)) (hts (.native arraycopyName) (List.mem_of_getElem? (i := 3) rfl)) (hts (.static arraycopyName) (List.mem_of_getElem? (i := 4) rfl)) (hts (.initialized "java/lang/System") (List.mem_of_getElem? (i := 5) rfl)) hK hP hD hS 10 1 1 1 rfl rfl rfl rfl rfl hcp1 hcp2 hcp3 hcp4 hcp5 (fun _ _ => rfl) (Nat.le_of_ble_eq_true rfl) (by decide +kernel) dX5_copyFrom_12 (fun H locs hP hD hS => ?_)
  have hP : va_P D vwCl ((wWX5 cB cI cZ a0 I0 (wb_mm M0 0 (va_cpy (M1 0) (M0 0) ((0 : Int32)).toNatClampNeg ((0 : Int32)).toNatClampNeg ((28 : Int32)).toNatClampNeg))) ++ (wWX5 cB cI cZ a1 I1 M1)) H := hP
  have hD : va_D A ((wWX5 cB cI cZ a0 I0 (wb_mm M0 0 (va_cpy (M1 0) (M0 0) ((0 : Int32)).toNatClampNeg ((0 : Int32)).toNatClampNeg ((28 : Int32)).toNatClampNeg))) ++ (wWX5 cB cI cZ a1 I1 M1)) := hD
  obtain ⟨M0_1, eM0_1, hf⟩ := wb_v hf
  rw [← eM0_1] at hP hD
  refine lv_aload_n hx hb dX5_copyFrom_15 rfl (lv_at hl 1 rfl) ?_
  refine va_get (D := D) (ci := 5) (v := .ref (a1 2)) (C := RX5) (T := TX5) (N := 6) hx hb hts hinX5 hown hK hP 9 rfl rfl 1 (by decide) (hts (.fieldLink RX5 15 "WheelBook$House" "goes" "[I") (List.mem_of_getElem? (i := 6) rfl)) (fun _ h9 => h9) rfl dX5_copyFrom_16 ?_
  refine lv_iconst (v := (0 : Int32)) hx hb dX5_copyFrom_19 (by decide) ?_
  refine lv_aload_n hx hb dX5_copyFrom_20 rfl (lv_at hl 0 rfl) ?_
  refine va_get (D := D) (ci := 5) (v := .ref (a0 2)) (C := RX5) (T := TX5) (N := 6) hx hb hts hinX5 hown hK hP 0 rfl rfl 1 (by decide) (hts (.fieldLink RX5 15 "WheelBook$House" "goes" "[I") (List.mem_of_getElem? (i := 6) rfl)) (fun _ h9 => h9) rfl dX5_copyFrom_21 ?_
  refine lv_iconst (v := (0 : Int32)) hx hb dX5_copyFrom_24 (by decide) ?_
  refine lv_bipush (v := (28 : Int32)) hx hb dX5_copyFrom_25 (by decide) ?_
  obtain ⟨hcp, hf⟩ := wb_n hf
  obtain ⟨hcp1, hcp2, hcp3, hcp4, hcp5⟩ := wb_cp hcp
  refine va_copyi hx hb (hml.trans hl.1.symm) hown (hts (.methodLink RX5 44 arraycopyName) (List.mem_of_getElem? (i := 2) rfl)) (hts (.native arraycopyName) (List.mem_of_getElem? (i := 3) rfl)) (hts (.static arraycopyName) (List.mem_of_getElem? (i := 4) rfl)) (hts (.initialized "java/lang/System") (List.mem_of_getElem? (i := 5) rfl)) hK hP hD hS 11 2 1 1 rfl rfl rfl rfl rfl hcp1 hcp2 hcp3 hcp4 hcp5 (fun _ _ => rfl) (Nat.le_of_ble_eq_true rfl) (by decide +kernel) dX5_copyFrom_27 (fun H locs hP hD hS => ?_)
  have hP : va_P D vwCl ((wWX5 cB cI cZ a0 I0 (wb_mm M0_1 1 (va_cpy (M1 1) (M0_1 1) ((0 : Int32)).toNatClampNeg ((0 : Int32)).toNatClampNeg ((28 : Int32)).toNatClampNeg))) ++ (wWX5 cB cI cZ a1 I1 M1)) H := hP
  have hD : va_D A ((wWX5 cB cI cZ a0 I0 (wb_mm M0_1 1 (va_cpy (M1 1) (M0_1 1) ((0 : Int32)).toNatClampNeg ((0 : Int32)).toNatClampNeg ((28 : Int32)).toNatClampNeg))) ++ (wWX5 cB cI cZ a1 I1 M1)) := hD
  obtain ⟨M0_2, eM0_2, hf⟩ := wb_v hf
  rw [← eM0_2] at hP hD
  refine lv_aload_n hx hb dX5_copyFrom_30 rfl (lv_at hl 1 rfl) ?_
  refine va_get (D := D) (ci := 5) (v := .ref (a1 3)) (C := RX5) (T := TX5) (N := 6) hx hb hts hinX5 hown hK hP 9 rfl rfl 2 (by decide) (hts (.fieldLink RX5 18 "WheelBook$House" "swing" "[I") (List.mem_of_getElem? (i := 7) rfl)) (fun _ h9 => h9) rfl dX5_copyFrom_31 ?_
  refine lv_iconst (v := (0 : Int32)) hx hb dX5_copyFrom_34 (by decide) ?_
  refine lv_aload_n hx hb dX5_copyFrom_35 rfl (lv_at hl 0 rfl) ?_
  refine va_get (D := D) (ci := 5) (v := .ref (a0 3)) (C := RX5) (T := TX5) (N := 6) hx hb hts hinX5 hown hK hP 0 rfl rfl 2 (by decide) (hts (.fieldLink RX5 18 "WheelBook$House" "swing" "[I") (List.mem_of_getElem? (i := 7) rfl)) (fun _ h9 => h9) rfl dX5_copyFrom_36 ?_
  refine lv_iconst (v := (0 : Int32)) hx hb dX5_copyFrom_39 (by decide) ?_
  refine lv_bipush (v := (28 : Int32)) hx hb dX5_copyFrom_40 (by decide) ?_
  obtain ⟨hcp, hf⟩ := wb_n hf
  obtain ⟨hcp1, hcp2, hcp3, hcp4, hcp5⟩ := wb_cp hcp
  refine va_copyi hx hb (hml.trans hl.1.symm) hown (hts (.methodLink RX5 44 arraycopyName) (List.mem_of_getElem? (i := 2) rfl)) (hts (.native arraycopyName) (List.mem_of_getElem? (i := 3) rfl)) (hts (.static arraycopyName) (List.mem_of_getElem? (i := 4) rfl)) (hts (.initialized "java/lang/System") (List.mem_of_getElem? (i := 5) rfl)) hK hP hD hS 12 3 1 1 rfl rfl rfl rfl rfl hcp1 hcp2 hcp3 hcp4 hcp5 (fun _ _ => rfl) (Nat.le_of_ble_eq_true rfl) (by decide +kernel) dX5_copyFrom_42 (fun H locs hP hD hS => ?_)
  have hP : va_P D vwCl ((wWX5 cB cI cZ a0 I0 (wb_mm M0_2 2 (va_cpy (M1 2) (M0_2 2) ((0 : Int32)).toNatClampNeg ((0 : Int32)).toNatClampNeg ((28 : Int32)).toNatClampNeg))) ++ (wWX5 cB cI cZ a1 I1 M1)) H := hP
  have hD : va_D A ((wWX5 cB cI cZ a0 I0 (wb_mm M0_2 2 (va_cpy (M1 2) (M0_2 2) ((0 : Int32)).toNatClampNeg ((0 : Int32)).toNatClampNeg ((28 : Int32)).toNatClampNeg))) ++ (wWX5 cB cI cZ a1 I1 M1)) := hD
  obtain ⟨M0_3, eM0_3, hf⟩ := wb_v hf
  rw [← eM0_3] at hP hD
  refine lv_aload_n hx hb dX5_copyFrom_45 rfl (lv_at hl 1 rfl) ?_
  refine va_get (D := D) (ci := 5) (v := .ref (a1 4)) (C := RX5) (T := TX5) (N := 6) hx hb hts hinX5 hown hK hP 9 rfl rfl 3 (by decide) (hts (.fieldLink RX5 21 "WheelBook$House" "period" "[I") (List.mem_of_getElem? (i := 8) rfl)) (fun _ h9 => h9) rfl dX5_copyFrom_46 ?_
  refine lv_iconst (v := (0 : Int32)) hx hb dX5_copyFrom_49 (by decide) ?_
  refine lv_aload_n hx hb dX5_copyFrom_50 rfl (lv_at hl 0 rfl) ?_
  refine va_get (D := D) (ci := 5) (v := .ref (a0 4)) (C := RX5) (T := TX5) (N := 6) hx hb hts hinX5 hown hK hP 0 rfl rfl 3 (by decide) (hts (.fieldLink RX5 21 "WheelBook$House" "period" "[I") (List.mem_of_getElem? (i := 8) rfl)) (fun _ h9 => h9) rfl dX5_copyFrom_51 ?_
  refine lv_iconst (v := (0 : Int32)) hx hb dX5_copyFrom_54 (by decide) ?_
  refine lv_bipush (v := (28 : Int32)) hx hb dX5_copyFrom_55 (by decide) ?_
  obtain ⟨hcp, hf⟩ := wb_n hf
  obtain ⟨hcp1, hcp2, hcp3, hcp4, hcp5⟩ := wb_cp hcp
  refine va_copyi hx hb (hml.trans hl.1.symm) hown (hts (.methodLink RX5 44 arraycopyName) (List.mem_of_getElem? (i := 2) rfl)) (hts (.native arraycopyName) (List.mem_of_getElem? (i := 3) rfl)) (hts (.static arraycopyName) (List.mem_of_getElem? (i := 4) rfl)) (hts (.initialized "java/lang/System") (List.mem_of_getElem? (i := 5) rfl)) hK hP hD hS 13 4 1 1 rfl rfl rfl rfl rfl hcp1 hcp2 hcp3 hcp4 hcp5 (fun _ _ => rfl) (Nat.le_of_ble_eq_true rfl) (by decide +kernel) dX5_copyFrom_57 (fun H locs hP hD hS => ?_)
  have hP : va_P D vwCl ((wWX5 cB cI cZ a0 I0 (wb_mm M0_3 3 (va_cpy (M1 3) (M0_3 3) ((0 : Int32)).toNatClampNeg ((0 : Int32)).toNatClampNeg ((28 : Int32)).toNatClampNeg))) ++ (wWX5 cB cI cZ a1 I1 M1)) H := hP
  have hD : va_D A ((wWX5 cB cI cZ a0 I0 (wb_mm M0_3 3 (va_cpy (M1 3) (M0_3 3) ((0 : Int32)).toNatClampNeg ((0 : Int32)).toNatClampNeg ((28 : Int32)).toNatClampNeg))) ++ (wWX5 cB cI cZ a1 I1 M1)) := hD
  obtain ⟨M0_4, eM0_4, hf⟩ := wb_v hf
  rw [← eM0_4] at hP hD
  refine lv_aload_n hx hb dX5_copyFrom_60 rfl (lv_at hl 0 rfl) ?_
  refine va_get (D := D) (ci := 5) (v := .ref (a0 5)) (C := RX5) (T := TX5) (N := 6) hx hb hts hinX5 hown hK hP 0 rfl rfl 4 (by decide) (hts (.fieldLink RX5 27 "WheelBook$House" "climates" "LWheelBook$Climates;") (List.mem_of_getElem? (i := 9) rfl)) (fun _ h9 => h9) rfl dX5_copyFrom_61 ?_
  refine lv_aload_n hx hb dX5_copyFrom_64 rfl (lv_at hl 1 rfl) ?_
  refine va_get (D := D) (ci := 5) (v := .ref (a1 5)) (C := RX5) (T := TX5) (N := 6) hx hb hts hinX5 hown hK hP 9 rfl rfl 4 (by decide) (hts (.fieldLink RX5 27 "WheelBook$House" "climates" "LWheelBook$Climates;") (List.mem_of_getElem? (i := 9) rfl)) (fun _ h9 => h9) rfl dX5_copyFrom_65 ?_
  obtain ⟨r5, hr5, hf⟩ := wb_b hf
  have hPc := hP.sub (ws' := ((wWX2 cB cI cZ (wb_sh a0 5) I0 (wb_sh M0_4 4)) ++ (wWX2 cB cI cZ (wb_sh a1 5) I1 (wb_sh M1 4)))) [5, 6, 14, 15] rfl
  have hDc := hD.sub (ws' := ((wWX2 cB cI cZ (wb_sh a0 5) I0 (wb_sh M0_4 4)) ++ (wWX2 cB cI cZ (wb_sh a1 5) I1 (wb_sh M1 4)))) [5, 6, 14, 15] (by decide) rfl
  have hFc := va_free (wc := ((wWX2 cB cI cZ (wb_sh a0 5) I0 (wb_sh M0_4 4)) ++ (wWX2 cB cI cZ (wb_sh a1 5) I1 (wb_sh M1 4)))) hD hS hA [5, 6, 14, 15] rfl
  refine va_callv (va_runV (As := [.ref (a1 5)]) (rest := []) ⟨hx, hb, hml, hown, hts⟩ (cn_X2_copyFrom l D cB cI cZ N (wb_sh a0 5) I0 (wb_sh M0_4 4) (wb_sh a1 5) I1 (wb_sh M1 4) H.size r5 hr5) (cwV 1 hts gX5_copyFrom_X2_copyFrom rfl rfl rfl cdX2_copyFrom ⟨Nat.le_of_ble_eq_true rfl, Nat.le_of_ble_eq_true rfl⟩) (wb_preDV hPc hK hDc (wr_2 hK hP (q0 := 5) rfl)) rfl rfl hl.1 rfl (lv_room (Nat.le_of_ble_eq_true rfl)) dX5_copyFrom_68 ⟨Nat.le_of_ble_eq_true rfl, Nat.le_of_ble_eq_true rfl⟩) hS (fun q _ h => hFc q h) hFc (fun u t H locs ht hvm hw hB hz1 hk1 hS => ?_)
  obtain ⟨hP, hD⟩ := wj_ab (a := (wWX2 cB cI cZ (wb_sh a0 5) I0 (wb_sh M0_4 4))) (b := (wWX2 cB cI cZ (wb_sh a1 5) I1 (wb_sh M1 4))) (a' := (wWX2 cB cI cZ (wb_sh a0 5) r5.1 r5.2)) (b' := (wWX2 cB cI cZ (wb_sh a1 5) I1 (wb_sh M1 4))) (wf := ((wWX5 cB cI cZ a0 (wb_in I0 0 1 r5.1) (wb_in M0_4 4 1 r5.2)) ++ (wWX5 cB cI cZ a1 I1 M1))) 5 7 7 16 hP hD rfl rfl hk1 hFc ht hB
  obtain ⟨I0_6, eI0_6, hf⟩ := wb_v hf
  rw [← eI0_6] at hP hD
  obtain ⟨M0_7, eM0_7, hf⟩ := wb_v hf
  rw [← eM0_7] at hP hD
  refine lv_aload_n hx hb dX5_copyFrom_71 rfl (lv_at hl 0 rfl) ?_
  refine va_get (D := D) (ci := 5) (v := .ref (a0 7)) (C := RX5) (T := TX5) (N := 6) hx hb hts hinX5 hown hK hP 0 rfl rfl 5 (by decide) (hts (.fieldLink RX5 34 "WheelBook$House" "hands" "LWheelBook$Hands;") (List.mem_of_getElem? (i := 10) rfl)) (fun _ h9 => h9) rfl dX5_copyFrom_72 ?_
  refine lv_aload_n hx hb dX5_copyFrom_75 rfl (lv_at hl 1 rfl) ?_
  refine va_get (D := D) (ci := 5) (v := .ref (a1 7)) (C := RX5) (T := TX5) (N := 6) hx hb hts hinX5 hown hK hP 9 rfl rfl 5 (by decide) (hts (.fieldLink RX5 34 "WheelBook$House" "hands" "LWheelBook$Hands;") (List.mem_of_getElem? (i := 10) rfl)) (fun _ h9 => h9) rfl dX5_copyFrom_76 ?_
  obtain ⟨r8, hr8, hf⟩ := wb_b hf
  have hPc := hP.sub (ws' := ((wWX4 cB cI cZ (wb_sh a0 7) (wb_sh I0_6 1) (wb_sh M0_7 5)) ++ (wWX4 cB cI cZ (wb_sh a1 7) (wb_sh I1 1) (wb_sh M1 5)))) [7, 8, 16, 17] rfl
  have hDc := hD.sub (ws' := ((wWX4 cB cI cZ (wb_sh a0 7) (wb_sh I0_6 1) (wb_sh M0_7 5)) ++ (wWX4 cB cI cZ (wb_sh a1 7) (wb_sh I1 1) (wb_sh M1 5)))) [7, 8, 16, 17] (by decide) rfl
  have hFc := va_free (wc := ((wWX4 cB cI cZ (wb_sh a0 7) (wb_sh I0_6 1) (wb_sh M0_7 5)) ++ (wWX4 cB cI cZ (wb_sh a1 7) (wb_sh I1 1) (wb_sh M1 5)))) hD hS hA [7, 8, 16, 17] rfl
  refine va_callv (va_runV (As := [.ref (a1 7)]) (rest := []) ⟨hx, hb, hml, hown, hts⟩ (cn_X4_copyFrom l D cB cI cZ N (wb_sh a0 7) (wb_sh I0_6 1) (wb_sh M0_7 5) (wb_sh a1 7) (wb_sh I1 1) (wb_sh M1 5) H.size r8 hr8) (cwV 1 hts gX5_copyFrom_X4_copyFrom rfl rfl rfl cdX4_copyFrom ⟨Nat.le_of_ble_eq_true rfl, Nat.le_of_ble_eq_true rfl⟩) (wb_preDV hPc hK hDc (wr_4 hK hP (q0 := 7) rfl)) rfl rfl hl.1 rfl (lv_room (Nat.le_of_ble_eq_true rfl)) dX5_copyFrom_79 ⟨Nat.le_of_ble_eq_true rfl, Nat.le_of_ble_eq_true rfl⟩) hS (fun q _ h => hFc q h) hFc (fun u t H locs ht hvm hw hB hz1 hk1 hS => ?_)
  obtain ⟨hP, hD⟩ := wj_ab (a := (wWX4 cB cI cZ (wb_sh a0 7) (wb_sh I0_6 1) (wb_sh M0_7 5))) (b := (wWX4 cB cI cZ (wb_sh a1 7) (wb_sh I1 1) (wb_sh M1 5))) (a' := (wWX4 cB cI cZ (wb_sh a0 7) r8.1 r8.2)) (b' := (wWX4 cB cI cZ (wb_sh a1 7) (wb_sh I1 1) (wb_sh M1 5))) (wf := ((wWX5 cB cI cZ a0 (wb_in I0_6 1 1 r8.1) (wb_in M0_7 5 1 r8.2)) ++ (wWX5 cB cI cZ a1 I1 M1))) 7 9 7 18 hP hD rfl rfl hk1 hFc ht hB
  obtain ⟨I0_9, eI0_9, hf⟩ := wb_v hf
  rw [← eI0_9] at hP hD
  obtain ⟨M0_10, eM0_10, hf⟩ := wb_v hf
  rw [← eM0_10] at hP hD
  exact W.vret hx hb hr (fun t ht hW => by rw [← Option.some.inj hf]; exact ⟨⟨(), rfl, trivial, by rw [ht]; exact hP, va_K.moved hW.alike hK, hD⟩, hS.F ht⟩) hS.2.2 dX5_copyFrom_82

set_option maxHeartbeats 4000000 in
set_option maxRecDepth 100000 in
theorem cn_X5_readTable (l : Launch) (D : va_G) (cB cI cZ : ClassId) (N : Nat) (aK aV : Nat → Nat) (a0 : Nat → Nat) (I0 : Nat → Int32) (M0 : Nat → Nat → Int32) (a1 : Nat → Nat) (I1 : Nat → Int32) (M1 : Nat → Nat → Int32) (x2 : Int32) (sz : Nat) (R : Int32 × (Nat → Int32) × (Nat → Nat → Int32) × (Nat → Int32) × (Nat → Nat → Int32)) (hf : fX5_readTable N I0 M0 I1 M1 x2 = some R) : Met l yX5_readTable wsX5_readTable ({ frames := 6, cells := 0, slots := 0, locals := 164 }) (va_Pc [.ref (a0 0), .ref (a1 0), .int x2] (wb_preDE D [(cB, .byte), (cI, .int), (cZ, .boolean)] ((wWX5 cB cI cZ a0 I0 M0) ++ (wWX9 cB cI cZ a1 I1 M1)) sz aK aV)) (va_Qi (fun r (_ : Unit) => r = R.1) (fun _ t => wb_post D [(cB, .byte), (cI, .int), (cZ, .boolean)] (va_A ((wWX5 cB cI cZ a0 I0 M0) ++ (wWX9 cB cI cZ a1 I1 M1)) sz) ((wWX5 cB cI cZ a0 R.2.1 R.2.2.1) ++ (wWX9 cB cI cZ a1 R.2.2.2.1 R.2.2.2.2)) t) (va_A ((wWX5 cB cI cZ a0 I0 M0) ++ (wWX9 cB cI cZ a1 I1 M1)) sz)) 0 0 (va_A ((wWX5 cB cI cZ a0 I0 M0) ++ (wWX9 cB cI cZ a1 I1 M1)) sz) := by
  refine Met.ofW (cc := cX5_readTable) (maxL := 3) (ret := (some .boolean)) pn_X5 rfl ?_
  intro p e s m args below meth c s₁ B hml hv
  obtain ⟨rfl, ⟨hsz, hP, hK, hD0⟩, hZ⟩ := hv
  have hx := B.exec
  have hb := B.bytes
  have hr := B.returns
  have hts := atoms_spec (ws := wsX5_readTable) B.pre
  have hown : s.vm.findClass RX5 = some m.cls := (findClass_of_methodNamed B.named :)
  have hlocks := B.notSynchronized
  have hinX5 : ∀ w ∈ u_ws RX5 TX5 6, w ∈ wsX5_readTable := fun w h => List.mem_cons_of_mem _ (List.mem_append_left _ (List.mem_append_right _ h))
  have hinX9 : ∀ w ∈ u_ws RX9 TX9 10, w ∈ wsX5_readTable := fun w h => List.mem_cons_of_mem _ (List.mem_append_right _ h)
  subst hsz
  have hD := hD0.self (sz := s.heap.size)
  generalize hAe : va_A ((wWX5 cB cI cZ a0 I0 M0) ++ (wWX9 cB cI cZ a1 I1 M1)) s.heap.size = A at hD hZ ⊢
  have hA : ∀ q : Nat, s.heap.size ≤ q → A q := fun q h => by rw [← hAe]; exact Or.inr h
  have hS : va_S A s.heap s.heap [] := va_S.rf
  have hl := lv_entry ([.ref (a0 0), .ref (a1 0), .int x2]) (n := 3) (Nat.le_of_ble_eq_true rfl)
  rw [lg_entry_eq]
  generalize (lg_sl ([.ref (a0 0), .ref (a1 0), .int x2]) ++ List.replicate (3 - (lg_sl ([.ref (a0 0), .ref (a1 0), .int x2])).length) Slot.unset).toArray = ls at hl ⊢
  have hl : lv_has ls 3 [(0, .ref (a0 0)), (1, .ref (a1 0)), (2, .int x2)] := hl
  unfold fX5_readTable at hf
  obtain ⟨H, hHe⟩ : ∃ H : Heap, H = s.heap := ⟨_, rfl⟩
  obtain ⟨locs, hle⟩ : ∃ locs : List Loc, locs = [] := ⟨_, rfl⟩
  refine wb_start (H := H) (locs := locs) hHe hle ?_
  rw [← hHe] at hP
  have hS : va_S A s.heap H locs := by rw [hHe, hle]; exact va_S.rf
  refine lv_aload_n hx hb dX5_readTable_0 rfl (lv_at hl 1 rfl) ?_
  refine va_ldcS hx hb hown (hZ.2.1 6 (RX5, 109, "at") rfl) dX5_readTable_1 ?_
  obtain ⟨r1, hr1, hf⟩ := wb_b hf
  have hPc := hP.sub (ws' := (wWX9 cB cI cZ a1 I1 M1)) [9, 10] rfl
  have hDc := hD.sub (ws' := (wWX9 cB cI cZ a1 I1 M1)) [9, 10] (by decide) rfl
  have hFc := va_free (wc := (wWX9 cB cI cZ a1 I1 M1)) hD hS hA [9, 10] rfl
  refine va_calli (va_runV (As := [.ref (aK 6)]) (rest := []) ⟨hx, hb, hml, hown, hts⟩ (cn_X9_takeWord l D cB cI cZ N aK aV a1 I1 M1 6 (by decide) H.size r1 hr1) (cwV 1 hts gX5_readTable_X9_takeWord rfl rfl rfl cdX9_takeWord ⟨Nat.le_of_ble_eq_true rfl, Nat.le_of_ble_eq_true rfl⟩) (wb_preDEV hPc hK hDc (wr_9 hK hP (q0 := 9) rfl) hZ hS hFc) rfl rfl hl.1 rfl (lv_room (Nat.le_of_ble_eq_true rfl)) dX5_readTable_3 ⟨Nat.le_of_ble_eq_true rfl, Nat.le_of_ble_eq_true rfl⟩) hS (fun q _ h => hFc q h) hFc (fun r9 u t H locs ht hvm hw hB hz1 hk1 hS => ?_)
  obtain ⟨hP, hD⟩ := wj_s (wc := (wWX9 cB cI cZ a1 I1 M1)) (w1 := (wWX9 cB cI cZ a1 r1.2.1 r1.2.2)) (wf := ((wWX5 cB cI cZ a0 I0 M0) ++ (wWX9 cB cI cZ a1 r1.2.1 r1.2.2))) 9 11 hP hD rfl rfl hk1 hFc ht hB
  rw [hw]
  refine lv_if_eq (tgt := 20) hx hb dX5_readTable_6 (by decide) (fun hc => ?_) (fun hc => ?_)
  · replace hf := wb_t hc hf
    refine lv_iconst (v := (0 : Int32)) hx hb dX5_readTable_20 (by decide) ?_
    exact W.zret (v := (0 : Int32)) hx hb hr (by decide) (fun t ht hW => by rw [← Option.some.inj hf]; exact ⟨⟨(0 : Int32), (), rfl, rfl, by rw [ht]; exact hP, va_K.moved hW.alike hK, hD⟩, hS.F ht⟩) hS.2.2 dX5_readTable_21
  · replace hf := wb_f hc hf
    refine lv_aload_n hx hb dX5_readTable_9 rfl (lv_at hl 1 rfl) ?_
    refine lv_iconst (v := (0 : Int32)) hx hb dX5_readTable_10 (by decide) ?_
    refine lv_sipush (v := (21599 : Int32)) hx hb dX5_readTable_11 (by decide) ?_
    obtain ⟨r2, hr2, hf⟩ := wb_b hf
    have hPc := hP.sub (ws' := (wWX9 cB cI cZ a1 r1.2.1 r1.2.2)) [9, 10] rfl
    have hDc := hD.sub (ws' := (wWX9 cB cI cZ a1 r1.2.1 r1.2.2)) [9, 10] (by decide) rfl
    have hFc := va_free (wc := (wWX9 cB cI cZ a1 r1.2.1 r1.2.2)) hD hS hA [9, 10] rfl
    refine va_calli (va_runV (As := [.int (0 : Int32), .int (21599 : Int32)]) (rest := []) ⟨hx, hb, hml, hown, hts⟩ (cn_X9_takeNumber l D cB cI cZ N a1 r1.2.1 r1.2.2 (0 : Int32) (21599 : Int32) H.size r2 hr2) (cwV 2 hts gX5_readTable_X9_takeNumber rfl rfl rfl cdX9_takeNumber ⟨Nat.le_of_ble_eq_true rfl, Nat.le_of_ble_eq_true rfl⟩) (wb_preDV hPc hK hDc (wr_9 hK hP (q0 := 9) rfl)) rfl rfl hl.1 rfl (lv_room (Nat.le_of_ble_eq_true rfl)) dX5_readTable_14 ⟨Nat.le_of_ble_eq_true rfl, Nat.le_of_ble_eq_true rfl⟩) hS (fun q _ h => hFc q h) hFc (fun r9 u t H locs ht hvm hw hB hz1 hk1 hS => ?_)
    obtain ⟨hP, hD⟩ := wj_s (wc := (wWX9 cB cI cZ a1 r1.2.1 r1.2.2)) (w1 := (wWX9 cB cI cZ a1 r2.2.1 r2.2.2)) (wf := ((wWX5 cB cI cZ a0 I0 M0) ++ (wWX9 cB cI cZ a1 r2.2.1 r2.2.2))) 9 11 hP hD rfl rfl hk1 hFc ht hB
    rw [hw]
    refine lv_if_ne (tgt := 22) hx hb dX5_readTable_17 (by decide) (fun hc => ?_) (fun hc => ?_)
    · replace hf := wb_f hc hf
      refine lv_aload_n hx hb dX5_readTable_22 rfl (lv_at hl 0 rfl) ?_
      refine va_get (D := D) (ci := 5) (v := .ref (a0 1)) (C := RX5) (T := TX5) (N := 6) hx hb hts hinX5 hown hK hP 0 rfl rfl 0 (by decide) (hts (.fieldLink RX5 11 "WheelBook$House" "at" "[I") (List.mem_of_getElem? (i := 1) rfl)) (fun _ h9 => h9) rfl dX5_readTable_23 ?_
      refine lv_iload_n hx hb dX5_readTable_26 rfl (lv_at hl 2 rfl) ?_
      refine lv_aload_n hx hb dX5_readTable_27 rfl (lv_at hl 1 rfl) ?_
      refine va_get (D := D) (ci := 9) (v := .int (r2.2.1 6)) (C := RX9) (T := TX9) (N := 10) hx hb hts hinX9 hown hK hP 9 rfl rfl 7 (by decide) (hts (.fieldLink RX5 94 "WheelBook$Text" "number" "I") (List.mem_of_getElem? (i := 2) rfl)) (fun _ h9 => h9) rfl dX5_readTable_28 ?_
      obtain ⟨hin, hf⟩ := wb_n hf
      refine va_iast hx hb hK hP hD hS 1 1 rfl rfl hin dX5_readTable_31 (fun H locs hP hD hS => ?_)
      have hP : va_P D vwCl ((wWX5 cB cI cZ a0 I0 (wb_um M0 0 (x2).toNatClampNeg (r2.2.1 6))) ++ (wWX9 cB cI cZ a1 r2.2.1 r2.2.2)) H := hP
      have hD : va_D A ((wWX5 cB cI cZ a0 I0 (wb_um M0 0 (x2).toNatClampNeg (r2.2.1 6))) ++ (wWX9 cB cI cZ a1 r2.2.1 r2.2.2)) := hD
      obtain ⟨M0_3, eM0_3, hf⟩ := wb_v hf
      rw [← eM0_3] at hP hD
      refine lv_aload_n hx hb dX5_readTable_32 rfl (lv_at hl 1 rfl) ?_
      refine va_ldcS hx hb hown (hZ.2.1 7 (RX5, 113, "goes") rfl) dX5_readTable_33 ?_
      obtain ⟨r4, hr4, hf⟩ := wb_b hf
      have hPc := hP.sub (ws' := (wWX9 cB cI cZ a1 r2.2.1 r2.2.2)) [9, 10] rfl
      have hDc := hD.sub (ws' := (wWX9 cB cI cZ a1 r2.2.1 r2.2.2)) [9, 10] (by decide) rfl
      have hFc := va_free (wc := (wWX9 cB cI cZ a1 r2.2.1 r2.2.2)) hD hS hA [9, 10] rfl
      refine va_calli (va_runV (As := [.ref (aK 7)]) (rest := []) ⟨hx, hb, hml, hown, hts⟩ (cn_X9_takeWord l D cB cI cZ N aK aV a1 r2.2.1 r2.2.2 7 (by decide) H.size r4 hr4) (cwV 1 hts gX5_readTable_X9_takeWord rfl rfl rfl cdX9_takeWord ⟨Nat.le_of_ble_eq_true rfl, Nat.le_of_ble_eq_true rfl⟩) (wb_preDEV hPc hK hDc (wr_9 hK hP (q0 := 9) rfl) hZ hS hFc) rfl rfl hl.1 rfl (lv_room (Nat.le_of_ble_eq_true rfl)) dX5_readTable_35 ⟨Nat.le_of_ble_eq_true rfl, Nat.le_of_ble_eq_true rfl⟩) hS (fun q _ h => hFc q h) hFc (fun r9 u t H locs ht hvm hw hB hz1 hk1 hS => ?_)
      obtain ⟨hP, hD⟩ := wj_s (wc := (wWX9 cB cI cZ a1 r2.2.1 r2.2.2)) (w1 := (wWX9 cB cI cZ a1 r4.2.1 r4.2.2)) (wf := ((wWX5 cB cI cZ a0 I0 M0_3) ++ (wWX9 cB cI cZ a1 r4.2.1 r4.2.2))) 9 11 hP hD rfl rfl hk1 hFc ht hB
      rw [hw]
      refine lv_if_eq (tgt := 51) hx hb dX5_readTable_38 (by decide) (fun hc => ?_) (fun hc => ?_)
      · replace hf := wb_t hc hf
        refine lv_iconst (v := (0 : Int32)) hx hb dX5_readTable_51 (by decide) ?_
        exact W.zret (v := (0 : Int32)) hx hb hr (by decide) (fun t ht hW => by rw [← Option.some.inj hf]; exact ⟨⟨(0 : Int32), (), rfl, rfl, by rw [ht]; exact hP, va_K.moved hW.alike hK, hD⟩, hS.F ht⟩) hS.2.2 dX5_readTable_52
      · replace hf := wb_f hc hf
        refine lv_aload_n hx hb dX5_readTable_41 rfl (lv_at hl 1 rfl) ?_
        refine lv_iconst (v := (0 : Int32)) hx hb dX5_readTable_42 (by decide) ?_
        refine lv_ldc (v := (2000000 : Int32)) hx hb hown (hts (.constant RX5 114 (2000000)) (List.mem_of_getElem? (i := 3) rfl)) dX5_readTable_43 ?_
        obtain ⟨r5, hr5, hf⟩ := wb_b hf
        have hPc := hP.sub (ws' := (wWX9 cB cI cZ a1 r4.2.1 r4.2.2)) [9, 10] rfl
        have hDc := hD.sub (ws' := (wWX9 cB cI cZ a1 r4.2.1 r4.2.2)) [9, 10] (by decide) rfl
        have hFc := va_free (wc := (wWX9 cB cI cZ a1 r4.2.1 r4.2.2)) hD hS hA [9, 10] rfl
        refine va_calli (va_runV (As := [.int (0 : Int32), .int (2000000 : Int32)]) (rest := []) ⟨hx, hb, hml, hown, hts⟩ (cn_X9_takeNumber l D cB cI cZ N a1 r4.2.1 r4.2.2 (0 : Int32) (2000000 : Int32) H.size r5 hr5) (cwV 2 hts gX5_readTable_X9_takeNumber rfl rfl rfl cdX9_takeNumber ⟨Nat.le_of_ble_eq_true rfl, Nat.le_of_ble_eq_true rfl⟩) (wb_preDV hPc hK hDc (wr_9 hK hP (q0 := 9) rfl)) rfl rfl hl.1 rfl (lv_room (Nat.le_of_ble_eq_true rfl)) dX5_readTable_45 ⟨Nat.le_of_ble_eq_true rfl, Nat.le_of_ble_eq_true rfl⟩) hS (fun q _ h => hFc q h) hFc (fun r9 u t H locs ht hvm hw hB hz1 hk1 hS => ?_)
        obtain ⟨hP, hD⟩ := wj_s (wc := (wWX9 cB cI cZ a1 r4.2.1 r4.2.2)) (w1 := (wWX9 cB cI cZ a1 r5.2.1 r5.2.2)) (wf := ((wWX5 cB cI cZ a0 I0 M0_3) ++ (wWX9 cB cI cZ a1 r5.2.1 r5.2.2))) 9 11 hP hD rfl rfl hk1 hFc ht hB
        rw [hw]
        refine lv_if_ne (tgt := 53) hx hb dX5_readTable_48 (by decide) (fun hc => ?_) (fun hc => ?_)
        · replace hf := wb_f hc hf
          refine lv_aload_n hx hb dX5_readTable_53 rfl (lv_at hl 0 rfl) ?_
          refine va_get (D := D) (ci := 5) (v := .ref (a0 2)) (C := RX5) (T := TX5) (N := 6) hx hb hts hinX5 hown hK hP 0 rfl rfl 1 (by decide) (hts (.fieldLink RX5 15 "WheelBook$House" "goes" "[I") (List.mem_of_getElem? (i := 4) rfl)) (fun _ h9 => h9) rfl dX5_readTable_54 ?_
          refine lv_iload_n hx hb dX5_readTable_57 rfl (lv_at hl 2 rfl) ?_
          refine lv_aload_n hx hb dX5_readTable_58 rfl (lv_at hl 1 rfl) ?_
          refine va_get (D := D) (ci := 9) (v := .int (r5.2.1 6)) (C := RX9) (T := TX9) (N := 10) hx hb hts hinX9 hown hK hP 9 rfl rfl 7 (by decide) (hts (.fieldLink RX5 94 "WheelBook$Text" "number" "I") (List.mem_of_getElem? (i := 2) rfl)) (fun _ h9 => h9) rfl dX5_readTable_59 ?_
          obtain ⟨hin, hf⟩ := wb_n hf
          refine va_iast hx hb hK hP hD hS 2 1 rfl rfl hin dX5_readTable_62 (fun H locs hP hD hS => ?_)
          have hP : va_P D vwCl ((wWX5 cB cI cZ a0 I0 (wb_um M0_3 1 (x2).toNatClampNeg (r5.2.1 6))) ++ (wWX9 cB cI cZ a1 r5.2.1 r5.2.2)) H := hP
          have hD : va_D A ((wWX5 cB cI cZ a0 I0 (wb_um M0_3 1 (x2).toNatClampNeg (r5.2.1 6))) ++ (wWX9 cB cI cZ a1 r5.2.1 r5.2.2)) := hD
          obtain ⟨M0_6, eM0_6, hf⟩ := wb_v hf
          rw [← eM0_6] at hP hD
          refine lv_aload_n hx hb dX5_readTable_63 rfl (lv_at hl 0 rfl) ?_
          refine va_get (D := D) (ci := 5) (v := .ref (a0 3)) (C := RX5) (T := TX5) (N := 6) hx hb hts hinX5 hown hK hP 0 rfl rfl 2 (by decide) (hts (.fieldLink RX5 18 "WheelBook$House" "swing" "[I") (List.mem_of_getElem? (i := 5) rfl)) (fun _ h9 => h9) rfl dX5_readTable_64 ?_
          refine lv_iload_n hx hb dX5_readTable_67 rfl (lv_at hl 2 rfl) ?_
          refine lv_iconst (v := (0 : Int32)) hx hb dX5_readTable_68 (by decide) ?_
          obtain ⟨hin, hf⟩ := wb_n hf
          refine va_iast hx hb hK hP hD hS 3 1 rfl rfl hin dX5_readTable_69 (fun H locs hP hD hS => ?_)
          have hP : va_P D vwCl ((wWX5 cB cI cZ a0 I0 (wb_um M0_6 2 (x2).toNatClampNeg (0 : Int32))) ++ (wWX9 cB cI cZ a1 r5.2.1 r5.2.2)) H := hP
          have hD : va_D A ((wWX5 cB cI cZ a0 I0 (wb_um M0_6 2 (x2).toNatClampNeg (0 : Int32))) ++ (wWX9 cB cI cZ a1 r5.2.1 r5.2.2)) := hD
          obtain ⟨M0_7, eM0_7, hf⟩ := wb_v hf
          rw [← eM0_7] at hP hD
          refine lv_aload_n hx hb dX5_readTable_70 rfl (lv_at hl 0 rfl) ?_
          refine va_get (D := D) (ci := 5) (v := .ref (a0 4)) (C := RX5) (T := TX5) (N := 6) hx hb hts hinX5 hown hK hP 0 rfl rfl 3 (by decide) (hts (.fieldLink RX5 21 "WheelBook$House" "period" "[I") (List.mem_of_getElem? (i := 6) rfl)) (fun _ h9 => h9) rfl dX5_readTable_71 ?_
          refine lv_iload_n hx hb dX5_readTable_74 rfl (lv_at hl 2 rfl) ?_
          refine lv_iconst (v := (1 : Int32)) hx hb dX5_readTable_75 (by decide) ?_
          obtain ⟨hin, hf⟩ := wb_n hf
          refine va_iast hx hb hK hP hD hS 4 1 rfl rfl hin dX5_readTable_76 (fun H locs hP hD hS => ?_)
          have hP : va_P D vwCl ((wWX5 cB cI cZ a0 I0 (wb_um M0_7 3 (x2).toNatClampNeg (1 : Int32))) ++ (wWX9 cB cI cZ a1 r5.2.1 r5.2.2)) H := hP
          have hD : va_D A ((wWX5 cB cI cZ a0 I0 (wb_um M0_7 3 (x2).toNatClampNeg (1 : Int32))) ++ (wWX9 cB cI cZ a1 r5.2.1 r5.2.2)) := hD
          obtain ⟨M0_8, eM0_8, hf⟩ := wb_v hf
          rw [← eM0_8] at hP hD
          refine lv_aload_n hx hb dX5_readTable_77 rfl (lv_at hl 1 rfl) ?_
          refine va_ldcS hx hb hown (hZ.2.1 8 (RX5, 115, "swing") rfl) dX5_readTable_78 ?_
          obtain ⟨r9b, hr9b, hf⟩ := wb_b hf
          refine vp_callSi (W.runV (As := [.ref (aK 8)]) (rest := []) ⟨hx, hb, hml, hown, hts⟩ (cn_X9_isWord l D cB cI cZ N aK aV a1 r5.2.1 r5.2.2 8 (by decide) r9b hr9b) (cwV 1 hts gX5_readTable_X9_isWord rfl rfl rfl cdX9_isWord ⟨Nat.le_of_ble_eq_true rfl, Nat.le_of_ble_eq_true rfl⟩) (wb_preEV (hP.sub (ws' := (wWX9 cB cI cZ a1 r5.2.1 r5.2.2)) [9, 10] rfl) hK (wr_9 hK hP (q0 := 9) rfl) hZ hS) rfl rfl hl.1 rfl (lv_room (Nat.le_of_ble_eq_true rfl)) dX5_readTable_80 ⟨Nat.le_of_ble_eq_true rfl, Nat.le_of_ble_eq_true rfl⟩) (fun r9 e9 => ?_)
          rw [e9]
          refine lv_if_ne (tgt := 88) hx hb dX5_readTable_83 (by decide) (fun hc => ?_) (fun hc => ?_)
          · replace hf := wb_f hc hf
            refine lv_aload_n hx hb dX5_readTable_88 rfl (lv_at hl 1 rfl) ?_
            obtain ⟨r10, hr10, hf⟩ := wb_b hf
            have hPc := hP.sub (ws' := (wWX9 cB cI cZ a1 r5.2.1 r5.2.2)) [9, 10] rfl
            have hDc := hD.sub (ws' := (wWX9 cB cI cZ a1 r5.2.1 r5.2.2)) [9, 10] (by decide) rfl
            have hFc := va_free (wc := (wWX9 cB cI cZ a1 r5.2.1 r5.2.2)) hD hS hA [9, 10] rfl
            refine va_callv (va_runV (As := []) (rest := []) ⟨hx, hb, hml, hown, hts⟩ (cn_X9_step l D cB cI cZ N a1 r5.2.1 r5.2.2 H.size r10 hr10) (cwV 0 hts gX5_readTable_X9_step rfl rfl rfl cdX9_step ⟨Nat.le_of_ble_eq_true rfl, Nat.le_of_ble_eq_true rfl⟩) (wb_preDV hPc hK hDc (wr_9 hK hP (q0 := 9) rfl)) rfl rfl hl.1 rfl (lv_room (Nat.le_of_ble_eq_true rfl)) dX5_readTable_89 ⟨Nat.le_of_ble_eq_true rfl, Nat.le_of_ble_eq_true rfl⟩) hS (fun q _ h => hFc q h) hFc (fun u t H locs ht hvm hw hB hz1 hk1 hS => ?_)
            obtain ⟨hP, hD⟩ := wj_s (wc := (wWX9 cB cI cZ a1 r5.2.1 r5.2.2)) (w1 := (wWX9 cB cI cZ a1 r10.1 r10.2)) (wf := ((wWX5 cB cI cZ a0 I0 M0_8) ++ (wWX9 cB cI cZ a1 r10.1 r10.2))) 9 11 hP hD rfl rfl hk1 hFc ht hB
            refine lv_aload_n hx hb dX5_readTable_92 rfl (lv_at hl 1 rfl) ?_
            refine lv_iconst (v := (0 : Int32)) hx hb dX5_readTable_93 (by decide) ?_
            refine lv_sipush (v := (10800 : Int32)) hx hb dX5_readTable_94 (by decide) ?_
            obtain ⟨r11, hr11, hf⟩ := wb_b hf
            have hPc := hP.sub (ws' := (wWX9 cB cI cZ a1 r10.1 r10.2)) [9, 10] rfl
            have hDc := hD.sub (ws' := (wWX9 cB cI cZ a1 r10.1 r10.2)) [9, 10] (by decide) rfl
            have hFc := va_free (wc := (wWX9 cB cI cZ a1 r10.1 r10.2)) hD hS hA [9, 10] rfl
            refine va_calli (va_runV (As := [.int (0 : Int32), .int (10800 : Int32)]) (rest := []) ⟨hx, hb, hml, hown, hts⟩ (cn_X9_takeNumber l D cB cI cZ N a1 r10.1 r10.2 (0 : Int32) (10800 : Int32) H.size r11 hr11) (cwV 2 hts gX5_readTable_X9_takeNumber rfl rfl rfl cdX9_takeNumber ⟨Nat.le_of_ble_eq_true rfl, Nat.le_of_ble_eq_true rfl⟩) (wb_preDV hPc hK hDc (wr_9 hK hP (q0 := 9) rfl)) rfl rfl hl.1 rfl (lv_room (Nat.le_of_ble_eq_true rfl)) dX5_readTable_97 ⟨Nat.le_of_ble_eq_true rfl, Nat.le_of_ble_eq_true rfl⟩) hS (fun q _ h => hFc q h) hFc (fun r9 u t H locs ht hvm hw hB hz1 hk1 hS => ?_)
            obtain ⟨hP, hD⟩ := wj_s (wc := (wWX9 cB cI cZ a1 r10.1 r10.2)) (w1 := (wWX9 cB cI cZ a1 r11.2.1 r11.2.2)) (wf := ((wWX5 cB cI cZ a0 I0 M0_8) ++ (wWX9 cB cI cZ a1 r11.2.1 r11.2.2))) 9 11 hP hD rfl rfl hk1 hFc ht hB
            rw [hw]
            refine lv_if_ne (tgt := 105) hx hb dX5_readTable_100 (by decide) (fun hc => ?_) (fun hc => ?_)
            · replace hf := wb_f hc hf
              refine lv_aload_n hx hb dX5_readTable_105 rfl (lv_at hl 0 rfl) ?_
              refine va_get (D := D) (ci := 5) (v := .ref (a0 3)) (C := RX5) (T := TX5) (N := 6) hx hb hts hinX5 hown hK hP 0 rfl rfl 2 (by decide) (hts (.fieldLink RX5 18 "WheelBook$House" "swing" "[I") (List.mem_of_getElem? (i := 5) rfl)) (fun _ h9 => h9) rfl dX5_readTable_106 ?_
              refine lv_iload_n hx hb dX5_readTable_109 rfl (lv_at hl 2 rfl) ?_
              refine lv_aload_n hx hb dX5_readTable_110 rfl (lv_at hl 1 rfl) ?_
              refine va_get (D := D) (ci := 9) (v := .int (r11.2.1 6)) (C := RX9) (T := TX9) (N := 10) hx hb hts hinX9 hown hK hP 9 rfl rfl 7 (by decide) (hts (.fieldLink RX5 94 "WheelBook$Text" "number" "I") (List.mem_of_getElem? (i := 2) rfl)) (fun _ h9 => h9) rfl dX5_readTable_111 ?_
              obtain ⟨hin, hf⟩ := wb_n hf
              refine va_iast hx hb hK hP hD hS 3 1 rfl rfl hin dX5_readTable_114 (fun H locs hP hD hS => ?_)
              have hP : va_P D vwCl ((wWX5 cB cI cZ a0 I0 (wb_um M0_8 2 (x2).toNatClampNeg (r11.2.1 6))) ++ (wWX9 cB cI cZ a1 r11.2.1 r11.2.2)) H := hP
              have hD : va_D A ((wWX5 cB cI cZ a0 I0 (wb_um M0_8 2 (x2).toNatClampNeg (r11.2.1 6))) ++ (wWX9 cB cI cZ a1 r11.2.1 r11.2.2)) := hD
              obtain ⟨M0_12, eM0_12, hf⟩ := wb_v hf
              rw [← eM0_12] at hP hD
              refine lv_aload_n hx hb dX5_readTable_115 rfl (lv_at hl 1 rfl) ?_
              refine va_ldcS hx hb hown (hZ.2.1 9 (RX5, 116, "in") rfl) dX5_readTable_116 ?_
              obtain ⟨r13, hr13, hf⟩ := wb_b hf
              have hPc := hP.sub (ws' := (wWX9 cB cI cZ a1 r11.2.1 r11.2.2)) [9, 10] rfl
              have hDc := hD.sub (ws' := (wWX9 cB cI cZ a1 r11.2.1 r11.2.2)) [9, 10] (by decide) rfl
              have hFc := va_free (wc := (wWX9 cB cI cZ a1 r11.2.1 r11.2.2)) hD hS hA [9, 10] rfl
              refine va_calli (va_runV (As := [.ref (aK 9)]) (rest := []) ⟨hx, hb, hml, hown, hts⟩ (cn_X9_takeWord l D cB cI cZ N aK aV a1 r11.2.1 r11.2.2 9 (by decide) H.size r13 hr13) (cwV 1 hts gX5_readTable_X9_takeWord rfl rfl rfl cdX9_takeWord ⟨Nat.le_of_ble_eq_true rfl, Nat.le_of_ble_eq_true rfl⟩) (wb_preDEV hPc hK hDc (wr_9 hK hP (q0 := 9) rfl) hZ hS hFc) rfl rfl hl.1 rfl (lv_room (Nat.le_of_ble_eq_true rfl)) dX5_readTable_118 ⟨Nat.le_of_ble_eq_true rfl, Nat.le_of_ble_eq_true rfl⟩) hS (fun q _ h => hFc q h) hFc (fun r9 u t H locs ht hvm hw hB hz1 hk1 hS => ?_)
              obtain ⟨hP, hD⟩ := wj_s (wc := (wWX9 cB cI cZ a1 r11.2.1 r11.2.2)) (w1 := (wWX9 cB cI cZ a1 r13.2.1 r13.2.2)) (wf := ((wWX5 cB cI cZ a0 I0 M0_12) ++ (wWX9 cB cI cZ a1 r13.2.1 r13.2.2))) 9 11 hP hD rfl rfl hk1 hFc ht hB
              rw [hw]
              refine lv_if_eq (tgt := 134) hx hb dX5_readTable_121 (by decide) (fun hc => ?_) (fun hc => ?_)
              · replace hf := wb_t hc hf
                refine lv_iconst (v := (0 : Int32)) hx hb dX5_readTable_134 (by decide) ?_
                exact W.zret (v := (0 : Int32)) hx hb hr (by decide) (fun t ht hW => by rw [← Option.some.inj hf]; exact ⟨⟨(0 : Int32), (), rfl, rfl, by rw [ht]; exact hP, va_K.moved hW.alike hK, hD⟩, hS.F ht⟩) hS.2.2 dX5_readTable_135
              · replace hf := wb_f hc hf
                refine lv_aload_n hx hb dX5_readTable_124 rfl (lv_at hl 1 rfl) ?_
                refine lv_iconst (v := (2 : Int32)) hx hb dX5_readTable_125 (by decide) ?_
                refine lv_ldc (v := (1000000 : Int32)) hx hb hown (hts (.constant RX5 118 (1000000)) (List.mem_of_getElem? (i := 7) rfl)) dX5_readTable_126 ?_
                obtain ⟨r14, hr14, hf⟩ := wb_b hf
                have hPc := hP.sub (ws' := (wWX9 cB cI cZ a1 r13.2.1 r13.2.2)) [9, 10] rfl
                have hDc := hD.sub (ws' := (wWX9 cB cI cZ a1 r13.2.1 r13.2.2)) [9, 10] (by decide) rfl
                have hFc := va_free (wc := (wWX9 cB cI cZ a1 r13.2.1 r13.2.2)) hD hS hA [9, 10] rfl
                refine va_calli (va_runV (As := [.int (2 : Int32), .int (1000000 : Int32)]) (rest := []) ⟨hx, hb, hml, hown, hts⟩ (cn_X9_takeNumber l D cB cI cZ N a1 r13.2.1 r13.2.2 (2 : Int32) (1000000 : Int32) H.size r14 hr14) (cwV 2 hts gX5_readTable_X9_takeNumber rfl rfl rfl cdX9_takeNumber ⟨Nat.le_of_ble_eq_true rfl, Nat.le_of_ble_eq_true rfl⟩) (wb_preDV hPc hK hDc (wr_9 hK hP (q0 := 9) rfl)) rfl rfl hl.1 rfl (lv_room (Nat.le_of_ble_eq_true rfl)) dX5_readTable_128 ⟨Nat.le_of_ble_eq_true rfl, Nat.le_of_ble_eq_true rfl⟩) hS (fun q _ h => hFc q h) hFc (fun r9 u t H locs ht hvm hw hB hz1 hk1 hS => ?_)
                obtain ⟨hP, hD⟩ := wj_s (wc := (wWX9 cB cI cZ a1 r13.2.1 r13.2.2)) (w1 := (wWX9 cB cI cZ a1 r14.2.1 r14.2.2)) (wf := ((wWX5 cB cI cZ a0 I0 M0_12) ++ (wWX9 cB cI cZ a1 r14.2.1 r14.2.2))) 9 11 hP hD rfl rfl hk1 hFc ht hB
                rw [hw]
                refine lv_if_ne (tgt := 136) hx hb dX5_readTable_131 (by decide) (fun hc => ?_) (fun hc => ?_)
                · replace hf := wb_f hc hf
                  refine lv_aload_n hx hb dX5_readTable_136 rfl (lv_at hl 0 rfl) ?_
                  refine va_get (D := D) (ci := 5) (v := .ref (a0 4)) (C := RX5) (T := TX5) (N := 6) hx hb hts hinX5 hown hK hP 0 rfl rfl 3 (by decide) (hts (.fieldLink RX5 21 "WheelBook$House" "period" "[I") (List.mem_of_getElem? (i := 6) rfl)) (fun _ h9 => h9) rfl dX5_readTable_137 ?_
                  refine lv_iload_n hx hb dX5_readTable_140 rfl (lv_at hl 2 rfl) ?_
                  refine lv_aload_n hx hb dX5_readTable_141 rfl (lv_at hl 1 rfl) ?_
                  refine va_get (D := D) (ci := 9) (v := .int (r14.2.1 6)) (C := RX9) (T := TX9) (N := 10) hx hb hts hinX9 hown hK hP 9 rfl rfl 7 (by decide) (hts (.fieldLink RX5 94 "WheelBook$Text" "number" "I") (List.mem_of_getElem? (i := 2) rfl)) (fun _ h9 => h9) rfl dX5_readTable_142 ?_
                  obtain ⟨hin, hf⟩ := wb_n hf
                  refine va_iast hx hb hK hP hD hS 4 1 rfl rfl hin dX5_readTable_145 (fun H locs hP hD hS => ?_)
                  have hP : va_P D vwCl ((wWX5 cB cI cZ a0 I0 (wb_um M0_12 3 (x2).toNatClampNeg (r14.2.1 6))) ++ (wWX9 cB cI cZ a1 r14.2.1 r14.2.2)) H := hP
                  have hD : va_D A ((wWX5 cB cI cZ a0 I0 (wb_um M0_12 3 (x2).toNatClampNeg (r14.2.1 6))) ++ (wWX9 cB cI cZ a1 r14.2.1 r14.2.2)) := hD
                  obtain ⟨M0_15, eM0_15, hf⟩ := wb_v hf
                  rw [← eM0_15] at hP hD
                  refine lv_iconst (v := (1 : Int32)) hx hb dX5_readTable_146 (by decide) ?_
                  exact W.zret (v := (1 : Int32)) hx hb hr (by decide) (fun t ht hW => by rw [← Option.some.inj hf]; exact ⟨⟨(1 : Int32), (), rfl, rfl, by rw [ht]; exact hP, va_K.moved hW.alike hK, hD⟩, hS.F ht⟩) hS.2.2 dX5_readTable_147
                · replace hf := wb_t hc hf
                  refine lv_iconst (v := (0 : Int32)) hx hb dX5_readTable_134 (by decide) ?_
                  exact W.zret (v := (0 : Int32)) hx hb hr (by decide) (fun t ht hW => by rw [← Option.some.inj hf]; exact ⟨⟨(0 : Int32), (), rfl, rfl, by rw [ht]; exact hP, va_K.moved hW.alike hK, hD⟩, hS.F ht⟩) hS.2.2 dX5_readTable_135
            · replace hf := wb_t hc hf
              refine lv_iconst (v := (0 : Int32)) hx hb dX5_readTable_103 (by decide) ?_
              exact W.zret (v := (0 : Int32)) hx hb hr (by decide) (fun t ht hW => by rw [← Option.some.inj hf]; exact ⟨⟨(0 : Int32), (), rfl, rfl, by rw [ht]; exact hP, va_K.moved hW.alike hK, hD⟩, hS.F ht⟩) hS.2.2 dX5_readTable_104
          · replace hf := wb_t hc hf
            refine lv_iconst (v := (1 : Int32)) hx hb dX5_readTable_86 (by decide) ?_
            exact W.zret (v := (1 : Int32)) hx hb hr (by decide) (fun t ht hW => by rw [← Option.some.inj hf]; exact ⟨⟨(1 : Int32), (), rfl, rfl, by rw [ht]; exact hP, va_K.moved hW.alike hK, hD⟩, hS.F ht⟩) hS.2.2 dX5_readTable_87
        · replace hf := wb_t hc hf
          refine lv_iconst (v := (0 : Int32)) hx hb dX5_readTable_51 (by decide) ?_
          exact W.zret (v := (0 : Int32)) hx hb hr (by decide) (fun t ht hW => by rw [← Option.some.inj hf]; exact ⟨⟨(0 : Int32), (), rfl, rfl, by rw [ht]; exact hP, va_K.moved hW.alike hK, hD⟩, hS.F ht⟩) hS.2.2 dX5_readTable_52
    · replace hf := wb_t hc hf
      refine lv_iconst (v := (0 : Int32)) hx hb dX5_readTable_20 (by decide) ?_
      exact W.zret (v := (0 : Int32)) hx hb hr (by decide) (fun t ht hW => by rw [← Option.some.inj hf]; exact ⟨⟨(0 : Int32), (), rfl, rfl, by rw [ht]; exact hP, va_K.moved hW.alike hK, hD⟩, hS.F ht⟩) hS.2.2 dX5_readTable_21

set_option maxHeartbeats 4000000 in
set_option maxRecDepth 100000 in
theorem cn_X5_readSet (l : Launch) (D : va_G) (cB cI cZ : ClassId) (N : Nat) (aK aV : Nat → Nat) (a0 : Nat → Nat) (I0 : Nat → Int32) (M0 : Nat → Nat → Int32) (a1 : Nat → Nat) (I1 : Nat → Int32) (M1 : Nat → Nat → Int32) (sz : Nat) (R : Int32 × (Nat → Int32) × (Nat → Nat → Int32) × (Nat → Int32) × (Nat → Nat → Int32)) (hf : fX5_readSet N I0 M0 I1 M1 = some R) : Met l yX5_readSet wsX5_readSet ({ frames := 7, cells := 0, slots := 0, locals := 186 }) (va_Pc [.ref (a0 0), .ref (a1 0)] (wb_preDE D [(cB, .byte), (cI, .int), (cZ, .boolean)] ((wWX5 cB cI cZ a0 I0 M0) ++ (wWX9 cB cI cZ a1 I1 M1)) sz aK aV)) (va_Qi (fun r (_ : Unit) => r = R.1) (fun _ t => wb_post D [(cB, .byte), (cI, .int), (cZ, .boolean)] (va_A ((wWX5 cB cI cZ a0 I0 M0) ++ (wWX9 cB cI cZ a1 I1 M1)) sz) ((wWX5 cB cI cZ a0 R.2.1 R.2.2.1) ++ (wWX9 cB cI cZ a1 R.2.2.2.1 R.2.2.2.2)) t) (va_A ((wWX5 cB cI cZ a0 I0 M0) ++ (wWX9 cB cI cZ a1 I1 M1)) sz)) 0 0 (va_A ((wWX5 cB cI cZ a0 I0 M0) ++ (wWX9 cB cI cZ a1 I1 M1)) sz) := by
  refine Met.ofW (cc := cX5_readSet) (maxL := 4) (ret := (some .boolean)) pn_X5 rfl ?_
  intro p e s m args below meth c s₁ B hml hv
  obtain ⟨rfl, ⟨hsz, hP, hK, hD0⟩, hZ⟩ := hv
  have hx := B.exec
  have hb := B.bytes
  have hr := B.returns
  have hts := atoms_spec (ws := wsX5_readSet) B.pre
  have hown : s.vm.findClass RX5 = some m.cls := (findClass_of_methodNamed B.named :)
  have hlocks := B.notSynchronized
  have hinX9 : ∀ w ∈ u_ws RX9 TX9 10, w ∈ wsX5_readSet := fun w h => List.mem_cons_of_mem _ (List.mem_append_left _ (List.mem_append_right _ h))
  subst hsz
  have hD := hD0.self (sz := s.heap.size)
  generalize hAe : va_A ((wWX5 cB cI cZ a0 I0 M0) ++ (wWX9 cB cI cZ a1 I1 M1)) s.heap.size = A at hD hZ ⊢
  have hA : ∀ q : Nat, s.heap.size ≤ q → A q := fun q h => by rw [← hAe]; exact Or.inr h
  have hS : va_S A s.heap s.heap [] := va_S.rf
  have hl := lv_entry ([.ref (a0 0), .ref (a1 0)]) (n := 4) (Nat.le_of_ble_eq_true rfl)
  rw [lg_entry_eq]
  generalize (lg_sl ([.ref (a0 0), .ref (a1 0)]) ++ List.replicate (4 - (lg_sl ([.ref (a0 0), .ref (a1 0)])).length) Slot.unset).toArray = ls at hl ⊢
  have hl : lv_has ls 4 [(0, .ref (a0 0)), (1, .ref (a1 0))] := hl
  unfold fX5_readSet at hf
  obtain ⟨H, hHe⟩ : ∃ H : Heap, H = s.heap := ⟨_, rfl⟩
  obtain ⟨locs, hle⟩ : ∃ locs : List Loc, locs = [] := ⟨_, rfl⟩
  refine wb_start (H := H) (locs := locs) hHe hle ?_
  rw [← hHe] at hP
  have hS : va_S A s.heap H locs := by rw [hHe, hle]; exact va_S.rf
  refine lv_aload_n hx hb dX5_readSet_0 rfl (lv_at hl 1 rfl) ?_
  obtain ⟨r1, hr1, hf⟩ := wb_b hf
  have hPc := hP.sub (ws' := (wWX9 cB cI cZ a1 I1 M1)) [9, 10] rfl
  have hDc := hD.sub (ws' := (wWX9 cB cI cZ a1 I1 M1)) [9, 10] (by decide) rfl
  have hFc := va_free (wc := (wWX9 cB cI cZ a1 I1 M1)) hD hS hA [9, 10] rfl
  refine va_callv (va_runV (As := []) (rest := []) ⟨hx, hb, hml, hown, hts⟩ (cn_X9_step l D cB cI cZ N a1 I1 M1 H.size r1 hr1) (cwV 0 hts gX5_readSet_X9_step rfl rfl rfl cdX9_step ⟨Nat.le_of_ble_eq_true rfl, Nat.le_of_ble_eq_true rfl⟩) (wb_preDV hPc hK hDc (wr_9 hK hP (q0 := 9) rfl)) rfl rfl hl.1 rfl (lv_room (Nat.le_of_ble_eq_true rfl)) dX5_readSet_1 ⟨Nat.le_of_ble_eq_true rfl, Nat.le_of_ble_eq_true rfl⟩) hS (fun q _ h => hFc q h) hFc (fun u t H locs ht hvm hw hB hz1 hk1 hS => ?_)
  obtain ⟨hP, hD⟩ := wj_s (wc := (wWX9 cB cI cZ a1 I1 M1)) (w1 := (wWX9 cB cI cZ a1 r1.1 r1.2)) (wf := ((wWX5 cB cI cZ a0 I0 M0) ++ (wWX9 cB cI cZ a1 r1.1 r1.2))) 9 11 hP hD rfl rfl hk1 hFc ht hB
  refine lv_aload_n hx hb dX5_readSet_4 rfl (lv_at hl 1 rfl) ?_
  refine lv_iconst (v := (0 : Int32)) hx hb dX5_readSet_5 (by decide) ?_
  refine lv_iconst (v := (3 : Int32)) hx hb dX5_readSet_6 (by decide) ?_
  obtain ⟨r2, hr2, hf⟩ := wb_b hf
  have hPc := hP.sub (ws' := (wWX9 cB cI cZ a1 r1.1 r1.2)) [9, 10] rfl
  have hDc := hD.sub (ws' := (wWX9 cB cI cZ a1 r1.1 r1.2)) [9, 10] (by decide) rfl
  have hFc := va_free (wc := (wWX9 cB cI cZ a1 r1.1 r1.2)) hD hS hA [9, 10] rfl
  refine va_calli (va_runV (As := [.int (0 : Int32), .int (3 : Int32)]) (rest := []) ⟨hx, hb, hml, hown, hts⟩ (cn_X9_takeNumber l D cB cI cZ N a1 r1.1 r1.2 (0 : Int32) (3 : Int32) H.size r2 hr2) (cwV 2 hts gX5_readSet_X9_takeNumber rfl rfl rfl cdX9_takeNumber ⟨Nat.le_of_ble_eq_true rfl, Nat.le_of_ble_eq_true rfl⟩) (wb_preDV hPc hK hDc (wr_9 hK hP (q0 := 9) rfl)) rfl rfl hl.1 rfl (lv_room (Nat.le_of_ble_eq_true rfl)) dX5_readSet_7 ⟨Nat.le_of_ble_eq_true rfl, Nat.le_of_ble_eq_true rfl⟩) hS (fun q _ h => hFc q h) hFc (fun r9 u t H locs ht hvm hw hB hz1 hk1 hS => ?_)
  obtain ⟨hP, hD⟩ := wj_s (wc := (wWX9 cB cI cZ a1 r1.1 r1.2)) (w1 := (wWX9 cB cI cZ a1 r2.2.1 r2.2.2)) (wf := ((wWX5 cB cI cZ a0 I0 M0) ++ (wWX9 cB cI cZ a1 r2.2.1 r2.2.2))) 9 11 hP hD rfl rfl hk1 hFc ht hB
  rw [hw]
  refine lv_if_ne (tgt := 15) hx hb dX5_readSet_10 (by decide) (fun hc => ?_) (fun hc => ?_)
  · replace hf := wb_f hc hf
    refine lv_aload_n hx hb dX5_readSet_15 rfl (lv_at hl 1 rfl) ?_
    refine va_get (D := D) (ci := 9) (v := .int (r2.2.1 6)) (C := RX9) (T := TX9) (N := 10) hx hb hts hinX9 hown hK hP 9 rfl rfl 7 (by decide) (hts (.fieldLink RX5 94 "WheelBook$Text" "number" "I") (List.mem_of_getElem? (i := 1) rfl)) (fun _ h9 => h9) rfl dX5_readSet_16 ?_
    obtain ⟨v3, ev3, hf⟩ := wb_v hf
    refine wb_topi ev3 ?_
    refine lv_istore_n (lv' := [(2, .int v3), (0, .ref (a0 0)), (1, .ref (a1 0))]) hx hb dX5_readSet_19 rfl hl (by decide) rfl (fun ls hl => ?_)
    refine lv_aload_n hx hb dX5_readSet_20 rfl (lv_at hl 2 rfl) ?_
    refine lv_bipush (v := (7 : Int32)) hx hb dX5_readSet_21 (by decide) ?_
    obtain ⟨r4, hr4, hf⟩ := wb_b hf
    refine vp_callSi (W.runV (As := [.int (7 : Int32)]) (rest := []) ⟨hx, hb, hml, hown, hts⟩ (cn_X9_namedOf l D cB cI cZ N aK aV a1 r2.2.1 r2.2.2 (7 : Int32) r4 hr4) (cwV 1 hts gX5_readSet_X9_namedOf rfl rfl rfl cdX9_namedOf ⟨Nat.le_of_ble_eq_true rfl, Nat.le_of_ble_eq_true rfl⟩) (wb_preEV (hP.sub (ws' := (wWX9 cB cI cZ a1 r2.2.1 r2.2.2)) [9, 10] rfl) hK (wr_9 hK hP (q0 := 9) rfl) hZ hS) rfl rfl hl.1 rfl (lv_room (Nat.le_of_ble_eq_true rfl)) dX5_readSet_23 ⟨Nat.le_of_ble_eq_true rfl, Nat.le_of_ble_eq_true rfl⟩) (fun r9 e9 => ?_)
    rw [e9]
    refine lv_istore_n (lv' := [(3, .int r4), (2, .int v3), (0, .ref (a0 0)), (1, .ref (a1 0))]) hx hb dX5_readSet_26 rfl hl (by decide) rfl (fun ls hl => ?_)
    refine lv_iload_n hx hb dX5_readSet_27 rfl (lv_at hl 0 rfl) ?_
    refine lv_iconst (v := (-1 : Int32)) hx hb dX5_readSet_28 (by decide) ?_
    refine lv_icmp_ne (tgt := 38) hx hb dX5_readSet_29 (by decide) (fun hc => ?_) (fun hc => ?_)
    · replace hf := wb_f hc hf
      refine lv_aload_n hx hb dX5_readSet_38 rfl (lv_at hl 3 rfl) ?_
      obtain ⟨r5, hr5, hf⟩ := wb_b hf
      have hPc := hP.sub (ws' := (wWX9 cB cI cZ a1 r2.2.1 r2.2.2)) [9, 10] rfl
      have hDc := hD.sub (ws' := (wWX9 cB cI cZ a1 r2.2.1 r2.2.2)) [9, 10] (by decide) rfl
      have hFc := va_free (wc := (wWX9 cB cI cZ a1 r2.2.1 r2.2.2)) hD hS hA [9, 10] rfl
      refine va_callv (va_runV (As := []) (rest := []) ⟨hx, hb, hml, hown, hts⟩ (cn_X9_step l D cB cI cZ N a1 r2.2.1 r2.2.2 H.size r5 hr5) (cwV 0 hts gX5_readSet_X9_step rfl rfl rfl cdX9_step ⟨Nat.le_of_ble_eq_true rfl, Nat.le_of_ble_eq_true rfl⟩) (wb_preDV hPc hK hDc (wr_9 hK hP (q0 := 9) rfl)) rfl rfl hl.1 rfl (lv_room (Nat.le_of_ble_eq_true rfl)) dX5_readSet_39 ⟨Nat.le_of_ble_eq_true rfl, Nat.le_of_ble_eq_true rfl⟩) hS (fun q _ h => hFc q h) hFc (fun u t H locs ht hvm hw hB hz1 hk1 hS => ?_)
      obtain ⟨hP, hD⟩ := wj_s (wc := (wWX9 cB cI cZ a1 r2.2.1 r2.2.2)) (w1 := (wWX9 cB cI cZ a1 r5.1 r5.2)) (wf := ((wWX5 cB cI cZ a0 I0 M0) ++ (wWX9 cB cI cZ a1 r5.1 r5.2))) 9 11 hP hD rfl rfl hk1 hFc ht hB
      refine lv_aload_n hx hb dX5_readSet_42 rfl (lv_at hl 2 rfl) ?_
      refine lv_aload_n hx hb dX5_readSet_43 rfl (lv_at hl 3 rfl) ?_
      refine lv_bipush (v := (7 : Int32)) hx hb dX5_readSet_44 (by decide) ?_
      refine lv_iload_n hx hb dX5_readSet_46 rfl (lv_at hl 1 rfl) ?_
      refine lv_imul hx hb dX5_readSet_47 ?_
      refine lv_iload_n hx hb dX5_readSet_48 rfl (lv_at hl 0 rfl) ?_
      refine lv_iadd hx hb dX5_readSet_49 ?_
      obtain ⟨r6, hr6, hf⟩ := wb_b hf
      have hPc := hP
      have hDc := hD
      have hFc := wj_F hDc hS hA
      refine va_calli (va_runV (As := [.ref (a1 0), .int (((7 : Int32) * v3) + r4)]) (rest := []) ⟨hx, hb, hml, hown, hts⟩ (cn_X5_readTable l D cB cI cZ N aK aV a0 I0 M0 a1 r5.1 r5.2 (((7 : Int32) * v3) + r4) H.size r6 hr6) (cwV 2 hts gX5_readSet_X5_readTable rfl rfl rfl cdX5_readTable ⟨Nat.le_of_ble_eq_true rfl, Nat.le_of_ble_eq_true rfl⟩) (wb_preDEV hPc hK hDc (wr_5 hK hP (q0 := 0) rfl) hZ hS hFc) rfl rfl hl.1 rfl (lv_room (Nat.le_of_ble_eq_true rfl)) dX5_readSet_50 ⟨Nat.le_of_ble_eq_true rfl, Nat.le_of_ble_eq_true rfl⟩) hS (fun q _ h => hFc q h) hFc (fun r9 u t H locs ht hvm hw hB hz1 hk1 hS => ?_)
      obtain ⟨hP, hD⟩ := wj_0 hFc ht hB
      rw [hw]
      refine lv_if_eq (tgt := 67) hx hb dX5_readSet_53 (by decide) (fun hc => ?_) (fun hc => ?_)
      · replace hf := wb_t hc hf
        refine lv_iconst (v := (0 : Int32)) hx hb dX5_readSet_67 (by decide) ?_
        exact W.zret (v := (0 : Int32)) hx hb hr (by decide) (fun t ht hW => by rw [← Option.some.inj hf]; exact ⟨⟨(0 : Int32), (), rfl, rfl, by rw [ht]; exact hP, va_K.moved hW.alike hK, hD⟩, hS.F ht⟩) hS.2.2 dX5_readSet_68
      · replace hf := wb_f hc hf
        refine lv_aload_n hx hb dX5_readSet_56 rfl (lv_at hl 3 rfl) ?_
        obtain ⟨r7, hr7, hf⟩ := wb_b hf
        have hPc := hP.sub (ws' := (wWX9 cB cI cZ a1 r6.2.2.2.1 r6.2.2.2.2)) [9, 10] rfl
        have hDc := hD.sub (ws' := (wWX9 cB cI cZ a1 r6.2.2.2.1 r6.2.2.2.2)) [9, 10] (by decide) rfl
        have hFc := va_free (wc := (wWX9 cB cI cZ a1 r6.2.2.2.1 r6.2.2.2.2)) hD hS hA [9, 10] rfl
        refine va_calli (va_runV (As := []) (rest := []) ⟨hx, hb, hml, hown, hts⟩ (cn_X9_takeStop l D cB cI cZ N a1 r6.2.2.2.1 r6.2.2.2.2 H.size r7 hr7) (cwV 0 hts gX5_readSet_X9_takeStop rfl rfl rfl cdX9_takeStop ⟨Nat.le_of_ble_eq_true rfl, Nat.le_of_ble_eq_true rfl⟩) (wb_preDV hPc hK hDc (wr_9 hK hP (q0 := 9) rfl)) rfl rfl hl.1 rfl (lv_room (Nat.le_of_ble_eq_true rfl)) dX5_readSet_57 ⟨Nat.le_of_ble_eq_true rfl, Nat.le_of_ble_eq_true rfl⟩) hS (fun q _ h => hFc q h) hFc (fun r9 u t H locs ht hvm hw hB hz1 hk1 hS => ?_)
        obtain ⟨hP, hD⟩ := wj_s (wc := (wWX9 cB cI cZ a1 r6.2.2.2.1 r6.2.2.2.2)) (w1 := (wWX9 cB cI cZ a1 r7.2.1 r7.2.2)) (wf := ((wWX5 cB cI cZ a0 r6.2.1 r6.2.2.1) ++ (wWX9 cB cI cZ a1 r7.2.1 r7.2.2))) 9 11 hP hD rfl rfl hk1 hFc ht hB
        rw [hw]
        refine lv_if_eq (tgt := 67) hx hb dX5_readSet_60 (by decide) (fun hc => ?_) (fun hc => ?_)
        · replace hf := wb_t hc hf
          refine lv_iconst (v := (0 : Int32)) hx hb dX5_readSet_67 (by decide) ?_
          exact W.zret (v := (0 : Int32)) hx hb hr (by decide) (fun t ht hW => by rw [← Option.some.inj hf]; exact ⟨⟨(0 : Int32), (), rfl, rfl, by rw [ht]; exact hP, va_K.moved hW.alike hK, hD⟩, hS.F ht⟩) hS.2.2 dX5_readSet_68
        · replace hf := wb_f hc hf
          refine lv_iconst (v := (1 : Int32)) hx hb dX5_readSet_63 (by decide) ?_
          refine lv_goto (tgt := 68) hx hb dX5_readSet_64 (by decide) ?_
          exact W.zret (v := (1 : Int32)) hx hb hr (by decide) (fun t ht hW => by rw [← Option.some.inj hf]; exact ⟨⟨(1 : Int32), (), rfl, rfl, by rw [ht]; exact hP, va_K.moved hW.alike hK, hD⟩, hS.F ht⟩) hS.2.2 dX5_readSet_68
    · replace hf := wb_t hc hf
      refine lv_aload_n hx hb dX5_readSet_32 rfl (lv_at hl 3 rfl) ?_
      refine lv_iconst (v := (1 : Int32)) hx hb dX5_readSet_33 (by decide) ?_
      obtain ⟨r8, hr8, hf⟩ := wb_b hf
      have hPc := hP.sub (ws' := (wWX9 cB cI cZ a1 r2.2.1 r2.2.2)) [9, 10] rfl
      have hDc := hD.sub (ws' := (wWX9 cB cI cZ a1 r2.2.1 r2.2.2)) [9, 10] (by decide) rfl
      have hFc := va_free (wc := (wWX9 cB cI cZ a1 r2.2.1 r2.2.2)) hD hS hA [9, 10] rfl
      refine va_calli (va_runV (As := [.int (1 : Int32)]) (rest := []) ⟨hx, hb, hml, hown, hts⟩ (cn_X9_refuse l D cB cI cZ N a1 r2.2.1 r2.2.2 (1 : Int32) H.size r8 hr8) (cwV 1 hts gX5_readSet_X9_refuse rfl rfl rfl cdX9_refuse ⟨Nat.le_of_ble_eq_true rfl, Nat.le_of_ble_eq_true rfl⟩) (wb_preDV hPc hK hDc (wr_9 hK hP (q0 := 9) rfl)) rfl rfl hl.1 rfl (lv_room (Nat.le_of_ble_eq_true rfl)) dX5_readSet_34 ⟨Nat.le_of_ble_eq_true rfl, Nat.le_of_ble_eq_true rfl⟩) hS (fun q _ h => hFc q h) hFc (fun r9 u t H locs ht hvm hw hB hz1 hk1 hS => ?_)
      obtain ⟨hP, hD⟩ := wj_s (wc := (wWX9 cB cI cZ a1 r2.2.1 r2.2.2)) (w1 := (wWX9 cB cI cZ a1 r8.2.1 r8.2.2)) (wf := ((wWX5 cB cI cZ a0 I0 M0) ++ (wWX9 cB cI cZ a1 r8.2.1 r8.2.2))) 9 11 hP hD rfl rfl hk1 hFc ht hB
      rw [hw]
      obtain ⟨hz, hf⟩ := wb_y hf
      exact W.zret (v := r8.1) hx hb hr (congrArg Value.int hz) (fun t ht hW => by rw [← Option.some.inj hf]; exact ⟨⟨r8.1, (), rfl, rfl, by rw [ht]; exact hP, va_K.moved hW.alike hK, hD⟩, hS.F ht⟩) hS.2.2 dX5_readSet_37
  · replace hf := wb_t hc hf
    refine lv_iconst (v := (0 : Int32)) hx hb dX5_readSet_13 (by decide) ?_
    exact W.zret (v := (0 : Int32)) hx hb hr (by decide) (fun t ht hW => by rw [← Option.some.inj hf]; exact ⟨⟨(0 : Int32), (), rfl, rfl, by rw [ht]; exact hP, va_K.moved hW.alike hK, hD⟩, hS.F ht⟩) hS.2.2 dX5_readSet_14

set_option maxHeartbeats 4000000 in
set_option maxRecDepth 100000 in
theorem cn_X5_readLines (l : Launch) (D : va_G) (cB cI cZ : ClassId) (N : Nat) (aK aV : Nat → Nat) (a0 : Nat → Nat) (I0 : Nat → Int32) (M0 : Nat → Nat → Int32) (a1 : Nat → Nat) (I1 : Nat → Int32) (M1 : Nat → Nat → Int32) (sz : Nat) (R : Int32 × (Nat → Int32) × (Nat → Nat → Int32) × (Nat → Int32) × (Nat → Nat → Int32)) (hf : fX5_readLines N I0 M0 I1 M1 = some R) : Met l yX5_readLines wsX5_readLines ({ frames := 8, cells := 0, slots := 0, locals := 209 }) (va_Pc [.ref (a0 0), .ref (a1 0)] (wb_preDE D [(cB, .byte), (cI, .int), (cZ, .boolean)] ((wWX5 cB cI cZ a0 I0 M0) ++ (wWX9 cB cI cZ a1 I1 M1)) sz aK aV)) (va_Qi (fun r (_ : Unit) => r = R.1) (fun _ t => wb_post D [(cB, .byte), (cI, .int), (cZ, .boolean)] (va_A ((wWX5 cB cI cZ a0 I0 M0) ++ (wWX9 cB cI cZ a1 I1 M1)) sz) ((wWX5 cB cI cZ a0 R.2.1 R.2.2.1) ++ (wWX9 cB cI cZ a1 R.2.2.2.1 R.2.2.2.2)) t) (va_A ((wWX5 cB cI cZ a0 I0 M0) ++ (wWX9 cB cI cZ a1 I1 M1)) sz)) 0 0 (va_A ((wWX5 cB cI cZ a0 I0 M0) ++ (wWX9 cB cI cZ a1 I1 M1)) sz) := by
  refine Met.ofW (cc := cX5_readLines) (maxL := 4) (ret := (some .boolean)) pn_X5 rfl ?_
  intro p e s m args below meth c s₁ B hml hv
  obtain ⟨rfl, ⟨hsz, hP, hK, hD0⟩, hZ⟩ := hv
  have hx := B.exec
  have hb := B.bytes
  have hr := B.returns
  have hts := atoms_spec (ws := wsX5_readLines) B.pre
  have hown : s.vm.findClass RX5 = some m.cls := (findClass_of_methodNamed B.named :)
  have hlocks := B.notSynchronized
  have hinX5 : ∀ w ∈ u_ws RX5 TX5 6, w ∈ wsX5_readLines := fun w h => List.mem_cons_of_mem _ (List.mem_append_left _ (List.mem_append_left _ (List.mem_append_left _ (List.mem_append_right _ h))))
  subst hsz
  have hD := hD0.self (sz := s.heap.size)
  generalize hAe : va_A ((wWX5 cB cI cZ a0 I0 M0) ++ (wWX9 cB cI cZ a1 I1 M1)) s.heap.size = A at hD hZ ⊢
  have hA : ∀ q : Nat, s.heap.size ≤ q → A q := fun q h => by rw [← hAe]; exact Or.inr h
  have hS : va_S A s.heap s.heap [] := va_S.rf
  have hl := lv_entry ([.ref (a0 0), .ref (a1 0)]) (n := 4) (Nat.le_of_ble_eq_true rfl)
  rw [lg_entry_eq]
  generalize (lg_sl ([.ref (a0 0), .ref (a1 0)]) ++ List.replicate (4 - (lg_sl ([.ref (a0 0), .ref (a1 0)])).length) Slot.unset).toArray = ls at hl ⊢
  have hl : lv_has ls 4 [(0, .ref (a0 0)), (1, .ref (a1 0))] := hl
  unfold fX5_readLines at hf
  obtain ⟨H, hHe⟩ : ∃ H : Heap, H = s.heap := ⟨_, rfl⟩
  obtain ⟨locs, hle⟩ : ∃ locs : List Loc, locs = [] := ⟨_, rfl⟩
  refine wb_start (H := H) (locs := locs) hHe hle ?_
  rw [← hHe] at hP
  have hS : va_S A s.heap H locs := by rw [hHe, hle]; exact va_S.rf
  refine lv_iconst (v := (1 : Int32)) hx hb dX5_readLines_0 (by decide) ?_
  refine lv_istore_n (lv' := [(2, .int (1 : Int32)), (0, .ref (a0 0)), (1, .ref (a1 0))]) hx hb dX5_readLines_1 rfl hl (by decide) rfl (fun ls hl => ?_)
  refine lv_iconst (v := (0 : Int32)) hx hb dX5_readLines_2 (by decide) ?_
  refine lv_istore_n (lv' := [(3, .int (0 : Int32)), (2, .int (1 : Int32)), (0, .ref (a0 0)), (1, .ref (a1 0))]) hx hb dX5_readLines_3 rfl hl (by decide) rfl (fun ls hl => ?_)
  have L4 : ∀ (fu4 : Nat) (I0_l4 : Nat → Int32) (M0_l4 : Nat → Nat → Int32) (I1_l4 : Nat → Int32) (M1_l4 : Nat → Nat → Int32) (y4_2 : Int32) (y4_3 : Int32) (H : Heap) (locs : List Loc), va_P D vwCl ((wWX5 cB cI cZ a0 I0_l4 M0_l4) ++ (wWX9 cB cI cZ a1 I1_l4 M1_l4)) H → va_D A ((wWX5 cB cI cZ a0 I0_l4 M0_l4) ++ (wWX9 cB cI cZ a1 I1_l4 M1_l4)) → va_S A s.heap H locs → ∀ (ls : Array Slot), lv_has ls 4 [(0, .ref (a0 0)), (1, .ref (a1 0)), (2, .int y4_2), (3, .int y4_3)] → fX5_readLines_L4 N fu4 I0_l4 M0_l4 I1_l4 M1_l4 y4_2 y4_3 = some R → W p l e (headSpec wsX5_readLines { frames := 8, cells := 0, slots := 0, locals := 209 }).room s m [.ref (a0 0), .ref (a1 0)].toArray below meth c H locs 0 0 (MQ below (va_Qi (fun r (_ : Unit) => r = R.1) (fun _ t => wb_post D [(cB, .byte), (cI, .int), (cZ, .boolean)] A ((wWX5 cB cI cZ a0 R.2.1 R.2.2.1) ++ (wWX9 cB cI cZ a1 R.2.2.2.1 R.2.2.2.2)) t) A) [.ref (a0 0), .ref (a1 0)].toArray s 0 0 A) (F0 m 4 ls []) := by
    intro fu4
    induction fu4 with
    | zero =>
      intro I0_l4 M0_l4 I1_l4 M1_l4 y4_2 y4_3 H locs hP hD hS ls hl hf
      exact absurd hf (by rw [fX5_readLines_L4.eq_1]; exact fun h => nomatch h)
    | succ fu4 ih4 =>
      intro I0_l4 M0_l4 I1_l4 M1_l4 y4_2 y4_3 H locs hP hD hS ls hl hf
      rw [fX5_readLines_L4.eq_2] at hf
      refine lv_iload_n hx hb dX5_readLines_4 rfl (lv_at hl 3 rfl) ?_
      refine lv_sipush (v := (600 : Int32)) hx hb dX5_readLines_5 (by decide) ?_
      refine lv_icmp_ge (tgt := 94) hx hb dX5_readLines_8 (by decide) (fun hc => ?_) (fun hc => ?_)
      · replace hf := wb_t hc hf
        refine lv_iload_n hx hb dX5_readLines_94 rfl (lv_at hl 2 rfl) ?_
        obtain ⟨hz, hf⟩ := wb_y hf
        exact W.zret (v := y4_2) hx hb hr (congrArg Value.int hz) (fun t ht hW => by rw [← Option.some.inj hf]; exact ⟨⟨y4_2, (), rfl, rfl, by rw [ht]; exact hP, va_K.moved hW.alike hK, hD⟩, hS.F ht⟩) hS.2.2 dX5_readLines_95
      · replace hf := wb_f hc hf
        refine lv_iload_n hx hb dX5_readLines_11 rfl (lv_at hl 2 rfl) ?_
        refine lv_if_eq (tgt := 94) hx hb dX5_readLines_12 (by decide) (fun hc => ?_) (fun hc => ?_)
        · replace hf := wb_t hc hf
          refine lv_iload_n hx hb dX5_readLines_94 rfl (lv_at hl 2 rfl) ?_
          obtain ⟨hz, hf⟩ := wb_y hf
          exact W.zret (v := y4_2) hx hb hr (congrArg Value.int hz) (fun t ht hW => by rw [← Option.some.inj hf]; exact ⟨⟨y4_2, (), rfl, rfl, by rw [ht]; exact hP, va_K.moved hW.alike hK, hD⟩, hS.F ht⟩) hS.2.2 dX5_readLines_95
        · replace hf := wb_f hc hf
          refine lv_aload_n hx hb dX5_readLines_15 rfl (lv_at hl 1 rfl) ?_
          obtain ⟨r1, hr1, hf⟩ := wb_b hf
          refine vp_callSi (W.runV (As := []) (rest := []) ⟨hx, hb, hml, hown, hts⟩ (cn_X9_isAtEnd l D cB cI cZ N a1 I1_l4 M1_l4 r1 hr1) (cwV 0 hts gX5_readLines_X9_isAtEnd rfl rfl rfl cdX9_isAtEnd ⟨Nat.le_of_ble_eq_true rfl, Nat.le_of_ble_eq_true rfl⟩) (wb_preV (hP.sub (ws' := (wWX9 cB cI cZ a1 I1_l4 M1_l4)) [9, 10] rfl) hK (wr_9 hK hP (q0 := 9) rfl)) rfl rfl hl.1 rfl (lv_room (Nat.le_of_ble_eq_true rfl)) dX5_readLines_16 ⟨Nat.le_of_ble_eq_true rfl, Nat.le_of_ble_eq_true rfl⟩) (fun r9 e9 => ?_)
          rw [e9]
          refine lv_if_ne (tgt := 94) hx hb dX5_readLines_19 (by decide) (fun hc => ?_) (fun hc => ?_)
          · replace hf := wb_f hc hf
            refine lv_iload_n hx hb dX5_readLines_94 rfl (lv_at hl 2 rfl) ?_
            obtain ⟨hz, hf⟩ := wb_y hf
            exact W.zret (v := y4_2) hx hb hr (congrArg Value.int hz) (fun t ht hW => by rw [← Option.some.inj hf]; exact ⟨⟨y4_2, (), rfl, rfl, by rw [ht]; exact hP, va_K.moved hW.alike hK, hD⟩, hS.F ht⟩) hS.2.2 dX5_readLines_95
          · replace hf := wb_t hc hf
            refine lv_aload_n hx hb dX5_readLines_22 rfl (lv_at hl 1 rfl) ?_
            refine va_ldcS hx hb hown (hZ.2.1 3 (RX5, 63, "set") rfl) dX5_readLines_23 ?_
            obtain ⟨r2, hr2, hf⟩ := wb_b hf
            refine vp_callSi (W.runV (As := [.ref (aK 3)]) (rest := []) ⟨hx, hb, hml, hown, hts⟩ (cn_X9_isWord l D cB cI cZ N aK aV a1 I1_l4 M1_l4 3 (by decide) r2 hr2) (cwV 1 hts gX5_readLines_X9_isWord rfl rfl rfl cdX9_isWord ⟨Nat.le_of_ble_eq_true rfl, Nat.le_of_ble_eq_true rfl⟩) (wb_preEV (hP.sub (ws' := (wWX9 cB cI cZ a1 I1_l4 M1_l4)) [9, 10] rfl) hK (wr_9 hK hP (q0 := 9) rfl) hZ hS) rfl rfl hl.1 rfl (lv_room (Nat.le_of_ble_eq_true rfl)) dX5_readLines_25 ⟨Nat.le_of_ble_eq_true rfl, Nat.le_of_ble_eq_true rfl⟩) (fun r9 e9 => ?_)
            rw [e9]
            refine lv_if_eq (tgt := 40) hx hb dX5_readLines_28 (by decide) (fun hc => ?_) (fun hc => ?_)
            · replace hf := wb_t hc hf
              refine lv_aload_n hx hb dX5_readLines_40 rfl (lv_at hl 1 rfl) ?_
              refine va_ldcS hx hb hown (hZ.2.1 4 (RX5, 73, "climate") rfl) dX5_readLines_41 ?_
              obtain ⟨r3, hr3, hf⟩ := wb_b hf
              refine vp_callSi (W.runV (As := [.ref (aK 4)]) (rest := []) ⟨hx, hb, hml, hown, hts⟩ (cn_X9_isWord l D cB cI cZ N aK aV a1 I1_l4 M1_l4 4 (by decide) r3 hr3) (cwV 1 hts gX5_readLines_X9_isWord rfl rfl rfl cdX9_isWord ⟨Nat.le_of_ble_eq_true rfl, Nat.le_of_ble_eq_true rfl⟩) (wb_preEV (hP.sub (ws' := (wWX9 cB cI cZ a1 I1_l4 M1_l4)) [9, 10] rfl) hK (wr_9 hK hP (q0 := 9) rfl) hZ hS) rfl rfl hl.1 rfl (lv_room (Nat.le_of_ble_eq_true rfl)) dX5_readLines_43 ⟨Nat.le_of_ble_eq_true rfl, Nat.le_of_ble_eq_true rfl⟩) (fun r9 e9 => ?_)
              rw [e9]
              refine lv_if_eq (tgt := 61) hx hb dX5_readLines_46 (by decide) (fun hc => ?_) (fun hc => ?_)
              · replace hf := wb_t hc hf
                refine lv_aload_n hx hb dX5_readLines_61 rfl (lv_at hl 1 rfl) ?_
                refine va_ldcS hx hb hown (hZ.2.1 5 (RX5, 78, "hand") rfl) dX5_readLines_62 ?_
                obtain ⟨r4, hr4, hf⟩ := wb_b hf
                refine vp_callSi (W.runV (As := [.ref (aK 5)]) (rest := []) ⟨hx, hb, hml, hown, hts⟩ (cn_X9_isWord l D cB cI cZ N aK aV a1 I1_l4 M1_l4 5 (by decide) r4 hr4) (cwV 1 hts gX5_readLines_X9_isWord rfl rfl rfl cdX9_isWord ⟨Nat.le_of_ble_eq_true rfl, Nat.le_of_ble_eq_true rfl⟩) (wb_preEV (hP.sub (ws' := (wWX9 cB cI cZ a1 I1_l4 M1_l4)) [9, 10] rfl) hK (wr_9 hK hP (q0 := 9) rfl) hZ hS) rfl rfl hl.1 rfl (lv_room (Nat.le_of_ble_eq_true rfl)) dX5_readLines_64 ⟨Nat.le_of_ble_eq_true rfl, Nat.le_of_ble_eq_true rfl⟩) (fun r9 e9 => ?_)
                rw [e9]
                refine lv_if_eq (tgt := 82) hx hb dX5_readLines_67 (by decide) (fun hc => ?_) (fun hc => ?_)
                · replace hf := wb_t hc hf
                  refine lv_aload_n hx hb dX5_readLines_82 rfl (lv_at hl 1 rfl) ?_
                  refine lv_iconst (v := (1 : Int32)) hx hb dX5_readLines_83 (by decide) ?_
                  obtain ⟨r5, hr5, hf⟩ := wb_b hf
                  have hPc := hP.sub (ws' := (wWX9 cB cI cZ a1 I1_l4 M1_l4)) [9, 10] rfl
                  have hDc := hD.sub (ws' := (wWX9 cB cI cZ a1 I1_l4 M1_l4)) [9, 10] (by decide) rfl
                  have hFc := va_free (wc := (wWX9 cB cI cZ a1 I1_l4 M1_l4)) hD hS hA [9, 10] rfl
                  refine va_calli (va_runV (As := [.int (1 : Int32)]) (rest := []) ⟨hx, hb, hml, hown, hts⟩ (cn_X9_refuse l D cB cI cZ N a1 I1_l4 M1_l4 (1 : Int32) H.size r5 hr5) (cwV 1 hts gX5_readLines_X9_refuse rfl rfl rfl cdX9_refuse ⟨Nat.le_of_ble_eq_true rfl, Nat.le_of_ble_eq_true rfl⟩) (wb_preDV hPc hK hDc (wr_9 hK hP (q0 := 9) rfl)) rfl rfl hl.1 rfl (lv_room (Nat.le_of_ble_eq_true rfl)) dX5_readLines_84 ⟨Nat.le_of_ble_eq_true rfl, Nat.le_of_ble_eq_true rfl⟩) hS (fun q _ h => hFc q h) hFc (fun r9 u t H locs ht hvm hw hB hz1 hk1 hS => ?_)
                  obtain ⟨hP, hD⟩ := wj_s (wc := (wWX9 cB cI cZ a1 I1_l4 M1_l4)) (w1 := (wWX9 cB cI cZ a1 r5.2.1 r5.2.2)) (wf := ((wWX5 cB cI cZ a0 I0_l4 M0_l4) ++ (wWX9 cB cI cZ a1 r5.2.1 r5.2.2))) 9 11 hP hD rfl rfl hk1 hFc ht hB
                  rw [hw]
                  obtain ⟨v6, ev6, hf⟩ := wb_v hf
                  refine wb_topi ev6 ?_
                  refine lv_istore_n (lv' := [(2, .int v6), (0, .ref (a0 0)), (1, .ref (a1 0)), (3, .int y4_3)]) hx hb dX5_readLines_87 rfl hl (by decide) rfl (fun ls hl => ?_)
                  obtain ⟨v7, ev7, hf⟩ := wb_v hf
                  refine lv_iinc (v := v7) (lv' := [(3, .int v7), (2, .int v6), (0, .ref (a0 0)), (1, .ref (a1 0))]) hx hb dX5_readLines_88 hl (k := 3) rfl (by rw [ev7]; rfl) (by decide) rfl (fun ls hl => ?_)
                  refine lv_goto (tgt := 4) hx hb dX5_readLines_91 (by decide) ?_
                  exact ih4 I0_l4 M0_l4 r5.2.1 r5.2.2 v6 v7 H locs hP hD hS ls (lv_sub hl [2, 3, 1, 0] rfl) hf
                · replace hf := wb_f hc hf
                  refine lv_aload_n hx hb dX5_readLines_70 rfl (lv_at hl 0 rfl) ?_
                  refine va_get (D := D) (ci := 5) (v := .ref (a0 7)) (C := RX5) (T := TX5) (N := 6) hx hb hts hinX5 hown hK hP 0 rfl rfl 5 (by decide) (hts (.fieldLink RX5 34 "WheelBook$House" "hands" "LWheelBook$Hands;") (List.mem_of_getElem? (i := 2) rfl)) (fun _ h9 => h9) rfl dX5_readLines_71 ?_
                  refine lv_aload_n hx hb dX5_readLines_74 rfl (lv_at hl 1 rfl) ?_
                  obtain ⟨r8, hr8, hf⟩ := wb_b hf
                  have hPc := hP.sub (ws' := ((wWX4 cB cI cZ (wb_sh a0 7) (wb_sh I0_l4 1) (wb_sh M0_l4 5)) ++ (wWX9 cB cI cZ a1 I1_l4 M1_l4))) [7, 8, 9, 10] rfl
                  have hDc := hD.sub (ws' := ((wWX4 cB cI cZ (wb_sh a0 7) (wb_sh I0_l4 1) (wb_sh M0_l4 5)) ++ (wWX9 cB cI cZ a1 I1_l4 M1_l4))) [7, 8, 9, 10] (by decide) rfl
                  have hFc := va_free (wc := ((wWX4 cB cI cZ (wb_sh a0 7) (wb_sh I0_l4 1) (wb_sh M0_l4 5)) ++ (wWX9 cB cI cZ a1 I1_l4 M1_l4))) hD hS hA [7, 8, 9, 10] rfl
                  refine va_calli (va_runV (As := [.ref (a1 0)]) (rest := []) ⟨hx, hb, hml, hown, hts⟩ (cn_X4_readHand l D cB cI cZ N aK aV (wb_sh a0 7) (wb_sh I0_l4 1) (wb_sh M0_l4 5) a1 I1_l4 M1_l4 H.size r8 hr8) (cwV 1 hts gX5_readLines_X4_readHand rfl rfl rfl cdX4_readHand ⟨Nat.le_of_ble_eq_true rfl, Nat.le_of_ble_eq_true rfl⟩) (wb_preDEV hPc hK hDc (wr_4 hK hP (q0 := 7) rfl) hZ hS hFc) rfl rfl hl.1 rfl (lv_room (Nat.le_of_ble_eq_true rfl)) dX5_readLines_75 ⟨Nat.le_of_ble_eq_true rfl, Nat.le_of_ble_eq_true rfl⟩) hS (fun q _ h => hFc q h) hFc (fun r9 u t H locs ht hvm hw hB hz1 hk1 hS => ?_)
                  obtain ⟨hP, hD⟩ := wj_s (wc := ((wWX4 cB cI cZ (wb_sh a0 7) (wb_sh I0_l4 1) (wb_sh M0_l4 5)) ++ (wWX9 cB cI cZ a1 I1_l4 M1_l4))) (w1 := ((wWX4 cB cI cZ (wb_sh a0 7) r8.2.1 r8.2.2.1) ++ (wWX9 cB cI cZ a1 r8.2.2.2.1 r8.2.2.2.2))) (wf := ((wWX5 cB cI cZ a0 (wb_in I0_l4 1 1 r8.2.1) (wb_in M0_l4 5 1 r8.2.2.1)) ++ (wWX9 cB cI cZ a1 r8.2.2.2.1 r8.2.2.2.2))) 7 11 hP hD rfl rfl hk1 hFc ht hB
                  rw [hw]
                  obtain ⟨I0_9, eI0_9, hf⟩ := wb_v hf
                  rw [← eI0_9] at hP hD
                  obtain ⟨M0_10, eM0_10, hf⟩ := wb_v hf
                  rw [← eM0_10] at hP hD
                  obtain ⟨v11, ev11, hf⟩ := wb_v hf
                  refine wb_topi ev11 ?_
                  refine lv_istore_n (lv' := [(2, .int v11), (0, .ref (a0 0)), (1, .ref (a1 0)), (3, .int y4_3)]) hx hb dX5_readLines_78 rfl hl (by decide) rfl (fun ls hl => ?_)
                  refine lv_goto (tgt := 88) hx hb dX5_readLines_79 (by decide) ?_
                  obtain ⟨v12, ev12, hf⟩ := wb_v hf
                  refine lv_iinc (v := v12) (lv' := [(3, .int v12), (2, .int v11), (0, .ref (a0 0)), (1, .ref (a1 0))]) hx hb dX5_readLines_88 hl (k := 3) rfl (by rw [ev12]; rfl) (by decide) rfl (fun ls hl => ?_)
                  refine lv_goto (tgt := 4) hx hb dX5_readLines_91 (by decide) ?_
                  exact ih4 I0_9 M0_10 r8.2.2.2.1 r8.2.2.2.2 v11 v12 H locs hP hD hS ls (lv_sub hl [2, 3, 1, 0] rfl) hf
              · replace hf := wb_f hc hf
                refine lv_aload_n hx hb dX5_readLines_49 rfl (lv_at hl 0 rfl) ?_
                refine va_get (D := D) (ci := 5) (v := .ref (a0 5)) (C := RX5) (T := TX5) (N := 6) hx hb hts hinX5 hown hK hP 0 rfl rfl 4 (by decide) (hts (.fieldLink RX5 27 "WheelBook$House" "climates" "LWheelBook$Climates;") (List.mem_of_getElem? (i := 1) rfl)) (fun _ h9 => h9) rfl dX5_readLines_50 ?_
                refine lv_aload_n hx hb dX5_readLines_53 rfl (lv_at hl 1 rfl) ?_
                obtain ⟨r13, hr13, hf⟩ := wb_b hf
                have hPc := hP.sub (ws' := ((wWX2 cB cI cZ (wb_sh a0 5) I0_l4 (wb_sh M0_l4 4)) ++ (wWX9 cB cI cZ a1 I1_l4 M1_l4))) [5, 6, 9, 10] rfl
                have hDc := hD.sub (ws' := ((wWX2 cB cI cZ (wb_sh a0 5) I0_l4 (wb_sh M0_l4 4)) ++ (wWX9 cB cI cZ a1 I1_l4 M1_l4))) [5, 6, 9, 10] (by decide) rfl
                have hFc := va_free (wc := ((wWX2 cB cI cZ (wb_sh a0 5) I0_l4 (wb_sh M0_l4 4)) ++ (wWX9 cB cI cZ a1 I1_l4 M1_l4))) hD hS hA [5, 6, 9, 10] rfl
                refine va_calli (va_runV (As := [.ref (a1 0)]) (rest := []) ⟨hx, hb, hml, hown, hts⟩ (cn_X2_readClimate l D cB cI cZ N (wb_sh a0 5) I0_l4 (wb_sh M0_l4 4) a1 I1_l4 M1_l4 H.size r13 hr13) (cwV 1 hts gX5_readLines_X2_readClimate rfl rfl rfl cdX2_readClimate ⟨Nat.le_of_ble_eq_true rfl, Nat.le_of_ble_eq_true rfl⟩) (wb_preDV hPc hK hDc (wr_2 hK hP (q0 := 5) rfl)) rfl rfl hl.1 rfl (lv_room (Nat.le_of_ble_eq_true rfl)) dX5_readLines_54 ⟨Nat.le_of_ble_eq_true rfl, Nat.le_of_ble_eq_true rfl⟩) hS (fun q _ h => hFc q h) hFc (fun r9 u t H locs ht hvm hw hB hz1 hk1 hS => ?_)
                obtain ⟨hP, hD⟩ := wj_ab (a := (wWX2 cB cI cZ (wb_sh a0 5) I0_l4 (wb_sh M0_l4 4))) (b := (wWX9 cB cI cZ a1 I1_l4 M1_l4)) (a' := (wWX2 cB cI cZ (wb_sh a0 5) r13.2.1 r13.2.2.1)) (b' := (wWX9 cB cI cZ a1 r13.2.2.2.1 r13.2.2.2.2)) (wf := ((wWX5 cB cI cZ a0 (wb_in I0_l4 0 1 r13.2.1) (wb_in M0_l4 4 1 r13.2.2.1)) ++ (wWX9 cB cI cZ a1 r13.2.2.2.1 r13.2.2.2.2))) 5 7 2 11 hP hD rfl rfl hk1 hFc ht hB
                rw [hw]
                obtain ⟨I0_14, eI0_14, hf⟩ := wb_v hf
                rw [← eI0_14] at hP hD
                obtain ⟨M0_15, eM0_15, hf⟩ := wb_v hf
                rw [← eM0_15] at hP hD
                obtain ⟨v16, ev16, hf⟩ := wb_v hf
                refine wb_topi ev16 ?_
                refine lv_istore_n (lv' := [(2, .int v16), (0, .ref (a0 0)), (1, .ref (a1 0)), (3, .int y4_3)]) hx hb dX5_readLines_57 rfl hl (by decide) rfl (fun ls hl => ?_)
                refine lv_goto (tgt := 88) hx hb dX5_readLines_58 (by decide) ?_
                obtain ⟨v17, ev17, hf⟩ := wb_v hf
                refine lv_iinc (v := v17) (lv' := [(3, .int v17), (2, .int v16), (0, .ref (a0 0)), (1, .ref (a1 0))]) hx hb dX5_readLines_88 hl (k := 3) rfl (by rw [ev17]; rfl) (by decide) rfl (fun ls hl => ?_)
                refine lv_goto (tgt := 4) hx hb dX5_readLines_91 (by decide) ?_
                exact ih4 I0_14 M0_15 r13.2.2.2.1 r13.2.2.2.2 v16 v17 H locs hP hD hS ls (lv_sub hl [2, 3, 1, 0] rfl) hf
            · replace hf := wb_f hc hf
              refine lv_aload_n hx hb dX5_readLines_31 rfl (lv_at hl 0 rfl) ?_
              refine lv_aload_n hx hb dX5_readLines_32 rfl (lv_at hl 1 rfl) ?_
              obtain ⟨r18, hr18, hf⟩ := wb_b hf
              have hPc := hP
              have hDc := hD
              have hFc := wj_F hDc hS hA
              refine va_calli (va_runV (As := [.ref (a1 0)]) (rest := []) ⟨hx, hb, hml, hown, hts⟩ (cn_X5_readSet l D cB cI cZ N aK aV a0 I0_l4 M0_l4 a1 I1_l4 M1_l4 H.size r18 hr18) (cwV 1 hts gX5_readLines_X5_readSet rfl rfl rfl cdX5_readSet ⟨Nat.le_of_ble_eq_true rfl, Nat.le_of_ble_eq_true rfl⟩) (wb_preDEV hPc hK hDc (wr_5 hK hP (q0 := 0) rfl) hZ hS hFc) rfl rfl hl.1 rfl (lv_room (Nat.le_of_ble_eq_true rfl)) dX5_readLines_33 ⟨Nat.le_of_ble_eq_true rfl, Nat.le_of_ble_eq_true rfl⟩) hS (fun q _ h => hFc q h) hFc (fun r9 u t H locs ht hvm hw hB hz1 hk1 hS => ?_)
              obtain ⟨hP, hD⟩ := wj_0 hFc ht hB
              rw [hw]
              obtain ⟨v19, ev19, hf⟩ := wb_v hf
              refine wb_topi ev19 ?_
              refine lv_istore_n (lv' := [(2, .int v19), (0, .ref (a0 0)), (1, .ref (a1 0)), (3, .int y4_3)]) hx hb dX5_readLines_36 rfl hl (by decide) rfl (fun ls hl => ?_)
              refine lv_goto (tgt := 88) hx hb dX5_readLines_37 (by decide) ?_
              obtain ⟨v20, ev20, hf⟩ := wb_v hf
              refine lv_iinc (v := v20) (lv' := [(3, .int v20), (2, .int v19), (0, .ref (a0 0)), (1, .ref (a1 0))]) hx hb dX5_readLines_88 hl (k := 3) rfl (by rw [ev20]; rfl) (by decide) rfl (fun ls hl => ?_)
              refine lv_goto (tgt := 4) hx hb dX5_readLines_91 (by decide) ?_
              exact ih4 r18.2.1 r18.2.2.1 r18.2.2.2.1 r18.2.2.2.2 v19 v20 H locs hP hD hS ls (lv_sub hl [2, 3, 1, 0] rfl) hf
  exact L4 N I0 M0 I1 M1 (1 : Int32) (0 : Int32) H locs hP hD hS ls (lv_sub hl [2, 3, 1, 0] rfl) hf

set_option maxHeartbeats 4000000 in
set_option maxRecDepth 100000 in
theorem cn_X6_placeOf (l : Launch) (D : va_G) (cB cI cZ : ClassId) (N : Nat) (a0 : Nat → Nat) (I0 : Nat → Int32) (M0 : Nat → Nat → Int32) (x1 : Int32) (x2 : Int32) (R : Int32) (hf : fX6_placeOf N I0 M0 x1 x2 = some R) : Met l yX6_placeOf wsX6_placeOf ({ frames := 0, cells := 0, slots := 0, locals := 0 }) (va_Pc [.ref (a0 0), .int x1, .int x2] (wb_pre D [(cB, .byte), (cI, .int), (cZ, .boolean)] (wWX6 cB cI cZ a0 I0 M0))) (vp_Si (fun r => r = R)) 0 0 (fun _ => False) := by
  refine Met.ofW (cc := cX6_placeOf) (maxL := 4) (ret := (some .int)) pn_X6 rfl ?_
  intro p e s m args below meth c s₁ B hml hv
  obtain ⟨rfl, hP, hK⟩ := hv
  have hx := B.exec
  have hb := B.bytes
  have hr := B.returns
  have hts := atoms_spec (ws := wsX6_placeOf) B.pre
  have hown : s.vm.findClass RX6 = some m.cls := (findClass_of_methodNamed B.named :)
  have hlocks := B.notSynchronized
  have hinX6 : ∀ w ∈ u_ws RX6 TX6 4, w ∈ wsX6_placeOf := fun w h => List.mem_cons_of_mem _ (List.mem_append_right _ h)
  have hl := lv_entry ([.ref (a0 0), .int x1, .int x2]) (n := 4) (Nat.le_of_ble_eq_true rfl)
  rw [lg_entry_eq]
  generalize (lg_sl ([.ref (a0 0), .int x1, .int x2]) ++ List.replicate (4 - (lg_sl ([.ref (a0 0), .int x1, .int x2])).length) Slot.unset).toArray = ls at hl ⊢
  have hl : lv_has ls 4 [(0, .ref (a0 0)), (1, .int x1), (2, .int x2)] := hl
  unfold fX6_placeOf at hf
  refine lv_iconst (v := (0 : Int32)) hx hb dX6_placeOf_0 (by decide) ?_
  refine lv_istore_n (lv' := [(3, .int (0 : Int32)), (0, .ref (a0 0)), (1, .int x1), (2, .int x2)]) hx hb dX6_placeOf_1 rfl hl (by decide) rfl (fun ls hl => ?_)
  have L2 : ∀ (fu2 : Nat) (y2_3 : Int32), ∀ (ls : Array Slot), lv_has ls 4 [(0, .ref (a0 0)), (1, .int x1), (2, .int x2), (3, .int y2_3)] → fX6_placeOf_L2 N I0 M0 x1 x2 fu2 y2_3 = some R → W p l e (headSpec wsX6_placeOf { frames := 0, cells := 0, slots := 0, locals := 0 }).room s m [.ref (a0 0), .int x1, .int x2].toArray below meth c s.heap [] 0 0 (MQ below (vp_Si (fun r => r = R)) [.ref (a0 0), .int x1, .int x2].toArray s 0 0 (fun _ => False)) (F0 m 2 ls []) := by
    intro fu2
    induction fu2 with
    | zero =>
      intro y2_3 ls hl hf
      exact absurd hf (by rw [fX6_placeOf_L2.eq_1]; exact fun h => nomatch h)
    | succ fu2 ih2 =>
      intro y2_3 ls hl hf
      rw [fX6_placeOf_L2.eq_2] at hf
      refine lv_iload_n hx hb dX6_placeOf_2 rfl (lv_at hl 3 rfl) ?_
      refine lv_aload_n hx hb dX6_placeOf_3 rfl (lv_at hl 0 rfl) ?_
      refine va_get (D := D) (ci := 6) (v := .ref (a0 2)) (C := RX6) (T := TX6) (N := 4) hx hb hts hinX6 hown hK hP 0 rfl rfl 1 (by decide) (hts (.fieldLink RX6 15 "WheelBook$Leaves" "many" "[I") (List.mem_of_getElem? (i := 1) rfl)) (fun _ h9 => h9) rfl dX6_placeOf_4 ?_
      refine lv_iload_n hx hb dX6_placeOf_7 rfl (lv_at hl 1 rfl) ?_
      obtain ⟨hin, hf⟩ := wb_n hf
      refine va_iald hx hb hK hP 2 1 rfl rfl hin dX6_placeOf_8 ?_
      refine lv_icmp_ge (tgt := 35) hx hb dX6_placeOf_9 (by decide) (fun hc => ?_) (fun hc => ?_)
      · replace hf := wb_t hc hf
        refine lv_iconst (v := (-1 : Int32)) hx hb dX6_placeOf_35 (by decide) ?_
        exact W.iret (v := (-1 : Int32)) hx hb hr (fun t ht hW => ⟨_, rfl, Option.some.inj hf, ht⟩) (fun _ h => nomatch h) dX6_placeOf_36
      · replace hf := wb_f hc hf
        refine lv_aload_n hx hb dX6_placeOf_12 rfl (lv_at hl 0 rfl) ?_
        refine va_get (D := D) (ci := 6) (v := .ref (a0 1)) (C := RX6) (T := TX6) (N := 4) hx hb hts hinX6 hown hK hP 0 rfl rfl 0 (by decide) (hts (.fieldLink RX6 9 "WheelBook$Leaves" "wheels" "[I") (List.mem_of_getElem? (i := 2) rfl)) (fun _ h9 => h9) rfl dX6_placeOf_13 ?_
        refine lv_bipush (v := (20 : Int32)) hx hb dX6_placeOf_16 (by decide) ?_
        refine lv_iload_n hx hb dX6_placeOf_18 rfl (lv_at hl 1 rfl) ?_
        refine lv_imul hx hb dX6_placeOf_19 ?_
        refine lv_iload_n hx hb dX6_placeOf_20 rfl (lv_at hl 3 rfl) ?_
        refine lv_iadd hx hb dX6_placeOf_21 ?_
        obtain ⟨hin, hf⟩ := wb_n hf
        refine va_iald hx hb hK hP 1 1 rfl rfl hin dX6_placeOf_22 ?_
        refine lv_iload_n hx hb dX6_placeOf_23 rfl (lv_at hl 2 rfl) ?_
        refine lv_icmp_ne (tgt := 29) hx hb dX6_placeOf_24 (by decide) (fun hc => ?_) (fun hc => ?_)
        · replace hf := wb_f hc hf
          obtain ⟨v1, ev1, hf⟩ := wb_v hf
          refine lv_iinc (v := v1) (lv' := [(3, .int v1), (0, .ref (a0 0)), (1, .int x1), (2, .int x2)]) hx hb dX6_placeOf_29 hl (k := 3) rfl (by rw [ev1]; rfl) (by decide) rfl (fun ls hl => ?_)
          refine lv_goto (tgt := 2) hx hb dX6_placeOf_32 (by decide) ?_
          exact ih2 v1 ls (lv_sub hl [1, 2, 3, 0] rfl) hf
        · replace hf := wb_t hc hf
          refine lv_iload_n hx hb dX6_placeOf_27 rfl (lv_at hl 3 rfl) ?_
          exact W.iret (v := y2_3) hx hb hr (fun t ht hW => ⟨_, rfl, Option.some.inj hf, ht⟩) (fun _ h => nomatch h) dX6_placeOf_28
  exact L2 N (0 : Int32) ls (lv_sub hl [1, 2, 3, 0] rfl) hf

set_option maxHeartbeats 4000000 in
set_option maxRecDepth 100000 in
theorem cn_X6_addTo (l : Launch) (D : va_G) (cB cI cZ : ClassId) (N : Nat) (a0 : Nat → Nat) (I0 : Nat → Int32) (M0 : Nat → Nat → Int32) (x1 : Int32) (x2 : Int32) (sz : Nat) (R : Int32 × (Nat → Int32) × (Nat → Nat → Int32)) (hf : fX6_addTo N I0 M0 x1 x2 = some R) : Met l yX6_addTo wsX6_addTo ({ frames := 1, cells := 0, slots := 0, locals := 23 }) (va_Pc [.ref (a0 0), .int x1, .int x2] (wb_preD D [(cB, .byte), (cI, .int), (cZ, .boolean)] (wWX6 cB cI cZ a0 I0 M0) sz)) (va_Qi (fun r (_ : Unit) => r = R.1) (fun _ t => wb_post D [(cB, .byte), (cI, .int), (cZ, .boolean)] (va_A (wWX6 cB cI cZ a0 I0 M0) sz) (wWX6 cB cI cZ a0 R.2.1 R.2.2) t) (va_A (wWX6 cB cI cZ a0 I0 M0) sz)) 0 0 (va_A (wWX6 cB cI cZ a0 I0 M0) sz) := by
  refine Met.ofW (cc := cX6_addTo) (maxL := 3) (ret := (some .int)) pn_X6 rfl ?_
  intro p e s m args below meth c s₁ B hml hv
  obtain ⟨rfl, hsz, hP, hK, hD0⟩ := hv
  have hx := B.exec
  have hb := B.bytes
  have hr := B.returns
  have hts := atoms_spec (ws := wsX6_addTo) B.pre
  have hown : s.vm.findClass RX6 = some m.cls := (findClass_of_methodNamed B.named :)
  have hlocks := B.notSynchronized
  have hinX6 : ∀ w ∈ u_ws RX6 TX6 4, w ∈ wsX6_addTo := fun w h => List.mem_cons_of_mem _ (List.mem_append_right _ h)
  subst hsz
  have hD := hD0.self (sz := s.heap.size)
  generalize hAe : va_A (wWX6 cB cI cZ a0 I0 M0) s.heap.size = A at hD ⊢
  have hA : ∀ q : Nat, s.heap.size ≤ q → A q := fun q h => by rw [← hAe]; exact Or.inr h
  have hS : va_S A s.heap s.heap [] := va_S.rf
  have hl := lv_entry ([.ref (a0 0), .int x1, .int x2]) (n := 3) (Nat.le_of_ble_eq_true rfl)
  rw [lg_entry_eq]
  generalize (lg_sl ([.ref (a0 0), .int x1, .int x2]) ++ List.replicate (3 - (lg_sl ([.ref (a0 0), .int x1, .int x2])).length) Slot.unset).toArray = ls at hl ⊢
  have hl : lv_has ls 3 [(0, .ref (a0 0)), (1, .int x1), (2, .int x2)] := hl
  unfold fX6_addTo at hf
  obtain ⟨H, hHe⟩ : ∃ H : Heap, H = s.heap := ⟨_, rfl⟩
  obtain ⟨locs, hle⟩ : ∃ locs : List Loc, locs = [] := ⟨_, rfl⟩
  refine wb_start (H := H) (locs := locs) hHe hle ?_
  rw [← hHe] at hP
  have hS : va_S A s.heap H locs := by rw [hHe, hle]; exact va_S.rf
  refine lv_aload_n hx hb dX6_addTo_0 rfl (lv_at hl 0 rfl) ?_
  refine lv_iload_n hx hb dX6_addTo_1 rfl (lv_at hl 1 rfl) ?_
  refine lv_iload_n hx hb dX6_addTo_2 rfl (lv_at hl 2 rfl) ?_
  obtain ⟨r1, hr1, hf⟩ := wb_b hf
  refine vp_callSi (W.runV (As := [.int x1, .int x2]) (rest := []) ⟨hx, hb, hml, hown, hts⟩ (cn_X6_placeOf l D cB cI cZ N a0 I0 M0 x1 x2 r1 hr1) (cwV 2 hts gX6_addTo_X6_placeOf rfl rfl rfl cdX6_placeOf ⟨Nat.le_of_ble_eq_true rfl, Nat.le_of_ble_eq_true rfl⟩) (wb_preV hP hK (wr_6 hK hP (q0 := 0) rfl)) rfl rfl hl.1 rfl (lv_room (Nat.le_of_ble_eq_true rfl)) dX6_addTo_3 ⟨Nat.le_of_ble_eq_true rfl, Nat.le_of_ble_eq_true rfl⟩) (fun r9 e9 => ?_)
  rw [e9]
  refine lv_iconst (v := (-1 : Int32)) hx hb dX6_addTo_6 (by decide) ?_
  refine lv_icmp_ne (tgt := 21) hx hb dX6_addTo_7 (by decide) (fun hc => ?_) (fun hc => ?_)
  · replace hf := wb_f hc hf
    refine lv_iconst (v := (-1 : Int32)) hx hb dX6_addTo_21 (by decide) ?_
    exact W.iret (v := (-1 : Int32)) hx hb hr (fun t ht hW => by rw [← Option.some.inj hf]; exact ⟨⟨(-1 : Int32), (), rfl, rfl, by rw [ht]; exact hP, va_K.moved hW.alike hK, hD⟩, hS.F ht⟩) hS.2.2 dX6_addTo_22
  · replace hf := wb_t hc hf
    refine lv_aload_n hx hb dX6_addTo_10 rfl (lv_at hl 0 rfl) ?_
    refine va_get (D := D) (ci := 6) (v := .ref (a0 2)) (C := RX6) (T := TX6) (N := 4) hx hb hts hinX6 hown hK hP 0 rfl rfl 1 (by decide) (hts (.fieldLink RX6 15 "WheelBook$Leaves" "many" "[I") (List.mem_of_getElem? (i := 1) rfl)) (fun _ h9 => h9) rfl dX6_addTo_11 ?_
    refine lv_iload_n hx hb dX6_addTo_14 rfl (lv_at hl 1 rfl) ?_
    obtain ⟨hin, hf⟩ := wb_n hf
    refine va_iald hx hb hK hP 2 1 rfl rfl hin dX6_addTo_15 ?_
    refine lv_bipush (v := (20 : Int32)) hx hb dX6_addTo_16 (by decide) ?_
    refine lv_icmp_lt (tgt := 23) hx hb dX6_addTo_18 (by decide) (fun hc => ?_) (fun hc => ?_)
    · replace hf := wb_t hc hf
      refine lv_aload_n hx hb dX6_addTo_23 rfl (lv_at hl 0 rfl) ?_
      refine va_get (D := D) (ci := 6) (v := .ref (a0 1)) (C := RX6) (T := TX6) (N := 4) hx hb hts hinX6 hown hK hP 0 rfl rfl 0 (by decide) (hts (.fieldLink RX6 9 "WheelBook$Leaves" "wheels" "[I") (List.mem_of_getElem? (i := 2) rfl)) (fun _ h9 => h9) rfl dX6_addTo_24 ?_
      refine lv_bipush (v := (20 : Int32)) hx hb dX6_addTo_27 (by decide) ?_
      refine lv_iload_n hx hb dX6_addTo_29 rfl (lv_at hl 1 rfl) ?_
      refine lv_imul hx hb dX6_addTo_30 ?_
      refine lv_aload_n hx hb dX6_addTo_31 rfl (lv_at hl 0 rfl) ?_
      refine va_get (D := D) (ci := 6) (v := .ref (a0 2)) (C := RX6) (T := TX6) (N := 4) hx hb hts hinX6 hown hK hP 0 rfl rfl 1 (by decide) (hts (.fieldLink RX6 15 "WheelBook$Leaves" "many" "[I") (List.mem_of_getElem? (i := 1) rfl)) (fun _ h9 => h9) rfl dX6_addTo_32 ?_
      refine lv_iload_n hx hb dX6_addTo_35 rfl (lv_at hl 1 rfl) ?_
      obtain ⟨hin, hf⟩ := wb_n hf
      refine va_iald hx hb hK hP 2 1 rfl rfl hin dX6_addTo_36 ?_
      refine lv_iadd hx hb dX6_addTo_37 ?_
      refine lv_iload_n hx hb dX6_addTo_38 rfl (lv_at hl 2 rfl) ?_
      obtain ⟨hin, hf⟩ := wb_n hf
      refine va_iast hx hb hK hP hD hS 1 1 rfl rfl hin dX6_addTo_39 (fun H locs hP hD hS => ?_)
      have hP : va_P D vwCl (wWX6 cB cI cZ a0 I0 (wb_um M0 0 ((((20 : Int32) * x1) + (M0 1 (x1).toNatClampNeg))).toNatClampNeg x2)) H := hP
      have hD : va_D A (wWX6 cB cI cZ a0 I0 (wb_um M0 0 ((((20 : Int32) * x1) + (M0 1 (x1).toNatClampNeg))).toNatClampNeg x2)) := hD
      obtain ⟨M0_2, eM0_2, hf⟩ := wb_v hf
      rw [← eM0_2] at hP hD
      refine lv_aload_n hx hb dX6_addTo_40 rfl (lv_at hl 0 rfl) ?_
      refine va_get (D := D) (ci := 6) (v := .ref (a0 2)) (C := RX6) (T := TX6) (N := 4) hx hb hts hinX6 hown hK hP 0 rfl rfl 1 (by decide) (hts (.fieldLink RX6 15 "WheelBook$Leaves" "many" "[I") (List.mem_of_getElem? (i := 1) rfl)) (fun _ h9 => h9) rfl dX6_addTo_41 ?_
      refine lv_iload_n hx hb dX6_addTo_44 rfl (lv_at hl 1 rfl) ?_
      refine lv_dup2_11 hx hb dX6_addTo_45 rfl rfl ?_
      obtain ⟨hin, hf⟩ := wb_n hf
      refine va_iald hx hb hK hP 2 1 rfl rfl hin dX6_addTo_46 ?_
      refine lv_iconst (v := (1 : Int32)) hx hb dX6_addTo_47 (by decide) ?_
      refine lv_iadd hx hb dX6_addTo_48 ?_
      obtain ⟨hin, hf⟩ := wb_n hf
      refine va_iast hx hb hK hP hD hS 2 1 rfl rfl hin dX6_addTo_49 (fun H locs hP hD hS => ?_)
      have hP : va_P D vwCl (wWX6 cB cI cZ a0 I0 (wb_um M0_2 1 (x1).toNatClampNeg ((M0_2 1 (x1).toNatClampNeg) + (1 : Int32)))) H := hP
      have hD : va_D A (wWX6 cB cI cZ a0 I0 (wb_um M0_2 1 (x1).toNatClampNeg ((M0_2 1 (x1).toNatClampNeg) + (1 : Int32)))) := hD
      obtain ⟨M0_3, eM0_3, hf⟩ := wb_v hf
      rw [← eM0_3] at hP hD
      refine lv_aload_n hx hb dX6_addTo_50 rfl (lv_at hl 0 rfl) ?_
      refine va_get (D := D) (ci := 6) (v := .ref (a0 2)) (C := RX6) (T := TX6) (N := 4) hx hb hts hinX6 hown hK hP 0 rfl rfl 1 (by decide) (hts (.fieldLink RX6 15 "WheelBook$Leaves" "many" "[I") (List.mem_of_getElem? (i := 1) rfl)) (fun _ h9 => h9) rfl dX6_addTo_51 ?_
      refine lv_iload_n hx hb dX6_addTo_54 rfl (lv_at hl 1 rfl) ?_
      obtain ⟨hin, hf⟩ := wb_n hf
      refine va_iald hx hb hK hP 2 1 rfl rfl hin dX6_addTo_55 ?_
      exact W.iret (v := (M0_3 1 (x1).toNatClampNeg)) hx hb hr (fun t ht hW => by rw [← Option.some.inj hf]; exact ⟨⟨(M0_3 1 (x1).toNatClampNeg), (), rfl, rfl, by rw [ht]; exact hP, va_K.moved hW.alike hK, hD⟩, hS.F ht⟩) hS.2.2 dX6_addTo_56
    · replace hf := wb_f hc hf
      refine lv_iconst (v := (-1 : Int32)) hx hb dX6_addTo_21 (by decide) ?_
      exact W.iret (v := (-1 : Int32)) hx hb hr (fun t ht hW => by rw [← Option.some.inj hf]; exact ⟨⟨(-1 : Int32), (), rfl, rfl, by rw [ht]; exact hP, va_K.moved hW.alike hK, hD⟩, hS.F ht⟩) hS.2.2 dX6_addTo_22

set_option maxHeartbeats 4000000 in
set_option maxRecDepth 100000 in
theorem cn_X6_setPlaces (l : Launch) (D : va_G) (cB cI cZ : ClassId) (N : Nat) (a0 : Nat → Nat) (I0 : Nat → Int32) (M0 : Nat → Nat → Int32) (x1 : Int32) (x2 : Int32) (sz : Nat) (R : Int32 × (Nat → Int32) × (Nat → Nat → Int32)) (hf : fX6_setPlaces N I0 M0 x1 x2 = some R) : Met l yX6_setPlaces wsX6_setPlaces ({ frames := 1, cells := 0, slots := 0, locals := 23 }) (va_Pc [.ref (a0 0), .int x1, .int x2] (wb_preD D [(cB, .byte), (cI, .int), (cZ, .boolean)] (wWX6 cB cI cZ a0 I0 M0) sz)) (va_Qi (fun r (_ : Unit) => r = R.1) (fun _ t => wb_post D [(cB, .byte), (cI, .int), (cZ, .boolean)] (va_A (wWX6 cB cI cZ a0 I0 M0) sz) (wWX6 cB cI cZ a0 R.2.1 R.2.2) t) (va_A (wWX6 cB cI cZ a0 I0 M0) sz)) 0 0 (va_A (wWX6 cB cI cZ a0 I0 M0) sz) := by
  refine Met.ofW (cc := cX6_setPlaces) (maxL := 6) (ret := (some .int)) pn_X6 rfl ?_
  intro p e s m args below meth c s₁ B hml hv
  obtain ⟨rfl, hsz, hP, hK, hD0⟩ := hv
  have hx := B.exec
  have hb := B.bytes
  have hr := B.returns
  have hts := atoms_spec (ws := wsX6_setPlaces) B.pre
  have hown : s.vm.findClass RX6 = some m.cls := (findClass_of_methodNamed B.named :)
  have hlocks := B.notSynchronized
  have hinX6 : ∀ w ∈ u_ws RX6 TX6 4, w ∈ wsX6_setPlaces := fun w h => List.mem_cons_of_mem _ (List.mem_append_right _ h)
  subst hsz
  have hD := hD0.self (sz := s.heap.size)
  generalize hAe : va_A (wWX6 cB cI cZ a0 I0 M0) s.heap.size = A at hD ⊢
  have hA : ∀ q : Nat, s.heap.size ≤ q → A q := fun q h => by rw [← hAe]; exact Or.inr h
  have hS : va_S A s.heap s.heap [] := va_S.rf
  have hl := lv_entry ([.ref (a0 0), .int x1, .int x2]) (n := 6) (Nat.le_of_ble_eq_true rfl)
  rw [lg_entry_eq]
  generalize (lg_sl ([.ref (a0 0), .int x1, .int x2]) ++ List.replicate (6 - (lg_sl ([.ref (a0 0), .int x1, .int x2])).length) Slot.unset).toArray = ls at hl ⊢
  have hl : lv_has ls 6 [(0, .ref (a0 0)), (1, .int x1), (2, .int x2)] := hl
  unfold fX6_setPlaces at hf
  obtain ⟨H, hHe⟩ : ∃ H : Heap, H = s.heap := ⟨_, rfl⟩
  obtain ⟨locs, hle⟩ : ∃ locs : List Loc, locs = [] := ⟨_, rfl⟩
  refine wb_start (H := H) (locs := locs) hHe hle ?_
  rw [← hHe] at hP
  have hS : va_S A s.heap H locs := by rw [hHe, hle]; exact va_S.rf
  refine lv_iconst (v := (0 : Int32)) hx hb dX6_setPlaces_0 (by decide) ?_
  refine lv_istore_n (lv' := [(3, .int (0 : Int32)), (0, .ref (a0 0)), (1, .int x1), (2, .int x2)]) hx hb dX6_setPlaces_1 rfl hl (by decide) rfl (fun ls hl => ?_)
  refine lv_iconst (v := (0 : Int32)) hx hb dX6_setPlaces_2 (by decide) ?_
  refine lv_istore (lv' := [(4, .int (0 : Int32)), (3, .int (0 : Int32)), (0, .ref (a0 0)), (1, .int x1), (2, .int x2)]) hx hb dX6_setPlaces_3 hl (by decide) rfl (fun ls hl => ?_)
  have L5 : ∀ (fu5 : Nat) (I0_l5 : Nat → Int32) (M0_l5 : Nat → Nat → Int32) (y5_3 : Int32) (y5_4 : Int32) (H : Heap) (locs : List Loc), va_P D vwCl (wWX6 cB cI cZ a0 I0_l5 M0_l5) H → va_D A (wWX6 cB cI cZ a0 I0_l5 M0_l5) → va_S A s.heap H locs → ∀ (ls : Array Slot), lv_has ls 6 [(0, .ref (a0 0)), (1, .int x1), (2, .int x2), (3, .int y5_3), (4, .int y5_4)] → fX6_setPlaces_L5 N x1 x2 fu5 I0_l5 M0_l5 y5_3 y5_4 = some R → W p l e (headSpec wsX6_setPlaces { frames := 1, cells := 0, slots := 0, locals := 23 }).room s m [.ref (a0 0), .int x1, .int x2].toArray below meth c H locs 0 0 (MQ below (va_Qi (fun r (_ : Unit) => r = R.1) (fun _ t => wb_post D [(cB, .byte), (cI, .int), (cZ, .boolean)] A (wWX6 cB cI cZ a0 R.2.1 R.2.2) t) A) [.ref (a0 0), .int x1, .int x2].toArray s 0 0 A) (F0 m 5 ls []) := by
    intro fu5
    induction fu5 with
    | zero =>
      intro I0_l5 M0_l5 y5_3 y5_4 H locs hP hD hS ls hl hf
      exact absurd hf (by rw [fX6_setPlaces_L5.eq_1]; exact fun h => nomatch h)
    | succ fu5 ih5 =>
      intro I0_l5 M0_l5 y5_3 y5_4 H locs hP hD hS ls hl hf
      rw [fX6_setPlaces_L5.eq_2] at hf
      refine lv_iload hx hb dX6_setPlaces_5 (lv_at hl 4 rfl) ?_
      refine lv_aload_n hx hb dX6_setPlaces_7 rfl (lv_at hl 0 rfl) ?_
      refine va_get (D := D) (ci := 6) (v := .ref (a0 2)) (C := RX6) (T := TX6) (N := 4) hx hb hts hinX6 hown hK hP 0 rfl rfl 1 (by decide) (hts (.fieldLink RX6 15 "WheelBook$Leaves" "many" "[I") (List.mem_of_getElem? (i := 1) rfl)) (fun _ h9 => h9) rfl dX6_setPlaces_8 ?_
      refine lv_iload_n hx hb dX6_setPlaces_11 rfl (lv_at hl 1 rfl) ?_
      obtain ⟨hin, hf⟩ := wb_n hf
      refine va_iald hx hb hK hP 2 1 rfl rfl hin dX6_setPlaces_12 ?_
      refine lv_icmp_ge (tgt := 58) hx hb dX6_setPlaces_13 (by decide) (fun hc => ?_) (fun hc => ?_)
      · replace hf := wb_t hc hf
        refine lv_iload_n hx hb dX6_setPlaces_58 rfl (lv_at hl 3 rfl) ?_
        exact W.iret (v := y5_3) hx hb hr (fun t ht hW => by rw [← Option.some.inj hf]; exact ⟨⟨y5_3, (), rfl, rfl, by rw [ht]; exact hP, va_K.moved hW.alike hK, hD⟩, hS.F ht⟩) hS.2.2 dX6_setPlaces_59
      · replace hf := wb_f hc hf
        refine lv_aload_n hx hb dX6_setPlaces_16 rfl (lv_at hl 0 rfl) ?_
        refine lv_iload_n hx hb dX6_setPlaces_17 rfl (lv_at hl 2 rfl) ?_
        refine lv_aload_n hx hb dX6_setPlaces_18 rfl (lv_at hl 0 rfl) ?_
        refine va_get (D := D) (ci := 6) (v := .ref (a0 1)) (C := RX6) (T := TX6) (N := 4) hx hb hts hinX6 hown hK hP 0 rfl rfl 0 (by decide) (hts (.fieldLink RX6 9 "WheelBook$Leaves" "wheels" "[I") (List.mem_of_getElem? (i := 2) rfl)) (fun _ h9 => h9) rfl dX6_setPlaces_19 ?_
        refine lv_bipush (v := (20 : Int32)) hx hb dX6_setPlaces_22 (by decide) ?_
        refine lv_iload_n hx hb dX6_setPlaces_24 rfl (lv_at hl 1 rfl) ?_
        refine lv_imul hx hb dX6_setPlaces_25 ?_
        refine lv_iload hx hb dX6_setPlaces_26 (lv_at hl 4 rfl) ?_
        refine lv_iadd hx hb dX6_setPlaces_28 ?_
        obtain ⟨hin, hf⟩ := wb_n hf
        refine va_iald hx hb hK hP 1 1 rfl rfl hin dX6_setPlaces_29 ?_
        obtain ⟨r1, hr1, hf⟩ := wb_b hf
        refine vp_callSi (W.runV (As := [.int x2, .int (M0_l5 0 ((((20 : Int32) * x1) + y5_4)).toNatClampNeg)]) (rest := []) ⟨hx, hb, hml, hown, hts⟩ (cn_X6_placeOf l D cB cI cZ N a0 I0_l5 M0_l5 x2 (M0_l5 0 ((((20 : Int32) * x1) + y5_4)).toNatClampNeg) r1 hr1) (cwV 2 hts gX6_setPlaces_X6_placeOf rfl rfl rfl cdX6_placeOf ⟨Nat.le_of_ble_eq_true rfl, Nat.le_of_ble_eq_true rfl⟩) (wb_preV hP hK (wr_6 hK hP (q0 := 0) rfl)) rfl rfl hl.1 rfl (lv_room (Nat.le_of_ble_eq_true rfl)) dX6_setPlaces_30 ⟨Nat.le_of_ble_eq_true rfl, Nat.le_of_ble_eq_true rfl⟩) (fun r9 e9 => ?_)
        rw [e9]
        refine lv_istore (lv' := [(5, .int r1), (0, .ref (a0 0)), (1, .int x1), (2, .int x2), (3, .int y5_3), (4, .int y5_4)]) hx hb dX6_setPlaces_33 hl (by decide) rfl (fun ls hl => ?_)
        refine lv_iload hx hb dX6_setPlaces_35 (lv_at hl 0 rfl) ?_
        refine lv_iconst (v := (-1 : Int32)) hx hb dX6_setPlaces_37 (by decide) ?_
        refine lv_icmp_eq (tgt := 52) hx hb dX6_setPlaces_38 (by decide) (fun hc => ?_) (fun hc => ?_)
        · replace hf := wb_t hc hf
          obtain ⟨v2, ev2, hf⟩ := wb_v hf
          refine lv_iinc (v := v2) (lv' := [(4, .int v2), (5, .int r1), (0, .ref (a0 0)), (1, .int x1), (2, .int x2), (3, .int y5_3)]) hx hb dX6_setPlaces_52 hl (k := 5) rfl (by rw [ev2]; rfl) (by decide) rfl (fun ls hl => ?_)
          refine lv_goto (tgt := 5) hx hb dX6_setPlaces_55 (by decide) ?_
          exact ih5 I0_l5 M0_l5 y5_3 v2 H locs hP hD hS ls (lv_sub hl [2, 3, 4, 5, 0] rfl) hf
        · replace hf := wb_f hc hf
          refine lv_aload_n hx hb dX6_setPlaces_41 rfl (lv_at hl 1 rfl) ?_
          refine va_get (D := D) (ci := 6) (v := .ref (a0 3)) (C := RX6) (T := TX6) (N := 4) hx hb hts hinX6 hown hK hP 0 rfl rfl 2 (by decide) (hts (.fieldLink RX6 18 "WheelBook$Leaves" "places" "[I") (List.mem_of_getElem? (i := 3) rfl)) (fun _ h9 => h9) rfl dX6_setPlaces_42 ?_
          refine lv_iload_n hx hb dX6_setPlaces_45 rfl (lv_at hl 4 rfl) ?_
          refine lv_iload hx hb dX6_setPlaces_46 (lv_at hl 0 rfl) ?_
          obtain ⟨hin, hf⟩ := wb_n hf
          refine va_iast hx hb hK hP hD hS 3 1 rfl rfl hin dX6_setPlaces_48 (fun H locs hP hD hS => ?_)
          have hP : va_P D vwCl (wWX6 cB cI cZ a0 I0_l5 (wb_um M0_l5 2 (y5_3).toNatClampNeg r1)) H := hP
          have hD : va_D A (wWX6 cB cI cZ a0 I0_l5 (wb_um M0_l5 2 (y5_3).toNatClampNeg r1)) := hD
          obtain ⟨M0_3, eM0_3, hf⟩ := wb_v hf
          rw [← eM0_3] at hP hD
          obtain ⟨v4, ev4, hf⟩ := wb_v hf
          refine lv_iinc (v := v4) (lv' := [(3, .int v4), (5, .int r1), (0, .ref (a0 0)), (1, .int x1), (2, .int x2), (4, .int y5_4)]) hx hb dX6_setPlaces_49 hl (k := 4) rfl (by rw [ev4]; rfl) (by decide) rfl (fun ls hl => ?_)
          obtain ⟨v5, ev5, hf⟩ := wb_v hf
          refine lv_iinc (v := v5) (lv' := [(4, .int v5), (3, .int v4), (5, .int r1), (0, .ref (a0 0)), (1, .int x1), (2, .int x2)]) hx hb dX6_setPlaces_52 hl (k := 5) rfl (by rw [ev5]; rfl) (by decide) rfl (fun ls hl => ?_)
          refine lv_goto (tgt := 5) hx hb dX6_setPlaces_55 (by decide) ?_
          exact ih5 I0_l5 M0_3 v4 v5 H locs hP hD hS ls (lv_sub hl [3, 4, 5, 1, 0] rfl) hf
  exact L5 N I0 M0 (0 : Int32) (0 : Int32) H locs hP hD hS ls (lv_sub hl [2, 3, 4, 1, 0] rfl) hf

set_option maxHeartbeats 4000000 in
set_option maxRecDepth 100000 in
theorem cn_X6_howManyInOrder (l : Launch) (D : va_G) (cB cI cZ : ClassId) (N : Nat) (a0 : Nat → Nat) (I0 : Nat → Int32) (M0 : Nat → Nat → Int32) (x1 : Int32) (x2 : Int32) (sz : Nat) (R : Int32 × (Nat → Int32) × (Nat → Nat → Int32)) (hf : fX6_howManyInOrder N I0 M0 x1 x2 = some R) : Met l yX6_howManyInOrder wsX6_howManyInOrder ({ frames := 2, cells := 0, slots := 0, locals := 48 }) (va_Pc [.ref (a0 0), .int x1, .int x2] (wb_preD D [(cB, .byte), (cI, .int), (cZ, .boolean)] (wWX6 cB cI cZ a0 I0 M0) sz)) (va_Qi (fun r (_ : Unit) => r = R.1) (fun _ t => wb_post D [(cB, .byte), (cI, .int), (cZ, .boolean)] (va_A (wWX6 cB cI cZ a0 I0 M0) sz) (wWX6 cB cI cZ a0 R.2.1 R.2.2) t) (va_A (wWX6 cB cI cZ a0 I0 M0) sz)) 0 0 (va_A (wWX6 cB cI cZ a0 I0 M0) sz) := by
  refine Met.ofW (cc := cX6_howManyInOrder) (maxL := 7) (ret := (some .int)) pn_X6 rfl ?_
  intro p e s m args below meth c s₁ B hml hv
  obtain ⟨rfl, hsz, hP, hK, hD0⟩ := hv
  have hx := B.exec
  have hb := B.bytes
  have hr := B.returns
  have hts := atoms_spec (ws := wsX6_howManyInOrder) B.pre
  have hown : s.vm.findClass RX6 = some m.cls := (findClass_of_methodNamed B.named :)
  have hlocks := B.notSynchronized
  have hinX6 : ∀ w ∈ u_ws RX6 TX6 4, w ∈ wsX6_howManyInOrder := fun w h => List.mem_cons_of_mem _ (List.mem_append_right _ h)
  subst hsz
  have hD := hD0.self (sz := s.heap.size)
  generalize hAe : va_A (wWX6 cB cI cZ a0 I0 M0) s.heap.size = A at hD ⊢
  have hA : ∀ q : Nat, s.heap.size ≤ q → A q := fun q h => by rw [← hAe]; exact Or.inr h
  have hS : va_S A s.heap s.heap [] := va_S.rf
  have hl := lv_entry ([.ref (a0 0), .int x1, .int x2]) (n := 7) (Nat.le_of_ble_eq_true rfl)
  rw [lg_entry_eq]
  generalize (lg_sl ([.ref (a0 0), .int x1, .int x2]) ++ List.replicate (7 - (lg_sl ([.ref (a0 0), .int x1, .int x2])).length) Slot.unset).toArray = ls at hl ⊢
  have hl : lv_has ls 7 [(0, .ref (a0 0)), (1, .int x1), (2, .int x2)] := hl
  unfold fX6_howManyInOrder at hf
  obtain ⟨H, hHe⟩ : ∃ H : Heap, H = s.heap := ⟨_, rfl⟩
  obtain ⟨locs, hle⟩ : ∃ locs : List Loc, locs = [] := ⟨_, rfl⟩
  refine wb_start (H := H) (locs := locs) hHe hle ?_
  rw [← hHe] at hP
  have hS : va_S A s.heap H locs := by rw [hHe, hle]; exact va_S.rf
  refine lv_aload_n hx hb dX6_howManyInOrder_0 rfl (lv_at hl 0 rfl) ?_
  refine lv_iload_n hx hb dX6_howManyInOrder_1 rfl (lv_at hl 1 rfl) ?_
  refine lv_iload_n hx hb dX6_howManyInOrder_2 rfl (lv_at hl 2 rfl) ?_
  obtain ⟨r1, hr1, hf⟩ := wb_b hf
  have hPc := hP
  have hDc := hD
  have hFc := wj_F hDc hS hA
  refine va_calli (va_runV (As := [.int x1, .int x2]) (rest := []) ⟨hx, hb, hml, hown, hts⟩ (cn_X6_setPlaces l D cB cI cZ N a0 I0 M0 x1 x2 H.size r1 hr1) (cwV 2 hts gX6_howManyInOrder_X6_setPlaces rfl rfl rfl cdX6_setPlaces ⟨Nat.le_of_ble_eq_true rfl, Nat.le_of_ble_eq_true rfl⟩) (wb_preDV hPc hK hDc (wr_6 hK hP (q0 := 0) rfl)) rfl rfl hl.1 rfl (lv_room (Nat.le_of_ble_eq_true rfl)) dX6_howManyInOrder_3 ⟨Nat.le_of_ble_eq_true rfl, Nat.le_of_ble_eq_true rfl⟩) hS (fun q _ h => hFc q h) hFc (fun r9 u t H locs ht hvm hw hB hz1 hk1 hS => ?_)
  obtain ⟨hP, hD⟩ := wj_0 hFc ht hB
  rw [hw]
  obtain ⟨v2, ev2, hf⟩ := wb_v hf
  refine wb_topi ev2 ?_
  refine lv_istore_n (lv' := [(3, .int v2), (0, .ref (a0 0)), (1, .int x1), (2, .int x2)]) hx hb dX6_howManyInOrder_6 rfl hl (by decide) rfl (fun ls hl => ?_)
  refine lv_iconst (v := (0 : Int32)) hx hb dX6_howManyInOrder_7 (by decide) ?_
  refine lv_istore (lv' := [(4, .int (0 : Int32)), (3, .int v2), (0, .ref (a0 0)), (1, .int x1), (2, .int x2)]) hx hb dX6_howManyInOrder_8 hl (by decide) rfl (fun ls hl => ?_)
  refine lv_iconst (v := (0 : Int32)) hx hb dX6_howManyInOrder_10 (by decide) ?_
  refine lv_istore (lv' := [(5, .int (0 : Int32)), (4, .int (0 : Int32)), (3, .int v2), (0, .ref (a0 0)), (1, .int x1), (2, .int x2)]) hx hb dX6_howManyInOrder_11 hl (by decide) rfl (fun ls hl => ?_)
  have L13 : ∀ (fu13 : Nat) (I0_l13 : Nat → Int32) (M0_l13 : Nat → Nat → Int32) (y13_4 : Int32) (y13_5 : Int32) (H : Heap) (locs : List Loc), va_P D vwCl (wWX6 cB cI cZ a0 I0_l13 M0_l13) H → va_D A (wWX6 cB cI cZ a0 I0_l13 M0_l13) → va_S A s.heap H locs → ∀ (ls : Array Slot), lv_has ls 7 [(0, .ref (a0 0)), (3, .int v2), (4, .int y13_4), (5, .int y13_5)] → fX6_howManyInOrder_L13 N x1 x2 v2 fu13 I0_l13 M0_l13 y13_4 y13_5 = some R → W p l e (headSpec wsX6_howManyInOrder { frames := 2, cells := 0, slots := 0, locals := 48 }).room s m [.ref (a0 0), .int x1, .int x2].toArray below meth c H locs 0 0 (MQ below (va_Qi (fun r (_ : Unit) => r = R.1) (fun _ t => wb_post D [(cB, .byte), (cI, .int), (cZ, .boolean)] A (wWX6 cB cI cZ a0 R.2.1 R.2.2) t) A) [.ref (a0 0), .int x1, .int x2].toArray s 0 0 A) (F0 m 13 ls []) := by
    intro fu13
    induction fu13 with
    | zero =>
      intro I0_l13 M0_l13 y13_4 y13_5 H locs hP hD hS ls hl hf
      exact absurd hf (by rw [fX6_howManyInOrder_L13.eq_1]; exact fun h => nomatch h)
    | succ fu13 ih13 =>
      intro I0_l13 M0_l13 y13_4 y13_5 H locs hP hD hS ls hl hf
      rw [fX6_howManyInOrder_L13.eq_2] at hf
      refine lv_iload hx hb dX6_howManyInOrder_13 (lv_at hl 3 rfl) ?_
      refine lv_iload_n hx hb dX6_howManyInOrder_15 rfl (lv_at hl 1 rfl) ?_
      refine lv_icmp_ge (tgt := 106) hx hb dX6_howManyInOrder_16 (by decide) (fun hc => ?_) (fun hc => ?_)
      · replace hf := wb_t hc hf
        refine lv_iload hx hb dX6_howManyInOrder_106 (lv_at hl 2 rfl) ?_
        exact W.iret (v := y13_4) hx hb hr (fun t ht hW => by rw [← Option.some.inj hf]; exact ⟨⟨y13_4, (), rfl, rfl, by rw [ht]; exact hP, va_K.moved hW.alike hK, hD⟩, hS.F ht⟩) hS.2.2 dX6_howManyInOrder_108
      · replace hf := wb_f hc hf
        refine lv_aload_n hx hb dX6_howManyInOrder_19 rfl (lv_at hl 0 rfl) ?_
        refine va_get (D := D) (ci := 6) (v := .ref (a0 4)) (C := RX6) (T := TX6) (N := 4) hx hb hts hinX6 hown hK hP 0 rfl rfl 3 (by decide) (hts (.fieldLink RX6 21 "WheelBook$Leaves" "longest" "[I") (List.mem_of_getElem? (i := 1) rfl)) (fun _ h9 => h9) rfl dX6_howManyInOrder_20 ?_
        refine lv_iload hx hb dX6_howManyInOrder_23 (lv_at hl 3 rfl) ?_
        refine lv_iconst (v := (1 : Int32)) hx hb dX6_howManyInOrder_25 (by decide) ?_
        obtain ⟨hin, hf⟩ := wb_n hf
        refine va_iast hx hb hK hP hD hS 4 1 rfl rfl hin dX6_howManyInOrder_26 (fun H locs hP hD hS => ?_)
        have hP : va_P D vwCl (wWX6 cB cI cZ a0 I0_l13 (wb_um M0_l13 3 (y13_5).toNatClampNeg (1 : Int32))) H := hP
        have hD : va_D A (wWX6 cB cI cZ a0 I0_l13 (wb_um M0_l13 3 (y13_5).toNatClampNeg (1 : Int32))) := hD
        obtain ⟨M0_3, eM0_3, hf⟩ := wb_v hf
        rw [← eM0_3] at hP hD
        refine lv_iconst (v := (0 : Int32)) hx hb dX6_howManyInOrder_27 (by decide) ?_
        refine lv_istore (lv' := [(6, .int (0 : Int32)), (0, .ref (a0 0)), (3, .int v2), (4, .int y13_4), (5, .int y13_5)]) hx hb dX6_howManyInOrder_28 hl (by decide) rfl (fun ls hl => ?_)
        have L30 : ∀ (fu30 : Nat) (I0_l30 : Nat → Int32) (M0_l30 : Nat → Nat → Int32) (y30_6 : Int32) (H : Heap) (locs : List Loc), va_P D vwCl (wWX6 cB cI cZ a0 I0_l30 M0_l30) H → va_D A (wWX6 cB cI cZ a0 I0_l30 M0_l30) → va_S A s.heap H locs → ∀ (ls : Array Slot), lv_has ls 7 [(0, .ref (a0 0)), (3, .int v2), (4, .int y13_4), (5, .int y13_5), (6, .int y30_6)] → fX6_howManyInOrder_L30 N x1 x2 v2 y13_4 y13_5 (fX6_howManyInOrder_L13 N x1 x2 v2 fu13) fu30 I0_l30 M0_l30 y30_6 = some R → W p l e (headSpec wsX6_howManyInOrder { frames := 2, cells := 0, slots := 0, locals := 48 }).room s m [.ref (a0 0), .int x1, .int x2].toArray below meth c H locs 0 0 (MQ below (va_Qi (fun r (_ : Unit) => r = R.1) (fun _ t => wb_post D [(cB, .byte), (cI, .int), (cZ, .boolean)] A (wWX6 cB cI cZ a0 R.2.1 R.2.2) t) A) [.ref (a0 0), .int x1, .int x2].toArray s 0 0 A) (F0 m 30 ls []) := by
          intro fu30
          induction fu30 with
          | zero =>
            intro I0_l30 M0_l30 y30_6 H locs hP hD hS ls hl hf
            exact absurd hf (by rw [fX6_howManyInOrder_L30.eq_1]; exact fun h => nomatch h)
          | succ fu30 ih30 =>
            intro I0_l30 M0_l30 y30_6 H locs hP hD hS ls hl hf
            rw [fX6_howManyInOrder_L30.eq_2] at hf
            refine lv_iload hx hb dX6_howManyInOrder_30 (lv_at hl 4 rfl) ?_
            refine lv_iload hx hb dX6_howManyInOrder_32 (lv_at hl 3 rfl) ?_
            refine lv_icmp_ge (tgt := 86) hx hb dX6_howManyInOrder_34 (by decide) (fun hc => ?_) (fun hc => ?_)
            · replace hf := wb_t hc hf
              refine lv_iload hx hb dX6_howManyInOrder_86 (lv_at hl 2 rfl) ?_
              refine lv_aload_n hx hb dX6_howManyInOrder_88 rfl (lv_at hl 0 rfl) ?_
              refine va_get (D := D) (ci := 6) (v := .ref (a0 4)) (C := RX6) (T := TX6) (N := 4) hx hb hts hinX6 hown hK hP 0 rfl rfl 3 (by decide) (hts (.fieldLink RX6 21 "WheelBook$Leaves" "longest" "[I") (List.mem_of_getElem? (i := 1) rfl)) (fun _ h9 => h9) rfl dX6_howManyInOrder_89 ?_
              refine lv_iload hx hb dX6_howManyInOrder_92 (lv_at hl 3 rfl) ?_
              obtain ⟨hin, hf⟩ := wb_n hf
              refine va_iald hx hb hK hP 4 1 rfl rfl hin dX6_howManyInOrder_94 ?_
              refine va_mmax hx hb (hml.trans hl.1.symm) hown (hts (.methodLink RX6 31 Lib.Math.max.name) (List.mem_of_getElem? (i := 3) rfl)) (hts (.static Lib.Math.max.name) (List.mem_of_getElem? (i := 4) rfl)) (hts (.initialized "java/lang/Math") (List.mem_of_getElem? (i := 5) rfl)) (hts (.code Lib.Math.max.name Lib.Math.max.code 2 (some .int)) (List.mem_of_getElem? (i := 6) rfl)) (Nat.le_of_ble_eq_true rfl) (Nat.le_of_ble_eq_true rfl) (Nat.zero_le _) (Nat.zero_le _) dX6_howManyInOrder_95 ?_
              obtain ⟨v4, ev4, hf⟩ := wb_v hf
              refine wb_topi ev4 ?_
              refine lv_istore (lv' := [(4, .int v4), (0, .ref (a0 0)), (3, .int v2), (5, .int y13_5), (6, .int y30_6)]) hx hb dX6_howManyInOrder_98 hl (by decide) rfl (fun ls hl => ?_)
              obtain ⟨v5, ev5, hf⟩ := wb_v hf
              refine lv_iinc (v := v5) (lv' := [(5, .int v5), (4, .int v4), (0, .ref (a0 0)), (3, .int v2), (6, .int y30_6)]) hx hb dX6_howManyInOrder_100 hl (k := 3) rfl (by rw [ev5]; rfl) (by decide) rfl (fun ls hl => ?_)
              refine lv_goto (tgt := 13) hx hb dX6_howManyInOrder_103 (by decide) ?_
              exact ih13 I0_l30 M0_l30 v4 v5 H locs hP hD hS ls (lv_sub hl [2, 3, 1, 0] rfl) hf
            · replace hf := wb_f hc hf
              refine lv_aload_n hx hb dX6_howManyInOrder_37 rfl (lv_at hl 0 rfl) ?_
              refine va_get (D := D) (ci := 6) (v := .ref (a0 3)) (C := RX6) (T := TX6) (N := 4) hx hb hts hinX6 hown hK hP 0 rfl rfl 2 (by decide) (hts (.fieldLink RX6 18 "WheelBook$Leaves" "places" "[I") (List.mem_of_getElem? (i := 2) rfl)) (fun _ h9 => h9) rfl dX6_howManyInOrder_38 ?_
              refine lv_iload hx hb dX6_howManyInOrder_41 (lv_at hl 4 rfl) ?_
              obtain ⟨hin, hf⟩ := wb_n hf
              refine va_iald hx hb hK hP 3 1 rfl rfl hin dX6_howManyInOrder_43 ?_
              refine lv_aload_n hx hb dX6_howManyInOrder_44 rfl (lv_at hl 0 rfl) ?_
              refine va_get (D := D) (ci := 6) (v := .ref (a0 3)) (C := RX6) (T := TX6) (N := 4) hx hb hts hinX6 hown hK hP 0 rfl rfl 2 (by decide) (hts (.fieldLink RX6 18 "WheelBook$Leaves" "places" "[I") (List.mem_of_getElem? (i := 2) rfl)) (fun _ h9 => h9) rfl dX6_howManyInOrder_45 ?_
              refine lv_iload hx hb dX6_howManyInOrder_48 (lv_at hl 3 rfl) ?_
              obtain ⟨hin, hf⟩ := wb_n hf
              refine va_iald hx hb hK hP 3 1 rfl rfl hin dX6_howManyInOrder_50 ?_
              refine lv_icmp_ge (tgt := 80) hx hb dX6_howManyInOrder_51 (by decide) (fun hc => ?_) (fun hc => ?_)
              · replace hf := wb_t hc hf
                obtain ⟨v6, ev6, hf⟩ := wb_v hf
                refine lv_iinc (v := v6) (lv' := [(6, .int v6), (0, .ref (a0 0)), (3, .int v2), (4, .int y13_4), (5, .int y13_5)]) hx hb dX6_howManyInOrder_80 hl (k := 4) rfl (by rw [ev6]; rfl) (by decide) rfl (fun ls hl => ?_)
                refine lv_goto (tgt := 30) hx hb dX6_howManyInOrder_83 (by decide) ?_
                exact ih30 I0_l30 M0_l30 v6 H locs hP hD hS ls (lv_sub hl [1, 2, 3, 4, 0] rfl) hf
              · replace hf := wb_f hc hf
                refine lv_aload_n hx hb dX6_howManyInOrder_54 rfl (lv_at hl 0 rfl) ?_
                refine va_get (D := D) (ci := 6) (v := .ref (a0 4)) (C := RX6) (T := TX6) (N := 4) hx hb hts hinX6 hown hK hP 0 rfl rfl 3 (by decide) (hts (.fieldLink RX6 21 "WheelBook$Leaves" "longest" "[I") (List.mem_of_getElem? (i := 1) rfl)) (fun _ h9 => h9) rfl dX6_howManyInOrder_55 ?_
                refine lv_iload hx hb dX6_howManyInOrder_58 (lv_at hl 3 rfl) ?_
                refine lv_aload_n hx hb dX6_howManyInOrder_60 rfl (lv_at hl 0 rfl) ?_
                refine va_get (D := D) (ci := 6) (v := .ref (a0 4)) (C := RX6) (T := TX6) (N := 4) hx hb hts hinX6 hown hK hP 0 rfl rfl 3 (by decide) (hts (.fieldLink RX6 21 "WheelBook$Leaves" "longest" "[I") (List.mem_of_getElem? (i := 1) rfl)) (fun _ h9 => h9) rfl dX6_howManyInOrder_61 ?_
                refine lv_iload hx hb dX6_howManyInOrder_64 (lv_at hl 3 rfl) ?_
                obtain ⟨hin, hf⟩ := wb_n hf
                refine va_iald hx hb hK hP 4 1 rfl rfl hin dX6_howManyInOrder_66 ?_
                refine lv_aload_n hx hb dX6_howManyInOrder_67 rfl (lv_at hl 0 rfl) ?_
                refine va_get (D := D) (ci := 6) (v := .ref (a0 4)) (C := RX6) (T := TX6) (N := 4) hx hb hts hinX6 hown hK hP 0 rfl rfl 3 (by decide) (hts (.fieldLink RX6 21 "WheelBook$Leaves" "longest" "[I") (List.mem_of_getElem? (i := 1) rfl)) (fun _ h9 => h9) rfl dX6_howManyInOrder_68 ?_
                refine lv_iload hx hb dX6_howManyInOrder_71 (lv_at hl 4 rfl) ?_
                obtain ⟨hin, hf⟩ := wb_n hf
                refine va_iald hx hb hK hP 4 1 rfl rfl hin dX6_howManyInOrder_73 ?_
                refine lv_iconst (v := (1 : Int32)) hx hb dX6_howManyInOrder_74 (by decide) ?_
                refine lv_iadd hx hb dX6_howManyInOrder_75 ?_
                refine va_mmax hx hb (hml.trans hl.1.symm) hown (hts (.methodLink RX6 31 Lib.Math.max.name) (List.mem_of_getElem? (i := 3) rfl)) (hts (.static Lib.Math.max.name) (List.mem_of_getElem? (i := 4) rfl)) (hts (.initialized "java/lang/Math") (List.mem_of_getElem? (i := 5) rfl)) (hts (.code Lib.Math.max.name Lib.Math.max.code 2 (some .int)) (List.mem_of_getElem? (i := 6) rfl)) (Nat.le_of_ble_eq_true rfl) (Nat.le_of_ble_eq_true rfl) (Nat.zero_le _) (Nat.zero_le _) dX6_howManyInOrder_76 ?_
                obtain ⟨hin, hf⟩ := wb_n hf
                refine va_iast hx hb hK hP hD hS 4 1 rfl rfl hin dX6_howManyInOrder_79 (fun H locs hP hD hS => ?_)
                have hP : va_P D vwCl (wWX6 cB cI cZ a0 I0_l30 (wb_um M0_l30 3 (y13_5).toNatClampNeg (if (M0_l30 3 (y13_5).toNatClampNeg) < ((M0_l30 3 (y30_6).toNatClampNeg) + (1 : Int32)) then ((M0_l30 3 (y30_6).toNatClampNeg) + (1 : Int32)) else (M0_l30 3 (y13_5).toNatClampNeg)))) H := hP
                have hD : va_D A (wWX6 cB cI cZ a0 I0_l30 (wb_um M0_l30 3 (y13_5).toNatClampNeg (if (M0_l30 3 (y13_5).toNatClampNeg) < ((M0_l30 3 (y30_6).toNatClampNeg) + (1 : Int32)) then ((M0_l30 3 (y30_6).toNatClampNeg) + (1 : Int32)) else (M0_l30 3 (y13_5).toNatClampNeg)))) := hD
                obtain ⟨M0_7, eM0_7, hf⟩ := wb_v hf
                rw [← eM0_7] at hP hD
                obtain ⟨v8, ev8, hf⟩ := wb_v hf
                refine lv_iinc (v := v8) (lv' := [(6, .int v8), (0, .ref (a0 0)), (3, .int v2), (4, .int y13_4), (5, .int y13_5)]) hx hb dX6_howManyInOrder_80 hl (k := 4) rfl (by rw [ev8]; rfl) (by decide) rfl (fun ls hl => ?_)
                refine lv_goto (tgt := 30) hx hb dX6_howManyInOrder_83 (by decide) ?_
                exact ih30 I0_l30 M0_7 v8 H locs hP hD hS ls (lv_sub hl [1, 2, 3, 4, 0] rfl) hf
        exact L30 N I0_l13 M0_3 (0 : Int32) H locs hP hD hS ls (lv_sub hl [1, 2, 3, 4, 0] rfl) hf
  exact L13 N r1.2.1 r1.2.2 (0 : Int32) (0 : Int32) H locs hP hD hS ls (lv_sub hl [3, 2, 1, 0] rfl) hf
