set_option maxHeartbeats 4000000 in
set_option maxRecDepth 100000 in
theorem cn_X12_climbOf (l : Launch) (D : va_G) (cB cI cZ : ClassId) (N : Nat) (a0 : Nat → Nat) (I0 : Nat → Int32) (L0 : Int64) (M0 : Nat → Nat → Int32) (x1 : Int32) (x2 : Int32) (R : Int32) (hf : fX12_climbOf N I0 L0 M0 x1 x2 = some R) : Met l yX12_climbOf wsX12_climbOf ({ frames := 0, cells := 0, slots := 0, locals := 0 }) (va_Pc [.ref (a0 0), .int x1, .int x2] (wb_pre D [(cB, .byte), (cI, .int), (cZ, .boolean)] (wWX12 cB cI cZ a0 I0 L0 M0))) (vp_Si (fun r => r = R)) 0 0 (fun _ => False) := by
  refine Met.ofW (cc := cX12_climbOf) (maxL := 5) (ret := (some .int)) pn_X12 rfl ?_
  intro p e s m args below meth c s₁ B hml hv
  obtain ⟨rfl, hP, hK⟩ := hv
  have hx := B.exec
  have hb := B.bytes
  have hr := B.returns
  have hts := atoms_spec (ws := wsX12_climbOf) B.pre
  have hown : s.vm.findClass RX12 = some m.cls := (findClass_of_methodNamed B.named :)
  have hlocks := B.notSynchronized
  have hinX12 : ∀ w ∈ u_ws RX12 TX12 58, w ∈ wsX12_climbOf := fun w h => List.mem_cons_of_mem _ (List.mem_append_right _ h)
  have hl := lv_entry ([.ref (a0 0), .int x1, .int x2]) (n := 5) (Nat.le_of_ble_eq_true rfl)
  rw [lg_entry_eq]
  generalize (lg_sl ([.ref (a0 0), .int x1, .int x2]) ++ List.replicate (5 - (lg_sl ([.ref (a0 0), .int x1, .int x2])).length) Slot.unset).toArray = ls at hl ⊢
  have hl : lv_has ls 5 [(0, .ref (a0 0)), (1, .int x1), (2, .int x2)] := hl
  unfold fX12_climbOf at hf
  refine lv_iconst (v := (0 : Int32)) hx hb dX12_climbOf_0 (by decide) ?_
  refine lv_istore_n (lv' := [(3, .int (0 : Int32)), (0, .ref (a0 0)), (1, .int x1), (2, .int x2)]) hx hb dX12_climbOf_1 rfl hl (by decide) rfl (fun ls hl => ?_)
  refine lv_iconst (v := (0 : Int32)) hx hb dX12_climbOf_2 (by decide) ?_
  refine lv_istore (lv' := [(4, .int (0 : Int32)), (3, .int (0 : Int32)), (0, .ref (a0 0)), (1, .int x1), (2, .int x2)]) hx hb dX12_climbOf_3 hl (by decide) rfl (fun ls hl => ?_)
  have Lh5 : ∀ (fu5 : Nat) (y5_3 : Int32) (y5_4 : Int32), ∀ (ls : Array Slot), lv_has ls 5 [(0, .ref (a0 0)), (1, .int x1), (2, .int x2), (3, .int y5_3), (4, .int y5_4)] → fX12_climbOf_L5 N I0 L0 M0 x1 x2 fu5 y5_3 y5_4 = some R → W p l e (headSpec wsX12_climbOf { frames := 0, cells := 0, slots := 0, locals := 0 }).room s m [.ref (a0 0), .int x1, .int x2].toArray below meth c s.heap [] 0 0 (MQ below (vp_Si (fun r => r = R)) [.ref (a0 0), .int x1, .int x2].toArray s 0 0 (fun _ => False)) (F0 m 5 ls []) := by
    intro fu5
    induction fu5 with
    | zero =>
      intro y5_3 y5_4 ls hl hf
      exact absurd hf (by rw [fX12_climbOf_L5.eq_1]; exact fun h => nomatch h)
    | succ fu5 ih5 =>
      intro y5_3 y5_4 ls hl hf
      rw [fX12_climbOf_L5.eq_2] at hf
      refine lv_iload hx hb dX12_climbOf_5 (lv_at hl 4 rfl) ?_
      refine lv_iload_n hx hb dX12_climbOf_7 rfl (lv_at hl 2 rfl) ?_
      refine lv_sipush (v := (1800 : Int32)) hx hb dX12_climbOf_8 (by decide) ?_
      refine lv_idiv hx hb dX12_climbOf_11 (by decide) ?_
      refine lv_icmp_ge (tgt := 40) hx hb dX12_climbOf_12 (by decide) (fun hc => ?_) (fun hc => ?_)
      · replace hf := wb_t hc hf
        refine lv_iload_n hx hb dX12_climbOf_40 rfl (lv_at hl 3 rfl) ?_
        refine lv_aload_n hx hb dX12_climbOf_41 rfl (lv_at hl 0 rfl) ?_
        refine va_get (D := D) (ci := 12) (v := .ref (a0 5)) (C := RX12) (T := TX12) (N := 58) hx hb hts hinX12 hown hK hP 0 rfl rfl 7 (by decide) (hts (.fieldLink RX12 22 "WheelBookModel" "rising" "[I") (List.mem_of_getElem? (i := 1) rfl)) (fun _ h9 => h9) rfl dX12_climbOf_42 ?_
        refine lv_bipush (v := (12 : Int32)) hx hb dX12_climbOf_45 (by decide) ?_
        refine lv_iload_n hx hb dX12_climbOf_47 rfl (lv_at hl 1 rfl) ?_
        refine lv_imul hx hb dX12_climbOf_48 ?_
        refine lv_iload_n hx hb dX12_climbOf_49 rfl (lv_at hl 2 rfl) ?_
        refine lv_sipush (v := (1800 : Int32)) hx hb dX12_climbOf_50 (by decide) ?_
        refine lv_idiv hx hb dX12_climbOf_53 (by decide) ?_
        refine lv_iadd hx hb dX12_climbOf_54 ?_
        obtain ⟨hin, hf⟩ := wb_n hf
        refine va_iald hx hb hK hP 5 1 rfl rfl hin dX12_climbOf_55 ?_
        refine lv_iload_n hx hb dX12_climbOf_56 rfl (lv_at hl 2 rfl) ?_
        refine lv_sipush (v := (1800 : Int32)) hx hb dX12_climbOf_57 (by decide) ?_
        refine lv_irem hx hb dX12_climbOf_60 (by decide) ?_
        refine lv_imul hx hb dX12_climbOf_61 ?_
        refine lv_iadd hx hb dX12_climbOf_62 ?_
        exact W.iret (v := (y5_3 + ((M0 4 ((((12 : Int32) * x1) + (x2 / (1800 : Int32)))).toNatClampNeg) * (x2 - x2 / (1800 : Int32) * (1800 : Int32))))) hx hb hr (fun t ht hW => ⟨_, rfl, Option.some.inj hf, ht⟩) (fun _ h => nomatch h) dX12_climbOf_63
      · replace hf := wb_f hc hf
        refine lv_iload_n hx hb dX12_climbOf_15 rfl (lv_at hl 3 rfl) ?_
        refine lv_sipush (v := (1800 : Int32)) hx hb dX12_climbOf_16 (by decide) ?_
        refine lv_aload_n hx hb dX12_climbOf_19 rfl (lv_at hl 0 rfl) ?_
        refine va_get (D := D) (ci := 12) (v := .ref (a0 5)) (C := RX12) (T := TX12) (N := 58) hx hb hts hinX12 hown hK hP 0 rfl rfl 7 (by decide) (hts (.fieldLink RX12 22 "WheelBookModel" "rising" "[I") (List.mem_of_getElem? (i := 1) rfl)) (fun _ h9 => h9) rfl dX12_climbOf_20 ?_
        refine lv_bipush (v := (12 : Int32)) hx hb dX12_climbOf_23 (by decide) ?_
        refine lv_iload_n hx hb dX12_climbOf_25 rfl (lv_at hl 1 rfl) ?_
        refine lv_imul hx hb dX12_climbOf_26 ?_
        refine lv_iload hx hb dX12_climbOf_27 (lv_at hl 4 rfl) ?_
        refine lv_iadd hx hb dX12_climbOf_29 ?_
        obtain ⟨hin, hf⟩ := wb_n hf
        refine va_iald hx hb hK hP 5 1 rfl rfl hin dX12_climbOf_30 ?_
        refine lv_imul hx hb dX12_climbOf_31 ?_
        refine lv_iadd hx hb dX12_climbOf_32 ?_
        obtain ⟨v1, ev1, hf⟩ := wb_v hf
        refine wb_topi ev1 ?_
        refine lv_istore_n (lv' := [(3, .int v1), (0, .ref (a0 0)), (1, .int x1), (2, .int x2), (4, .int y5_4)]) hx hb dX12_climbOf_33 rfl hl (by decide) rfl (fun ls hl => ?_)
        obtain ⟨v2, ev2, hf⟩ := wb_v hf
        refine lv_iinc (v := v2) (lv' := [(4, .int v2), (3, .int v1), (0, .ref (a0 0)), (1, .int x1), (2, .int x2)]) hx hb dX12_climbOf_34 hl (k := 4) rfl (by rw [ev2]; rfl) (by decide) rfl (fun ls hl => ?_)
        refine lv_goto (tgt := 5) hx hb dX12_climbOf_37 (by decide) ?_
        exact ih5 v1 v2 ls (lv_sub hl [2, 3, 4, 1, 0] rfl) hf
  exact Lh5 N (0 : Int32) (0 : Int32) ls (lv_sub hl [2, 3, 4, 1, 0] rfl) hf

set_option maxHeartbeats 4000000 in
set_option maxRecDepth 100000 in
theorem cn_X12_placeOf (l : Launch) (D : va_G) (cB cI cZ : ClassId) (N : Nat) (a0 : Nat → Nat) (I0 : Nat → Int32) (L0 : Int64) (M0 : Nat → Nat → Int32) (x1 : Int32) (x2 : Int32) (R : Int32) (hf : fX12_placeOf N I0 L0 M0 x1 x2 = some R) : Met l yX12_placeOf wsX12_placeOf ({ frames := 0, cells := 0, slots := 0, locals := 0 }) (va_Pc [.ref (a0 0), .int x1, .int x2] (wb_pre D [(cB, .byte), (cI, .int), (cZ, .boolean)] (wWX12 cB cI cZ a0 I0 L0 M0))) (vp_Si (fun r => r = R)) 0 0 (fun _ => False) := by
  refine Met.ofW (cc := cX12_placeOf) (maxL := 5) (ret := (some .int)) pn_X12 rfl ?_
  intro p e s m args below meth c s₁ B hml hv
  obtain ⟨rfl, hP, hK⟩ := hv
  have hx := B.exec
  have hb := B.bytes
  have hr := B.returns
  have hts := atoms_spec (ws := wsX12_placeOf) B.pre
  have hown : s.vm.findClass RX12 = some m.cls := (findClass_of_methodNamed B.named :)
  have hlocks := B.notSynchronized
  have hinX12 : ∀ w ∈ u_ws RX12 TX12 58, w ∈ wsX12_placeOf := fun w h => List.mem_cons_of_mem _ (List.mem_append_right _ h)
  have hl := lv_entry ([.ref (a0 0), .int x1, .int x2]) (n := 5) (Nat.le_of_ble_eq_true rfl)
  rw [lg_entry_eq]
  generalize (lg_sl ([.ref (a0 0), .int x1, .int x2]) ++ List.replicate (5 - (lg_sl ([.ref (a0 0), .int x1, .int x2])).length) Slot.unset).toArray = ls at hl ⊢
  have hl : lv_has ls 5 [(0, .ref (a0 0)), (1, .int x1), (2, .int x2)] := hl
  unfold fX12_placeOf at hf
  refine lv_iload_n hx hb dX12_placeOf_0 rfl (lv_at hl 2 rfl) ?_
  refine lv_istore_n (lv' := [(3, .int x2), (0, .ref (a0 0)), (1, .int x1), (2, .int x2)]) hx hb dX12_placeOf_1 rfl hl (by decide) rfl (fun ls hl => ?_)
  refine lv_iconst (v := (0 : Int32)) hx hb dX12_placeOf_2 (by decide) ?_
  refine lv_istore (lv' := [(4, .int (0 : Int32)), (3, .int x2), (0, .ref (a0 0)), (1, .int x1), (2, .int x2)]) hx hb dX12_placeOf_3 hl (by decide) rfl (fun ls hl => ?_)
  have Lh5 : ∀ (fu5 : Nat) (y5_3 : Int32) (y5_4 : Int32), ∀ (ls : Array Slot), lv_has ls 5 [(0, .ref (a0 0)), (1, .int x1), (3, .int y5_3), (4, .int y5_4)] → fX12_placeOf_L5 N I0 L0 M0 x1 x2 fu5 y5_3 y5_4 = some R → W p l e (headSpec wsX12_placeOf { frames := 0, cells := 0, slots := 0, locals := 0 }).room s m [.ref (a0 0), .int x1, .int x2].toArray below meth c s.heap [] 0 0 (MQ below (vp_Si (fun r => r = R)) [.ref (a0 0), .int x1, .int x2].toArray s 0 0 (fun _ => False)) (F0 m 5 ls []) := by
    intro fu5
    induction fu5 with
    | zero =>
      intro y5_3 y5_4 ls hl hf
      exact absurd hf (by rw [fX12_placeOf_L5.eq_1]; exact fun h => nomatch h)
    | succ fu5 ih5 =>
      intro y5_3 y5_4 ls hl hf
      rw [fX12_placeOf_L5.eq_2] at hf
      refine lv_iload_n hx hb dX12_placeOf_5 rfl (lv_at hl 2 rfl) ?_
      refine lv_sipush (v := (1800 : Int32)) hx hb dX12_placeOf_6 (by decide) ?_
      refine lv_aload_n hx hb dX12_placeOf_9 rfl (lv_at hl 0 rfl) ?_
      refine va_get (D := D) (ci := 12) (v := .ref (a0 5)) (C := RX12) (T := TX12) (N := 58) hx hb hts hinX12 hown hK hP 0 rfl rfl 7 (by decide) (hts (.fieldLink RX12 22 "WheelBookModel" "rising" "[I") (List.mem_of_getElem? (i := 1) rfl)) (fun _ h9 => h9) rfl dX12_placeOf_10 ?_
      refine lv_bipush (v := (12 : Int32)) hx hb dX12_placeOf_13 (by decide) ?_
      refine lv_iload_n hx hb dX12_placeOf_15 rfl (lv_at hl 1 rfl) ?_
      refine lv_imul hx hb dX12_placeOf_16 ?_
      refine lv_iload hx hb dX12_placeOf_17 (lv_at hl 3 rfl) ?_
      refine lv_iadd hx hb dX12_placeOf_19 ?_
      obtain ⟨hin, hf⟩ := wb_n hf
      refine va_iald hx hb hK hP 5 1 rfl rfl hin dX12_placeOf_20 ?_
      refine lv_imul hx hb dX12_placeOf_21 ?_
      refine lv_icmp_lt (tgt := 50) hx hb dX12_placeOf_22 (by decide) (fun hc => ?_) (fun hc => ?_)
      · replace hf := wb_t hc hf
        refine lv_sipush (v := (1800 : Int32)) hx hb dX12_placeOf_50 (by decide) ?_
        refine lv_iload hx hb dX12_placeOf_53 (lv_at hl 3 rfl) ?_
        refine lv_imul hx hb dX12_placeOf_55 ?_
        refine lv_iload_n hx hb dX12_placeOf_56 rfl (lv_at hl 2 rfl) ?_
        refine lv_aload_n hx hb dX12_placeOf_57 rfl (lv_at hl 0 rfl) ?_
        refine va_get (D := D) (ci := 12) (v := .ref (a0 5)) (C := RX12) (T := TX12) (N := 58) hx hb hts hinX12 hown hK hP 0 rfl rfl 7 (by decide) (hts (.fieldLink RX12 22 "WheelBookModel" "rising" "[I") (List.mem_of_getElem? (i := 1) rfl)) (fun _ h9 => h9) rfl dX12_placeOf_58 ?_
        refine lv_bipush (v := (12 : Int32)) hx hb dX12_placeOf_61 (by decide) ?_
        refine lv_iload_n hx hb dX12_placeOf_63 rfl (lv_at hl 1 rfl) ?_
        refine lv_imul hx hb dX12_placeOf_64 ?_
        refine lv_iload hx hb dX12_placeOf_65 (lv_at hl 3 rfl) ?_
        refine lv_iadd hx hb dX12_placeOf_67 ?_
        obtain ⟨hin, hf⟩ := wb_n hf
        refine va_iald hx hb hK hP 5 1 rfl rfl hin dX12_placeOf_68 ?_
        obtain ⟨hz, hf⟩ := wb_n hf
        refine lv_idiv hx hb dX12_placeOf_69 hz ?_
        refine lv_iadd hx hb dX12_placeOf_70 ?_
        exact W.iret (v := (((1800 : Int32) * y5_4) + (y5_3 / (M0 4 ((((12 : Int32) * x1) + y5_4)).toNatClampNeg)))) hx hb hr (fun t ht hW => ⟨_, rfl, Option.some.inj hf, ht⟩) (fun _ h => nomatch h) dX12_placeOf_71
      · replace hf := wb_f hc hf
        refine lv_iload_n hx hb dX12_placeOf_25 rfl (lv_at hl 2 rfl) ?_
        refine lv_sipush (v := (1800 : Int32)) hx hb dX12_placeOf_26 (by decide) ?_
        refine lv_aload_n hx hb dX12_placeOf_29 rfl (lv_at hl 0 rfl) ?_
        refine va_get (D := D) (ci := 12) (v := .ref (a0 5)) (C := RX12) (T := TX12) (N := 58) hx hb hts hinX12 hown hK hP 0 rfl rfl 7 (by decide) (hts (.fieldLink RX12 22 "WheelBookModel" "rising" "[I") (List.mem_of_getElem? (i := 1) rfl)) (fun _ h9 => h9) rfl dX12_placeOf_30 ?_
        refine lv_bipush (v := (12 : Int32)) hx hb dX12_placeOf_33 (by decide) ?_
        refine lv_iload_n hx hb dX12_placeOf_35 rfl (lv_at hl 1 rfl) ?_
        refine lv_imul hx hb dX12_placeOf_36 ?_
        refine lv_iload hx hb dX12_placeOf_37 (lv_at hl 3 rfl) ?_
        refine lv_iadd hx hb dX12_placeOf_39 ?_
        obtain ⟨hin, hf⟩ := wb_n hf
        refine va_iald hx hb hK hP 5 1 rfl rfl hin dX12_placeOf_40 ?_
        refine lv_imul hx hb dX12_placeOf_41 ?_
        refine lv_isub hx hb dX12_placeOf_42 ?_
        obtain ⟨v1, ev1, hf⟩ := wb_v hf
        refine wb_topi ev1 ?_
        refine lv_istore_n (lv' := [(3, .int v1), (0, .ref (a0 0)), (1, .int x1), (4, .int y5_4)]) hx hb dX12_placeOf_43 rfl hl (by decide) rfl (fun ls hl => ?_)
        obtain ⟨v2, ev2, hf⟩ := wb_v hf
        refine lv_iinc (v := v2) (lv' := [(4, .int v2), (3, .int v1), (0, .ref (a0 0)), (1, .int x1)]) hx hb dX12_placeOf_44 hl (k := 3) rfl (by rw [ev2]; rfl) (by decide) rfl (fun ls hl => ?_)
        refine lv_goto (tgt := 5) hx hb dX12_placeOf_47 (by decide) ?_
        exact ih5 v1 v2 ls (lv_sub hl [2, 3, 1, 0] rfl) hf
  exact Lh5 N x2 (0 : Int32) ls (lv_sub hl [2, 3, 1, 0] rfl) hf

set_option maxHeartbeats 4000000 in
set_option maxRecDepth 100000 in
theorem cn_X12_isClimate (l : Launch) (D : va_G) (cB cI cZ : ClassId) (N : Nat) (a0 : Nat → Nat) (I0 : Nat → Int32) (L0 : Int64) (M0 : Nat → Nat → Int32) (x1 : Int32) (x2 : Int32) (sz : Nat) (R : Int32 × (Nat → Int32) × Int64 × (Nat → Nat → Int32)) (hf : fX12_isClimate N I0 L0 M0 x1 x2 = some R) : Met l yX12_isClimate wsX12_isClimate ({ frames := 1, cells := 0, slots := 0, locals := 22 }) (va_Pc [.ref (a0 0), .int x1, .int x2] (wb_preD D [(cB, .byte), (cI, .int), (cZ, .boolean)] (wWX12 cB cI cZ a0 I0 L0 M0) sz)) (va_Qi (fun r (_ : Unit) => r = R.1) (fun _ t => wb_post D [(cB, .byte), (cI, .int), (cZ, .boolean)] (va_A (wWX12 cB cI cZ a0 I0 L0 M0) sz) (wWX12 cB cI cZ a0 R.2.1 R.2.2.1 R.2.2.2) t) (va_A (wWX12 cB cI cZ a0 I0 L0 M0) sz)) 0 0 (va_A (wWX12 cB cI cZ a0 I0 L0 M0) sz) := by
  refine Met.ofW (cc := cX12_isClimate) (maxL := 3) (ret := (some .boolean)) pn_X12 rfl ?_
  intro p e s m args below meth c s₁ B hml hv
  obtain ⟨rfl, hsz, hP, hK, hD0⟩ := hv
  have hx := B.exec
  have hb := B.bytes
  have hr := B.returns
  have hts := atoms_spec (ws := wsX12_isClimate) B.pre
  have hown : s.vm.findClass RX12 = some m.cls := (findClass_of_methodNamed B.named :)
  have hlocks := B.notSynchronized
  have hinX12 : ∀ w ∈ u_ws RX12 TX12 58, w ∈ wsX12_isClimate := fun w h => List.mem_cons_of_mem _ (List.mem_append_right _ h)
  subst hsz
  have hD := hD0.self (sz := s.heap.size)
  generalize hAe : va_A (wWX12 cB cI cZ a0 I0 L0 M0) s.heap.size = A at hD ⊢
  have hA : ∀ q : Nat, s.heap.size ≤ q → A q := fun q h => by rw [← hAe]; exact Or.inr h
  have hS : va_S A s.heap s.heap [] := va_S.rf
  have hl := lv_entry ([.ref (a0 0), .int x1, .int x2]) (n := 3) (Nat.le_of_ble_eq_true rfl)
  rw [lg_entry_eq]
  generalize (lg_sl ([.ref (a0 0), .int x1, .int x2]) ++ List.replicate (3 - (lg_sl ([.ref (a0 0), .int x1, .int x2])).length) Slot.unset).toArray = ls at hl ⊢
  have hl : lv_has ls 3 [(0, .ref (a0 0)), (1, .int x1), (2, .int x2)] := hl
  unfold fX12_isClimate at hf
  obtain ⟨H, hHe⟩ : ∃ H : Heap, H = s.heap := ⟨_, rfl⟩
  obtain ⟨locs, hle⟩ : ∃ locs : List Loc, locs = [] := ⟨_, rfl⟩
  refine wb_start (H := H) (locs := locs) hHe hle ?_
  rw [← hHe] at hP
  have hS : va_S A s.heap H locs := by rw [hHe, hle]; exact va_S.rf
  refine lv_aload_n hx hb dX12_isClimate_0 rfl (lv_at hl 0 rfl) ?_
  refine lv_iload_n hx hb dX12_isClimate_1 rfl (lv_at hl 1 rfl) ?_
  refine lv_if_lt (tgt := 28) hx hb dX12_isClimate_2 (by decide) (fun hc => ?_) (fun hc => ?_)
  · replace hf := wb_t hc hf
    refine lv_iconst (v := (0 : Int32)) hx hb dX12_isClimate_28 (by decide) ?_
    refine lv_iconst (v := (1 : Int32)) hx hb dX12_isClimate_29 (by decide) ?_
    obtain ⟨r1, hr1, hf⟩ := wb_b hf
    have hPc := hP
    have hDc := hD
    have hFc := wj_F hDc hS hA
    refine va_calli (va_runV (As := [.int (0 : Int32), .int (1 : Int32)]) (rest := []) ⟨hx, hb, hml, hown, hts⟩ (cn_X12_right l D cB cI cZ N a0 I0 L0 M0 (0 : Int32) (1 : Int32) H.size r1 hr1) (cwV 2 hts gX12_isClimate_X12_right rfl rfl rfl cdX12_right ⟨Nat.le_of_ble_eq_true rfl, Nat.le_of_ble_eq_true rfl⟩) (wb_preDV hPc hK hDc (wr_12 hK hP (q0 := 0) rfl)) rfl rfl hl.1 rfl (lv_room (Nat.le_of_ble_eq_true rfl)) dX12_isClimate_30 ⟨Nat.le_of_ble_eq_true rfl, Nat.le_of_ble_eq_true rfl⟩) hS (fun q _ h => hFc q h) hFc (fun r9 u t H locs ht hvm hw hB hz1 hk1 hS => ?_)
    obtain ⟨hP, hD⟩ := wj_0 hFc ht hB
    rw [hw]
    obtain ⟨hz, hf⟩ := wb_y hf
    exact W.zret (v := r1.1) hx hb hr (congrArg Value.int hz) (fun t ht hW => by rw [← Option.some.inj hf]; exact ⟨⟨r1.1, (), rfl, rfl, by rw [ht]; exact hP, va_K.moved hW.alike hK, hD⟩, hS.F ht⟩) hS.2.2 dX12_isClimate_33
  · replace hf := wb_f hc hf
    refine lv_iload_n hx hb dX12_isClimate_5 rfl (lv_at hl 1 rfl) ?_
    refine lv_aload_n hx hb dX12_isClimate_6 rfl (lv_at hl 0 rfl) ?_
    refine va_get (D := D) (ci := 12) (v := .int (I0 1)) (C := RX12) (T := TX12) (N := 58) hx hb hts hinX12 hown hK hP 0 rfl rfl 5 (by decide) (hts (.fieldLink RX12 228 "WheelBookModel" "climates" "I") (List.mem_of_getElem? (i := 1) rfl)) (fun _ h9 => h9) rfl dX12_isClimate_7 ?_
    refine lv_icmp_ge (tgt := 28) hx hb dX12_isClimate_10 (by decide) (fun hc => ?_) (fun hc => ?_)
    · replace hf := wb_t hc hf
      refine lv_iconst (v := (0 : Int32)) hx hb dX12_isClimate_28 (by decide) ?_
      refine lv_iconst (v := (1 : Int32)) hx hb dX12_isClimate_29 (by decide) ?_
      obtain ⟨r2, hr2, hf⟩ := wb_b hf
      have hPc := hP
      have hDc := hD
      have hFc := wj_F hDc hS hA
      refine va_calli (va_runV (As := [.int (0 : Int32), .int (1 : Int32)]) (rest := []) ⟨hx, hb, hml, hown, hts⟩ (cn_X12_right l D cB cI cZ N a0 I0 L0 M0 (0 : Int32) (1 : Int32) H.size r2 hr2) (cwV 2 hts gX12_isClimate_X12_right rfl rfl rfl cdX12_right ⟨Nat.le_of_ble_eq_true rfl, Nat.le_of_ble_eq_true rfl⟩) (wb_preDV hPc hK hDc (wr_12 hK hP (q0 := 0) rfl)) rfl rfl hl.1 rfl (lv_room (Nat.le_of_ble_eq_true rfl)) dX12_isClimate_30 ⟨Nat.le_of_ble_eq_true rfl, Nat.le_of_ble_eq_true rfl⟩) hS (fun q _ h => hFc q h) hFc (fun r9 u t H locs ht hvm hw hB hz1 hk1 hS => ?_)
      obtain ⟨hP, hD⟩ := wj_0 hFc ht hB
      rw [hw]
      obtain ⟨hz, hf⟩ := wb_y hf
      exact W.zret (v := r2.1) hx hb hr (congrArg Value.int hz) (fun t ht hW => by rw [← Option.some.inj hf]; exact ⟨⟨r2.1, (), rfl, rfl, by rw [ht]; exact hP, va_K.moved hW.alike hK, hD⟩, hS.F ht⟩) hS.2.2 dX12_isClimate_33
    · replace hf := wb_f hc hf
      refine lv_iload_n hx hb dX12_isClimate_13 rfl (lv_at hl 2 rfl) ?_
      refine lv_iconst (v := (0 : Int32)) hx hb dX12_isClimate_14 (by decide) ?_
      refine lv_sipush (v := (21599 : Int32)) hx hb dX12_isClimate_15 (by decide) ?_
      obtain ⟨r3, hr3, hf⟩ := wb_b hf
      refine vp_callSi (W.runS (As := [.int x2, .int (0 : Int32), .int (21599 : Int32)]) (rest := [.ref (a0 0)]) ⟨hx, hb, hml, hown, hts⟩ (cn_X12_within l D cB cI cZ N x2 (0 : Int32) (21599 : Int32) r3 hr3) (va_cwS 3 hts gX12_isClimate_X12_within rfl rfl rfl csX12_within ⟨Nat.le_of_ble_eq_true rfl, Nat.le_of_ble_eq_true rfl⟩) (wb_preS (hP.sub (ws' := ([] : va_W)) [] rfl) hK) rfl rfl hl.1 rfl (lv_room (Nat.le_of_ble_eq_true rfl)) dX12_isClimate_18 ⟨Nat.le_of_ble_eq_true rfl, Nat.le_of_ble_eq_true rfl⟩) (fun r9 e9 => ?_)
      rw [e9]
      refine lv_if_eq (tgt := 28) hx hb dX12_isClimate_21 (by decide) (fun hc => ?_) (fun hc => ?_)
      · replace hf := wb_t hc hf
        refine lv_iconst (v := (0 : Int32)) hx hb dX12_isClimate_28 (by decide) ?_
        refine lv_iconst (v := (1 : Int32)) hx hb dX12_isClimate_29 (by decide) ?_
        obtain ⟨r4, hr4, hf⟩ := wb_b hf
        have hPc := hP
        have hDc := hD
        have hFc := wj_F hDc hS hA
        refine va_calli (va_runV (As := [.int (0 : Int32), .int (1 : Int32)]) (rest := []) ⟨hx, hb, hml, hown, hts⟩ (cn_X12_right l D cB cI cZ N a0 I0 L0 M0 (0 : Int32) (1 : Int32) H.size r4 hr4) (cwV 2 hts gX12_isClimate_X12_right rfl rfl rfl cdX12_right ⟨Nat.le_of_ble_eq_true rfl, Nat.le_of_ble_eq_true rfl⟩) (wb_preDV hPc hK hDc (wr_12 hK hP (q0 := 0) rfl)) rfl rfl hl.1 rfl (lv_room (Nat.le_of_ble_eq_true rfl)) dX12_isClimate_30 ⟨Nat.le_of_ble_eq_true rfl, Nat.le_of_ble_eq_true rfl⟩) hS (fun q _ h => hFc q h) hFc (fun r9 u t H locs ht hvm hw hB hz1 hk1 hS => ?_)
        obtain ⟨hP, hD⟩ := wj_0 hFc ht hB
        rw [hw]
        obtain ⟨hz, hf⟩ := wb_y hf
        exact W.zret (v := r4.1) hx hb hr (congrArg Value.int hz) (fun t ht hW => by rw [← Option.some.inj hf]; exact ⟨⟨r4.1, (), rfl, rfl, by rw [ht]; exact hP, va_K.moved hW.alike hK, hD⟩, hS.F ht⟩) hS.2.2 dX12_isClimate_33
      · replace hf := wb_f hc hf
        refine lv_iconst (v := (1 : Int32)) hx hb dX12_isClimate_24 (by decide) ?_
        refine lv_goto (tgt := 29) hx hb dX12_isClimate_25 (by decide) ?_
        refine lv_iconst (v := (1 : Int32)) hx hb dX12_isClimate_29 (by decide) ?_
        obtain ⟨r5, hr5, hf⟩ := wb_b hf
        have hPc := hP
        have hDc := hD
        have hFc := wj_F hDc hS hA
        refine va_calli (va_runV (As := [.int (1 : Int32), .int (1 : Int32)]) (rest := []) ⟨hx, hb, hml, hown, hts⟩ (cn_X12_right l D cB cI cZ N a0 I0 L0 M0 (1 : Int32) (1 : Int32) H.size r5 hr5) (cwV 2 hts gX12_isClimate_X12_right rfl rfl rfl cdX12_right ⟨Nat.le_of_ble_eq_true rfl, Nat.le_of_ble_eq_true rfl⟩) (wb_preDV hPc hK hDc (wr_12 hK hP (q0 := 0) rfl)) rfl rfl hl.1 rfl (lv_room (Nat.le_of_ble_eq_true rfl)) dX12_isClimate_30 ⟨Nat.le_of_ble_eq_true rfl, Nat.le_of_ble_eq_true rfl⟩) hS (fun q _ h => hFc q h) hFc (fun r9 u t H locs ht hvm hw hB hz1 hk1 hS => ?_)
        obtain ⟨hP, hD⟩ := wj_0 hFc ht hB
        rw [hw]
        obtain ⟨hz, hf⟩ := wb_y hf
        exact W.zret (v := r5.1) hx hb hr (congrArg Value.int hz) (fun t ht hW => by rw [← Option.some.inj hf]; exact ⟨⟨r5.1, (), rfl, rfl, by rw [ht]; exact hP, va_K.moved hW.alike hK, hD⟩, hS.F ht⟩) hS.2.2 dX12_isClimate_33

set_option maxHeartbeats 4000000 in
set_option maxRecDepth 100000 in
theorem cn_X12_climb (l : Launch) (D : va_G) (cB cI cZ : ClassId) (N : Nat) (a0 : Nat → Nat) (I0 : Nat → Int32) (L0 : Int64) (M0 : Nat → Nat → Int32) (x1 : Int32) (x2 : Int32) (sz : Nat) (R : Int32 × (Nat → Int32) × Int64 × (Nat → Nat → Int32)) (hf : fX12_climb N I0 L0 M0 x1 x2 = some R) : Met l yX12_climb wsX12_climb ({ frames := 2, cells := 0, slots := 0, locals := 44 }) (va_Pc [.ref (a0 0), .int x1, .int x2] (wb_preD D [(cB, .byte), (cI, .int), (cZ, .boolean)] (wWX12 cB cI cZ a0 I0 L0 M0) sz)) (va_Qi (fun r (_ : Unit) => r = R.1) (fun _ t => wb_post D [(cB, .byte), (cI, .int), (cZ, .boolean)] (va_A (wWX12 cB cI cZ a0 I0 L0 M0) sz) (wWX12 cB cI cZ a0 R.2.1 R.2.2.1 R.2.2.2) t) (va_A (wWX12 cB cI cZ a0 I0 L0 M0) sz)) 0 0 (va_A (wWX12 cB cI cZ a0 I0 L0 M0) sz) := by
  refine Met.ofW (cc := cX12_climb) (maxL := 3) (ret := (some .int)) pn_X12 rfl ?_
  intro p e s m args below meth c s₁ B hml hv
  obtain ⟨rfl, hsz, hP, hK, hD0⟩ := hv
  have hx := B.exec
  have hb := B.bytes
  have hr := B.returns
  have hts := atoms_spec (ws := wsX12_climb) B.pre
  have hown : s.vm.findClass RX12 = some m.cls := (findClass_of_methodNamed B.named :)
  have hlocks := B.notSynchronized
  have hinX12 : ∀ w ∈ u_ws RX12 TX12 58, w ∈ wsX12_climb := fun w h => List.mem_cons_of_mem _ (List.mem_append_right _ h)
  subst hsz
  have hD := hD0.self (sz := s.heap.size)
  generalize hAe : va_A (wWX12 cB cI cZ a0 I0 L0 M0) s.heap.size = A at hD ⊢
  have hA : ∀ q : Nat, s.heap.size ≤ q → A q := fun q h => by rw [← hAe]; exact Or.inr h
  have hS : va_S A s.heap s.heap [] := va_S.rf
  have hl := lv_entry ([.ref (a0 0), .int x1, .int x2]) (n := 3) (Nat.le_of_ble_eq_true rfl)
  rw [lg_entry_eq]
  generalize (lg_sl ([.ref (a0 0), .int x1, .int x2]) ++ List.replicate (3 - (lg_sl ([.ref (a0 0), .int x1, .int x2])).length) Slot.unset).toArray = ls at hl ⊢
  have hl : lv_has ls 3 [(0, .ref (a0 0)), (1, .int x1), (2, .int x2)] := hl
  unfold fX12_climb at hf
  obtain ⟨H, hHe⟩ : ∃ H : Heap, H = s.heap := ⟨_, rfl⟩
  obtain ⟨locs, hle⟩ : ∃ locs : List Loc, locs = [] := ⟨_, rfl⟩
  refine wb_start (H := H) (locs := locs) hHe hle ?_
  rw [← hHe] at hP
  have hS : va_S A s.heap H locs := by rw [hHe, hle]; exact va_S.rf
  refine lv_aload_n hx hb dX12_climb_0 rfl (lv_at hl 0 rfl) ?_
  refine lv_iconst (v := (0 : Int32)) hx hb dX12_climb_1 (by decide) ?_
  refine va_put (D := D) (ci := 12) (v := .int (0 : Int32)) (ty := .int) (C := RX12) (T := TX12) (N := 58) hx hb hts hinX12 tyX12 tyX12_ok nmX12 hown hK hP hD hS 0 rfl rfl 0 (by decide) (hts (.fieldLink RX12 129 "WheelBookModel" "thrown" "I") (List.mem_of_getElem? (i := 1) rfl)) (fun _ h9 => h9) rfl (by decide +kernel) rfl rfl (Nat.le_of_ble_eq_true rfl) dX12_climb_2 (fun H locs hP hD hS => ?_)
  have hP : va_P D vwCl (wWX12 cB cI cZ a0 (upd I0 0 (0 : Int32)) L0 M0) H := hP
  have hD : va_D A (wWX12 cB cI cZ a0 (upd I0 0 (0 : Int32)) L0 M0) := hD
  obtain ⟨I0_1, eI0_1, hf⟩ := wb_v hf
  rw [← eI0_1] at hP hD
  refine lv_aload_n hx hb dX12_climb_5 rfl (lv_at hl 0 rfl) ?_
  refine lv_iload_n hx hb dX12_climb_6 rfl (lv_at hl 1 rfl) ?_
  refine lv_iload_n hx hb dX12_climb_7 rfl (lv_at hl 2 rfl) ?_
  obtain ⟨r2, hr2, hf⟩ := wb_b hf
  have hPc := hP
  have hDc := hD
  have hFc := wj_F hDc hS hA
  refine va_calli (va_runV (As := [.int x1, .int x2]) (rest := []) ⟨hx, hb, hml, hown, hts⟩ (cn_X12_isClimate l D cB cI cZ N a0 I0_1 L0 M0 x1 x2 H.size r2 hr2) (cwV 2 hts gX12_climb_X12_isClimate rfl rfl rfl cdX12_isClimate ⟨Nat.le_of_ble_eq_true rfl, Nat.le_of_ble_eq_true rfl⟩) (wb_preDV hPc hK hDc (wr_12 hK hP (q0 := 0) rfl)) rfl rfl hl.1 rfl (lv_room (Nat.le_of_ble_eq_true rfl)) dX12_climb_8 ⟨Nat.le_of_ble_eq_true rfl, Nat.le_of_ble_eq_true rfl⟩) hS (fun q _ h => hFc q h) hFc (fun r9 u t H locs ht hvm hw hB hz1 hk1 hS => ?_)
  obtain ⟨hP, hD⟩ := wj_0 hFc ht hB
  rw [hw]
  refine lv_if_eq (tgt := 23) hx hb dX12_climb_11 (by decide) (fun hc => ?_) (fun hc => ?_)
  · replace hf := wb_t hc hf
    refine lv_iconst (v := (0 : Int32)) hx hb dX12_climb_23 (by decide) ?_
    exact W.iret (v := (0 : Int32)) hx hb hr (fun t ht hW => by rw [← Option.some.inj hf]; exact ⟨⟨(0 : Int32), (), rfl, rfl, by rw [ht]; exact hP, va_K.moved hW.alike hK, hD⟩, hS.F ht⟩) hS.2.2 dX12_climb_24
  · replace hf := wb_f hc hf
    refine lv_aload_n hx hb dX12_climb_14 rfl (lv_at hl 0 rfl) ?_
    refine lv_iload_n hx hb dX12_climb_15 rfl (lv_at hl 1 rfl) ?_
    refine lv_iload_n hx hb dX12_climb_16 rfl (lv_at hl 2 rfl) ?_
    obtain ⟨r3, hr3, hf⟩ := wb_b hf
    refine vp_callSi (W.runV (As := [.int x1, .int x2]) (rest := []) ⟨hx, hb, hml, hown, hts⟩ (cn_X12_climbOf l D cB cI cZ N a0 r2.2.1 r2.2.2.1 r2.2.2.2 x1 x2 r3 hr3) (cwV 2 hts gX12_climb_X12_climbOf rfl rfl rfl cdX12_climbOf ⟨Nat.le_of_ble_eq_true rfl, Nat.le_of_ble_eq_true rfl⟩) (wb_preV hP hK (wr_12 hK hP (q0 := 0) rfl)) rfl rfl hl.1 rfl (lv_room (Nat.le_of_ble_eq_true rfl)) dX12_climb_17 ⟨Nat.le_of_ble_eq_true rfl, Nat.le_of_ble_eq_true rfl⟩) (fun r9 e9 => ?_)
    rw [e9]
    refine lv_goto (tgt := 24) hx hb dX12_climb_20 (by decide) ?_
    exact W.iret (v := r3) hx hb hr (fun t ht hW => by rw [← Option.some.inj hf]; exact ⟨⟨r3, (), rfl, rfl, by rw [ht]; exact hP, va_K.moved hW.alike hK, hD⟩, hS.F ht⟩) hS.2.2 dX12_climb_24

set_option maxHeartbeats 4000000 in
set_option maxRecDepth 100000 in
theorem cn_X12_riseOf (l : Launch) (D : va_G) (cB cI cZ : ClassId) (N : Nat) (a0 : Nat → Nat) (I0 : Nat → Int32) (L0 : Int64) (M0 : Nat → Nat → Int32) (x1 : Int32) (x2 : Int32) (x3 : Int32) (R : Int32) (hf : fX12_riseOf N I0 L0 M0 x1 x2 x3 = some R) : Met l yX12_riseOf wsX12_riseOf ({ frames := 1, cells := 0, slots := 0, locals := 24 }) (va_Pc [.ref (a0 0), .int x1, .int x2, .int x3] (wb_pre D [(cB, .byte), (cI, .int), (cZ, .boolean)] (wWX12 cB cI cZ a0 I0 L0 M0))) (vp_Si (fun r => r = R)) 0 0 (fun _ => False) := by
  refine Met.ofW (cc := cX12_riseOf) (maxL := 4) (ret := (some .int)) pn_X12 rfl ?_
  intro p e s m args below meth c s₁ B hml hv
  obtain ⟨rfl, hP, hK⟩ := hv
  have hx := B.exec
  have hb := B.bytes
  have hr := B.returns
  have hts := atoms_spec (ws := wsX12_riseOf) B.pre
  have hown : s.vm.findClass RX12 = some m.cls := (findClass_of_methodNamed B.named :)
  have hlocks := B.notSynchronized
  have hl := lv_entry ([.ref (a0 0), .int x1, .int x2, .int x3]) (n := 4) (Nat.le_of_ble_eq_true rfl)
  rw [lg_entry_eq]
  generalize (lg_sl ([.ref (a0 0), .int x1, .int x2, .int x3]) ++ List.replicate (4 - (lg_sl ([.ref (a0 0), .int x1, .int x2, .int x3])).length) Slot.unset).toArray = ls at hl ⊢
  have hl : lv_has ls 4 [(0, .ref (a0 0)), (1, .int x1), (2, .int x2), (3, .int x3)] := hl
  unfold fX12_riseOf at hf
  refine lv_aload_n hx hb dX12_riseOf_0 rfl (lv_at hl 0 rfl) ?_
  refine lv_iload_n hx hb dX12_riseOf_1 rfl (lv_at hl 1 rfl) ?_
  refine lv_aload_n hx hb dX12_riseOf_2 rfl (lv_at hl 0 rfl) ?_
  refine lv_iload_n hx hb dX12_riseOf_3 rfl (lv_at hl 1 rfl) ?_
  refine lv_iload_n hx hb dX12_riseOf_4 rfl (lv_at hl 2 rfl) ?_
  obtain ⟨r1, hr1, hf⟩ := wb_b hf
  refine vp_callSi (W.runV (As := [.int x1, .int x2]) (rest := [.int x1, .ref (a0 0)]) ⟨hx, hb, hml, hown, hts⟩ (cn_X12_climbOf l D cB cI cZ N a0 I0 L0 M0 x1 x2 r1 hr1) (cwV 2 hts gX12_riseOf_X12_climbOf rfl rfl rfl cdX12_climbOf ⟨Nat.le_of_ble_eq_true rfl, Nat.le_of_ble_eq_true rfl⟩) (wb_preV hP hK (wr_12 hK hP (q0 := 0) rfl)) rfl rfl hl.1 rfl (lv_room (Nat.le_of_ble_eq_true rfl)) dX12_riseOf_5 ⟨Nat.le_of_ble_eq_true rfl, Nat.le_of_ble_eq_true rfl⟩) (fun r9 e9 => ?_)
  rw [e9]
  refine lv_sipush (v := (18000 : Int32)) hx hb dX12_riseOf_8 (by decide) ?_
  refine lv_iload_n hx hb dX12_riseOf_11 rfl (lv_at hl 3 rfl) ?_
  refine lv_imul hx hb dX12_riseOf_12 ?_
  refine lv_iadd hx hb dX12_riseOf_13 ?_
  refine lv_ldcw (v := (6480000 : Int32)) hx hb hown (hts (.constant RX12 309 (6480000)) (List.mem_of_getElem? (i := 1) rfl)) dX12_riseOf_14 ?_
  refine lv_irem hx hb dX12_riseOf_17 (by decide) ?_
  obtain ⟨r2, hr2, hf⟩ := wb_b hf
  refine vp_callSi (W.runV (As := [.int x1, .int ((r1 + ((18000 : Int32) * x3)) - (r1 + ((18000 : Int32) * x3)) / (6480000 : Int32) * (6480000 : Int32))]) (rest := []) ⟨hx, hb, hml, hown, hts⟩ (cn_X12_placeOf l D cB cI cZ N a0 I0 L0 M0 x1 ((r1 + ((18000 : Int32) * x3)) - (r1 + ((18000 : Int32) * x3)) / (6480000 : Int32) * (6480000 : Int32)) r2 hr2) (cwV 2 hts gX12_riseOf_X12_placeOf rfl rfl rfl cdX12_placeOf ⟨Nat.le_of_ble_eq_true rfl, Nat.le_of_ble_eq_true rfl⟩) (wb_preV hP hK (wr_12 hK hP (q0 := 0) rfl)) rfl rfl hl.1 rfl (lv_room (Nat.le_of_ble_eq_true rfl)) dX12_riseOf_18 ⟨Nat.le_of_ble_eq_true rfl, Nat.le_of_ble_eq_true rfl⟩) (fun r9 e9 => ?_)
  rw [e9]
  exact W.iret (v := r2) hx hb hr (fun t ht hW => ⟨_, rfl, Option.some.inj hf, ht⟩) (fun _ h => nomatch h) dX12_riseOf_21

set_option maxHeartbeats 4000000 in
set_option maxRecDepth 100000 in
theorem cn_X12_rise (l : Launch) (D : va_G) (cB cI cZ : ClassId) (N : Nat) (a0 : Nat → Nat) (I0 : Nat → Int32) (L0 : Int64) (M0 : Nat → Nat → Int32) (x1 : Int32) (x2 : Int32) (x3 : Int32) (sz : Nat) (R : Int32 × (Nat → Int32) × Int64 × (Nat → Nat → Int32)) (hf : fX12_rise N I0 L0 M0 x1 x2 x3 = some R) : Met l yX12_rise wsX12_rise ({ frames := 2, cells := 0, slots := 0, locals := 47 }) (va_Pc [.ref (a0 0), .int x1, .int x2, .int x3] (wb_preD D [(cB, .byte), (cI, .int), (cZ, .boolean)] (wWX12 cB cI cZ a0 I0 L0 M0) sz)) (va_Qi (fun r (_ : Unit) => r = R.1) (fun _ t => wb_post D [(cB, .byte), (cI, .int), (cZ, .boolean)] (va_A (wWX12 cB cI cZ a0 I0 L0 M0) sz) (wWX12 cB cI cZ a0 R.2.1 R.2.2.1 R.2.2.2) t) (va_A (wWX12 cB cI cZ a0 I0 L0 M0) sz)) 0 0 (va_A (wWX12 cB cI cZ a0 I0 L0 M0) sz) := by
  refine Met.ofW (cc := cX12_rise) (maxL := 4) (ret := (some .int)) pn_X12 rfl ?_
  intro p e s m args below meth c s₁ B hml hv
  obtain ⟨rfl, hsz, hP, hK, hD0⟩ := hv
  have hx := B.exec
  have hb := B.bytes
  have hr := B.returns
  have hts := atoms_spec (ws := wsX12_rise) B.pre
  have hown : s.vm.findClass RX12 = some m.cls := (findClass_of_methodNamed B.named :)
  have hlocks := B.notSynchronized
  have hinX12 : ∀ w ∈ u_ws RX12 TX12 58, w ∈ wsX12_rise := fun w h => List.mem_cons_of_mem _ (List.mem_append_right _ h)
  subst hsz
  have hD := hD0.self (sz := s.heap.size)
  generalize hAe : va_A (wWX12 cB cI cZ a0 I0 L0 M0) s.heap.size = A at hD ⊢
  have hA : ∀ q : Nat, s.heap.size ≤ q → A q := fun q h => by rw [← hAe]; exact Or.inr h
  have hS : va_S A s.heap s.heap [] := va_S.rf
  have hl := lv_entry ([.ref (a0 0), .int x1, .int x2, .int x3]) (n := 4) (Nat.le_of_ble_eq_true rfl)
  rw [lg_entry_eq]
  generalize (lg_sl ([.ref (a0 0), .int x1, .int x2, .int x3]) ++ List.replicate (4 - (lg_sl ([.ref (a0 0), .int x1, .int x2, .int x3])).length) Slot.unset).toArray = ls at hl ⊢
  have hl : lv_has ls 4 [(0, .ref (a0 0)), (1, .int x1), (2, .int x2), (3, .int x3)] := hl
  unfold fX12_rise at hf
  obtain ⟨H, hHe⟩ : ∃ H : Heap, H = s.heap := ⟨_, rfl⟩
  obtain ⟨locs, hle⟩ : ∃ locs : List Loc, locs = [] := ⟨_, rfl⟩
  refine wb_start (H := H) (locs := locs) hHe hle ?_
  rw [← hHe] at hP
  have hS : va_S A s.heap H locs := by rw [hHe, hle]; exact va_S.rf
  refine lv_aload_n hx hb dX12_rise_0 rfl (lv_at hl 0 rfl) ?_
  refine lv_iconst (v := (0 : Int32)) hx hb dX12_rise_1 (by decide) ?_
  refine va_put (D := D) (ci := 12) (v := .int (0 : Int32)) (ty := .int) (C := RX12) (T := TX12) (N := 58) hx hb hts hinX12 tyX12 tyX12_ok nmX12 hown hK hP hD hS 0 rfl rfl 0 (by decide) (hts (.fieldLink RX12 129 "WheelBookModel" "thrown" "I") (List.mem_of_getElem? (i := 1) rfl)) (fun _ h9 => h9) rfl (by decide +kernel) rfl rfl (Nat.le_of_ble_eq_true rfl) dX12_rise_2 (fun H locs hP hD hS => ?_)
  have hP : va_P D vwCl (wWX12 cB cI cZ a0 (upd I0 0 (0 : Int32)) L0 M0) H := hP
  have hD : va_D A (wWX12 cB cI cZ a0 (upd I0 0 (0 : Int32)) L0 M0) := hD
  obtain ⟨I0_1, eI0_1, hf⟩ := wb_v hf
  rw [← eI0_1] at hP hD
  refine lv_aload_n hx hb dX12_rise_5 rfl (lv_at hl 0 rfl) ?_
  refine lv_iload_n hx hb dX12_rise_6 rfl (lv_at hl 1 rfl) ?_
  refine lv_iload_n hx hb dX12_rise_7 rfl (lv_at hl 2 rfl) ?_
  obtain ⟨r2, hr2, hf⟩ := wb_b hf
  have hPc := hP
  have hDc := hD
  have hFc := wj_F hDc hS hA
  refine va_calli (va_runV (As := [.int x1, .int x2]) (rest := []) ⟨hx, hb, hml, hown, hts⟩ (cn_X12_isClimate l D cB cI cZ N a0 I0_1 L0 M0 x1 x2 H.size r2 hr2) (cwV 2 hts gX12_rise_X12_isClimate rfl rfl rfl cdX12_isClimate ⟨Nat.le_of_ble_eq_true rfl, Nat.le_of_ble_eq_true rfl⟩) (wb_preDV hPc hK hDc (wr_12 hK hP (q0 := 0) rfl)) rfl rfl hl.1 rfl (lv_room (Nat.le_of_ble_eq_true rfl)) dX12_rise_8 ⟨Nat.le_of_ble_eq_true rfl, Nat.le_of_ble_eq_true rfl⟩) hS (fun q _ h => hFc q h) hFc (fun r9 u t H locs ht hvm hw hB hz1 hk1 hS => ?_)
  obtain ⟨hP, hD⟩ := wj_0 hFc ht hB
  rw [hw]
  refine lv_if_eq (tgt := 30) hx hb dX12_rise_11 (by decide) (fun hc => ?_) (fun hc => ?_)
  · replace hf := wb_t hc hf
    refine lv_iconst (v := (0 : Int32)) hx hb dX12_rise_30 (by decide) ?_
    exact W.iret (v := (0 : Int32)) hx hb hr (fun t ht hW => by rw [← Option.some.inj hf]; exact ⟨⟨(0 : Int32), (), rfl, rfl, by rw [ht]; exact hP, va_K.moved hW.alike hK, hD⟩, hS.F ht⟩) hS.2.2 dX12_rise_31
  · replace hf := wb_f hc hf
    refine lv_aload_n hx hb dX12_rise_14 rfl (lv_at hl 0 rfl) ?_
    refine lv_iload_n hx hb dX12_rise_15 rfl (lv_at hl 3 rfl) ?_
    refine lv_iconst (v := (0 : Int32)) hx hb dX12_rise_16 (by decide) ?_
    refine lv_sipush (v := (359 : Int32)) hx hb dX12_rise_17 (by decide) ?_
    obtain ⟨r3, hr3, hf⟩ := wb_b hf
    refine vp_callSi (W.runS (As := [.int x3, .int (0 : Int32), .int (359 : Int32)]) (rest := [.ref (a0 0)]) ⟨hx, hb, hml, hown, hts⟩ (cn_X12_within l D cB cI cZ N x3 (0 : Int32) (359 : Int32) r3 hr3) (va_cwS 3 hts gX12_rise_X12_within rfl rfl rfl csX12_within ⟨Nat.le_of_ble_eq_true rfl, Nat.le_of_ble_eq_true rfl⟩) (wb_preS (hP.sub (ws' := ([] : va_W)) [] rfl) hK) rfl rfl hl.1 rfl (lv_room (Nat.le_of_ble_eq_true rfl)) dX12_rise_20 ⟨Nat.le_of_ble_eq_true rfl, Nat.le_of_ble_eq_true rfl⟩) (fun r9 e9 => ?_)
    rw [e9]
    refine lv_iconst (v := (1 : Int32)) hx hb dX12_rise_23 (by decide) ?_
    obtain ⟨r4, hr4, hf⟩ := wb_b hf
    have hPc := hP
    have hDc := hD
    have hFc := wj_F hDc hS hA
    refine va_calli (va_runV (As := [.int r3, .int (1 : Int32)]) (rest := []) ⟨hx, hb, hml, hown, hts⟩ (cn_X12_right l D cB cI cZ N a0 r2.2.1 r2.2.2.1 r2.2.2.2 r3 (1 : Int32) H.size r4 hr4) (cwV 2 hts gX12_rise_X12_right rfl rfl rfl cdX12_right ⟨Nat.le_of_ble_eq_true rfl, Nat.le_of_ble_eq_true rfl⟩) (wb_preDV hPc hK hDc (wr_12 hK hP (q0 := 0) rfl)) rfl rfl hl.1 rfl (lv_room (Nat.le_of_ble_eq_true rfl)) dX12_rise_24 ⟨Nat.le_of_ble_eq_true rfl, Nat.le_of_ble_eq_true rfl⟩) hS (fun q _ h => hFc q h) hFc (fun r9 u t H locs ht hvm hw hB hz1 hk1 hS => ?_)
    obtain ⟨hP, hD⟩ := wj_0 hFc ht hB
    rw [hw]
    refine lv_if_ne (tgt := 32) hx hb dX12_rise_27 (by decide) (fun hc => ?_) (fun hc => ?_)
    · replace hf := wb_f hc hf
      refine lv_aload_n hx hb dX12_rise_32 rfl (lv_at hl 0 rfl) ?_
      refine lv_iload_n hx hb dX12_rise_33 rfl (lv_at hl 1 rfl) ?_
      refine lv_iload_n hx hb dX12_rise_34 rfl (lv_at hl 2 rfl) ?_
      refine lv_iload_n hx hb dX12_rise_35 rfl (lv_at hl 3 rfl) ?_
      obtain ⟨r5, hr5, hf⟩ := wb_b hf
      refine vp_callSi (W.runV (As := [.int x1, .int x2, .int x3]) (rest := []) ⟨hx, hb, hml, hown, hts⟩ (cn_X12_riseOf l D cB cI cZ N a0 r4.2.1 r4.2.2.1 r4.2.2.2 x1 x2 x3 r5 hr5) (cwV 3 hts gX12_rise_X12_riseOf rfl rfl rfl cdX12_riseOf ⟨Nat.le_of_ble_eq_true rfl, Nat.le_of_ble_eq_true rfl⟩) (wb_preV hP hK (wr_12 hK hP (q0 := 0) rfl)) rfl rfl hl.1 rfl (lv_room (Nat.le_of_ble_eq_true rfl)) dX12_rise_36 ⟨Nat.le_of_ble_eq_true rfl, Nat.le_of_ble_eq_true rfl⟩) (fun r9 e9 => ?_)
      rw [e9]
      exact W.iret (v := r5) hx hb hr (fun t ht hW => by rw [← Option.some.inj hf]; exact ⟨⟨r5, (), rfl, rfl, by rw [ht]; exact hP, va_K.moved hW.alike hK, hD⟩, hS.F ht⟩) hS.2.2 dX12_rise_39
    · replace hf := wb_t hc hf
      refine lv_iconst (v := (0 : Int32)) hx hb dX12_rise_30 (by decide) ?_
      exact W.iret (v := (0 : Int32)) hx hb hr (fun t ht hW => by rw [← Option.some.inj hf]; exact ⟨⟨(0 : Int32), (), rfl, rfl, by rw [ht]; exact hP, va_K.moved hW.alike hK, hD⟩, hS.F ht⟩) hS.2.2 dX12_rise_31

set_option maxHeartbeats 4000000 in
set_option maxRecDepth 100000 in
theorem cn_X12_middleOf (l : Launch) (D : va_G) (cB cI cZ : ClassId) (N : Nat) (a0 : Nat → Nat) (I0 : Nat → Int32) (L0 : Int64) (M0 : Nat → Nat → Int32) (x1 : Int32) (x2 : Int32) (R : Int32) (hf : fX12_middleOf N I0 L0 M0 x1 x2 = some R) : Met l yX12_middleOf wsX12_middleOf ({ frames := 1, cells := 0, slots := 0, locals := 24 }) (va_Pc [.ref (a0 0), .int x1, .int x2] (wb_pre D [(cB, .byte), (cI, .int), (cZ, .boolean)] (wWX12 cB cI cZ a0 I0 L0 M0))) (vp_Si (fun r => r = R)) 0 0 (fun _ => False) := by
  refine Met.ofW (cc := cX12_middleOf) (maxL := 3) (ret := (some .int)) pn_X12 rfl ?_
  intro p e s m args below meth c s₁ B hml hv
  obtain ⟨rfl, hP, hK⟩ := hv
  have hx := B.exec
  have hb := B.bytes
  have hr := B.returns
  have hts := atoms_spec (ws := wsX12_middleOf) B.pre
  have hown : s.vm.findClass RX12 = some m.cls := (findClass_of_methodNamed B.named :)
  have hlocks := B.notSynchronized
  have hl := lv_entry ([.ref (a0 0), .int x1, .int x2]) (n := 3) (Nat.le_of_ble_eq_true rfl)
  rw [lg_entry_eq]
  generalize (lg_sl ([.ref (a0 0), .int x1, .int x2]) ++ List.replicate (3 - (lg_sl ([.ref (a0 0), .int x1, .int x2])).length) Slot.unset).toArray = ls at hl ⊢
  have hl : lv_has ls 3 [(0, .ref (a0 0)), (1, .int x1), (2, .int x2)] := hl
  unfold fX12_middleOf at hf
  refine lv_aload_n hx hb dX12_middleOf_0 rfl (lv_at hl 0 rfl) ?_
  refine lv_iconst (v := (0 : Int32)) hx hb dX12_middleOf_1 (by decide) ?_
  refine lv_aload_n hx hb dX12_middleOf_2 rfl (lv_at hl 0 rfl) ?_
  refine lv_iload_n hx hb dX12_middleOf_3 rfl (lv_at hl 1 rfl) ?_
  refine lv_iload_n hx hb dX12_middleOf_4 rfl (lv_at hl 2 rfl) ?_
  obtain ⟨r1, hr1, hf⟩ := wb_b hf
  refine vp_callSi (W.runV (As := [.int x1, .int x2]) (rest := [.int (0 : Int32), .ref (a0 0)]) ⟨hx, hb, hml, hown, hts⟩ (cn_X12_climbOf l D cB cI cZ N a0 I0 L0 M0 x1 x2 r1 hr1) (cwV 2 hts gX12_middleOf_X12_climbOf rfl rfl rfl cdX12_climbOf ⟨Nat.le_of_ble_eq_true rfl, Nat.le_of_ble_eq_true rfl⟩) (wb_preV hP hK (wr_12 hK hP (q0 := 0) rfl)) rfl rfl hl.1 rfl (lv_room (Nat.le_of_ble_eq_true rfl)) dX12_middleOf_5 ⟨Nat.le_of_ble_eq_true rfl, Nat.le_of_ble_eq_true rfl⟩) (fun r9 e9 => ?_)
  rw [e9]
  refine lv_ldcw (v := (6480000 : Int32)) hx hb hown (hts (.constant RX12 309 (6480000)) (List.mem_of_getElem? (i := 1) rfl)) dX12_middleOf_8 ?_
  refine lv_iadd hx hb dX12_middleOf_11 ?_
  refine lv_ldcw (v := (1620000 : Int32)) hx hb hown (hts (.constant RX12 316 (1620000)) (List.mem_of_getElem? (i := 2) rfl)) dX12_middleOf_12 ?_
  refine lv_isub hx hb dX12_middleOf_15 ?_
  refine lv_ldcw (v := (6480000 : Int32)) hx hb hown (hts (.constant RX12 309 (6480000)) (List.mem_of_getElem? (i := 1) rfl)) dX12_middleOf_16 ?_
  refine lv_irem hx hb dX12_middleOf_19 (by decide) ?_
  obtain ⟨r2, hr2, hf⟩ := wb_b hf
  refine vp_callSi (W.runV (As := [.int (0 : Int32), .int (((r1 + (6480000 : Int32)) - (1620000 : Int32)) - ((r1 + (6480000 : Int32)) - (1620000 : Int32)) / (6480000 : Int32) * (6480000 : Int32))]) (rest := []) ⟨hx, hb, hml, hown, hts⟩ (cn_X12_placeOf l D cB cI cZ N a0 I0 L0 M0 (0 : Int32) (((r1 + (6480000 : Int32)) - (1620000 : Int32)) - ((r1 + (6480000 : Int32)) - (1620000 : Int32)) / (6480000 : Int32) * (6480000 : Int32)) r2 hr2) (cwV 2 hts gX12_middleOf_X12_placeOf rfl rfl rfl cdX12_placeOf ⟨Nat.le_of_ble_eq_true rfl, Nat.le_of_ble_eq_true rfl⟩) (wb_preV hP hK (wr_12 hK hP (q0 := 0) rfl)) rfl rfl hl.1 rfl (lv_room (Nat.le_of_ble_eq_true rfl)) dX12_middleOf_20 ⟨Nat.le_of_ble_eq_true rfl, Nat.le_of_ble_eq_true rfl⟩) (fun r9 e9 => ?_)
  rw [e9]
  exact W.iret (v := r2) hx hb hr (fun t ht hW => ⟨_, rfl, Option.some.inj hf, ht⟩) (fun _ h => nomatch h) dX12_middleOf_23

set_option maxHeartbeats 4000000 in
set_option maxRecDepth 100000 in
theorem cn_X12_middle (l : Launch) (D : va_G) (cB cI cZ : ClassId) (N : Nat) (a0 : Nat → Nat) (I0 : Nat → Int32) (L0 : Int64) (M0 : Nat → Nat → Int32) (x1 : Int32) (x2 : Int32) (sz : Nat) (R : Int32 × (Nat → Int32) × Int64 × (Nat → Nat → Int32)) (hf : fX12_middle N I0 L0 M0 x1 x2 = some R) : Met l yX12_middle wsX12_middle ({ frames := 2, cells := 0, slots := 0, locals := 46 }) (va_Pc [.ref (a0 0), .int x1, .int x2] (wb_preD D [(cB, .byte), (cI, .int), (cZ, .boolean)] (wWX12 cB cI cZ a0 I0 L0 M0) sz)) (va_Qi (fun r (_ : Unit) => r = R.1) (fun _ t => wb_post D [(cB, .byte), (cI, .int), (cZ, .boolean)] (va_A (wWX12 cB cI cZ a0 I0 L0 M0) sz) (wWX12 cB cI cZ a0 R.2.1 R.2.2.1 R.2.2.2) t) (va_A (wWX12 cB cI cZ a0 I0 L0 M0) sz)) 0 0 (va_A (wWX12 cB cI cZ a0 I0 L0 M0) sz) := by
  refine Met.ofW (cc := cX12_middle) (maxL := 3) (ret := (some .int)) pn_X12 rfl ?_
  intro p e s m args below meth c s₁ B hml hv
  obtain ⟨rfl, hsz, hP, hK, hD0⟩ := hv
  have hx := B.exec
  have hb := B.bytes
  have hr := B.returns
  have hts := atoms_spec (ws := wsX12_middle) B.pre
  have hown : s.vm.findClass RX12 = some m.cls := (findClass_of_methodNamed B.named :)
  have hlocks := B.notSynchronized
  have hinX12 : ∀ w ∈ u_ws RX12 TX12 58, w ∈ wsX12_middle := fun w h => List.mem_cons_of_mem _ (List.mem_append_right _ h)
  subst hsz
  have hD := hD0.self (sz := s.heap.size)
  generalize hAe : va_A (wWX12 cB cI cZ a0 I0 L0 M0) s.heap.size = A at hD ⊢
  have hA : ∀ q : Nat, s.heap.size ≤ q → A q := fun q h => by rw [← hAe]; exact Or.inr h
  have hS : va_S A s.heap s.heap [] := va_S.rf
  have hl := lv_entry ([.ref (a0 0), .int x1, .int x2]) (n := 3) (Nat.le_of_ble_eq_true rfl)
  rw [lg_entry_eq]
  generalize (lg_sl ([.ref (a0 0), .int x1, .int x2]) ++ List.replicate (3 - (lg_sl ([.ref (a0 0), .int x1, .int x2])).length) Slot.unset).toArray = ls at hl ⊢
  have hl : lv_has ls 3 [(0, .ref (a0 0)), (1, .int x1), (2, .int x2)] := hl
  unfold fX12_middle at hf
  obtain ⟨H, hHe⟩ : ∃ H : Heap, H = s.heap := ⟨_, rfl⟩
  obtain ⟨locs, hle⟩ : ∃ locs : List Loc, locs = [] := ⟨_, rfl⟩
  refine wb_start (H := H) (locs := locs) hHe hle ?_
  rw [← hHe] at hP
  have hS : va_S A s.heap H locs := by rw [hHe, hle]; exact va_S.rf
  refine lv_aload_n hx hb dX12_middle_0 rfl (lv_at hl 0 rfl) ?_
  refine lv_iconst (v := (0 : Int32)) hx hb dX12_middle_1 (by decide) ?_
  refine va_put (D := D) (ci := 12) (v := .int (0 : Int32)) (ty := .int) (C := RX12) (T := TX12) (N := 58) hx hb hts hinX12 tyX12 tyX12_ok nmX12 hown hK hP hD hS 0 rfl rfl 0 (by decide) (hts (.fieldLink RX12 129 "WheelBookModel" "thrown" "I") (List.mem_of_getElem? (i := 1) rfl)) (fun _ h9 => h9) rfl (by decide +kernel) rfl rfl (Nat.le_of_ble_eq_true rfl) dX12_middle_2 (fun H locs hP hD hS => ?_)
  have hP : va_P D vwCl (wWX12 cB cI cZ a0 (upd I0 0 (0 : Int32)) L0 M0) H := hP
  have hD : va_D A (wWX12 cB cI cZ a0 (upd I0 0 (0 : Int32)) L0 M0) := hD
  obtain ⟨I0_1, eI0_1, hf⟩ := wb_v hf
  rw [← eI0_1] at hP hD
  refine lv_aload_n hx hb dX12_middle_5 rfl (lv_at hl 0 rfl) ?_
  refine lv_iload_n hx hb dX12_middle_6 rfl (lv_at hl 1 rfl) ?_
  refine lv_iload_n hx hb dX12_middle_7 rfl (lv_at hl 2 rfl) ?_
  obtain ⟨r2, hr2, hf⟩ := wb_b hf
  have hPc := hP
  have hDc := hD
  have hFc := wj_F hDc hS hA
  refine va_calli (va_runV (As := [.int x1, .int x2]) (rest := []) ⟨hx, hb, hml, hown, hts⟩ (cn_X12_isClimate l D cB cI cZ N a0 I0_1 L0 M0 x1 x2 H.size r2 hr2) (cwV 2 hts gX12_middle_X12_isClimate rfl rfl rfl cdX12_isClimate ⟨Nat.le_of_ble_eq_true rfl, Nat.le_of_ble_eq_true rfl⟩) (wb_preDV hPc hK hDc (wr_12 hK hP (q0 := 0) rfl)) rfl rfl hl.1 rfl (lv_room (Nat.le_of_ble_eq_true rfl)) dX12_middle_8 ⟨Nat.le_of_ble_eq_true rfl, Nat.le_of_ble_eq_true rfl⟩) hS (fun q _ h => hFc q h) hFc (fun r9 u t H locs ht hvm hw hB hz1 hk1 hS => ?_)
  obtain ⟨hP, hD⟩ := wj_0 hFc ht hB
  rw [hw]
  refine lv_if_eq (tgt := 23) hx hb dX12_middle_11 (by decide) (fun hc => ?_) (fun hc => ?_)
  · replace hf := wb_t hc hf
    refine lv_iconst (v := (0 : Int32)) hx hb dX12_middle_23 (by decide) ?_
    exact W.iret (v := (0 : Int32)) hx hb hr (fun t ht hW => by rw [← Option.some.inj hf]; exact ⟨⟨(0 : Int32), (), rfl, rfl, by rw [ht]; exact hP, va_K.moved hW.alike hK, hD⟩, hS.F ht⟩) hS.2.2 dX12_middle_24
  · replace hf := wb_f hc hf
    refine lv_aload_n hx hb dX12_middle_14 rfl (lv_at hl 0 rfl) ?_
    refine lv_iload_n hx hb dX12_middle_15 rfl (lv_at hl 1 rfl) ?_
    refine lv_iload_n hx hb dX12_middle_16 rfl (lv_at hl 2 rfl) ?_
    obtain ⟨r3, hr3, hf⟩ := wb_b hf
    refine vp_callSi (W.runV (As := [.int x1, .int x2]) (rest := []) ⟨hx, hb, hml, hown, hts⟩ (cn_X12_middleOf l D cB cI cZ N a0 r2.2.1 r2.2.2.1 r2.2.2.2 x1 x2 r3 hr3) (cwV 2 hts gX12_middle_X12_middleOf rfl rfl rfl cdX12_middleOf ⟨Nat.le_of_ble_eq_true rfl, Nat.le_of_ble_eq_true rfl⟩) (wb_preV hP hK (wr_12 hK hP (q0 := 0) rfl)) rfl rfl hl.1 rfl (lv_room (Nat.le_of_ble_eq_true rfl)) dX12_middle_17 ⟨Nat.le_of_ble_eq_true rfl, Nat.le_of_ble_eq_true rfl⟩) (fun r9 e9 => ?_)
    rw [e9]
    refine lv_goto (tgt := 24) hx hb dX12_middle_20 (by decide) ?_
    exact W.iret (v := r3) hx hb hr (fun t ht hW => by rw [← Option.some.inj hf]; exact ⟨⟨r3, (), rfl, rfl, by rw [ht]; exact hP, va_K.moved hW.alike hK, hD⟩, hS.F ht⟩) hS.2.2 dX12_middle_24

set_option maxHeartbeats 4000000 in
set_option maxRecDepth 100000 in
theorem cn_X12_isHour (l : Launch) (D : va_G) (cB cI cZ : ClassId) (N : Nat) (a0 : Nat → Nat) (I0 : Nat → Int32) (L0 : Int64) (M0 : Nat → Nat → Int32) (x1 : Int32) (x2 : Int32) (x3 : Int32) (R : Int32) (hf : fX12_isHour N I0 L0 M0 x1 x2 x3 = some R) : Met l yX12_isHour wsX12_isHour ({ frames := 2, cells := 0, slots := 0, locals := 47 }) (va_Pc [.ref (a0 0), .int x1, .int x2, .int x3] (wb_pre D [(cB, .byte), (cI, .int), (cZ, .boolean)] (wWX12 cB cI cZ a0 I0 L0 M0))) (vp_Si (fun r => r = R)) 0 0 (fun _ => False) := by
  refine Met.ofW (cc := cX12_isHour) (maxL := 4) (ret := (some .boolean)) pn_X12 rfl ?_
  intro p e s m args below meth c s₁ B hml hv
  obtain ⟨rfl, hP, hK⟩ := hv
  have hx := B.exec
  have hb := B.bytes
  have hr := B.returns
  have hts := atoms_spec (ws := wsX12_isHour) B.pre
  have hown : s.vm.findClass RX12 = some m.cls := (findClass_of_methodNamed B.named :)
  have hlocks := B.notSynchronized
  have hl := lv_entry ([.ref (a0 0), .int x1, .int x2, .int x3]) (n := 4) (Nat.le_of_ble_eq_true rfl)
  rw [lg_entry_eq]
  generalize (lg_sl ([.ref (a0 0), .int x1, .int x2, .int x3]) ++ List.replicate (4 - (lg_sl ([.ref (a0 0), .int x1, .int x2, .int x3])).length) Slot.unset).toArray = ls at hl ⊢
  have hl : lv_has ls 4 [(0, .ref (a0 0)), (1, .int x1), (2, .int x2), (3, .int x3)] := hl
  unfold fX12_isHour at hf
  refine lv_aload_n hx hb dX12_isHour_0 rfl (lv_at hl 0 rfl) ?_
  refine lv_iload_n hx hb dX12_isHour_1 rfl (lv_at hl 2 rfl) ?_
  refine lv_bipush (v := (60 : Int32)) hx hb dX12_isHour_2 (by decide) ?_
  refine lv_aload_n hx hb dX12_isHour_4 rfl (lv_at hl 0 rfl) ?_
  refine lv_iload_n hx hb dX12_isHour_5 rfl (lv_at hl 1 rfl) ?_
  refine lv_iconst (v := (0 : Int32)) hx hb dX12_isHour_6 (by decide) ?_
  obtain ⟨r1, hr1, hf⟩ := wb_b hf
  refine vp_callSi (W.runV (As := [.int x1, .int (0 : Int32)]) (rest := [.int (60 : Int32), .int x2, .ref (a0 0)]) ⟨hx, hb, hml, hown, hts⟩ (cn_X12_at l D cB cI cZ N a0 I0 L0 M0 x1 (0 : Int32) r1 hr1) (cwV 2 hts gX12_isHour_X12_at rfl rfl rfl cdX12_at ⟨Nat.le_of_ble_eq_true rfl, Nat.le_of_ble_eq_true rfl⟩) (wb_preV hP hK (wr_12 hK hP (q0 := 0) rfl)) rfl rfl hl.1 rfl (lv_room (Nat.le_of_ble_eq_true rfl)) dX12_isHour_7 ⟨Nat.le_of_ble_eq_true rfl, Nat.le_of_ble_eq_true rfl⟩) (fun r9 e9 => ?_)
  rw [e9]
  refine lv_imul hx hb dX12_isHour_10 ?_
  refine lv_iload_n hx hb dX12_isHour_11 rfl (lv_at hl 3 rfl) ?_
  obtain ⟨r2, hr2, hf⟩ := wb_b hf
  refine vp_callSi (W.runV (As := [.int x2, .int ((60 : Int32) * r1), .int x3]) (rest := []) ⟨hx, hb, hml, hown, hts⟩ (cn_X12_riseOf l D cB cI cZ N a0 I0 L0 M0 x2 ((60 : Int32) * r1) x3 r2 hr2) (cwV 3 hts gX12_isHour_X12_riseOf rfl rfl rfl cdX12_riseOf ⟨Nat.le_of_ble_eq_true rfl, Nat.le_of_ble_eq_true rfl⟩) (wb_preV hP hK (wr_12 hK hP (q0 := 0) rfl)) rfl rfl hl.1 rfl (lv_room (Nat.le_of_ble_eq_true rfl)) dX12_isHour_12 ⟨Nat.le_of_ble_eq_true rfl, Nat.le_of_ble_eq_true rfl⟩) (fun r9 e9 => ?_)
  rw [e9]
  refine lv_bipush (v := (60 : Int32)) hx hb dX12_isHour_15 (by decide) ?_
  refine lv_idiv hx hb dX12_isHour_17 (by decide) ?_
  refine lv_aload_n hx hb dX12_isHour_18 rfl (lv_at hl 0 rfl) ?_
  refine lv_iload_n hx hb dX12_isHour_19 rfl (lv_at hl 1 rfl) ?_
  refine lv_bipush (v := (7 : Int32)) hx hb dX12_isHour_20 (by decide) ?_
  obtain ⟨r3, hr3, hf⟩ := wb_b hf
  refine vp_callSi (W.runV (As := [.int x1, .int (7 : Int32)]) (rest := [.int (r2 / (60 : Int32))]) ⟨hx, hb, hml, hown, hts⟩ (cn_X12_at l D cB cI cZ N a0 I0 L0 M0 x1 (7 : Int32) r3 hr3) (cwV 2 hts gX12_isHour_X12_at rfl rfl rfl cdX12_at ⟨Nat.le_of_ble_eq_true rfl, Nat.le_of_ble_eq_true rfl⟩) (wb_preV hP hK (wr_12 hK hP (q0 := 0) rfl)) rfl rfl hl.1 rfl (lv_room (Nat.le_of_ble_eq_true rfl)) dX12_isHour_22 ⟨Nat.le_of_ble_eq_true rfl, Nat.le_of_ble_eq_true rfl⟩) (fun r9 e9 => ?_)
  rw [e9]
  refine lv_icmp_ne (tgt := 32) hx hb dX12_isHour_25 (by decide) (fun hc => ?_) (fun hc => ?_)
  · replace hf := wb_f hc hf
    refine lv_iconst (v := (0 : Int32)) hx hb dX12_isHour_32 (by decide) ?_
    exact W.zret (v := (0 : Int32)) hx hb hr (by decide) (fun t ht hW => ⟨_, rfl, Option.some.inj hf, ht⟩) (fun _ h => nomatch h) dX12_isHour_33
  · replace hf := wb_t hc hf
    refine lv_iconst (v := (1 : Int32)) hx hb dX12_isHour_28 (by decide) ?_
    refine lv_goto (tgt := 33) hx hb dX12_isHour_29 (by decide) ?_
    exact W.zret (v := (1 : Int32)) hx hb hr (by decide) (fun t ht hW => ⟨_, rfl, Option.some.inj hf, ht⟩) (fun _ h => nomatch h) dX12_isHour_33

set_option maxHeartbeats 4000000 in
set_option maxRecDepth 100000 in
theorem cn_X12_hour (l : Launch) (D : va_G) (cB cI cZ : ClassId) (N : Nat) (a0 : Nat → Nat) (I0 : Nat → Int32) (L0 : Int64) (M0 : Nat → Nat → Int32) (x1 : Int32) (x2 : Int32) (x3 : Int32) (sz : Nat) (R : Int32 × (Nat → Int32) × Int64 × (Nat → Nat → Int32)) (hf : fX12_hour N I0 L0 M0 x1 x2 x3 = some R) : Met l yX12_hour wsX12_hour ({ frames := 3, cells := 0, slots := 0, locals := 70 }) (va_Pc [.ref (a0 0), .int x1, .int x2, .int x3] (wb_preD D [(cB, .byte), (cI, .int), (cZ, .boolean)] (wWX12 cB cI cZ a0 I0 L0 M0) sz)) (va_Qi (fun r (_ : Unit) => r = R.1) (fun _ t => wb_post D [(cB, .byte), (cI, .int), (cZ, .boolean)] (va_A (wWX12 cB cI cZ a0 I0 L0 M0) sz) (wWX12 cB cI cZ a0 R.2.1 R.2.2.1 R.2.2.2) t) (va_A (wWX12 cB cI cZ a0 I0 L0 M0) sz)) 0 0 (va_A (wWX12 cB cI cZ a0 I0 L0 M0) sz) := by
  refine Met.ofW (cc := cX12_hour) (maxL := 8) (ret := (some .int)) pn_X12 rfl ?_
  intro p e s m args below meth c s₁ B hml hv
  obtain ⟨rfl, hsz, hP, hK, hD0⟩ := hv
  have hx := B.exec
  have hb := B.bytes
  have hr := B.returns
  have hts := atoms_spec (ws := wsX12_hour) B.pre
  have hown : s.vm.findClass RX12 = some m.cls := (findClass_of_methodNamed B.named :)
  have hlocks := B.notSynchronized
  have hinX12 : ∀ w ∈ u_ws RX12 TX12 58, w ∈ wsX12_hour := fun w h => List.mem_cons_of_mem _ (List.mem_append_right _ h)
  subst hsz
  have hD := hD0.self (sz := s.heap.size)
  generalize hAe : va_A (wWX12 cB cI cZ a0 I0 L0 M0) s.heap.size = A at hD ⊢
  have hA : ∀ q : Nat, s.heap.size ≤ q → A q := fun q h => by rw [← hAe]; exact Or.inr h
  have hS : va_S A s.heap s.heap [] := va_S.rf
  have hl := lv_entry ([.ref (a0 0), .int x1, .int x2, .int x3]) (n := 8) (Nat.le_of_ble_eq_true rfl)
  rw [lg_entry_eq]
  generalize (lg_sl ([.ref (a0 0), .int x1, .int x2, .int x3]) ++ List.replicate (8 - (lg_sl ([.ref (a0 0), .int x1, .int x2, .int x3])).length) Slot.unset).toArray = ls at hl ⊢
  have hl : lv_has ls 8 [(0, .ref (a0 0)), (1, .int x1), (2, .int x2), (3, .int x3)] := hl
  unfold fX12_hour at hf
  obtain ⟨H, hHe⟩ : ∃ H : Heap, H = s.heap := ⟨_, rfl⟩
  obtain ⟨locs, hle⟩ : ∃ locs : List Loc, locs = [] := ⟨_, rfl⟩
  refine wb_start (H := H) (locs := locs) hHe hle ?_
  rw [← hHe] at hP
  have hS : va_S A s.heap H locs := by rw [hHe, hle]; exact va_S.rf
  have J127 : ∀ (I0_j127 : Nat → Int32) (L0_j127 : Int64) (M0_j127 : Nat → Nat → Int32) (y127_6 : Int32) (H : Heap) (locs : List Loc), va_P D vwCl (wWX12 cB cI cZ a0 I0_j127 L0_j127 M0_j127) H → va_D A (wWX12 cB cI cZ a0 I0_j127 L0_j127 M0_j127) → va_S A s.heap H locs → ∀ (ls : Array Slot), lv_has ls 8 [(0, .ref (a0 0)), (3, .int x3), (6, .int y127_6)] → fX12_hour_J127 N x1 x2 x3 I0_j127 L0_j127 M0_j127 y127_6 = some R → W p l e (headSpec wsX12_hour { frames := 3, cells := 0, slots := 0, locals := 70 }).room s m [.ref (a0 0), .int x1, .int x2, .int x3].toArray below meth c H locs 0 0 (MQ below (va_Qi (fun r (_ : Unit) => r = R.1) (fun _ t => wb_post D [(cB, .byte), (cI, .int), (cZ, .boolean)] A (wWX12 cB cI cZ a0 R.2.1 R.2.2.1 R.2.2.2) t) A) [.ref (a0 0), .int x1, .int x2, .int x3].toArray s 0 0 A) (F0 m 127 ls []) := by
    intro I0_j127 L0_j127 M0_j127 y127_6 H locs hP hD hS ls hl hf
    unfold fX12_hour_J127 at hf
    refine lv_aload_n hx hb dX12_hour_127 rfl (lv_at hl 0 rfl) ?_
    refine lv_iload_n hx hb dX12_hour_128 rfl (lv_at hl 1 rfl) ?_
    refine lv_iconst (v := (-1 : Int32)) hx hb dX12_hour_129 (by decide) ?_
    refine lv_icmp_ne (tgt := 137) hx hb dX12_hour_130 (by decide) (fun hc => ?_) (fun hc => ?_)
    · replace hf := wb_f hc hf
      refine lv_iconst (v := (0 : Int32)) hx hb dX12_hour_137 (by decide) ?_
      refine lv_iconst (v := (1 : Int32)) hx hb dX12_hour_138 (by decide) ?_
      obtain ⟨r1, hr1, hf⟩ := wb_b hf
      have hPc := hP
      have hDc := hD
      have hFc := wj_F hDc hS hA
      refine va_calli (va_runV (As := [.int (0 : Int32), .int (1 : Int32)]) (rest := []) ⟨hx, hb, hml, hown, hts⟩ (cn_X12_right l D cB cI cZ N a0 I0_j127 L0_j127 M0_j127 (0 : Int32) (1 : Int32) H.size r1 hr1) (cwV 2 hts gX12_hour_X12_right rfl rfl rfl cdX12_right ⟨Nat.le_of_ble_eq_true rfl, Nat.le_of_ble_eq_true rfl⟩) (wb_preDV hPc hK hDc (wr_12 hK hP (q0 := 0) rfl)) rfl rfl hl.1 rfl (lv_room (Nat.le_of_ble_eq_true rfl)) dX12_hour_139 ⟨Nat.le_of_ble_eq_true rfl, Nat.le_of_ble_eq_true rfl⟩) hS (fun q _ h => hFc q h) hFc (fun r9 u t H locs ht hvm hw hB hz1 hk1 hS => ?_)
      obtain ⟨hP, hD⟩ := wj_0 hFc ht hB
      rw [hw]
      refine lv_if_eq (tgt := 150) hx hb dX12_hour_142 (by decide) (fun hc => ?_) (fun hc => ?_)
      · replace hf := wb_t hc hf
        refine lv_iconst (v := (0 : Int32)) hx hb dX12_hour_150 (by decide) ?_
        exact W.iret (v := (0 : Int32)) hx hb hr (fun t ht hW => by rw [← Option.some.inj hf]; exact ⟨⟨(0 : Int32), (), rfl, rfl, by rw [ht]; exact hP, va_K.moved hW.alike hK, hD⟩, hS.F ht⟩) hS.2.2 dX12_hour_151
      · replace hf := wb_f hc hf
        refine lv_iload hx hb dX12_hour_145 (lv_at hl 2 rfl) ?_
        refine lv_goto (tgt := 151) hx hb dX12_hour_147 (by decide) ?_
        exact W.iret (v := y127_6) hx hb hr (fun t ht hW => by rw [← Option.some.inj hf]; exact ⟨⟨y127_6, (), rfl, rfl, by rw [ht]; exact hP, va_K.moved hW.alike hK, hD⟩, hS.F ht⟩) hS.2.2 dX12_hour_151
    · replace hf := wb_t hc hf
      refine lv_iconst (v := (1 : Int32)) hx hb dX12_hour_133 (by decide) ?_
      refine lv_goto (tgt := 138) hx hb dX12_hour_134 (by decide) ?_
      refine lv_iconst (v := (1 : Int32)) hx hb dX12_hour_138 (by decide) ?_
      obtain ⟨r2, hr2, hf⟩ := wb_b hf
      have hPc := hP
      have hDc := hD
      have hFc := wj_F hDc hS hA
      refine va_calli (va_runV (As := [.int (1 : Int32), .int (1 : Int32)]) (rest := []) ⟨hx, hb, hml, hown, hts⟩ (cn_X12_right l D cB cI cZ N a0 I0_j127 L0_j127 M0_j127 (1 : Int32) (1 : Int32) H.size r2 hr2) (cwV 2 hts gX12_hour_X12_right rfl rfl rfl cdX12_right ⟨Nat.le_of_ble_eq_true rfl, Nat.le_of_ble_eq_true rfl⟩) (wb_preDV hPc hK hDc (wr_12 hK hP (q0 := 0) rfl)) rfl rfl hl.1 rfl (lv_room (Nat.le_of_ble_eq_true rfl)) dX12_hour_139 ⟨Nat.le_of_ble_eq_true rfl, Nat.le_of_ble_eq_true rfl⟩) hS (fun q _ h => hFc q h) hFc (fun r9 u t H locs ht hvm hw hB hz1 hk1 hS => ?_)
      obtain ⟨hP, hD⟩ := wj_0 hFc ht hB
      rw [hw]
      refine lv_if_eq (tgt := 150) hx hb dX12_hour_142 (by decide) (fun hc => ?_) (fun hc => ?_)
      · replace hf := wb_t hc hf
        refine lv_iconst (v := (0 : Int32)) hx hb dX12_hour_150 (by decide) ?_
        exact W.iret (v := (0 : Int32)) hx hb hr (fun t ht hW => by rw [← Option.some.inj hf]; exact ⟨⟨(0 : Int32), (), rfl, rfl, by rw [ht]; exact hP, va_K.moved hW.alike hK, hD⟩, hS.F ht⟩) hS.2.2 dX12_hour_151
      · replace hf := wb_f hc hf
        refine lv_iload hx hb dX12_hour_145 (lv_at hl 2 rfl) ?_
        refine lv_goto (tgt := 151) hx hb dX12_hour_147 (by decide) ?_
        exact W.iret (v := y127_6) hx hb hr (fun t ht hW => by rw [← Option.some.inj hf]; exact ⟨⟨y127_6, (), rfl, rfl, by rw [ht]; exact hP, va_K.moved hW.alike hK, hD⟩, hS.F ht⟩) hS.2.2 dX12_hour_151
  have J61 : ∀ (I0_j61 : Nat → Int32) (L0_j61 : Int64) (M0_j61 : Nat → Nat → Int32) (y61_4 : Int32) (y61_5 : Int32) (H : Heap) (locs : List Loc), va_P D vwCl (wWX12 cB cI cZ a0 I0_j61 L0_j61 M0_j61) H → va_D A (wWX12 cB cI cZ a0 I0_j61 L0_j61 M0_j61) → va_S A s.heap H locs → ∀ (ls : Array Slot), lv_has ls 8 [(0, .ref (a0 0)), (3, .int x3), (4, .int y61_4), (5, .int y61_5)] → fX12_hour_J61 N x1 x2 x3 I0_j61 L0_j61 M0_j61 y61_4 y61_5 = some R → W p l e (headSpec wsX12_hour { frames := 3, cells := 0, slots := 0, locals := 70 }).room s m [.ref (a0 0), .int x1, .int x2, .int x3].toArray below meth c H locs 0 0 (MQ below (va_Qi (fun r (_ : Unit) => r = R.1) (fun _ t => wb_post D [(cB, .byte), (cI, .int), (cZ, .boolean)] A (wWX12 cB cI cZ a0 R.2.1 R.2.2.1 R.2.2.2) t) A) [.ref (a0 0), .int x1, .int x2, .int x3].toArray s 0 0 A) (F0 m 61 ls []) := by
    intro I0_j61 L0_j61 M0_j61 y61_4 y61_5 H locs hP hD hS ls hl hf
    unfold fX12_hour_J61 at hf
    refine lv_iconst (v := (0 : Int32)) hx hb dX12_hour_61 (by decide) ?_
    refine lv_istore (lv' := [(6, .int (0 : Int32)), (0, .ref (a0 0)), (3, .int x3), (4, .int y61_4), (5, .int y61_5)]) hx hb dX12_hour_62 hl (by decide) rfl (fun ls hl => ?_)
    refine lv_iconst (v := (0 : Int32)) hx hb dX12_hour_64 (by decide) ?_
    refine lv_istore (lv' := [(7, .int (0 : Int32)), (6, .int (0 : Int32)), (0, .ref (a0 0)), (3, .int x3), (4, .int y61_4), (5, .int y61_5)]) hx hb dX12_hour_65 hl (by decide) rfl (fun ls hl => ?_)
    have Lh67 : ∀ (fu67 : Nat) (I0_l67 : Nat → Int32) (L0_l67 : Int64) (M0_l67 : Nat → Nat → Int32) (y67_6 : Int32) (y67_7 : Int32) (H : Heap) (locs : List Loc), va_P D vwCl (wWX12 cB cI cZ a0 I0_l67 L0_l67 M0_l67) H → va_D A (wWX12 cB cI cZ a0 I0_l67 L0_l67 M0_l67) → va_S A s.heap H locs → ∀ (ls : Array Slot), lv_has ls 8 [(0, .ref (a0 0)), (3, .int x3), (4, .int y61_4), (5, .int y61_5), (6, .int y67_6), (7, .int y67_7)] → fX12_hour_L67 N x1 x2 x3 y61_4 y61_5 fu67 I0_l67 L0_l67 M0_l67 y67_6 y67_7 = some R → W p l e (headSpec wsX12_hour { frames := 3, cells := 0, slots := 0, locals := 70 }).room s m [.ref (a0 0), .int x1, .int x2, .int x3].toArray below meth c H locs 0 0 (MQ below (va_Qi (fun r (_ : Unit) => r = R.1) (fun _ t => wb_post D [(cB, .byte), (cI, .int), (cZ, .boolean)] A (wWX12 cB cI cZ a0 R.2.1 R.2.2.1 R.2.2.2) t) A) [.ref (a0 0), .int x1, .int x2, .int x3].toArray s 0 0 A) (F0 m 67 ls []) := by
      intro fu67
      induction fu67 with
      | zero =>
        intro I0_l67 L0_l67 M0_l67 y67_6 y67_7 H locs hP hD hS ls hl hf
        exact absurd hf (by rw [fX12_hour_L67.eq_1]; exact fun h => nomatch h)
      | succ fu67 ih67 =>
        intro I0_l67 L0_l67 M0_l67 y67_6 y67_7 H locs hP hD hS ls hl hf
        rw [fX12_hour_L67.eq_2] at hf
        refine lv_iload hx hb dX12_hour_67 (lv_at hl 5 rfl) ?_
        refine lv_sipush (v := (360 : Int32)) hx hb dX12_hour_69 (by decide) ?_
        refine lv_aload_n hx hb dX12_hour_72 rfl (lv_at hl 0 rfl) ?_
        refine va_get (D := D) (ci := 12) (v := .int (I0_l67 1)) (C := RX12) (T := TX12) (N := 58) hx hb hts hinX12 hown hK hP 0 rfl rfl 5 (by decide) (hts (.fieldLink RX12 228 "WheelBookModel" "climates" "I") (List.mem_of_getElem? (i := 1) rfl)) (fun _ h9 => h9) rfl dX12_hour_73 ?_
        refine lv_imul hx hb dX12_hour_76 ?_
        refine lv_icmp_ge (tgt := 127) hx hb dX12_hour_77 (by decide) (fun hc => ?_) (fun hc => ?_)
        · replace hf := wb_t hc hf
          exact J127 I0_l67 L0_l67 M0_l67 y67_6 H locs hP hD hS ls (lv_sub hl [0, 1, 4] rfl) hf
        · replace hf := wb_f hc hf
          refine lv_iload hx hb dX12_hour_80 (lv_at hl 3 rfl) ?_
          refine lv_if_eq (tgt := 127) hx hb dX12_hour_82 (by decide) (fun hc => ?_) (fun hc => ?_)
          · replace hf := wb_t hc hf
            exact J127 I0_l67 L0_l67 M0_l67 y67_6 H locs hP hD hS ls (lv_sub hl [0, 1, 4] rfl) hf
          · replace hf := wb_f hc hf
            refine lv_aload_n hx hb dX12_hour_85 rfl (lv_at hl 0 rfl) ?_
            refine lv_iload hx hb dX12_hour_86 (lv_at hl 2 rfl) ?_
            refine lv_iload hx hb dX12_hour_88 (lv_at hl 5 rfl) ?_
            refine lv_sipush (v := (360 : Int32)) hx hb dX12_hour_90 (by decide) ?_
            refine lv_idiv hx hb dX12_hour_93 (by decide) ?_
            refine lv_iload hx hb dX12_hour_94 (lv_at hl 5 rfl) ?_
            refine lv_sipush (v := (360 : Int32)) hx hb dX12_hour_96 (by decide) ?_
            refine lv_irem hx hb dX12_hour_99 (by decide) ?_
            obtain ⟨r3, hr3, hf⟩ := wb_b hf
            refine vp_callSi (W.runV (As := [.int y61_4, .int (y67_7 / (360 : Int32)), .int (y67_7 - y67_7 / (360 : Int32) * (360 : Int32))]) (rest := []) ⟨hx, hb, hml, hown, hts⟩ (cn_X12_isHour l D cB cI cZ N a0 I0_l67 L0_l67 M0_l67 y61_4 (y67_7 / (360 : Int32)) (y67_7 - y67_7 / (360 : Int32) * (360 : Int32)) r3 hr3) (cwV 3 hts gX12_hour_X12_isHour rfl rfl rfl cdX12_isHour ⟨Nat.le_of_ble_eq_true rfl, Nat.le_of_ble_eq_true rfl⟩) (wb_preV hP hK (wr_12 hK hP (q0 := 0) rfl)) rfl rfl hl.1 rfl (lv_room (Nat.le_of_ble_eq_true rfl)) dX12_hour_100 ⟨Nat.le_of_ble_eq_true rfl, Nat.le_of_ble_eq_true rfl⟩) (fun r9 e9 => ?_)
            rw [e9]
            refine lv_if_ne (tgt := 109) hx hb dX12_hour_103 (by decide) (fun hc => ?_) (fun hc => ?_)
            · replace hf := wb_f hc hf
              refine lv_iload hx hb dX12_hour_109 (lv_at hl 4 rfl) ?_
              refine lv_iload_n hx hb dX12_hour_111 rfl (lv_at hl 1 rfl) ?_
              refine lv_icmp_ne (tgt := 118) hx hb dX12_hour_112 (by decide) (fun hc => ?_) (fun hc => ?_)
              · replace hf := wb_f hc hf
                obtain ⟨v4, ev4, hf⟩ := wb_v hf
                refine lv_iinc (v := v4) (lv' := [(6, .int v4), (0, .ref (a0 0)), (3, .int x3), (4, .int y61_4), (5, .int y61_5), (7, .int y67_7)]) hx hb dX12_hour_118 hl (k := 4) rfl (by rw [ev4]; rfl) (by decide) rfl (fun ls hl => ?_)
                obtain ⟨v5, ev5, hf⟩ := wb_v hf
                refine lv_iinc (v := v5) (lv' := [(7, .int v5), (6, .int v4), (0, .ref (a0 0)), (3, .int x3), (4, .int y61_4), (5, .int y61_5)]) hx hb dX12_hour_121 hl (k := 5) rfl (by rw [ev5]; rfl) (by decide) rfl (fun ls hl => ?_)
                refine lv_goto (tgt := 67) hx hb dX12_hour_124 (by decide) ?_
                exact ih67 I0_l67 L0_l67 M0_l67 v4 v5 H locs hP hD hS ls (lv_sub hl [2, 3, 4, 5, 1, 0] rfl) hf
              · replace hf := wb_t hc hf
                refine lv_iload hx hb dX12_hour_115 (lv_at hl 5 rfl) ?_
                exact W.iret (v := y67_7) hx hb hr (fun t ht hW => by rw [← Option.some.inj hf]; exact ⟨⟨y67_7, (), rfl, rfl, by rw [ht]; exact hP, va_K.moved hW.alike hK, hD⟩, hS.F ht⟩) hS.2.2 dX12_hour_117
            · replace hf := wb_t hc hf
              refine lv_goto (tgt := 121) hx hb dX12_hour_106 (by decide) ?_
              obtain ⟨v6, ev6, hf⟩ := wb_v hf
              refine lv_iinc (v := v6) (lv' := [(7, .int v6), (0, .ref (a0 0)), (3, .int x3), (4, .int y61_4), (5, .int y61_5), (6, .int y67_6)]) hx hb dX12_hour_121 hl (k := 5) rfl (by rw [ev6]; rfl) (by decide) rfl (fun ls hl => ?_)
              refine lv_goto (tgt := 67) hx hb dX12_hour_124 (by decide) ?_
              exact ih67 I0_l67 L0_l67 M0_l67 y67_6 v6 H locs hP hD hS ls (lv_sub hl [1, 2, 3, 4, 5, 0] rfl) hf
    exact Lh67 N I0_j61 L0_j61 M0_j61 (0 : Int32) (0 : Int32) H locs hP hD hS ls (lv_sub hl [2, 3, 4, 5, 1, 0] rfl) hf
  have J47 : ∀ (I0_j47 : Nat → Int32) (L0_j47 : Int64) (M0_j47 : Nat → Nat → Int32) (y47_4 : Int32) (z47_0 : Int32) (H : Heap) (locs : List Loc), va_P D vwCl (wWX12 cB cI cZ a0 I0_j47 L0_j47 M0_j47) H → va_D A (wWX12 cB cI cZ a0 I0_j47 L0_j47 M0_j47) → va_S A s.heap H locs → ∀ (ls : Array Slot), lv_has ls 8 [(0, .ref (a0 0)), (3, .int x3), (4, .int y47_4)] → fX12_hour_J47 N x1 x2 x3 I0_j47 L0_j47 M0_j47 y47_4 z47_0 = some R → W p l e (headSpec wsX12_hour { frames := 3, cells := 0, slots := 0, locals := 70 }).room s m [.ref (a0 0), .int x1, .int x2, .int x3].toArray below meth c H locs 0 0 (MQ below (va_Qi (fun r (_ : Unit) => r = R.1) (fun _ t => wb_post D [(cB, .byte), (cI, .int), (cZ, .boolean)] A (wWX12 cB cI cZ a0 R.2.1 R.2.2.1 R.2.2.2) t) A) [.ref (a0 0), .int x1, .int x2, .int x3].toArray s 0 0 A) (F0 m 47 ls [.int z47_0]) := by
    intro I0_j47 L0_j47 M0_j47 y47_4 z47_0 H locs hP hD hS ls hl hf
    unfold fX12_hour_J47 at hf
    refine lv_istore (lv' := [(5, .int z47_0), (0, .ref (a0 0)), (3, .int x3), (4, .int y47_4)]) hx hb dX12_hour_47 hl (by decide) rfl (fun ls hl => ?_)
    refine lv_iload hx hb dX12_hour_49 (lv_at hl 0 rfl) ?_
    refine lv_if_ne (tgt := 61) hx hb dX12_hour_51 (by decide) (fun hc => ?_) (fun hc => ?_)
    · replace hf := wb_f hc hf
      exact J61 I0_j47 L0_j47 M0_j47 y47_4 z47_0 H locs hP hD hS ls (lv_sub hl [1, 2, 3, 0] rfl) hf
    · replace hf := wb_t hc hf
      refine lv_iload_n hx hb dX12_hour_54 rfl (lv_at hl 2 rfl) ?_
      refine lv_iconst (v := (-1 : Int32)) hx hb dX12_hour_55 (by decide) ?_
      refine lv_icmp_ne (tgt := 61) hx hb dX12_hour_56 (by decide) (fun hc => ?_) (fun hc => ?_)
      · replace hf := wb_f hc hf
        exact J61 I0_j47 L0_j47 M0_j47 y47_4 z47_0 H locs hP hD hS ls (lv_sub hl [1, 2, 3, 0] rfl) hf
      · replace hf := wb_t hc hf
        refine lv_iconst (v := (-1 : Int32)) hx hb dX12_hour_59 (by decide) ?_
        exact W.iret (v := (-1 : Int32)) hx hb hr (fun t ht hW => by rw [← Option.some.inj hf]; exact ⟨⟨(-1 : Int32), (), rfl, rfl, by rw [ht]; exact hP, va_K.moved hW.alike hK, hD⟩, hS.F ht⟩) hS.2.2 dX12_hour_60
  have J46 : ∀ (I0_j46 : Nat → Int32) (L0_j46 : Int64) (M0_j46 : Nat → Nat → Int32) (y46_4 : Int32) (H : Heap) (locs : List Loc), va_P D vwCl (wWX12 cB cI cZ a0 I0_j46 L0_j46 M0_j46) H → va_D A (wWX12 cB cI cZ a0 I0_j46 L0_j46 M0_j46) → va_S A s.heap H locs → ∀ (ls : Array Slot), lv_has ls 8 [(0, .ref (a0 0)), (3, .int x3), (4, .int y46_4)] → fX12_hour_J46 N x1 x2 x3 I0_j46 L0_j46 M0_j46 y46_4 = some R → W p l e (headSpec wsX12_hour { frames := 3, cells := 0, slots := 0, locals := 70 }).room s m [.ref (a0 0), .int x1, .int x2, .int x3].toArray below meth c H locs 0 0 (MQ below (va_Qi (fun r (_ : Unit) => r = R.1) (fun _ t => wb_post D [(cB, .byte), (cI, .int), (cZ, .boolean)] A (wWX12 cB cI cZ a0 R.2.1 R.2.2.1 R.2.2.2) t) A) [.ref (a0 0), .int x1, .int x2, .int x3].toArray s 0 0 A) (F0 m 46 ls []) := by
    intro I0_j46 L0_j46 M0_j46 y46_4 H locs hP hD hS ls hl hf
    unfold fX12_hour_J46 at hf
    refine lv_iconst (v := (0 : Int32)) hx hb dX12_hour_46 (by decide) ?_
    exact J47 I0_j46 L0_j46 M0_j46 y46_4 (0 : Int32) H locs hP hD hS ls (lv_sub hl [0, 1, 2] rfl) hf
  refine lv_aload_n hx hb dX12_hour_0 rfl (lv_at hl 0 rfl) ?_
  refine lv_iload_n hx hb dX12_hour_1 rfl (lv_at hl 1 rfl) ?_
  refine lv_iload_n hx hb dX12_hour_2 rfl (lv_at hl 2 rfl) ?_
  obtain ⟨r7, hr7, hf⟩ := wb_b hf
  have hPc := hP
  have hDc := hD
  have hFc := wj_F hDc hS hA
  refine va_calli (va_runV (As := [.int x1, .int x2]) (rest := []) ⟨hx, hb, hml, hown, hts⟩ (cn_X12_isWheel l D cB cI cZ N a0 I0 L0 M0 x1 x2 H.size r7 hr7) (cwV 2 hts gX12_hour_X12_isWheel rfl rfl rfl cdX12_isWheel ⟨Nat.le_of_ble_eq_true rfl, Nat.le_of_ble_eq_true rfl⟩) (wb_preDV hPc hK hDc (wr_12 hK hP (q0 := 0) rfl)) rfl rfl hl.1 rfl (lv_room (Nat.le_of_ble_eq_true rfl)) dX12_hour_3 ⟨Nat.le_of_ble_eq_true rfl, Nat.le_of_ble_eq_true rfl⟩) hS (fun q _ h => hFc q h) hFc (fun r9 u t H locs ht hvm hw hB hz1 hk1 hS => ?_)
  obtain ⟨hP, hD⟩ := wj_0 hFc ht hB
  rw [hw]
  refine lv_if_ne (tgt := 11) hx hb dX12_hour_6 (by decide) (fun hc => ?_) (fun hc => ?_)
  · replace hf := wb_f hc hf
    refine lv_bipush (v := (20 : Int32)) hx hb dX12_hour_11 (by decide) ?_
    refine lv_iload_n hx hb dX12_hour_13 rfl (lv_at hl 1 rfl) ?_
    refine lv_imul hx hb dX12_hour_14 ?_
    refine lv_iload_n hx hb dX12_hour_15 rfl (lv_at hl 2 rfl) ?_
    refine lv_iadd hx hb dX12_hour_16 ?_
    obtain ⟨v8, ev8, hf⟩ := wb_v hf
    refine wb_topi ev8 ?_
    refine lv_istore (lv' := [(4, .int v8), (0, .ref (a0 0)), (1, .int x1), (2, .int x2), (3, .int x3)]) hx hb dX12_hour_17 hl (by decide) rfl (fun ls hl => ?_)
    refine lv_aload_n hx hb dX12_hour_19 rfl (lv_at hl 1 rfl) ?_
    refine lv_iload hx hb dX12_hour_20 (lv_at hl 0 rfl) ?_
    refine lv_iconst (v := (0 : Int32)) hx hb dX12_hour_22 (by decide) ?_
    obtain ⟨r9b, hr9b, hf⟩ := wb_b hf
    refine vp_callSi (W.runV (As := [.int v8, .int (0 : Int32)]) (rest := []) ⟨hx, hb, hml, hown, hts⟩ (cn_X12_at l D cB cI cZ N a0 r7.2.1 r7.2.2.1 r7.2.2.2 v8 (0 : Int32) r9b hr9b) (cwV 2 hts gX12_hour_X12_at rfl rfl rfl cdX12_at ⟨Nat.le_of_ble_eq_true rfl, Nat.le_of_ble_eq_true rfl⟩) (wb_preV hP hK (wr_12 hK hP (q0 := 0) rfl)) rfl rfl hl.1 rfl (lv_room (Nat.le_of_ble_eq_true rfl)) dX12_hour_23 ⟨Nat.le_of_ble_eq_true rfl, Nat.le_of_ble_eq_true rfl⟩) (fun r9 e9 => ?_)
    rw [e9]
    refine lv_iconst (v := (-1 : Int32)) hx hb dX12_hour_26 (by decide) ?_
    refine lv_icmp_eq (tgt := 46) hx hb dX12_hour_27 (by decide) (fun hc => ?_) (fun hc => ?_)
    · replace hf := wb_t hc hf
      exact J46 r7.2.1 r7.2.2.1 r7.2.2.2 v8 H locs hP hD hS ls (lv_sub hl [1, 4, 0] rfl) hf
    · replace hf := wb_f hc hf
      refine lv_aload_n hx hb dX12_hour_30 rfl (lv_at hl 1 rfl) ?_
      refine lv_iload hx hb dX12_hour_31 (lv_at hl 0 rfl) ?_
      refine lv_bipush (v := (7 : Int32)) hx hb dX12_hour_33 (by decide) ?_
      obtain ⟨r10, hr10, hf⟩ := wb_b hf
      refine vp_callSi (W.runV (As := [.int v8, .int (7 : Int32)]) (rest := []) ⟨hx, hb, hml, hown, hts⟩ (cn_X12_at l D cB cI cZ N a0 r7.2.1 r7.2.2.1 r7.2.2.2 v8 (7 : Int32) r10 hr10) (cwV 2 hts gX12_hour_X12_at rfl rfl rfl cdX12_at ⟨Nat.le_of_ble_eq_true rfl, Nat.le_of_ble_eq_true rfl⟩) (wb_preV hP hK (wr_12 hK hP (q0 := 0) rfl)) rfl rfl hl.1 rfl (lv_room (Nat.le_of_ble_eq_true rfl)) dX12_hour_35 ⟨Nat.le_of_ble_eq_true rfl, Nat.le_of_ble_eq_true rfl⟩) (fun r9 e9 => ?_)
      rw [e9]
      refine lv_iconst (v := (-1 : Int32)) hx hb dX12_hour_38 (by decide) ?_
      refine lv_icmp_eq (tgt := 46) hx hb dX12_hour_39 (by decide) (fun hc => ?_) (fun hc => ?_)
      · replace hf := wb_t hc hf
        exact J46 r7.2.1 r7.2.2.1 r7.2.2.2 v8 H locs hP hD hS ls (lv_sub hl [1, 4, 0] rfl) hf
      · replace hf := wb_f hc hf
        refine lv_iconst (v := (1 : Int32)) hx hb dX12_hour_42 (by decide) ?_
        refine lv_goto (tgt := 47) hx hb dX12_hour_43 (by decide) ?_
        exact J47 r7.2.1 r7.2.2.1 r7.2.2.2 v8 (1 : Int32) H locs hP hD hS ls (lv_sub hl [1, 4, 0] rfl) hf
  · replace hf := wb_t hc hf
    refine lv_iconst (v := (0 : Int32)) hx hb dX12_hour_9 (by decide) ?_
    exact W.iret (v := (0 : Int32)) hx hb hr (fun t ht hW => by rw [← Option.some.inj hf]; exact ⟨⟨(0 : Int32), (), rfl, rfl, by rw [ht]; exact hP, va_K.moved hW.alike hK, hD⟩, hS.F ht⟩) hS.2.2 dX12_hour_10

set_option maxHeartbeats 4000000 in
set_option maxRecDepth 100000 in
theorem cn_X12_houseAt (l : Launch) (D : va_G) (cB cI cZ : ClassId) (N : Nat) (a0 : Nat → Nat) (I0 : Nat → Int32) (L0 : Int64) (M0 : Nat → Nat → Int32) (x1 : Int32) (x2 : Int32) (x3 : Int32) (x4 : Int32) (R : Int32) (hf : fX12_houseAt N I0 L0 M0 x1 x2 x3 x4 = some R) : Met l yX12_houseAt wsX12_houseAt ({ frames := 2, cells := 0, slots := 0, locals := 46 }) (va_Pc [.ref (a0 0), .int x1, .int x2, .int x3, .int x4] (wb_pre D [(cB, .byte), (cI, .int), (cZ, .boolean)] (wWX12 cB cI cZ a0 I0 L0 M0))) (vp_Si (fun r => r = R)) 0 0 (fun _ => False) := by
  refine Met.ofW (cc := cX12_houseAt) (maxL := 10) (ret := (some .int)) pn_X12 rfl ?_
  intro p e s m args below meth c s₁ B hml hv
  obtain ⟨rfl, hP, hK⟩ := hv
  have hx := B.exec
  have hb := B.bytes
  have hr := B.returns
  have hts := atoms_spec (ws := wsX12_houseAt) B.pre
  have hown : s.vm.findClass RX12 = some m.cls := (findClass_of_methodNamed B.named :)
  have hlocks := B.notSynchronized
  have hl := lv_entry ([.ref (a0 0), .int x1, .int x2, .int x3, .int x4]) (n := 10) (Nat.le_of_ble_eq_true rfl)
  rw [lg_entry_eq]
  generalize (lg_sl ([.ref (a0 0), .int x1, .int x2, .int x3, .int x4]) ++ List.replicate (10 - (lg_sl ([.ref (a0 0), .int x1, .int x2, .int x3, .int x4])).length) Slot.unset).toArray = ls at hl ⊢
  have hl : lv_has ls 10 [(0, .ref (a0 0)), (1, .int x1), (2, .int x2), (3, .int x3), (4, .int x4)] := hl
  unfold fX12_houseAt at hf
  have J195 : ∀ (y195_8 : Int32) (z195_0 : Int32), ∀ (ls : Array Slot), lv_has ls 10 [(4, .int x4), (8, .int y195_8)] → fX12_houseAt_J195 N I0 L0 M0 x1 x2 x3 x4 y195_8 z195_0 = some R → W p l e (headSpec wsX12_houseAt { frames := 2, cells := 0, slots := 0, locals := 46 }).room s m [.ref (a0 0), .int x1, .int x2, .int x3, .int x4].toArray below meth c s.heap [] 0 0 (MQ below (vp_Si (fun r => r = R)) [.ref (a0 0), .int x1, .int x2, .int x3, .int x4].toArray s 0 0 (fun _ => False)) (F0 m 195 ls [.int z195_0]) := by
    intro y195_8 z195_0 ls hl hf
    unfold fX12_houseAt_J195 at hf
    refine lv_istore (lv' := [(9, .int z195_0), (4, .int x4), (8, .int y195_8)]) hx hb dX12_houseAt_195 hl (by decide) rfl (fun ls hl => ?_)
    refine lv_iload hx hb dX12_houseAt_197 (lv_at hl 2 rfl) ?_
    refine lv_iload hx hb dX12_houseAt_199 (lv_at hl 1 rfl) ?_
    refine lv_icmp_ne (tgt := 209) hx hb dX12_houseAt_201 (by decide) (fun hc => ?_) (fun hc => ?_)
    · replace hf := wb_f hc hf
      refine lv_iload hx hb dX12_houseAt_209 (lv_at hl 0 rfl) ?_
      refine lv_sipush (v := (180 : Int32)) hx hb dX12_houseAt_211 (by decide) ?_
      refine lv_iadd hx hb dX12_houseAt_214 ?_
      refine lv_sipush (v := (360 : Int32)) hx hb dX12_houseAt_215 (by decide) ?_
      refine lv_irem hx hb dX12_houseAt_218 (by decide) ?_
      exact W.iret (v := ((z195_0 + (180 : Int32)) - (z195_0 + (180 : Int32)) / (360 : Int32) * (360 : Int32))) hx hb hr (fun t ht hW => ⟨_, rfl, Option.some.inj hf, ht⟩) (fun _ h => nomatch h) dX12_houseAt_219
    · replace hf := wb_t hc hf
      refine lv_iload hx hb dX12_houseAt_204 (lv_at hl 0 rfl) ?_
      refine lv_goto (tgt := 215) hx hb dX12_houseAt_206 (by decide) ?_
      refine lv_sipush (v := (360 : Int32)) hx hb dX12_houseAt_215 (by decide) ?_
      refine lv_irem hx hb dX12_houseAt_218 (by decide) ?_
      exact W.iret (v := (z195_0 - z195_0 / (360 : Int32) * (360 : Int32))) hx hb hr (fun t ht hW => ⟨_, rfl, Option.some.inj hf, ht⟩) (fun _ h => nomatch h) dX12_houseAt_219
  have J112 : ∀ (y112_5 : Int32) (y112_6 : Int32) (y112_7 : Int32) (z112_0 : Int32), ∀ (ls : Array Slot), lv_has ls 10 [(1, .int x1), (4, .int x4), (5, .int y112_5), (6, .int y112_6), (7, .int y112_7)] → fX12_houseAt_J112 N I0 L0 M0 x1 x2 x3 x4 y112_5 y112_6 y112_7 z112_0 = some R → W p l e (headSpec wsX12_houseAt { frames := 2, cells := 0, slots := 0, locals := 46 }).room s m [.ref (a0 0), .int x1, .int x2, .int x3, .int x4].toArray below meth c s.heap [] 0 0 (MQ below (vp_Si (fun r => r = R)) [.ref (a0 0), .int x1, .int x2, .int x3, .int x4].toArray s 0 0 (fun _ => False)) (F0 m 112 ls [.int z112_0]) := by
    intro y112_5 y112_6 y112_7 z112_0 ls hl hf
    unfold fX12_houseAt_J112 at hf
    refine lv_istore (lv' := [(8, .int z112_0), (1, .int x1), (4, .int x4), (5, .int y112_5), (6, .int y112_6), (7, .int y112_7)]) hx hb dX12_houseAt_112 hl (by decide) rfl (fun ls hl => ?_)
    refine lv_iload hx hb dX12_houseAt_114 (lv_at hl 0 rfl) ?_
    refine lv_iconst (v := (1 : Int32)) hx hb dX12_houseAt_116 (by decide) ?_
    refine lv_icmp_ne (tgt := 124) hx hb dX12_houseAt_117 (by decide) (fun hc => ?_) (fun hc => ?_)
    · replace hf := wb_f hc hf
      refine lv_iload hx hb dX12_houseAt_124 (lv_at hl 0 rfl) ?_
      refine lv_bipush (v := (10 : Int32)) hx hb dX12_houseAt_126 (by decide) ?_
      refine lv_icmp_ne (tgt := 136) hx hb dX12_houseAt_128 (by decide) (fun hc => ?_) (fun hc => ?_)
      · replace hf := wb_f hc hf
        refine lv_iload hx hb dX12_houseAt_136 (lv_at hl 0 rfl) ?_
        refine lv_bipush (v := (11 : Int32)) hx hb dX12_houseAt_138 (by decide) ?_
        refine lv_icmp_ne (tgt := 153) hx hb dX12_houseAt_140 (by decide) (fun hc => ?_) (fun hc => ?_)
        · replace hf := wb_f hc hf
          refine lv_iload hx hb dX12_houseAt_153 (lv_at hl 0 rfl) ?_
          refine lv_bipush (v := (12 : Int32)) hx hb dX12_houseAt_155 (by decide) ?_
          refine lv_icmp_ne (tgt := 172) hx hb dX12_houseAt_157 (by decide) (fun hc => ?_) (fun hc => ?_)
          · replace hf := wb_f hc hf
            refine lv_iload hx hb dX12_houseAt_172 (lv_at hl 0 rfl) ?_
            refine lv_iconst (v := (2 : Int32)) hx hb dX12_houseAt_174 (by decide) ?_
            refine lv_icmp_ne (tgt := 187) hx hb dX12_houseAt_175 (by decide) (fun hc => ?_) (fun hc => ?_)
            · replace hf := wb_f hc hf
              refine lv_iload_n hx hb dX12_houseAt_187 rfl (lv_at hl 1 rfl) ?_
              refine lv_iconst (v := (2 : Int32)) hx hb dX12_houseAt_188 (by decide) ?_
              refine lv_iload hx hb dX12_houseAt_189 (lv_at hl 5 rfl) ?_
              refine lv_imul hx hb dX12_houseAt_191 ?_
              refine lv_iconst (v := (3 : Int32)) hx hb dX12_houseAt_192 (by decide) ?_
              refine lv_idiv hx hb dX12_houseAt_193 (by decide) ?_
              refine lv_iadd hx hb dX12_houseAt_194 ?_
              exact J195 z112_0 (x1 + (((2 : Int32) * y112_7) / (3 : Int32))) ls (lv_sub hl [2, 0] rfl) hf
            · replace hf := wb_t hc hf
              refine lv_iload_n hx hb dX12_houseAt_178 rfl (lv_at hl 1 rfl) ?_
              refine lv_iload hx hb dX12_houseAt_179 (lv_at hl 5 rfl) ?_
              refine lv_iconst (v := (3 : Int32)) hx hb dX12_houseAt_181 (by decide) ?_
              refine lv_idiv hx hb dX12_houseAt_182 (by decide) ?_
              refine lv_iadd hx hb dX12_houseAt_183 ?_
              refine lv_goto (tgt := 195) hx hb dX12_houseAt_184 (by decide) ?_
              exact J195 z112_0 (x1 + (y112_7 / (3 : Int32))) ls (lv_sub hl [2, 0] rfl) hf
          · replace hf := wb_t hc hf
            refine lv_iload hx hb dX12_houseAt_160 (lv_at hl 3 rfl) ?_
            refine lv_iconst (v := (2 : Int32)) hx hb dX12_houseAt_162 (by decide) ?_
            refine lv_iload hx hb dX12_houseAt_163 (lv_at hl 4 rfl) ?_
            refine lv_imul hx hb dX12_houseAt_165 ?_
            refine lv_iconst (v := (3 : Int32)) hx hb dX12_houseAt_166 (by decide) ?_
            refine lv_idiv hx hb dX12_houseAt_167 (by decide) ?_
            refine lv_iadd hx hb dX12_houseAt_168 ?_
            refine lv_goto (tgt := 195) hx hb dX12_houseAt_169 (by decide) ?_
            exact J195 z112_0 (y112_5 + (((2 : Int32) * y112_6) / (3 : Int32))) ls (lv_sub hl [2, 0] rfl) hf
        · replace hf := wb_t hc hf
          refine lv_iload hx hb dX12_houseAt_143 (lv_at hl 3 rfl) ?_
          refine lv_iload hx hb dX12_houseAt_145 (lv_at hl 4 rfl) ?_
          refine lv_iconst (v := (3 : Int32)) hx hb dX12_houseAt_147 (by decide) ?_
          refine lv_idiv hx hb dX12_houseAt_148 (by decide) ?_
          refine lv_iadd hx hb dX12_houseAt_149 ?_
          refine lv_goto (tgt := 195) hx hb dX12_houseAt_150 (by decide) ?_
          exact J195 z112_0 (y112_5 + (y112_6 / (3 : Int32))) ls (lv_sub hl [2, 0] rfl) hf
      · replace hf := wb_t hc hf
        refine lv_iload hx hb dX12_houseAt_131 (lv_at hl 3 rfl) ?_
        refine lv_goto (tgt := 195) hx hb dX12_houseAt_133 (by decide) ?_
        exact J195 z112_0 y112_5 ls (lv_sub hl [2, 0] rfl) hf
    · replace hf := wb_t hc hf
      refine lv_iload_n hx hb dX12_houseAt_120 rfl (lv_at hl 1 rfl) ?_
      refine lv_goto (tgt := 195) hx hb dX12_houseAt_121 (by decide) ?_
      exact J195 z112_0 x1 ls (lv_sub hl [2, 0] rfl) hf
  have J110 : ∀ (y110_5 : Int32) (y110_6 : Int32) (y110_7 : Int32), ∀ (ls : Array Slot), lv_has ls 10 [(1, .int x1), (4, .int x4), (5, .int y110_5), (6, .int y110_6), (7, .int y110_7)] → fX12_houseAt_J110 N I0 L0 M0 x1 x2 x3 x4 y110_5 y110_6 y110_7 = some R → W p l e (headSpec wsX12_houseAt { frames := 2, cells := 0, slots := 0, locals := 46 }).room s m [.ref (a0 0), .int x1, .int x2, .int x3, .int x4].toArray below meth c s.heap [] 0 0 (MQ below (vp_Si (fun r => r = R)) [.ref (a0 0), .int x1, .int x2, .int x3, .int x4].toArray s 0 0 (fun _ => False)) (F0 m 110 ls []) := by
    intro y110_5 y110_6 y110_7 ls hl hf
    unfold fX12_houseAt_J110 at hf
    refine lv_iload hx hb dX12_houseAt_110 (lv_at hl 1 rfl) ?_
    exact J112 y110_5 y110_6 y110_7 x4 ls (lv_sub hl [0, 1, 2, 3, 4] rfl) hf
  refine lv_iload_n hx hb dX12_houseAt_0 rfl (lv_at hl 2 rfl) ?_
  refine lv_if_ne (tgt := 20) hx hb dX12_houseAt_1 (by decide) (fun hc => ?_) (fun hc => ?_)
  · replace hf := wb_f hc hf
    refine lv_iload_n hx hb dX12_houseAt_20 rfl (lv_at hl 2 rfl) ?_
    refine lv_iconst (v := (1 : Int32)) hx hb dX12_houseAt_21 (by decide) ?_
    refine lv_icmp_ne (tgt := 39) hx hb dX12_houseAt_22 (by decide) (fun hc => ?_) (fun hc => ?_)
    · replace hf := wb_f hc hf
      refine lv_aload_n hx hb dX12_houseAt_39 rfl (lv_at hl 0 rfl) ?_
      refine lv_iload_n hx hb dX12_houseAt_40 rfl (lv_at hl 3 rfl) ?_
      refine lv_bipush (v := (60 : Int32)) hx hb dX12_houseAt_41 (by decide) ?_
      refine lv_iload_n hx hb dX12_houseAt_43 rfl (lv_at hl 1 rfl) ?_
      refine lv_imul hx hb dX12_houseAt_44 ?_
      obtain ⟨r1, hr1, hf⟩ := wb_b hf
      refine vp_callSi (W.runV (As := [.int x3, .int ((60 : Int32) * x1)]) (rest := []) ⟨hx, hb, hml, hown, hts⟩ (cn_X12_middleOf l D cB cI cZ N a0 I0 L0 M0 x3 ((60 : Int32) * x1) r1 hr1) (cwV 2 hts gX12_houseAt_X12_middleOf rfl rfl rfl cdX12_middleOf ⟨Nat.le_of_ble_eq_true rfl, Nat.le_of_ble_eq_true rfl⟩) (wb_preV hP hK (wr_12 hK hP (q0 := 0) rfl)) rfl rfl hl.1 rfl (lv_room (Nat.le_of_ble_eq_true rfl)) dX12_houseAt_45 ⟨Nat.le_of_ble_eq_true rfl, Nat.le_of_ble_eq_true rfl⟩) (fun r9 e9 => ?_)
      rw [e9]
      refine lv_bipush (v := (60 : Int32)) hx hb dX12_houseAt_48 (by decide) ?_
      refine lv_idiv hx hb dX12_houseAt_50 (by decide) ?_
      obtain ⟨v2, ev2, hf⟩ := wb_v hf
      refine wb_topi ev2 ?_
      refine lv_istore (lv' := [(5, .int v2), (0, .ref (a0 0)), (1, .int x1), (2, .int x2), (3, .int x3), (4, .int x4)]) hx hb dX12_houseAt_51 hl (by decide) rfl (fun ls hl => ?_)
      refine lv_iload_n hx hb dX12_houseAt_53 rfl (lv_at hl 2 rfl) ?_
      refine lv_iload hx hb dX12_houseAt_54 (lv_at hl 0 rfl) ?_
      refine lv_isub hx hb dX12_houseAt_56 ?_
      refine lv_sipush (v := (360 : Int32)) hx hb dX12_houseAt_57 (by decide) ?_
      refine lv_iadd hx hb dX12_houseAt_60 ?_
      refine lv_sipush (v := (360 : Int32)) hx hb dX12_houseAt_61 (by decide) ?_
      refine lv_irem hx hb dX12_houseAt_64 (by decide) ?_
      obtain ⟨v3, ev3, hf⟩ := wb_v hf
      refine wb_topi ev3 ?_
      refine lv_istore (lv' := [(6, .int v3), (5, .int v2), (0, .ref (a0 0)), (1, .int x1), (2, .int x2), (3, .int x3), (4, .int x4)]) hx hb dX12_houseAt_65 hl (by decide) rfl (fun ls hl => ?_)
      refine lv_iload hx hb dX12_houseAt_67 (lv_at hl 1 rfl) ?_
      refine lv_sipush (v := (180 : Int32)) hx hb dX12_houseAt_69 (by decide) ?_
      refine lv_iadd hx hb dX12_houseAt_72 ?_
      refine lv_iload_n hx hb dX12_houseAt_73 rfl (lv_at hl 3 rfl) ?_
      refine lv_isub hx hb dX12_houseAt_74 ?_
      refine lv_sipush (v := (360 : Int32)) hx hb dX12_houseAt_75 (by decide) ?_
      refine lv_iadd hx hb dX12_houseAt_78 ?_
      refine lv_sipush (v := (360 : Int32)) hx hb dX12_houseAt_79 (by decide) ?_
      refine lv_irem hx hb dX12_houseAt_82 (by decide) ?_
      obtain ⟨v4, ev4, hf⟩ := wb_v hf
      refine wb_topi ev4 ?_
      refine lv_istore (lv' := [(7, .int v4), (6, .int v3), (5, .int v2), (0, .ref (a0 0)), (1, .int x1), (2, .int x2), (3, .int x3), (4, .int x4)]) hx hb dX12_houseAt_83 hl (by decide) rfl (fun ls hl => ?_)
      refine lv_iload hx hb dX12_houseAt_85 (lv_at hl 7 rfl) ?_
      refine lv_iconst (v := (3 : Int32)) hx hb dX12_houseAt_87 (by decide) ?_
      refine lv_icmp_le (tgt := 110) hx hb dX12_houseAt_88 (by decide) (fun hc => ?_) (fun hc => ?_)
      · replace hf := wb_t hc hf
        exact J110 v2 v3 v4 ls (lv_sub hl [4, 7, 2, 1, 0] rfl) hf
      · replace hf := wb_f hc hf
        refine lv_iload hx hb dX12_houseAt_91 (lv_at hl 7 rfl) ?_
        refine lv_bipush (v := (10 : Int32)) hx hb dX12_houseAt_93 (by decide) ?_
        refine lv_icmp_ge (tgt := 110) hx hb dX12_houseAt_95 (by decide) (fun hc => ?_) (fun hc => ?_)
        · replace hf := wb_t hc hf
          exact J110 v2 v3 v4 ls (lv_sub hl [4, 7, 2, 1, 0] rfl) hf
        · replace hf := wb_f hc hf
          refine lv_iload hx hb dX12_houseAt_98 (lv_at hl 7 rfl) ?_
          refine lv_iconst (v := (5 : Int32)) hx hb dX12_houseAt_100 (by decide) ?_
          refine lv_iadd hx hb dX12_houseAt_101 ?_
          refine lv_bipush (v := (12 : Int32)) hx hb dX12_houseAt_102 (by decide) ?_
          refine lv_irem hx hb dX12_houseAt_104 (by decide) ?_
          refine lv_iconst (v := (1 : Int32)) hx hb dX12_houseAt_105 (by decide) ?_
          refine lv_iadd hx hb dX12_houseAt_106 ?_
          refine lv_goto (tgt := 112) hx hb dX12_houseAt_107 (by decide) ?_
          exact J112 v2 v3 v4 (((x4 + (5 : Int32)) - (x4 + (5 : Int32)) / (12 : Int32) * (12 : Int32)) + (1 : Int32)) ls (lv_sub hl [4, 7, 2, 1, 0] rfl) hf
    · replace hf := wb_t hc hf
      refine lv_iload_n hx hb dX12_houseAt_25 rfl (lv_at hl 1 rfl) ?_
      refine lv_bipush (v := (30 : Int32)) hx hb dX12_houseAt_26 (by decide) ?_
      refine lv_iload hx hb dX12_houseAt_28 (lv_at hl 4 rfl) ?_
      refine lv_iconst (v := (1 : Int32)) hx hb dX12_houseAt_30 (by decide) ?_
      refine lv_isub hx hb dX12_houseAt_31 ?_
      refine lv_imul hx hb dX12_houseAt_32 ?_
      refine lv_iadd hx hb dX12_houseAt_33 ?_
      refine lv_sipush (v := (360 : Int32)) hx hb dX12_houseAt_34 (by decide) ?_
      refine lv_irem hx hb dX12_houseAt_37 (by decide) ?_
      exact W.iret (v := ((x1 + ((30 : Int32) * (x4 - (1 : Int32)))) - (x1 + ((30 : Int32) * (x4 - (1 : Int32)))) / (360 : Int32) * (360 : Int32))) hx hb hr (fun t ht hW => ⟨_, rfl, Option.some.inj hf, ht⟩) (fun _ h => nomatch h) dX12_houseAt_38
  · replace hf := wb_t hc hf
    refine lv_bipush (v := (30 : Int32)) hx hb dX12_houseAt_4 (by decide) ?_
    refine lv_iload_n hx hb dX12_houseAt_6 rfl (lv_at hl 1 rfl) ?_
    refine lv_bipush (v := (30 : Int32)) hx hb dX12_houseAt_7 (by decide) ?_
    refine lv_idiv hx hb dX12_houseAt_9 (by decide) ?_
    refine lv_iload hx hb dX12_houseAt_10 (lv_at hl 4 rfl) ?_
    refine lv_iadd hx hb dX12_houseAt_12 ?_
    refine lv_iconst (v := (1 : Int32)) hx hb dX12_houseAt_13 (by decide) ?_
    refine lv_isub hx hb dX12_houseAt_14 ?_
    refine lv_bipush (v := (12 : Int32)) hx hb dX12_houseAt_15 (by decide) ?_
    refine lv_irem hx hb dX12_houseAt_17 (by decide) ?_
    refine lv_imul hx hb dX12_houseAt_18 ?_
    exact W.iret (v := ((30 : Int32) * ((((x1 / (30 : Int32)) + x4) - (1 : Int32)) - (((x1 / (30 : Int32)) + x4) - (1 : Int32)) / (12 : Int32) * (12 : Int32)))) hx hb hr (fun t ht hW => ⟨_, rfl, Option.some.inj hf, ht⟩) (fun _ h => nomatch h) dX12_houseAt_19
