set_option maxHeartbeats 4000000 in
set_option maxRecDepth 100000 in
theorem cn_X8_copyFrom (l : Launch) (D : va_G) (cB cI cZ : ClassId) (N : Nat) (a0 : Nat → Nat) (I0 : Nat → Int32) (M0 : Nat → Nat → Int32) (a1 : Nat → Nat) (I1 : Nat → Int32) (M1 : Nat → Nat → Int32) (sz : Nat) (R : (Nat → Int32) × (Nat → Nat → Int32)) (hf : fX8_copyFrom N I0 M0 I1 M1 = some R) : Met l yX8_copyFrom wsX8_copyFrom ({ frames := 1, cells := 0, slots := 0, locals := 80 }) (va_Pc [.ref (a0 0), .ref (a1 0)] (wb_preD D [(cB, .byte), (cI, .int), (cZ, .boolean)] ((wWX8 cB cI cZ a0 I0 M0) ++ (wWX8 cB cI cZ a1 I1 M1)) sz)) (va_Qv (fun _ : Unit => True) (fun _ t => wb_post D [(cB, .byte), (cI, .int), (cZ, .boolean)] (va_A ((wWX8 cB cI cZ a0 I0 M0) ++ (wWX8 cB cI cZ a1 I1 M1)) sz) ((wWX8 cB cI cZ a0 R.1 R.2) ++ (wWX8 cB cI cZ a1 I1 M1)) t) (va_A ((wWX8 cB cI cZ a0 I0 M0) ++ (wWX8 cB cI cZ a1 I1 M1)) sz)) 0 0 (va_A ((wWX8 cB cI cZ a0 I0 M0) ++ (wWX8 cB cI cZ a1 I1 M1)) sz) := by
  refine Met.ofW (cc := cX8_copyFrom) (maxL := 2) (ret := none) pn_X8 rfl ?_
  intro p e s m args below meth c s₁ B hml hv
  obtain ⟨rfl, hsz, hP, hK, hD0⟩ := hv
  have hx := B.exec
  have hb := B.bytes
  have hr := B.returns
  have hts := atoms_spec (ws := wsX8_copyFrom) B.pre
  have hown : s.vm.findClass RX8 = some m.cls := (findClass_of_methodNamed B.named :)
  have hlocks := B.notSynchronized
  have hinX8 : ∀ w ∈ u_ws RX8 TX8 8, w ∈ wsX8_copyFrom := fun w h => List.mem_cons_of_mem _ (List.mem_append_right _ h)
  subst hsz
  have hD := hD0.self (sz := s.heap.size)
  generalize hAe : va_A ((wWX8 cB cI cZ a0 I0 M0) ++ (wWX8 cB cI cZ a1 I1 M1)) s.heap.size = A at hD ⊢
  have hA : ∀ q : Nat, s.heap.size ≤ q → A q := fun q h => by rw [← hAe]; exact Or.inr h
  have hS : va_S A s.heap s.heap [] := va_S.rf
  have hl := lv_entry ([.ref (a0 0), .ref (a1 0)]) (n := 2) (Nat.le_of_ble_eq_true rfl)
  rw [lg_entry_eq]
  generalize (lg_sl ([.ref (a0 0), .ref (a1 0)]) ++ List.replicate (2 - (lg_sl ([.ref (a0 0), .ref (a1 0)])).length) Slot.unset).toArray = ls at hl ⊢
  have hl : lv_has ls 2 [(0, .ref (a0 0)), (1, .ref (a1 0))] := hl
  unfold fX8_copyFrom at hf
  obtain ⟨H, hHe⟩ : ∃ H : Heap, H = s.heap := ⟨_, rfl⟩
  obtain ⟨locs, hle⟩ : ∃ locs : List Loc, locs = [] := ⟨_, rfl⟩
  refine wb_start (H := H) (locs := locs) hHe hle ?_
  rw [← hHe] at hP
  have hS : va_S A s.heap H locs := by rw [hHe, hle]; exact va_S.rf
  refine lv_aload_n hx hb dX8_copyFrom_0 rfl (lv_at hl 0 rfl) ?_
  refine lv_aload_n hx hb dX8_copyFrom_1 rfl (lv_at hl 1 rfl) ?_
  refine va_get (D := D) (ci := 8) (v := .int (I1 0)) (C := RX8) (T := TX8) (N := 8) hx hb hts hinX8 hown hK hP 2 rfl rfl 0 (by decide) (hts (.fieldLink RX8 15 "WheelBook$Search" "begun" "Z") (List.mem_of_getElem? (i := 1) rfl)) (fun _ h9 => h9) rfl dX8_copyFrom_2 ?_
  obtain ⟨hbz, hf⟩ := wb_n hf
  have hbz := Decidable.of_not_not hbz
  refine va_put (D := D) (ci := 8) (v := .int (I1 0)) (ty := .boolean) (C := RX8) (T := TX8) (N := 8) hx hb hts hinX8 tyX8 tyX8_ok nmX8 hown hK hP hD hS 0 rfl rfl 0 (by decide) (hts (.fieldLink RX8 15 "WheelBook$Search" "begun" "Z") (List.mem_of_getElem? (i := 1) rfl)) (fun _ h9 => h9) rfl (by decide +kernel) (congrArg Value.int hbz) (wb_fitZ hbz) (Nat.le_of_ble_eq_true rfl) dX8_copyFrom_5 (fun H locs hP hD hS => ?_)
  have hP : va_P D vwCl ((wWX8 cB cI cZ a0 (upd I0 0 (I1 0)) M0) ++ (wWX8 cB cI cZ a1 I1 M1)) H := hP
  have hD : va_D A ((wWX8 cB cI cZ a0 (upd I0 0 (I1 0)) M0) ++ (wWX8 cB cI cZ a1 I1 M1)) := hD
  obtain ⟨I0_1, eI0_1, hf⟩ := wb_v hf
  rw [← eI0_1] at hP hD
  refine lv_aload_n hx hb dX8_copyFrom_8 rfl (lv_at hl 0 rfl) ?_
  refine lv_aload_n hx hb dX8_copyFrom_9 rfl (lv_at hl 1 rfl) ?_
  refine va_get (D := D) (ci := 8) (v := .int (I1 1)) (C := RX8) (T := TX8) (N := 8) hx hb hts hinX8 hown hK hP 2 rfl rfl 1 (by decide) (hts (.fieldLink RX8 19 "WheelBook$Search" "number" "I") (List.mem_of_getElem? (i := 2) rfl)) (fun _ h9 => h9) rfl dX8_copyFrom_10 ?_
  refine va_put (D := D) (ci := 8) (v := .int (I1 1)) (ty := .int) (C := RX8) (T := TX8) (N := 8) hx hb hts hinX8 tyX8 tyX8_ok nmX8 hown hK hP hD hS 0 rfl rfl 1 (by decide) (hts (.fieldLink RX8 19 "WheelBook$Search" "number" "I") (List.mem_of_getElem? (i := 2) rfl)) (fun _ h9 => h9) rfl (by decide +kernel) rfl rfl (Nat.le_of_ble_eq_true rfl) dX8_copyFrom_13 (fun H locs hP hD hS => ?_)
  have hP : va_P D vwCl ((wWX8 cB cI cZ a0 (upd I0_1 1 (I1 1)) M0) ++ (wWX8 cB cI cZ a1 I1 M1)) H := hP
  have hD : va_D A ((wWX8 cB cI cZ a0 (upd I0_1 1 (I1 1)) M0) ++ (wWX8 cB cI cZ a1 I1 M1)) := hD
  obtain ⟨I0_2, eI0_2, hf⟩ := wb_v hf
  rw [← eI0_2] at hP hD
  refine lv_aload_n hx hb dX8_copyFrom_16 rfl (lv_at hl 0 rfl) ?_
  refine lv_aload_n hx hb dX8_copyFrom_17 rfl (lv_at hl 1 rfl) ?_
  refine va_get (D := D) (ci := 8) (v := .int (I1 2)) (C := RX8) (T := TX8) (N := 8) hx hb hts hinX8 hown hK hP 2 rfl rfl 2 (by decide) (hts (.fieldLink RX8 23 "WheelBook$Search" "set" "I") (List.mem_of_getElem? (i := 3) rfl)) (fun _ h9 => h9) rfl dX8_copyFrom_18 ?_
  refine va_put (D := D) (ci := 8) (v := .int (I1 2)) (ty := .int) (C := RX8) (T := TX8) (N := 8) hx hb hts hinX8 tyX8 tyX8_ok nmX8 hown hK hP hD hS 0 rfl rfl 2 (by decide) (hts (.fieldLink RX8 23 "WheelBook$Search" "set" "I") (List.mem_of_getElem? (i := 3) rfl)) (fun _ h9 => h9) rfl (by decide +kernel) rfl rfl (Nat.le_of_ble_eq_true rfl) dX8_copyFrom_21 (fun H locs hP hD hS => ?_)
  have hP : va_P D vwCl ((wWX8 cB cI cZ a0 (upd I0_2 2 (I1 2)) M0) ++ (wWX8 cB cI cZ a1 I1 M1)) H := hP
  have hD : va_D A ((wWX8 cB cI cZ a0 (upd I0_2 2 (I1 2)) M0) ++ (wWX8 cB cI cZ a1 I1 M1)) := hD
  obtain ⟨I0_3, eI0_3, hf⟩ := wb_v hf
  rw [← eI0_3] at hP hD
  refine lv_aload_n hx hb dX8_copyFrom_24 rfl (lv_at hl 0 rfl) ?_
  refine lv_aload_n hx hb dX8_copyFrom_25 rfl (lv_at hl 1 rfl) ?_
  refine va_get (D := D) (ci := 8) (v := .int (I1 3)) (C := RX8) (T := TX8) (N := 8) hx hb hts hinX8 hown hK hP 2 rfl rfl 3 (by decide) (hts (.fieldLink RX8 26 "WheelBook$Search" "next" "I") (List.mem_of_getElem? (i := 4) rfl)) (fun _ h9 => h9) rfl dX8_copyFrom_26 ?_
  refine va_put (D := D) (ci := 8) (v := .int (I1 3)) (ty := .int) (C := RX8) (T := TX8) (N := 8) hx hb hts hinX8 tyX8 tyX8_ok nmX8 hown hK hP hD hS 0 rfl rfl 3 (by decide) (hts (.fieldLink RX8 26 "WheelBook$Search" "next" "I") (List.mem_of_getElem? (i := 4) rfl)) (fun _ h9 => h9) rfl (by decide +kernel) rfl rfl (Nat.le_of_ble_eq_true rfl) dX8_copyFrom_29 (fun H locs hP hD hS => ?_)
  have hP : va_P D vwCl ((wWX8 cB cI cZ a0 (upd I0_3 3 (I1 3)) M0) ++ (wWX8 cB cI cZ a1 I1 M1)) H := hP
  have hD : va_D A ((wWX8 cB cI cZ a0 (upd I0_3 3 (I1 3)) M0) ++ (wWX8 cB cI cZ a1 I1 M1)) := hD
  obtain ⟨I0_4, eI0_4, hf⟩ := wb_v hf
  rw [← eI0_4] at hP hD
  refine lv_aload_n hx hb dX8_copyFrom_32 rfl (lv_at hl 0 rfl) ?_
  refine lv_aload_n hx hb dX8_copyFrom_33 rfl (lv_at hl 1 rfl) ?_
  refine va_get (D := D) (ci := 8) (v := .int (I1 4)) (C := RX8) (T := TX8) (N := 8) hx hb hts hinX8 hown hK hP 2 rfl rfl 4 (by decide) (hts (.fieldLink RX8 31 "WheelBook$Search" "least" "I") (List.mem_of_getElem? (i := 5) rfl)) (fun _ h9 => h9) rfl dX8_copyFrom_34 ?_
  refine va_put (D := D) (ci := 8) (v := .int (I1 4)) (ty := .int) (C := RX8) (T := TX8) (N := 8) hx hb hts hinX8 tyX8 tyX8_ok nmX8 hown hK hP hD hS 0 rfl rfl 4 (by decide) (hts (.fieldLink RX8 31 "WheelBook$Search" "least" "I") (List.mem_of_getElem? (i := 5) rfl)) (fun _ h9 => h9) rfl (by decide +kernel) rfl rfl (Nat.le_of_ble_eq_true rfl) dX8_copyFrom_37 (fun H locs hP hD hS => ?_)
  have hP : va_P D vwCl ((wWX8 cB cI cZ a0 (upd I0_4 4 (I1 4)) M0) ++ (wWX8 cB cI cZ a1 I1 M1)) H := hP
  have hD : va_D A ((wWX8 cB cI cZ a0 (upd I0_4 4 (I1 4)) M0) ++ (wWX8 cB cI cZ a1 I1 M1)) := hD
  obtain ⟨I0_5, eI0_5, hf⟩ := wb_v hf
  rw [← eI0_5] at hP hD
  refine lv_aload_n hx hb dX8_copyFrom_40 rfl (lv_at hl 0 rfl) ?_
  refine lv_aload_n hx hb dX8_copyFrom_41 rfl (lv_at hl 1 rfl) ?_
  refine va_get (D := D) (ci := 8) (v := .int (I1 5)) (C := RX8) (T := TX8) (N := 8) hx hb hts hinX8 hown hK hP 2 rfl rfl 5 (by decide) (hts (.fieldLink RX8 34 "WheelBook$Search" "many" "I") (List.mem_of_getElem? (i := 6) rfl)) (fun _ h9 => h9) rfl dX8_copyFrom_42 ?_
  refine va_put (D := D) (ci := 8) (v := .int (I1 5)) (ty := .int) (C := RX8) (T := TX8) (N := 8) hx hb hts hinX8 tyX8 tyX8_ok nmX8 hown hK hP hD hS 0 rfl rfl 5 (by decide) (hts (.fieldLink RX8 34 "WheelBook$Search" "many" "I") (List.mem_of_getElem? (i := 6) rfl)) (fun _ h9 => h9) rfl (by decide +kernel) rfl rfl (Nat.le_of_ble_eq_true rfl) dX8_copyFrom_45 (fun H locs hP hD hS => ?_)
  have hP : va_P D vwCl ((wWX8 cB cI cZ a0 (upd I0_5 5 (I1 5)) M0) ++ (wWX8 cB cI cZ a1 I1 M1)) H := hP
  have hD : va_D A ((wWX8 cB cI cZ a0 (upd I0_5 5 (I1 5)) M0) ++ (wWX8 cB cI cZ a1 I1 M1)) := hD
  obtain ⟨I0_6, eI0_6, hf⟩ := wb_v hf
  rw [← eI0_6] at hP hD
  refine lv_aload_n hx hb dX8_copyFrom_48 rfl (lv_at hl 0 rfl) ?_
  refine lv_aload_n hx hb dX8_copyFrom_49 rfl (lv_at hl 1 rfl) ?_
  refine va_get (D := D) (ci := 8) (v := .int (I1 6)) (C := RX8) (T := TX8) (N := 8) hx hb hts hinX8 hown hK hP 2 rfl rfl 6 (by decide) (hts (.fieldLink RX8 37 "WheelBook$Search" "latest" "I") (List.mem_of_getElem? (i := 7) rfl)) (fun _ h9 => h9) rfl dX8_copyFrom_50 ?_
  refine va_put (D := D) (ci := 8) (v := .int (I1 6)) (ty := .int) (C := RX8) (T := TX8) (N := 8) hx hb hts hinX8 tyX8 tyX8_ok nmX8 hown hK hP hD hS 0 rfl rfl 6 (by decide) (hts (.fieldLink RX8 37 "WheelBook$Search" "latest" "I") (List.mem_of_getElem? (i := 7) rfl)) (fun _ h9 => h9) rfl (by decide +kernel) rfl rfl (Nat.le_of_ble_eq_true rfl) dX8_copyFrom_53 (fun H locs hP hD hS => ?_)
  have hP : va_P D vwCl ((wWX8 cB cI cZ a0 (upd I0_6 6 (I1 6)) M0) ++ (wWX8 cB cI cZ a1 I1 M1)) H := hP
  have hD : va_D A ((wWX8 cB cI cZ a0 (upd I0_6 6 (I1 6)) M0) ++ (wWX8 cB cI cZ a1 I1 M1)) := hD
  obtain ⟨I0_7, eI0_7, hf⟩ := wb_v hf
  rw [← eI0_7] at hP hD
  refine lv_aload_n hx hb dX8_copyFrom_56 rfl (lv_at hl 1 rfl) ?_
  refine va_get (D := D) (ci := 8) (v := .ref (a1 1)) (C := RX8) (T := TX8) (N := 8) hx hb hts hinX8 hown hK hP 2 rfl rfl 7 (by decide) (hts (.fieldLink RX8 11 "WheelBook$Search" "days" "[I") (List.mem_of_getElem? (i := 8) rfl)) (fun _ h9 => h9) rfl dX8_copyFrom_57 ?_
  refine lv_iconst (v := (0 : Int32)) hx hb dX8_copyFrom_60 (by decide) ?_
  refine lv_aload_n hx hb dX8_copyFrom_61 rfl (lv_at hl 0 rfl) ?_
  refine va_get (D := D) (ci := 8) (v := .ref (a0 1)) (C := RX8) (T := TX8) (N := 8) hx hb hts hinX8 hown hK hP 0 rfl rfl 7 (by decide) (hts (.fieldLink RX8 11 "WheelBook$Search" "days" "[I") (List.mem_of_getElem? (i := 8) rfl)) (fun _ h9 => h9) rfl dX8_copyFrom_62 ?_
  refine lv_iconst (v := (0 : Int32)) hx hb dX8_copyFrom_65 (by decide) ?_
  refine lv_bipush (v := (20 : Int32)) hx hb dX8_copyFrom_66 (by decide) ?_
  obtain ⟨hcp, hf⟩ := wb_n hf
  obtain ⟨hcp1, hcp2, hcp3, hcp4, hcp5⟩ := wb_cp hcp
  refine va_copyi hx hb (hml.trans hl.1.symm) hown (hts (.methodLink RX8 40 arraycopyName) (List.mem_of_getElem? (i := 9) rfl)) (hts (.native arraycopyName) (List.mem_of_getElem? (i := 10) rfl)) (hts (.static arraycopyName) (List.mem_of_getElem? (i := 11) rfl)) (hts (.initialized "java/lang/System") (List.mem_of_getElem? (i := 12) rfl)) hK hP hD hS 3 1 1 1 rfl rfl rfl rfl rfl hcp1 hcp2 hcp3 hcp4 hcp5 (fun _ _ => rfl) (Nat.le_of_ble_eq_true rfl) (by decide +kernel) dX8_copyFrom_68 (fun H locs hP hD hS => ?_)
  have hP : va_P D vwCl ((wWX8 cB cI cZ a0 I0_7 (wb_mm M0 0 (va_cpy (M1 0) (M0 0) ((0 : Int32)).toNatClampNeg ((0 : Int32)).toNatClampNeg ((20 : Int32)).toNatClampNeg))) ++ (wWX8 cB cI cZ a1 I1 M1)) H := hP
  have hD : va_D A ((wWX8 cB cI cZ a0 I0_7 (wb_mm M0 0 (va_cpy (M1 0) (M0 0) ((0 : Int32)).toNatClampNeg ((0 : Int32)).toNatClampNeg ((20 : Int32)).toNatClampNeg))) ++ (wWX8 cB cI cZ a1 I1 M1)) := hD
  obtain ⟨M0_8, eM0_8, hf⟩ := wb_v hf
  rw [← eM0_8] at hP hD
  exact W.vret hx hb hr (fun t ht hW => by rw [← Option.some.inj hf]; exact ⟨⟨(), rfl, trivial, by rw [ht]; exact hP, va_K.moved hW.alike hK, hD⟩, hS.F ht⟩) hS.2.2 dX8_copyFrom_71

set_option maxHeartbeats 4000000 in
set_option maxRecDepth 100000 in
theorem cn_X8_lookAt (l : Launch) (D : va_G) (cB cI cZ : ClassId) (N : Nat) (a0 : Nat → Nat) (I0 : Nat → Int32) (M0 : Nat → Nat → Int32) (x1 : Int32) (sz : Nat) (R : (Nat → Int32) × (Nat → Nat → Int32)) (hf : fX8_lookAt N I0 M0 x1 = some R) : Met l yX8_lookAt wsX8_lookAt ({ frames := 0, cells := 0, slots := 0, locals := 0 }) (va_Pc [.ref (a0 0), .int x1] (wb_preD D [(cB, .byte), (cI, .int), (cZ, .boolean)] (wWX8 cB cI cZ a0 I0 M0) sz)) (va_Qv (fun _ : Unit => True) (fun _ t => wb_post D [(cB, .byte), (cI, .int), (cZ, .boolean)] (va_A (wWX8 cB cI cZ a0 I0 M0) sz) (wWX8 cB cI cZ a0 R.1 R.2) t) (va_A (wWX8 cB cI cZ a0 I0 M0) sz)) 0 0 (va_A (wWX8 cB cI cZ a0 I0 M0) sz) := by
  refine Met.ofW (cc := cX8_lookAt) (maxL := 2) (ret := none) pn_X8 rfl ?_
  intro p e s m args below meth c s₁ B hml hv
  obtain ⟨rfl, hsz, hP, hK, hD0⟩ := hv
  have hx := B.exec
  have hb := B.bytes
  have hr := B.returns
  have hts := atoms_spec (ws := wsX8_lookAt) B.pre
  have hown : s.vm.findClass RX8 = some m.cls := (findClass_of_methodNamed B.named :)
  have hlocks := B.notSynchronized
  have hinX8 : ∀ w ∈ u_ws RX8 TX8 8, w ∈ wsX8_lookAt := fun w h => List.mem_cons_of_mem _ (List.mem_append_right _ h)
  subst hsz
  have hD := hD0.self (sz := s.heap.size)
  generalize hAe : va_A (wWX8 cB cI cZ a0 I0 M0) s.heap.size = A at hD ⊢
  have hA : ∀ q : Nat, s.heap.size ≤ q → A q := fun q h => by rw [← hAe]; exact Or.inr h
  have hS : va_S A s.heap s.heap [] := va_S.rf
  have hl := lv_entry ([.ref (a0 0), .int x1]) (n := 2) (Nat.le_of_ble_eq_true rfl)
  rw [lg_entry_eq]
  generalize (lg_sl ([.ref (a0 0), .int x1]) ++ List.replicate (2 - (lg_sl ([.ref (a0 0), .int x1])).length) Slot.unset).toArray = ls at hl ⊢
  have hl : lv_has ls 2 [(0, .ref (a0 0)), (1, .int x1)] := hl
  unfold fX8_lookAt at hf
  obtain ⟨H, hHe⟩ : ∃ H : Heap, H = s.heap := ⟨_, rfl⟩
  obtain ⟨locs, hle⟩ : ∃ locs : List Loc, locs = [] := ⟨_, rfl⟩
  refine wb_start (H := H) (locs := locs) hHe hle ?_
  rw [← hHe] at hP
  have hS : va_S A s.heap H locs := by rw [hHe, hle]; exact va_S.rf
  have J49 : ∀ (I0_j49 : Nat → Int32) (M0_j49 : Nat → Nat → Int32) (H : Heap) (locs : List Loc), va_P D vwCl (wWX8 cB cI cZ a0 I0_j49 M0_j49) H → va_D A (wWX8 cB cI cZ a0 I0_j49 M0_j49) → va_S A s.heap H locs → ∀ (ls : Array Slot), lv_has ls 2 [(0, .ref (a0 0))] → fX8_lookAt_J49 N x1 I0_j49 M0_j49 = some R → W p l e (headSpec wsX8_lookAt { frames := 0, cells := 0, slots := 0, locals := 0 }).room s m [.ref (a0 0), .int x1].toArray below meth c H locs 0 0 (MQ below (va_Qv (fun _ : Unit => True) (fun _ t => wb_post D [(cB, .byte), (cI, .int), (cZ, .boolean)] A (wWX8 cB cI cZ a0 R.1 R.2) t) A) [.ref (a0 0), .int x1].toArray s 0 0 A) (F0 m 49 ls []) := by
    intro I0_j49 M0_j49 H locs hP hD hS ls hl hf
    unfold fX8_lookAt_J49 at hf
    refine lv_aload_n hx hb dX8_lookAt_49 rfl (lv_at hl 0 rfl) ?_
    refine lv_dup hx hb dX8_lookAt_50 rfl ?_
    refine va_get (D := D) (ci := 8) (v := .int (I0_j49 5)) (C := RX8) (T := TX8) (N := 8) hx hb hts hinX8 hown hK hP 0 rfl rfl 5 (by decide) (hts (.fieldLink RX8 34 "WheelBook$Search" "many" "I") (List.mem_of_getElem? (i := 2) rfl)) (fun _ h9 => h9) rfl dX8_lookAt_51 ?_
    refine lv_iconst (v := (1 : Int32)) hx hb dX8_lookAt_54 (by decide) ?_
    refine lv_iadd hx hb dX8_lookAt_55 ?_
    refine va_put (D := D) (ci := 8) (v := .int ((I0_j49 5) + (1 : Int32))) (ty := .int) (C := RX8) (T := TX8) (N := 8) hx hb hts hinX8 tyX8 tyX8_ok nmX8 hown hK hP hD hS 0 rfl rfl 5 (by decide) (hts (.fieldLink RX8 34 "WheelBook$Search" "many" "I") (List.mem_of_getElem? (i := 2) rfl)) (fun _ h9 => h9) rfl (by decide +kernel) rfl rfl (Nat.le_of_ble_eq_true rfl) dX8_lookAt_56 (fun H locs hP hD hS => ?_)
    have hP : va_P D vwCl (wWX8 cB cI cZ a0 (upd I0_j49 5 ((I0_j49 5) + (1 : Int32))) M0_j49) H := hP
    have hD : va_D A (wWX8 cB cI cZ a0 (upd I0_j49 5 ((I0_j49 5) + (1 : Int32))) M0_j49) := hD
    obtain ⟨I0_1, eI0_1, hf⟩ := wb_v hf
    rw [← eI0_1] at hP hD
    refine lv_aload_n hx hb dX8_lookAt_59 rfl (lv_at hl 0 rfl) ?_
    refine lv_aload_n hx hb dX8_lookAt_60 rfl (lv_at hl 0 rfl) ?_
    refine va_get (D := D) (ci := 8) (v := .int (I0_1 3)) (C := RX8) (T := TX8) (N := 8) hx hb hts hinX8 hown hK hP 0 rfl rfl 3 (by decide) (hts (.fieldLink RX8 26 "WheelBook$Search" "next" "I") (List.mem_of_getElem? (i := 4) rfl)) (fun _ h9 => h9) rfl dX8_lookAt_61 ?_
    refine va_put (D := D) (ci := 8) (v := .int (I0_1 3)) (ty := .int) (C := RX8) (T := TX8) (N := 8) hx hb hts hinX8 tyX8 tyX8_ok nmX8 hown hK hP hD hS 0 rfl rfl 6 (by decide) (hts (.fieldLink RX8 37 "WheelBook$Search" "latest" "I") (List.mem_of_getElem? (i := 5) rfl)) (fun _ h9 => h9) rfl (by decide +kernel) rfl rfl (Nat.le_of_ble_eq_true rfl) dX8_lookAt_64 (fun H locs hP hD hS => ?_)
    have hP : va_P D vwCl (wWX8 cB cI cZ a0 (upd I0_1 6 (I0_1 3)) M0_j49) H := hP
    have hD : va_D A (wWX8 cB cI cZ a0 (upd I0_1 6 (I0_1 3)) M0_j49) := hD
    obtain ⟨I0_2, eI0_2, hf⟩ := wb_v hf
    rw [← eI0_2] at hP hD
    exact W.vret hx hb hr (fun t ht hW => by rw [← Option.some.inj hf]; exact ⟨⟨(), rfl, trivial, by rw [ht]; exact hP, va_K.moved hW.alike hK, hD⟩, hS.F ht⟩) hS.2.2 dX8_lookAt_67
  have J27 : ∀ (I0_j27 : Nat → Int32) (M0_j27 : Nat → Nat → Int32) (H : Heap) (locs : List Loc), va_P D vwCl (wWX8 cB cI cZ a0 I0_j27 M0_j27) H → va_D A (wWX8 cB cI cZ a0 I0_j27 M0_j27) → va_S A s.heap H locs → ∀ (ls : Array Slot), lv_has ls 2 [(0, .ref (a0 0))] → fX8_lookAt_J27 N x1 I0_j27 M0_j27 = some R → W p l e (headSpec wsX8_lookAt { frames := 0, cells := 0, slots := 0, locals := 0 }).room s m [.ref (a0 0), .int x1].toArray below meth c H locs 0 0 (MQ below (va_Qv (fun _ : Unit => True) (fun _ t => wb_post D [(cB, .byte), (cI, .int), (cZ, .boolean)] A (wWX8 cB cI cZ a0 R.1 R.2) t) A) [.ref (a0 0), .int x1].toArray s 0 0 A) (F0 m 27 ls []) := by
    intro I0_j27 M0_j27 H locs hP hD hS ls hl hf
    unfold fX8_lookAt_J27 at hf
    refine lv_aload_n hx hb dX8_lookAt_27 rfl (lv_at hl 0 rfl) ?_
    refine va_get (D := D) (ci := 8) (v := .int (I0_j27 5)) (C := RX8) (T := TX8) (N := 8) hx hb hts hinX8 hown hK hP 0 rfl rfl 5 (by decide) (hts (.fieldLink RX8 34 "WheelBook$Search" "many" "I") (List.mem_of_getElem? (i := 2) rfl)) (fun _ h9 => h9) rfl dX8_lookAt_28 ?_
    refine lv_bipush (v := (20 : Int32)) hx hb dX8_lookAt_31 (by decide) ?_
    refine lv_icmp_ge (tgt := 49) hx hb dX8_lookAt_33 (by decide) (fun hc => ?_) (fun hc => ?_)
    · replace hf := wb_t hc hf
      exact J49 I0_j27 M0_j27 H locs hP hD hS ls (lv_sub hl [0] rfl) hf
    · replace hf := wb_f hc hf
      refine lv_aload_n hx hb dX8_lookAt_36 rfl (lv_at hl 0 rfl) ?_
      refine va_get (D := D) (ci := 8) (v := .ref (a0 1)) (C := RX8) (T := TX8) (N := 8) hx hb hts hinX8 hown hK hP 0 rfl rfl 7 (by decide) (hts (.fieldLink RX8 11 "WheelBook$Search" "days" "[I") (List.mem_of_getElem? (i := 3) rfl)) (fun _ h9 => h9) rfl dX8_lookAt_37 ?_
      refine lv_aload_n hx hb dX8_lookAt_40 rfl (lv_at hl 0 rfl) ?_
      refine va_get (D := D) (ci := 8) (v := .int (I0_j27 5)) (C := RX8) (T := TX8) (N := 8) hx hb hts hinX8 hown hK hP 0 rfl rfl 5 (by decide) (hts (.fieldLink RX8 34 "WheelBook$Search" "many" "I") (List.mem_of_getElem? (i := 2) rfl)) (fun _ h9 => h9) rfl dX8_lookAt_41 ?_
      refine lv_aload_n hx hb dX8_lookAt_44 rfl (lv_at hl 0 rfl) ?_
      refine va_get (D := D) (ci := 8) (v := .int (I0_j27 3)) (C := RX8) (T := TX8) (N := 8) hx hb hts hinX8 hown hK hP 0 rfl rfl 3 (by decide) (hts (.fieldLink RX8 26 "WheelBook$Search" "next" "I") (List.mem_of_getElem? (i := 4) rfl)) (fun _ h9 => h9) rfl dX8_lookAt_45 ?_
      obtain ⟨hin, hf⟩ := wb_n hf
      refine va_iast hx hb hK hP hD hS 1 1 rfl rfl hin dX8_lookAt_48 (fun H locs hP hD hS => ?_)
      have hP : va_P D vwCl (wWX8 cB cI cZ a0 I0_j27 (wb_um M0_j27 0 ((I0_j27 5)).toNatClampNeg (I0_j27 3))) H := hP
      have hD : va_D A (wWX8 cB cI cZ a0 I0_j27 (wb_um M0_j27 0 ((I0_j27 5)).toNatClampNeg (I0_j27 3))) := hD
      obtain ⟨M0_3, eM0_3, hf⟩ := wb_v hf
      rw [← eM0_3] at hP hD
      exact J49 I0_j27 M0_3 H locs hP hD hS ls (lv_sub hl [0] rfl) hf
  refine lv_iload_n hx hb dX8_lookAt_0 rfl (lv_at hl 1 rfl) ?_
  refine lv_aload_n hx hb dX8_lookAt_1 rfl (lv_at hl 0 rfl) ?_
  refine va_get (D := D) (ci := 8) (v := .int (I0 4)) (C := RX8) (T := TX8) (N := 8) hx hb hts hinX8 hown hK hP 0 rfl rfl 4 (by decide) (hts (.fieldLink RX8 31 "WheelBook$Search" "least" "I") (List.mem_of_getElem? (i := 1) rfl)) (fun _ h9 => h9) rfl dX8_lookAt_2 ?_
  refine lv_icmp_le (tgt := 9) hx hb dX8_lookAt_5 (by decide) (fun hc => ?_) (fun hc => ?_)
  · replace hf := wb_t hc hf
    refine lv_iload_n hx hb dX8_lookAt_9 rfl (lv_at hl 1 rfl) ?_
    refine lv_aload_n hx hb dX8_lookAt_10 rfl (lv_at hl 0 rfl) ?_
    refine va_get (D := D) (ci := 8) (v := .int (I0 4)) (C := RX8) (T := TX8) (N := 8) hx hb hts hinX8 hown hK hP 0 rfl rfl 4 (by decide) (hts (.fieldLink RX8 31 "WheelBook$Search" "least" "I") (List.mem_of_getElem? (i := 1) rfl)) (fun _ h9 => h9) rfl dX8_lookAt_11 ?_
    refine lv_icmp_ge (tgt := 27) hx hb dX8_lookAt_14 (by decide) (fun hc => ?_) (fun hc => ?_)
    · replace hf := wb_t hc hf
      exact J27 I0 M0 H locs hP hD hS ls (lv_sub hl [0] rfl) hf
    · replace hf := wb_f hc hf
      refine lv_aload_n hx hb dX8_lookAt_17 rfl (lv_at hl 0 rfl) ?_
      refine lv_iload_n hx hb dX8_lookAt_18 rfl (lv_at hl 1 rfl) ?_
      refine va_put (D := D) (ci := 8) (v := .int x1) (ty := .int) (C := RX8) (T := TX8) (N := 8) hx hb hts hinX8 tyX8 tyX8_ok nmX8 hown hK hP hD hS 0 rfl rfl 4 (by decide) (hts (.fieldLink RX8 31 "WheelBook$Search" "least" "I") (List.mem_of_getElem? (i := 1) rfl)) (fun _ h9 => h9) rfl (by decide +kernel) rfl rfl (Nat.le_of_ble_eq_true rfl) dX8_lookAt_19 (fun H locs hP hD hS => ?_)
      have hP : va_P D vwCl (wWX8 cB cI cZ a0 (upd I0 4 x1) M0) H := hP
      have hD : va_D A (wWX8 cB cI cZ a0 (upd I0 4 x1) M0) := hD
      obtain ⟨I0_4, eI0_4, hf⟩ := wb_v hf
      rw [← eI0_4] at hP hD
      refine lv_aload_n hx hb dX8_lookAt_22 rfl (lv_at hl 0 rfl) ?_
      refine lv_iconst (v := (0 : Int32)) hx hb dX8_lookAt_23 (by decide) ?_
      refine va_put (D := D) (ci := 8) (v := .int (0 : Int32)) (ty := .int) (C := RX8) (T := TX8) (N := 8) hx hb hts hinX8 tyX8 tyX8_ok nmX8 hown hK hP hD hS 0 rfl rfl 5 (by decide) (hts (.fieldLink RX8 34 "WheelBook$Search" "many" "I") (List.mem_of_getElem? (i := 2) rfl)) (fun _ h9 => h9) rfl (by decide +kernel) rfl rfl (Nat.le_of_ble_eq_true rfl) dX8_lookAt_24 (fun H locs hP hD hS => ?_)
      have hP : va_P D vwCl (wWX8 cB cI cZ a0 (upd I0_4 5 (0 : Int32)) M0) H := hP
      have hD : va_D A (wWX8 cB cI cZ a0 (upd I0_4 5 (0 : Int32)) M0) := hD
      obtain ⟨I0_5, eI0_5, hf⟩ := wb_v hf
      rw [← eI0_5] at hP hD
      exact J27 I0_5 M0 H locs hP hD hS ls (lv_sub hl [0] rfl) hf
  · replace hf := wb_f hc hf
    exact W.vret hx hb hr (fun t ht hW => by rw [← Option.some.inj hf]; exact ⟨⟨(), rfl, trivial, by rw [ht]; exact hP, va_K.moved hW.alike hK, hD⟩, hS.F ht⟩) hS.2.2 dX8_lookAt_8

set_option maxHeartbeats 4000000 in
set_option maxRecDepth 100000 in
theorem cn_X8_goOn (l : Launch) (D : va_G) (cB cI cZ : ClassId) (N : Nat) (a0 : Nat → Nat) (I0 : Nat → Int32) (M0 : Nat → Nat → Int32) (a1 : Nat → Nat) (I1 : Nat → Int32) (M1 : Nat → Nat → Int32) (a2 : Nat → Nat) (I2 : Nat → Int32) (M2 : Nat → Nat → Int32) (x3 : Int32) (sz : Nat) (R : Int32 × (Nat → Int32) × (Nat → Nat → Int32)) (hf : fX8_goOn N I0 M0 I1 M1 I2 M2 x3 = some R) : Met l yX8_goOn wsX8_goOn ({ frames := 5, cells := 0, slots := 0, locals := 144 }) (va_Pc [.ref (a0 0), .ref (a1 0), .ref (a2 0), .int x3] (wb_preD D [(cB, .byte), (cI, .int), (cZ, .boolean)] ((wWX8 cB cI cZ a0 I0 M0) ++ ((wWX5 cB cI cZ a1 I1 M1) ++ (wWX1 cB cI cZ a2 I2 M2))) sz)) (va_Qi (fun r (_ : Unit) => r = R.1) (fun _ t => wb_post D [(cB, .byte), (cI, .int), (cZ, .boolean)] (va_A ((wWX8 cB cI cZ a0 I0 M0) ++ ((wWX5 cB cI cZ a1 I1 M1) ++ (wWX1 cB cI cZ a2 I2 M2))) sz) ((wWX8 cB cI cZ a0 R.2.1 R.2.2) ++ ((wWX5 cB cI cZ a1 I1 M1) ++ (wWX1 cB cI cZ a2 I2 M2))) t) (va_A ((wWX8 cB cI cZ a0 I0 M0) ++ ((wWX5 cB cI cZ a1 I1 M1) ++ (wWX1 cB cI cZ a2 I2 M2))) sz)) 0 0 (va_A ((wWX8 cB cI cZ a0 I0 M0) ++ ((wWX5 cB cI cZ a1 I1 M1) ++ (wWX1 cB cI cZ a2 I2 M2))) sz) := by
  refine Met.ofW (cc := cX8_goOn) (maxL := 5) (ret := (some .int)) pn_X8 rfl ?_
  intro p e s m args below meth c s₁ B hml hv
  obtain ⟨rfl, hsz, hP, hK, hD0⟩ := hv
  have hx := B.exec
  have hb := B.bytes
  have hr := B.returns
  have hts := atoms_spec (ws := wsX8_goOn) B.pre
  have hown : s.vm.findClass RX8 = some m.cls := (findClass_of_methodNamed B.named :)
  have hlocks := B.notSynchronized
  have hinX8 : ∀ w ∈ u_ws RX8 TX8 8, w ∈ wsX8_goOn := fun w h => List.mem_cons_of_mem _ (List.mem_append_left _ (List.mem_append_left _ (List.mem_append_left _ (List.mem_append_right _ h))))
  subst hsz
  have hD := hD0.self (sz := s.heap.size)
  generalize hAe : va_A ((wWX8 cB cI cZ a0 I0 M0) ++ ((wWX5 cB cI cZ a1 I1 M1) ++ (wWX1 cB cI cZ a2 I2 M2))) s.heap.size = A at hD ⊢
  have hA : ∀ q : Nat, s.heap.size ≤ q → A q := fun q h => by rw [← hAe]; exact Or.inr h
  have hS : va_S A s.heap s.heap [] := va_S.rf
  have hl := lv_entry ([.ref (a0 0), .ref (a1 0), .ref (a2 0), .int x3]) (n := 5) (Nat.le_of_ble_eq_true rfl)
  rw [lg_entry_eq]
  generalize (lg_sl ([.ref (a0 0), .ref (a1 0), .ref (a2 0), .int x3]) ++ List.replicate (5 - (lg_sl ([.ref (a0 0), .ref (a1 0), .ref (a2 0), .int x3])).length) Slot.unset).toArray = ls at hl ⊢
  have hl : lv_has ls 5 [(0, .ref (a0 0)), (1, .ref (a1 0)), (2, .ref (a2 0)), (3, .int x3)] := hl
  unfold fX8_goOn at hf
  obtain ⟨H, hHe⟩ : ∃ H : Heap, H = s.heap := ⟨_, rfl⟩
  obtain ⟨locs, hle⟩ : ∃ locs : List Loc, locs = [] := ⟨_, rfl⟩
  refine wb_start (H := H) (locs := locs) hHe hle ?_
  rw [← hHe] at hP
  have hS : va_S A s.heap H locs := by rw [hHe, hle]; exact va_S.rf
  refine lv_iconst (v := (0 : Int32)) hx hb dX8_goOn_0 (by decide) ?_
  refine lv_istore (lv' := [(4, .int (0 : Int32)), (0, .ref (a0 0)), (1, .ref (a1 0)), (2, .ref (a2 0)), (3, .int x3)]) hx hb dX8_goOn_1 hl (by decide) rfl (fun ls hl => ?_)
  have L3 : ∀ (fu3 : Nat) (I0_l3 : Nat → Int32) (M0_l3 : Nat → Nat → Int32) (y3_4 : Int32) (H : Heap) (locs : List Loc), va_P D vwCl ((wWX8 cB cI cZ a0 I0_l3 M0_l3) ++ ((wWX5 cB cI cZ a1 I1 M1) ++ (wWX1 cB cI cZ a2 I2 M2))) H → va_D A ((wWX8 cB cI cZ a0 I0_l3 M0_l3) ++ ((wWX5 cB cI cZ a1 I1 M1) ++ (wWX1 cB cI cZ a2 I2 M2))) → va_S A s.heap H locs → ∀ (ls : Array Slot), lv_has ls 5 [(0, .ref (a0 0)), (1, .ref (a1 0)), (2, .ref (a2 0)), (3, .int x3), (4, .int y3_4)] → fX8_goOn_L3 N I1 M1 I2 M2 x3 fu3 I0_l3 M0_l3 y3_4 = some R → W p l e (headSpec wsX8_goOn { frames := 5, cells := 0, slots := 0, locals := 144 }).room s m [.ref (a0 0), .ref (a1 0), .ref (a2 0), .int x3].toArray below meth c H locs 0 0 (MQ below (va_Qi (fun r (_ : Unit) => r = R.1) (fun _ t => wb_post D [(cB, .byte), (cI, .int), (cZ, .boolean)] A ((wWX8 cB cI cZ a0 R.2.1 R.2.2) ++ ((wWX5 cB cI cZ a1 I1 M1) ++ (wWX1 cB cI cZ a2 I2 M2))) t) A) [.ref (a0 0), .ref (a1 0), .ref (a2 0), .int x3].toArray s 0 0 A) (F0 m 3 ls []) := by
    intro fu3
    induction fu3 with
    | zero =>
      intro I0_l3 M0_l3 y3_4 H locs hP hD hS ls hl hf
      exact absurd hf (by rw [fX8_goOn_L3.eq_1]; exact fun h => nomatch h)
    | succ fu3 ih3 =>
      intro I0_l3 M0_l3 y3_4 H locs hP hD hS ls hl hf
      rw [fX8_goOn_L3.eq_2] at hf
      refine lv_iload hx hb dX8_goOn_3 (lv_at hl 4 rfl) ?_
      refine lv_iload_n hx hb dX8_goOn_5 rfl (lv_at hl 3 rfl) ?_
      refine lv_icmp_ge (tgt := 59) hx hb dX8_goOn_6 (by decide) (fun hc => ?_) (fun hc => ?_)
      · replace hf := wb_t hc hf
        refine lv_iload hx hb dX8_goOn_59 (lv_at hl 4 rfl) ?_
        exact W.iret (v := y3_4) hx hb hr (fun t ht hW => by rw [← Option.some.inj hf]; exact ⟨⟨y3_4, (), rfl, rfl, by rw [ht]; exact hP, va_K.moved hW.alike hK, hD⟩, hS.F ht⟩) hS.2.2 dX8_goOn_61
      · replace hf := wb_f hc hf
        refine lv_aload_n hx hb dX8_goOn_9 rfl (lv_at hl 0 rfl) ?_
        refine va_get (D := D) (ci := 8) (v := .int (I0_l3 3)) (C := RX8) (T := TX8) (N := 8) hx hb hts hinX8 hown hK hP 0 rfl rfl 3 (by decide) (hts (.fieldLink RX8 26 "WheelBook$Search" "next" "I") (List.mem_of_getElem? (i := 1) rfl)) (fun _ h9 => h9) rfl dX8_goOn_10 ?_
        refine lv_ldc (v := (1000000 : Int32)) hx hb hown (hts (.constant RX8 46 (1000000)) (List.mem_of_getElem? (i := 2) rfl)) dX8_goOn_13 ?_
        refine lv_icmp_gt (tgt := 59) hx hb dX8_goOn_15 (by decide) (fun hc => ?_) (fun hc => ?_)
        · replace hf := wb_t hc hf
          refine lv_iload hx hb dX8_goOn_59 (lv_at hl 4 rfl) ?_
          exact W.iret (v := y3_4) hx hb hr (fun t ht hW => by rw [← Option.some.inj hf]; exact ⟨⟨y3_4, (), rfl, rfl, by rw [ht]; exact hP, va_K.moved hW.alike hK, hD⟩, hS.F ht⟩) hS.2.2 dX8_goOn_61
        · replace hf := wb_f hc hf
          refine lv_aload_n hx hb dX8_goOn_18 rfl (lv_at hl 0 rfl) ?_
          refine lv_aload_n hx hb dX8_goOn_19 rfl (lv_at hl 1 rfl) ?_
          refine lv_aload_n hx hb dX8_goOn_20 rfl (lv_at hl 2 rfl) ?_
          refine lv_aload_n hx hb dX8_goOn_21 rfl (lv_at hl 0 rfl) ?_
          refine va_get (D := D) (ci := 8) (v := .int (I0_l3 1)) (C := RX8) (T := TX8) (N := 8) hx hb hts hinX8 hown hK hP 0 rfl rfl 1 (by decide) (hts (.fieldLink RX8 19 "WheelBook$Search" "number" "I") (List.mem_of_getElem? (i := 3) rfl)) (fun _ h9 => h9) rfl dX8_goOn_22 ?_
          refine lv_aload_n hx hb dX8_goOn_25 rfl (lv_at hl 0 rfl) ?_
          refine va_get (D := D) (ci := 8) (v := .int (I0_l3 2)) (C := RX8) (T := TX8) (N := 8) hx hb hts hinX8 hown hK hP 0 rfl rfl 2 (by decide) (hts (.fieldLink RX8 23 "WheelBook$Search" "set" "I") (List.mem_of_getElem? (i := 4) rfl)) (fun _ h9 => h9) rfl dX8_goOn_26 ?_
          refine lv_aload_n hx hb dX8_goOn_29 rfl (lv_at hl 0 rfl) ?_
          refine va_get (D := D) (ci := 8) (v := .int (I0_l3 3)) (C := RX8) (T := TX8) (N := 8) hx hb hts hinX8 hown hK hP 0 rfl rfl 3 (by decide) (hts (.fieldLink RX8 26 "WheelBook$Search" "next" "I") (List.mem_of_getElem? (i := 1) rfl)) (fun _ h9 => h9) rfl dX8_goOn_30 ?_
          refine lv_aload_n hx hb dX8_goOn_33 rfl (lv_at hl 0 rfl) ?_
          refine va_get (D := D) (ci := 8) (v := .int (I0_l3 4)) (C := RX8) (T := TX8) (N := 8) hx hb hts hinX8 hown hK hP 0 rfl rfl 4 (by decide) (hts (.fieldLink RX8 31 "WheelBook$Search" "least" "I") (List.mem_of_getElem? (i := 5) rfl)) (fun _ h9 => h9) rfl dX8_goOn_34 ?_
          obtain ⟨r1, hr1, hf⟩ := wb_b hf
          refine vp_callSi (W.runS (As := [.ref (a1 0), .ref (a2 0), .int (I0_l3 1), .int (I0_l3 2), .int (I0_l3 3), .int (I0_l3 4)]) (rest := [.ref (a0 0)]) ⟨hx, hb, hml, hown, hts⟩ (cn_X3_costOn l D cB cI cZ N a1 I1 M1 a2 I2 M2 (I0_l3 1) (I0_l3 2) (I0_l3 3) (I0_l3 4) r1 hr1) (va_cwS 6 hts gX8_goOn_X3_costOn rfl rfl rfl csX3_costOn ⟨Nat.le_of_ble_eq_true rfl, Nat.le_of_ble_eq_true rfl⟩) (wb_preS (hP.sub (ws' := ((wWX5 cB cI cZ a1 I1 M1) ++ (wWX1 cB cI cZ a2 I2 M2))) [2, 3, 4, 5, 6, 7, 8, 9, 10, 11, 12, 13] rfl) hK) rfl rfl hl.1 rfl (lv_room (Nat.le_of_ble_eq_true rfl)) dX8_goOn_37 ⟨Nat.le_of_ble_eq_true rfl, Nat.le_of_ble_eq_true rfl⟩) (fun r9 e9 => ?_)
          rw [e9]
          obtain ⟨r2, hr2, hf⟩ := wb_b hf
          have hPc := hP.sub (ws' := (wWX8 cB cI cZ a0 I0_l3 M0_l3)) [0, 1] rfl
          have hDc := hD.sub (ws' := (wWX8 cB cI cZ a0 I0_l3 M0_l3)) [0, 1] (by decide) rfl
          have hFc := va_free (wc := (wWX8 cB cI cZ a0 I0_l3 M0_l3)) hD hS hA [0, 1] rfl
          refine va_callv (va_runV (As := [.int r1]) (rest := []) ⟨hx, hb, hml, hown, hts⟩ (cn_X8_lookAt l D cB cI cZ N a0 I0_l3 M0_l3 r1 H.size r2 hr2) (cwV 1 hts gX8_goOn_X8_lookAt rfl rfl rfl cdX8_lookAt ⟨Nat.le_of_ble_eq_true rfl, Nat.le_of_ble_eq_true rfl⟩) (wb_preDV hPc hK hDc (wr_8 hK hP (q0 := 0) rfl)) rfl rfl hl.1 rfl (lv_room (Nat.le_of_ble_eq_true rfl)) dX8_goOn_40 ⟨Nat.le_of_ble_eq_true rfl, Nat.le_of_ble_eq_true rfl⟩) hS (fun q _ h => hFc q h) hFc (fun u t H locs ht hvm hw hB hz1 hk1 hS => ?_)
          obtain ⟨hP, hD⟩ := wj_s (wc := (wWX8 cB cI cZ a0 I0_l3 M0_l3)) (w1 := (wWX8 cB cI cZ a0 r2.1 r2.2)) (wf := ((wWX8 cB cI cZ a0 r2.1 r2.2) ++ ((wWX5 cB cI cZ a1 I1 M1) ++ (wWX1 cB cI cZ a2 I2 M2)))) 0 2 hP hD rfl rfl hk1 hFc ht hB
          refine lv_aload_n hx hb dX8_goOn_43 rfl (lv_at hl 0 rfl) ?_
          refine lv_dup hx hb dX8_goOn_44 rfl ?_
          refine va_get (D := D) (ci := 8) (v := .int (r2.1 3)) (C := RX8) (T := TX8) (N := 8) hx hb hts hinX8 hown hK hP 0 rfl rfl 3 (by decide) (hts (.fieldLink RX8 26 "WheelBook$Search" "next" "I") (List.mem_of_getElem? (i := 1) rfl)) (fun _ h9 => h9) rfl dX8_goOn_45 ?_
          refine lv_iconst (v := (1 : Int32)) hx hb dX8_goOn_48 (by decide) ?_
          refine lv_iadd hx hb dX8_goOn_49 ?_
          refine va_put (D := D) (ci := 8) (v := .int ((r2.1 3) + (1 : Int32))) (ty := .int) (C := RX8) (T := TX8) (N := 8) hx hb hts hinX8 tyX8 tyX8_ok nmX8 hown hK hP hD hS 0 rfl rfl 3 (by decide) (hts (.fieldLink RX8 26 "WheelBook$Search" "next" "I") (List.mem_of_getElem? (i := 1) rfl)) (fun _ h9 => h9) rfl (by decide +kernel) rfl rfl (Nat.le_of_ble_eq_true rfl) dX8_goOn_50 (fun H locs hP hD hS => ?_)
          have hP : va_P D vwCl ((wWX8 cB cI cZ a0 (upd r2.1 3 ((r2.1 3) + (1 : Int32))) r2.2) ++ ((wWX5 cB cI cZ a1 I1 M1) ++ (wWX1 cB cI cZ a2 I2 M2))) H := hP
          have hD : va_D A ((wWX8 cB cI cZ a0 (upd r2.1 3 ((r2.1 3) + (1 : Int32))) r2.2) ++ ((wWX5 cB cI cZ a1 I1 M1) ++ (wWX1 cB cI cZ a2 I2 M2))) := hD
          obtain ⟨I0_3, eI0_3, hf⟩ := wb_v hf
          rw [← eI0_3] at hP hD
          obtain ⟨v4, ev4, hf⟩ := wb_v hf
          refine lv_iinc (v := v4) (lv' := [(4, .int v4), (0, .ref (a0 0)), (1, .ref (a1 0)), (2, .ref (a2 0)), (3, .int x3)]) hx hb dX8_goOn_53 hl (k := 4) rfl (by rw [ev4]; rfl) (by decide) rfl (fun ls hl => ?_)
          refine lv_goto (tgt := 3) hx hb dX8_goOn_56 (by decide) ?_
          exact ih3 I0_3 r2.2 v4 H locs hP hD hS ls (lv_sub hl [1, 2, 3, 4, 0] rfl) hf
  exact L3 N I0 M0 (0 : Int32) H locs hP hD hS ls (lv_sub hl [1, 2, 3, 4, 0] rfl) hf

set_option maxHeartbeats 4000000 in
set_option maxRecDepth 100000 in
theorem cn_X8_howManyKept (l : Launch) (D : va_G) (cB cI cZ : ClassId) (N : Nat) (a0 : Nat → Nat) (I0 : Nat → Int32) (M0 : Nat → Nat → Int32) (R : Int32) (hf : fX8_howManyKept N I0 M0 = some R) : Met l yX8_howManyKept wsX8_howManyKept ({ frames := 1, cells := 0, slots := 0, locals := 40 }) (va_Pc [.ref (a0 0)] (wb_pre D [(cB, .byte), (cI, .int), (cZ, .boolean)] (wWX8 cB cI cZ a0 I0 M0))) (vp_Si (fun r => r = R)) 0 0 (fun _ => False) := by
  refine Met.ofW (cc := cX8_howManyKept) (maxL := 1) (ret := (some .int)) pn_X8 rfl ?_
  intro p e s m args below meth c s₁ B hml hv
  obtain ⟨rfl, hP, hK⟩ := hv
  have hx := B.exec
  have hb := B.bytes
  have hr := B.returns
  have hts := atoms_spec (ws := wsX8_howManyKept) B.pre
  have hown : s.vm.findClass RX8 = some m.cls := (findClass_of_methodNamed B.named :)
  have hlocks := B.notSynchronized
  have hinX8 : ∀ w ∈ u_ws RX8 TX8 8, w ∈ wsX8_howManyKept := fun w h => List.mem_cons_of_mem _ (List.mem_append_right _ h)
  have hl := lv_entry ([.ref (a0 0)]) (n := 1) (Nat.le_of_ble_eq_true rfl)
  rw [lg_entry_eq]
  generalize (lg_sl ([.ref (a0 0)]) ++ List.replicate (1 - (lg_sl ([.ref (a0 0)])).length) Slot.unset).toArray = ls at hl ⊢
  have hl : lv_has ls 1 [(0, .ref (a0 0))] := hl
  unfold fX8_howManyKept at hf
  refine lv_aload_n hx hb dX8_howManyKept_0 rfl (lv_at hl 0 rfl) ?_
  refine va_get (D := D) (ci := 8) (v := .int (I0 5)) (C := RX8) (T := TX8) (N := 8) hx hb hts hinX8 hown hK hP 0 rfl rfl 5 (by decide) (hts (.fieldLink RX8 34 "WheelBook$Search" "many" "I") (List.mem_of_getElem? (i := 1) rfl)) (fun _ h9 => h9) rfl dX8_howManyKept_1 ?_
  refine lv_bipush (v := (20 : Int32)) hx hb dX8_howManyKept_4 (by decide) ?_
  refine va_mmin hx hb (hml.trans hl.1.symm) hown (hts (.methodLink RX8 55 Lib.Math.min.name) (List.mem_of_getElem? (i := 2) rfl)) (hts (.static Lib.Math.min.name) (List.mem_of_getElem? (i := 3) rfl)) (hts (.initialized "java/lang/Math") (List.mem_of_getElem? (i := 4) rfl)) (hts (.code Lib.Math.min.name Lib.Math.min.code 2 (some .int)) (List.mem_of_getElem? (i := 5) rfl)) (Nat.le_of_ble_eq_true rfl) (Nat.le_of_ble_eq_true rfl) (Nat.zero_le _) (Nat.zero_le _) dX8_howManyKept_6 ?_
  exact W.iret (v := (if (20 : Int32) < (I0 5) then (20 : Int32) else (I0 5))) hx hb hr (fun t ht hW => ⟨_, rfl, Option.some.inj hf, ht⟩) (fun _ h => nomatch h) dX8_howManyKept_9

set_option maxHeartbeats 4000000 in
set_option maxRecDepth 100000 in
theorem cn_X8_keptDay (l : Launch) (D : va_G) (cB cI cZ : ClassId) (N : Nat) (a0 : Nat → Nat) (I0 : Nat → Int32) (M0 : Nat → Nat → Int32) (x1 : Int32) (R : Int32) (hf : fX8_keptDay N I0 M0 x1 = some R) : Met l yX8_keptDay wsX8_keptDay ({ frames := 0, cells := 0, slots := 0, locals := 0 }) (va_Pc [.ref (a0 0), .int x1] (wb_pre D [(cB, .byte), (cI, .int), (cZ, .boolean)] (wWX8 cB cI cZ a0 I0 M0))) (vp_Si (fun r => r = R)) 0 0 (fun _ => False) := by
  refine Met.ofW (cc := cX8_keptDay) (maxL := 2) (ret := (some .int)) pn_X8 rfl ?_
  intro p e s m args below meth c s₁ B hml hv
  obtain ⟨rfl, hP, hK⟩ := hv
  have hx := B.exec
  have hb := B.bytes
  have hr := B.returns
  have hts := atoms_spec (ws := wsX8_keptDay) B.pre
  have hown : s.vm.findClass RX8 = some m.cls := (findClass_of_methodNamed B.named :)
  have hlocks := B.notSynchronized
  have hinX8 : ∀ w ∈ u_ws RX8 TX8 8, w ∈ wsX8_keptDay := fun w h => List.mem_cons_of_mem _ (List.mem_append_right _ h)
  have hl := lv_entry ([.ref (a0 0), .int x1]) (n := 2) (Nat.le_of_ble_eq_true rfl)
  rw [lg_entry_eq]
  generalize (lg_sl ([.ref (a0 0), .int x1]) ++ List.replicate (2 - (lg_sl ([.ref (a0 0), .int x1])).length) Slot.unset).toArray = ls at hl ⊢
  have hl : lv_has ls 2 [(0, .ref (a0 0)), (1, .int x1)] := hl
  unfold fX8_keptDay at hf
  refine lv_iload_n hx hb dX8_keptDay_0 rfl (lv_at hl 1 rfl) ?_
  refine lv_if_lt (tgt := 19) hx hb dX8_keptDay_1 (by decide) (fun hc => ?_) (fun hc => ?_)
  · replace hf := wb_t hc hf
    refine lv_iconst (v := (-1 : Int32)) hx hb dX8_keptDay_19 (by decide) ?_
    exact W.iret (v := (-1 : Int32)) hx hb hr (fun t ht hW => ⟨_, rfl, Option.some.inj hf, ht⟩) (fun _ h => nomatch h) dX8_keptDay_20
  · replace hf := wb_f hc hf
    refine lv_iload_n hx hb dX8_keptDay_4 rfl (lv_at hl 1 rfl) ?_
    refine lv_bipush (v := (20 : Int32)) hx hb dX8_keptDay_5 (by decide) ?_
    refine lv_icmp_ge (tgt := 19) hx hb dX8_keptDay_7 (by decide) (fun hc => ?_) (fun hc => ?_)
    · replace hf := wb_t hc hf
      refine lv_iconst (v := (-1 : Int32)) hx hb dX8_keptDay_19 (by decide) ?_
      exact W.iret (v := (-1 : Int32)) hx hb hr (fun t ht hW => ⟨_, rfl, Option.some.inj hf, ht⟩) (fun _ h => nomatch h) dX8_keptDay_20
    · replace hf := wb_f hc hf
      refine lv_aload_n hx hb dX8_keptDay_10 rfl (lv_at hl 0 rfl) ?_
      refine va_get (D := D) (ci := 8) (v := .ref (a0 1)) (C := RX8) (T := TX8) (N := 8) hx hb hts hinX8 hown hK hP 0 rfl rfl 7 (by decide) (hts (.fieldLink RX8 11 "WheelBook$Search" "days" "[I") (List.mem_of_getElem? (i := 1) rfl)) (fun _ h9 => h9) rfl dX8_keptDay_11 ?_
      refine lv_iload_n hx hb dX8_keptDay_14 rfl (lv_at hl 1 rfl) ?_
      obtain ⟨hin, hf⟩ := wb_n hf
      refine va_iald hx hb hK hP 1 1 rfl rfl hin dX8_keptDay_15 ?_
      refine lv_goto (tgt := 20) hx hb dX8_keptDay_16 (by decide) ?_
      exact W.iret (v := (M0 0 (x1).toNatClampNeg)) hx hb hr (fun t ht hW => ⟨_, rfl, Option.some.inj hf, ht⟩) (fun _ h => nomatch h) dX8_keptDay_20

set_option maxHeartbeats 4000000 in
set_option maxRecDepth 100000 in
theorem cn_X9_hasRoom (l : Launch) (D : va_G) (cB cI cZ : ClassId) (N : Nat) (a0 : Nat → Nat) (I0 : Nat → Int32) (M0 : Nat → Nat → Int32) (R : Int32) (hf : fX9_hasRoom N I0 M0 = some R) : Met l yX9_hasRoom wsX9_hasRoom ({ frames := 0, cells := 0, slots := 0, locals := 0 }) (va_Pc [.ref (a0 0)] (wb_pre D [(cB, .byte), (cI, .int), (cZ, .boolean)] (wWX9 cB cI cZ a0 I0 M0))) (vp_Si (fun r => r = R)) 0 0 (fun _ => False) := by
  refine Met.ofW (cc := cX9_hasRoom) (maxL := 1) (ret := (some .boolean)) pn_X9 rfl ?_
  intro p e s m args below meth c s₁ B hml hv
  obtain ⟨rfl, hP, hK⟩ := hv
  have hx := B.exec
  have hb := B.bytes
  have hr := B.returns
  have hts := atoms_spec (ws := wsX9_hasRoom) B.pre
  have hown : s.vm.findClass RX9 = some m.cls := (findClass_of_methodNamed B.named :)
  have hlocks := B.notSynchronized
  have hinX9 : ∀ w ∈ u_ws RX9 TX9 10, w ∈ wsX9_hasRoom := fun w h => List.mem_cons_of_mem _ (List.mem_append_right _ h)
  have hl := lv_entry ([.ref (a0 0)]) (n := 1) (Nat.le_of_ble_eq_true rfl)
  rw [lg_entry_eq]
  generalize (lg_sl ([.ref (a0 0)]) ++ List.replicate (1 - (lg_sl ([.ref (a0 0)])).length) Slot.unset).toArray = ls at hl ⊢
  have hl : lv_has ls 1 [(0, .ref (a0 0))] := hl
  unfold fX9_hasRoom at hf
  refine lv_aload_n hx hb dX9_hasRoom_0 rfl (lv_at hl 0 rfl) ?_
  refine va_get (D := D) (ci := 9) (v := .int (I0 0)) (C := RX9) (T := TX9) (N := 10) hx hb hts hinX9 hown hK hP 0 rfl rfl 1 (by decide) (hts (.fieldLink RX9 19 "WheelBook$Text" "length" "I") (List.mem_of_getElem? (i := 1) rfl)) (fun _ h9 => h9) rfl dX9_hasRoom_1 ?_
  refine lv_sipush (v := (580 : Int32)) hx hb dX9_hasRoom_4 (by decide) ?_
  refine lv_icmp_gt (tgt := 14) hx hb dX9_hasRoom_7 (by decide) (fun hc => ?_) (fun hc => ?_)
  · replace hf := wb_t hc hf
    refine lv_iconst (v := (0 : Int32)) hx hb dX9_hasRoom_14 (by decide) ?_
    exact W.zret (v := (0 : Int32)) hx hb hr (by decide) (fun t ht hW => ⟨_, rfl, Option.some.inj hf, ht⟩) (fun _ h => nomatch h) dX9_hasRoom_15
  · replace hf := wb_f hc hf
    refine lv_iconst (v := (1 : Int32)) hx hb dX9_hasRoom_10 (by decide) ?_
    refine lv_goto (tgt := 15) hx hb dX9_hasRoom_11 (by decide) ?_
    exact W.zret (v := (1 : Int32)) hx hb hr (by decide) (fun t ht hW => ⟨_, rfl, Option.some.inj hf, ht⟩) (fun _ h => nomatch h) dX9_hasRoom_15

set_option maxHeartbeats 4000000 in
set_option maxRecDepth 100000 in
theorem cn_X9_put (l : Launch) (D : va_G) (cB cI cZ : ClassId) (N : Nat) (a0 : Nat → Nat) (I0 : Nat → Int32) (M0 : Nat → Nat → Int32) (x1 : Int32) (sz : Nat) (R : (Nat → Int32) × (Nat → Nat → Int32)) (hf : fX9_put N I0 M0 x1 = some R) : Met l yX9_put wsX9_put ({ frames := 0, cells := 0, slots := 0, locals := 0 }) (va_Pc [.ref (a0 0), .int x1] (wb_preD D [(cB, .byte), (cI, .int), (cZ, .boolean)] (wWX9 cB cI cZ a0 I0 M0) sz)) (va_Qv (fun _ : Unit => True) (fun _ t => wb_post D [(cB, .byte), (cI, .int), (cZ, .boolean)] (va_A (wWX9 cB cI cZ a0 I0 M0) sz) (wWX9 cB cI cZ a0 R.1 R.2) t) (va_A (wWX9 cB cI cZ a0 I0 M0) sz)) 0 0 (va_A (wWX9 cB cI cZ a0 I0 M0) sz) := by
  refine Met.ofW (cc := cX9_put) (maxL := 3) (ret := none) pn_X9 rfl ?_
  intro p e s m args below meth c s₁ B hml hv
  obtain ⟨rfl, hsz, hP, hK, hD0⟩ := hv
  have hx := B.exec
  have hb := B.bytes
  have hr := B.returns
  have hts := atoms_spec (ws := wsX9_put) B.pre
  have hown : s.vm.findClass RX9 = some m.cls := (findClass_of_methodNamed B.named :)
  have hlocks := B.notSynchronized
  have hinX9 : ∀ w ∈ u_ws RX9 TX9 10, w ∈ wsX9_put := fun w h => List.mem_cons_of_mem _ (List.mem_append_right _ h)
  subst hsz
  have hD := hD0.self (sz := s.heap.size)
  generalize hAe : va_A (wWX9 cB cI cZ a0 I0 M0) s.heap.size = A at hD ⊢
  have hA : ∀ q : Nat, s.heap.size ≤ q → A q := fun q h => by rw [← hAe]; exact Or.inr h
  have hS : va_S A s.heap s.heap [] := va_S.rf
  have hl := lv_entry ([.ref (a0 0), .int x1]) (n := 3) (Nat.le_of_ble_eq_true rfl)
  rw [lg_entry_eq]
  generalize (lg_sl ([.ref (a0 0), .int x1]) ++ List.replicate (3 - (lg_sl ([.ref (a0 0), .int x1])).length) Slot.unset).toArray = ls at hl ⊢
  have hl : lv_has ls 3 [(0, .ref (a0 0)), (1, .int x1)] := hl
  unfold fX9_put at hf
  obtain ⟨H, hHe⟩ : ∃ H : Heap, H = s.heap := ⟨_, rfl⟩
  obtain ⟨locs, hle⟩ : ∃ locs : List Loc, locs = [] := ⟨_, rfl⟩
  refine wb_start (H := H) (locs := locs) hHe hle ?_
  rw [← hHe] at hP
  have hS : va_S A s.heap H locs := by rw [hHe, hle]; exact va_S.rf
  refine lv_bipush (v := (24 : Int32)) hx hb dX9_put_0 (by decide) ?_
  refine lv_istore_n (lv' := [(2, .int (24 : Int32)), (0, .ref (a0 0)), (1, .int x1)]) hx hb dX9_put_2 rfl hl (by decide) rfl (fun ls hl => ?_)
  have L3 : ∀ (fu3 : Nat) (I0_l3 : Nat → Int32) (M0_l3 : Nat → Nat → Int32) (y3_2 : Int32) (H : Heap) (locs : List Loc), va_P D vwCl (wWX9 cB cI cZ a0 I0_l3 M0_l3) H → va_D A (wWX9 cB cI cZ a0 I0_l3 M0_l3) → va_S A s.heap H locs → ∀ (ls : Array Slot), lv_has ls 3 [(0, .ref (a0 0)), (1, .int x1), (2, .int y3_2)] → fX9_put_L3 N x1 fu3 I0_l3 M0_l3 y3_2 = some R → W p l e (headSpec wsX9_put { frames := 0, cells := 0, slots := 0, locals := 0 }).room s m [.ref (a0 0), .int x1].toArray below meth c H locs 0 0 (MQ below (va_Qv (fun _ : Unit => True) (fun _ t => wb_post D [(cB, .byte), (cI, .int), (cZ, .boolean)] A (wWX9 cB cI cZ a0 R.1 R.2) t) A) [.ref (a0 0), .int x1].toArray s 0 0 A) (F0 m 3 ls []) := by
    intro fu3
    induction fu3 with
    | zero =>
      intro I0_l3 M0_l3 y3_2 H locs hP hD hS ls hl hf
      exact absurd hf (by rw [fX9_put_L3.eq_1]; exact fun h => nomatch h)
    | succ fu3 ih3 =>
      intro I0_l3 M0_l3 y3_2 H locs hP hD hS ls hl hf
      rw [fX9_put_L3.eq_2] at hf
      refine lv_iload_n hx hb dX9_put_3 rfl (lv_at hl 2 rfl) ?_
      refine lv_if_lt (tgt := 46) hx hb dX9_put_4 (by decide) (fun hc => ?_) (fun hc => ?_)
      · replace hf := wb_t hc hf
        exact W.vret hx hb hr (fun t ht hW => by rw [← Option.some.inj hf]; exact ⟨⟨(), rfl, trivial, by rw [ht]; exact hP, va_K.moved hW.alike hK, hD⟩, hS.F ht⟩) hS.2.2 dX9_put_46
      · replace hf := wb_f hc hf
        refine lv_aload_n hx hb dX9_put_7 rfl (lv_at hl 0 rfl) ?_
        refine va_get (D := D) (ci := 9) (v := .int (I0_l3 0)) (C := RX9) (T := TX9) (N := 10) hx hb hts hinX9 hown hK hP 0 rfl rfl 1 (by decide) (hts (.fieldLink RX9 19 "WheelBook$Text" "length" "I") (List.mem_of_getElem? (i := 1) rfl)) (fun _ h9 => h9) rfl dX9_put_8 ?_
        refine lv_sipush (v := (600 : Int32)) hx hb dX9_put_11 (by decide) ?_
        refine lv_icmp_ge (tgt := 46) hx hb dX9_put_14 (by decide) (fun hc => ?_) (fun hc => ?_)
        · replace hf := wb_t hc hf
          exact W.vret hx hb hr (fun t ht hW => by rw [← Option.some.inj hf]; exact ⟨⟨(), rfl, trivial, by rw [ht]; exact hP, va_K.moved hW.alike hK, hD⟩, hS.F ht⟩) hS.2.2 dX9_put_46
        · replace hf := wb_f hc hf
          refine lv_aload_n hx hb dX9_put_17 rfl (lv_at hl 0 rfl) ?_
          refine va_get (D := D) (ci := 9) (v := .ref (a0 1)) (C := RX9) (T := TX9) (N := 10) hx hb hts hinX9 hown hK hP 0 rfl rfl 0 (by decide) (hts (.fieldLink RX9 11 "WheelBook$Text" "bytes" "[B") (List.mem_of_getElem? (i := 2) rfl)) (fun _ h9 => h9) rfl dX9_put_18 ?_
          refine lv_aload_n hx hb dX9_put_21 rfl (lv_at hl 0 rfl) ?_
          refine va_get (D := D) (ci := 9) (v := .int (I0_l3 0)) (C := RX9) (T := TX9) (N := 10) hx hb hts hinX9 hown hK hP 0 rfl rfl 1 (by decide) (hts (.fieldLink RX9 19 "WheelBook$Text" "length" "I") (List.mem_of_getElem? (i := 1) rfl)) (fun _ h9 => h9) rfl dX9_put_22 ?_
          refine lv_iload_n hx hb dX9_put_25 rfl (lv_at hl 1 rfl) ?_
          refine lv_iload_n hx hb dX9_put_26 rfl (lv_at hl 2 rfl) ?_
          refine lv_ishr hx hb dX9_put_27 ?_
          refine lv_i2b hx hb dX9_put_28 rfl ?_
          obtain ⟨hin, hf⟩ := wb_n hf
          refine va_bast hx hb hK hP hD hS 1 0 rfl rfl hin dX9_put_29 (fun H locs hP hD hS => ?_)
          have hP : va_P D vwCl (wWX9 cB cI cZ a0 I0_l3 (wb_um M0_l3 0 ((I0_l3 0)).toNatClampNeg (vp_nar .byte (x1 >>> (y3_2 &&& 31)).toInt8.toInt32))) H := hP
          have hD : va_D A (wWX9 cB cI cZ a0 I0_l3 (wb_um M0_l3 0 ((I0_l3 0)).toNatClampNeg (vp_nar .byte (x1 >>> (y3_2 &&& 31)).toInt8.toInt32))) := hD
          obtain ⟨M0_1, eM0_1, hf⟩ := wb_v hf
          rw [← eM0_1] at hP hD
          refine lv_aload_n hx hb dX9_put_30 rfl (lv_at hl 0 rfl) ?_
          refine lv_dup hx hb dX9_put_31 rfl ?_
          refine va_get (D := D) (ci := 9) (v := .int (I0_l3 0)) (C := RX9) (T := TX9) (N := 10) hx hb hts hinX9 hown hK hP 0 rfl rfl 1 (by decide) (hts (.fieldLink RX9 19 "WheelBook$Text" "length" "I") (List.mem_of_getElem? (i := 1) rfl)) (fun _ h9 => h9) rfl dX9_put_32 ?_
          refine lv_iconst (v := (1 : Int32)) hx hb dX9_put_35 (by decide) ?_
          refine lv_iadd hx hb dX9_put_36 ?_
          refine va_put (D := D) (ci := 9) (v := .int ((I0_l3 0) + (1 : Int32))) (ty := .int) (C := RX9) (T := TX9) (N := 10) hx hb hts hinX9 tyX9 tyX9_ok nmX9 hown hK hP hD hS 0 rfl rfl 1 (by decide) (hts (.fieldLink RX9 19 "WheelBook$Text" "length" "I") (List.mem_of_getElem? (i := 1) rfl)) (fun _ h9 => h9) rfl (by decide +kernel) rfl rfl (Nat.le_of_ble_eq_true rfl) dX9_put_37 (fun H locs hP hD hS => ?_)
          have hP : va_P D vwCl (wWX9 cB cI cZ a0 (upd I0_l3 0 ((I0_l3 0) + (1 : Int32))) M0_1) H := hP
          have hD : va_D A (wWX9 cB cI cZ a0 (upd I0_l3 0 ((I0_l3 0) + (1 : Int32))) M0_1) := hD
          obtain ⟨I0_2, eI0_2, hf⟩ := wb_v hf
          rw [← eI0_2] at hP hD
          obtain ⟨v3, ev3, hf⟩ := wb_v hf
          refine lv_iinc (v := v3) (lv' := [(2, .int v3), (0, .ref (a0 0)), (1, .int x1)]) hx hb dX9_put_40 hl (k := 2) rfl (by rw [ev3]; rfl) (by decide) rfl (fun ls hl => ?_)
          refine lv_goto (tgt := 3) hx hb dX9_put_43 (by decide) ?_
          exact ih3 I0_2 M0_1 v3 H locs hP hD hS ls (lv_sub hl [1, 2, 0] rfl) hf
  exact L3 N I0 M0 (24 : Int32) H locs hP hD hS ls (lv_sub hl [1, 2, 0] rfl) hf

set_option maxHeartbeats 4000000 in
set_option maxRecDepth 100000 in
theorem cn_X9_begin (l : Launch) (D : va_G) (cB cI cZ : ClassId) (N : Nat) (a0 : Nat → Nat) (I0 : Nat → Int32) (M0 : Nat → Nat → Int32) (x1 : Int32) (sz : Nat) (R : (Nat → Int32) × (Nat → Nat → Int32)) (hf : fX9_begin N I0 M0 x1 = some R) : Met l yX9_begin wsX9_begin ({ frames := 2, cells := 0, slots := 0, locals := 40 }) (va_Pc [.ref (a0 0), .int x1] (wb_preD D [(cB, .byte), (cI, .int), (cZ, .boolean)] (wWX9 cB cI cZ a0 I0 M0) sz)) (va_Qv (fun _ : Unit => True) (fun _ t => wb_post D [(cB, .byte), (cI, .int), (cZ, .boolean)] (va_A (wWX9 cB cI cZ a0 I0 M0) sz) (wWX9 cB cI cZ a0 R.1 R.2) t) (va_A (wWX9 cB cI cZ a0 I0 M0) sz)) 0 0 (va_A (wWX9 cB cI cZ a0 I0 M0) sz) := by
  refine Met.ofW (cc := cX9_begin) (maxL := 2) (ret := none) pn_X9 rfl ?_
  intro p e s m args below meth c s₁ B hml hv
  obtain ⟨rfl, hsz, hP, hK, hD0⟩ := hv
  have hx := B.exec
  have hb := B.bytes
  have hr := B.returns
  have hts := atoms_spec (ws := wsX9_begin) B.pre
  have hown : s.vm.findClass RX9 = some m.cls := (findClass_of_methodNamed B.named :)
  have hlocks := B.notSynchronized
  have hinX9 : ∀ w ∈ u_ws RX9 TX9 10, w ∈ wsX9_begin := fun w h => List.mem_cons_of_mem _ (List.mem_append_right _ h)
  subst hsz
  have hD := hD0.self (sz := s.heap.size)
  generalize hAe : va_A (wWX9 cB cI cZ a0 I0 M0) s.heap.size = A at hD ⊢
  have hA : ∀ q : Nat, s.heap.size ≤ q → A q := fun q h => by rw [← hAe]; exact Or.inr h
  have hS : va_S A s.heap s.heap [] := va_S.rf
  have hl := lv_entry ([.ref (a0 0), .int x1]) (n := 2) (Nat.le_of_ble_eq_true rfl)
  rw [lg_entry_eq]
  generalize (lg_sl ([.ref (a0 0), .int x1]) ++ List.replicate (2 - (lg_sl ([.ref (a0 0), .int x1])).length) Slot.unset).toArray = ls at hl ⊢
  have hl : lv_has ls 2 [(0, .ref (a0 0)), (1, .int x1)] := hl
  unfold fX9_begin at hf
  obtain ⟨H, hHe⟩ : ∃ H : Heap, H = s.heap := ⟨_, rfl⟩
  obtain ⟨locs, hle⟩ : ∃ locs : List Loc, locs = [] := ⟨_, rfl⟩
  refine wb_start (H := H) (locs := locs) hHe hle ?_
  rw [← hHe] at hP
  have hS : va_S A s.heap H locs := by rw [hHe, hle]; exact va_S.rf
  refine lv_aload_n hx hb dX9_begin_0 rfl (lv_at hl 0 rfl) ?_
  refine lv_iload_n hx hb dX9_begin_1 rfl (lv_at hl 1 rfl) ?_
  refine lv_aload_n hx hb dX9_begin_2 rfl (lv_at hl 0 rfl) ?_
  refine va_get (D := D) (ci := 9) (v := .int (I0 0)) (C := RX9) (T := TX9) (N := 10) hx hb hts hinX9 hown hK hP 0 rfl rfl 1 (by decide) (hts (.fieldLink RX9 19 "WheelBook$Text" "length" "I") (List.mem_of_getElem? (i := 1) rfl)) (fun _ h9 => h9) rfl dX9_begin_3 ?_
  refine va_mmin hx hb (hml.trans hl.1.symm) hown (hts (.methodLink RX9 22 Lib.Math.min.name) (List.mem_of_getElem? (i := 2) rfl)) (hts (.static Lib.Math.min.name) (List.mem_of_getElem? (i := 3) rfl)) (hts (.initialized "java/lang/Math") (List.mem_of_getElem? (i := 4) rfl)) (hts (.code Lib.Math.min.name Lib.Math.min.code 2 (some .int)) (List.mem_of_getElem? (i := 5) rfl)) (Nat.le_of_ble_eq_true rfl) (Nat.le_of_ble_eq_true rfl) (Nat.zero_le _) (Nat.zero_le _) dX9_begin_6 ?_
  refine va_put (D := D) (ci := 9) (v := .int (if (I0 0) < x1 then (I0 0) else x1)) (ty := .int) (C := RX9) (T := TX9) (N := 10) hx hb hts hinX9 tyX9 tyX9_ok nmX9 hown hK hP hD hS 0 rfl rfl 2 (by decide) (hts (.fieldLink RX9 28 "WheelBook$Text" "end" "I") (List.mem_of_getElem? (i := 6) rfl)) (fun _ h9 => h9) rfl (by decide +kernel) rfl rfl (Nat.le_of_ble_eq_true rfl) dX9_begin_9 (fun H locs hP hD hS => ?_)
  have hP : va_P D vwCl (wWX9 cB cI cZ a0 (upd I0 1 (if (I0 0) < x1 then (I0 0) else x1)) M0) H := hP
  have hD : va_D A (wWX9 cB cI cZ a0 (upd I0 1 (if (I0 0) < x1 then (I0 0) else x1)) M0) := hD
  obtain ⟨I0_1, eI0_1, hf⟩ := wb_v hf
  rw [← eI0_1] at hP hD
  refine lv_aload_n hx hb dX9_begin_12 rfl (lv_at hl 0 rfl) ?_
  refine lv_iconst (v := (0 : Int32)) hx hb dX9_begin_13 (by decide) ?_
  refine va_put (D := D) (ci := 9) (v := .int (0 : Int32)) (ty := .int) (C := RX9) (T := TX9) (N := 10) hx hb hts hinX9 tyX9 tyX9_ok nmX9 hown hK hP hD hS 0 rfl rfl 1 (by decide) (hts (.fieldLink RX9 19 "WheelBook$Text" "length" "I") (List.mem_of_getElem? (i := 1) rfl)) (fun _ h9 => h9) rfl (by decide +kernel) rfl rfl (Nat.le_of_ble_eq_true rfl) dX9_begin_14 (fun H locs hP hD hS => ?_)
  have hP : va_P D vwCl (wWX9 cB cI cZ a0 (upd I0_1 0 (0 : Int32)) M0) H := hP
  have hD : va_D A (wWX9 cB cI cZ a0 (upd I0_1 0 (0 : Int32)) M0) := hD
  obtain ⟨I0_2, eI0_2, hf⟩ := wb_v hf
  rw [← eI0_2] at hP hD
  refine lv_aload_n hx hb dX9_begin_17 rfl (lv_at hl 0 rfl) ?_
  refine lv_iconst (v := (0 : Int32)) hx hb dX9_begin_18 (by decide) ?_
  refine va_put (D := D) (ci := 9) (v := .int (0 : Int32)) (ty := .int) (C := RX9) (T := TX9) (N := 10) hx hb hts hinX9 tyX9 tyX9_ok nmX9 hown hK hP hD hS 0 rfl rfl 4 (by decide) (hts (.fieldLink RX9 31 "WheelBook$Text" "at" "I") (List.mem_of_getElem? (i := 7) rfl)) (fun _ h9 => h9) rfl (by decide +kernel) rfl rfl (Nat.le_of_ble_eq_true rfl) dX9_begin_19 (fun H locs hP hD hS => ?_)
  have hP : va_P D vwCl (wWX9 cB cI cZ a0 (upd I0_2 3 (0 : Int32)) M0) H := hP
  have hD : va_D A (wWX9 cB cI cZ a0 (upd I0_2 3 (0 : Int32)) M0) := hD
  obtain ⟨I0_3, eI0_3, hf⟩ := wb_v hf
  rw [← eI0_3] at hP hD
  refine lv_aload_n hx hb dX9_begin_22 rfl (lv_at hl 0 rfl) ?_
  refine lv_iconst (v := (0 : Int32)) hx hb dX9_begin_23 (by decide) ?_
  refine va_put (D := D) (ci := 9) (v := .int (0 : Int32)) (ty := .int) (C := RX9) (T := TX9) (N := 10) hx hb hts hinX9 tyX9 tyX9_ok nmX9 hown hK hP hD hS 0 rfl rfl 8 (by decide) (hts (.fieldLink RX9 34 "WheelBook$Text" "faultKind" "I") (List.mem_of_getElem? (i := 8) rfl)) (fun _ h9 => h9) rfl (by decide +kernel) rfl rfl (Nat.le_of_ble_eq_true rfl) dX9_begin_24 (fun H locs hP hD hS => ?_)
  have hP : va_P D vwCl (wWX9 cB cI cZ a0 (upd I0_3 7 (0 : Int32)) M0) H := hP
  have hD : va_D A (wWX9 cB cI cZ a0 (upd I0_3 7 (0 : Int32)) M0) := hD
  obtain ⟨I0_4, eI0_4, hf⟩ := wb_v hf
  rw [← eI0_4] at hP hD
  refine lv_aload_n hx hb dX9_begin_27 rfl (lv_at hl 0 rfl) ?_
  refine lv_iconst (v := (-1 : Int32)) hx hb dX9_begin_28 (by decide) ?_
  refine va_put (D := D) (ci := 9) (v := .int (-1 : Int32)) (ty := .int) (C := RX9) (T := TX9) (N := 10) hx hb hts hinX9 tyX9 tyX9_ok nmX9 hown hK hP hD hS 0 rfl rfl 9 (by decide) (hts (.fieldLink RX9 15 "WheelBook$Text" "faultPlace" "I") (List.mem_of_getElem? (i := 9) rfl)) (fun _ h9 => h9) rfl (by decide +kernel) rfl rfl (Nat.le_of_ble_eq_true rfl) dX9_begin_29 (fun H locs hP hD hS => ?_)
  have hP : va_P D vwCl (wWX9 cB cI cZ a0 (upd I0_4 8 (-1 : Int32)) M0) H := hP
  have hD : va_D A (wWX9 cB cI cZ a0 (upd I0_4 8 (-1 : Int32)) M0) := hD
  obtain ⟨I0_5, eI0_5, hf⟩ := wb_v hf
  rw [← eI0_5] at hP hD
  refine lv_aload_n hx hb dX9_begin_32 rfl (lv_at hl 0 rfl) ?_
  obtain ⟨r6, hr6, hf⟩ := wb_b hf
  have hPc := hP
  have hDc := hD
  have hFc := wj_F hDc hS hA
  refine va_callv (va_runV (As := []) (rest := []) ⟨hx, hb, hml, hown, hts⟩ (cn_X9_step l D cB cI cZ N a0 I0_5 M0 H.size r6 hr6) (cwV 0 hts gX9_begin_X9_step rfl rfl rfl cdX9_step ⟨Nat.le_of_ble_eq_true rfl, Nat.le_of_ble_eq_true rfl⟩) (wb_preDV hPc hK hDc (wr_9 hK hP (q0 := 0) rfl)) rfl rfl hl.1 rfl (lv_room (Nat.le_of_ble_eq_true rfl)) dX9_begin_33 ⟨Nat.le_of_ble_eq_true rfl, Nat.le_of_ble_eq_true rfl⟩) hS (fun q _ h => hFc q h) hFc (fun u t H locs ht hvm hw hB hz1 hk1 hS => ?_)
  obtain ⟨hP, hD⟩ := wj_0 hFc ht hB
  exact W.vret hx hb hr (fun t ht hW => by rw [← Option.some.inj hf]; exact ⟨⟨(), rfl, trivial, by rw [ht]; exact hP, va_K.moved hW.alike hK, hD⟩, hS.F ht⟩) hS.2.2 dX9_begin_36

set_option maxHeartbeats 4000000 in
set_option maxRecDepth 100000 in
theorem cn_X10_priceOfEntry (l : Launch) (D : va_G) (cB cI cZ : ClassId) (N : Nat) (a0 : Nat → Nat) (I0 : Nat → Int32) (M0 : Nat → Nat → Int32) (x1 : Int32) (x2 : Int32) (x3 : Int32) (R : Int32) (hf : fX10_priceOfEntry N I0 M0 x1 x2 x3 = some R) : Met l yX10_priceOfEntry wsX10_priceOfEntry ({ frames := 3, cells := 0, slots := 0, locals := 68 }) (va_Pc [.ref (a0 0), .int x1, .int x2, .int x3] (wb_pre D [(cB, .byte), (cI, .int), (cZ, .boolean)] (wWX4 cB cI cZ a0 I0 M0))) (vp_Si (fun r => r = R)) 0 0 (fun _ => False) := by
  refine Met.ofW (cc := cX10_priceOfEntry) (maxL := 4) (ret := (some .int)) pn_X10 rfl ?_
  intro p e s m args below meth c s₁ B hml hv
  obtain ⟨rfl, hP, hK⟩ := hv
  have hx := B.exec
  have hb := B.bytes
  have hr := B.returns
  have hts := atoms_spec (ws := wsX10_priceOfEntry) B.pre
  have hown : s.vm.findClass RX10 = some m.cls := (findClass_of_methodNamed B.named :)
  have hlocks := B.notSynchronized
  have hl := lv_entry ([.ref (a0 0), .int x1, .int x2, .int x3]) (n := 4) (Nat.le_of_ble_eq_true rfl)
  rw [lg_entry_eq]
  generalize (lg_sl ([.ref (a0 0), .int x1, .int x2, .int x3]) ++ List.replicate (4 - (lg_sl ([.ref (a0 0), .int x1, .int x2, .int x3])).length) Slot.unset).toArray = ls at hl ⊢
  have hl : lv_has ls 4 [(0, .ref (a0 0)), (1, .int x1), (2, .int x2), (3, .int x3)] := hl
  unfold fX10_priceOfEntry at hf
  refine lv_iload_n hx hb dX10_priceOfEntry_0 rfl (lv_at hl 2 rfl) ?_
  refine lv_iload_n hx hb dX10_priceOfEntry_1 rfl (lv_at hl 3 rfl) ?_
  refine lv_icmp_ne (tgt := 7) hx hb dX10_priceOfEntry_2 (by decide) (fun hc => ?_) (fun hc => ?_)
  · replace hf := wb_f hc hf
    refine lv_iload_n hx hb dX10_priceOfEntry_7 rfl (lv_at hl 3 rfl) ?_
    refine lv_iconst (v := (-1 : Int32)) hx hb dX10_priceOfEntry_8 (by decide) ?_
    refine lv_icmp_ne (tgt := 14) hx hb dX10_priceOfEntry_9 (by decide) (fun hc => ?_) (fun hc => ?_)
    · replace hf := wb_f hc hf
      refine lv_iload_n hx hb dX10_priceOfEntry_14 rfl (lv_at hl 2 rfl) ?_
      refine lv_iconst (v := (-1 : Int32)) hx hb dX10_priceOfEntry_15 (by decide) ?_
      refine lv_icmp_ne (tgt := 21) hx hb dX10_priceOfEntry_16 (by decide) (fun hc => ?_) (fun hc => ?_)
      · replace hf := wb_f hc hf
        refine lv_iload_n hx hb dX10_priceOfEntry_21 rfl (lv_at hl 1 rfl) ?_
        refine lv_bipush (v := (21 : Int32)) hx hb dX10_priceOfEntry_22 (by decide) ?_
        refine lv_icmp_eq (tgt := 41) hx hb dX10_priceOfEntry_24 (by decide) (fun hc => ?_) (fun hc => ?_)
        · replace hf := wb_t hc hf
          refine lv_iconst (v := (3 : Int32)) hx hb dX10_priceOfEntry_41 (by decide) ?_
          exact W.iret (v := (3 : Int32)) hx hb hr (fun t ht hW => ⟨_, rfl, Option.some.inj hf, ht⟩) (fun _ h => nomatch h) dX10_priceOfEntry_42
        · replace hf := wb_f hc hf
          refine lv_aload_n hx hb dX10_priceOfEntry_27 rfl (lv_at hl 0 rfl) ?_
          refine lv_iload_n hx hb dX10_priceOfEntry_28 rfl (lv_at hl 3 rfl) ?_
          refine lv_iload_n hx hb dX10_priceOfEntry_29 rfl (lv_at hl 2 rfl) ?_
          obtain ⟨r1, hr1, hf⟩ := wb_b hf
          refine vp_callSi (W.runV (As := [.int x3, .int x2]) (rest := []) ⟨hx, hb, hml, hown, hts⟩ (cn_X4_costBeside l D cB cI cZ N a0 I0 M0 x3 x2 r1 hr1) (cwV 2 hts gX10_priceOfEntry_X4_costBeside rfl rfl rfl cdX4_costBeside ⟨Nat.le_of_ble_eq_true rfl, Nat.le_of_ble_eq_true rfl⟩) (wb_preV hP hK (wr_4 hK hP (q0 := 0) rfl)) rfl rfl hl.1 rfl (lv_room (Nat.le_of_ble_eq_true rfl)) dX10_priceOfEntry_30 ⟨Nat.le_of_ble_eq_true rfl, Nat.le_of_ble_eq_true rfl⟩) (fun r9 e9 => ?_)
          rw [e9]
          refine lv_iconst (v := (1 : Int32)) hx hb dX10_priceOfEntry_33 (by decide) ?_
          refine lv_icmp_ne (tgt := 41) hx hb dX10_priceOfEntry_34 (by decide) (fun hc => ?_) (fun hc => ?_)
          · replace hf := wb_f hc hf
            refine lv_iconst (v := (3 : Int32)) hx hb dX10_priceOfEntry_41 (by decide) ?_
            exact W.iret (v := (3 : Int32)) hx hb hr (fun t ht hW => ⟨_, rfl, Option.some.inj hf, ht⟩) (fun _ h => nomatch h) dX10_priceOfEntry_42
          · replace hf := wb_t hc hf
            refine lv_iconst (v := (1 : Int32)) hx hb dX10_priceOfEntry_37 (by decide) ?_
            refine lv_goto (tgt := 42) hx hb dX10_priceOfEntry_38 (by decide) ?_
            exact W.iret (v := (1 : Int32)) hx hb hr (fun t ht hW => ⟨_, rfl, Option.some.inj hf, ht⟩) (fun _ h => nomatch h) dX10_priceOfEntry_42
      · replace hf := wb_t hc hf
        refine lv_iconst (v := (4 : Int32)) hx hb dX10_priceOfEntry_19 (by decide) ?_
        exact W.iret (v := (4 : Int32)) hx hb hr (fun t ht hW => ⟨_, rfl, Option.some.inj hf, ht⟩) (fun _ h => nomatch h) dX10_priceOfEntry_20
    · replace hf := wb_t hc hf
      refine lv_iconst (v := (1 : Int32)) hx hb dX10_priceOfEntry_12 (by decide) ?_
      exact W.iret (v := (1 : Int32)) hx hb hr (fun t ht hW => ⟨_, rfl, Option.some.inj hf, ht⟩) (fun _ h => nomatch h) dX10_priceOfEntry_13
  · replace hf := wb_t hc hf
    refine lv_iconst (v := (0 : Int32)) hx hb dX10_priceOfEntry_5 (by decide) ?_
    exact W.iret (v := (0 : Int32)) hx hb hr (fun t ht hW => ⟨_, rfl, Option.some.inj hf, ht⟩) (fun _ h => nomatch h) dX10_priceOfEntry_6

set_option maxHeartbeats 4000000 in
set_option maxRecDepth 100000 in
theorem cn_X10_priceOf (l : Launch) (D : va_G) (cB cI cZ : ClassId) (N : Nat) (a0 : Nat → Nat) (I0 : Nat → Int32) (M0 : Nat → Nat → Int32) (a1 : Nat → Nat) (I1 : Nat → Int32) (M1 : Nat → Nat → Int32) (x2 : Int32) (x3 : Int32) (R : Int32) (hf : fX10_priceOf N I0 M0 I1 M1 x2 x3 = some R) : Met l yX10_priceOf wsX10_priceOf ({ frames := 4, cells := 0, slots := 0, locals := 91 }) (va_Pc [.ref (a0 0), .ref (a1 0), .int x2, .int x3] (wb_pre D [(cB, .byte), (cI, .int), (cZ, .boolean)] ((wWX4 cB cI cZ a0 I0 M0) ++ (wWX1 cB cI cZ a1 I1 M1)))) (vp_Si (fun r => r = R)) 0 0 (fun _ => False) := by
  refine Met.ofW (cc := cX10_priceOf) (maxL := 9) (ret := (some .int)) pn_X10 rfl ?_
  intro p e s m args below meth c s₁ B hml hv
  obtain ⟨rfl, hP, hK⟩ := hv
  have hx := B.exec
  have hb := B.bytes
  have hr := B.returns
  have hts := atoms_spec (ws := wsX10_priceOf) B.pre
  have hown : s.vm.findClass RX10 = some m.cls := (findClass_of_methodNamed B.named :)
  have hlocks := B.notSynchronized
  have hl := lv_entry ([.ref (a0 0), .ref (a1 0), .int x2, .int x3]) (n := 9) (Nat.le_of_ble_eq_true rfl)
  rw [lg_entry_eq]
  generalize (lg_sl ([.ref (a0 0), .ref (a1 0), .int x2, .int x3]) ++ List.replicate (9 - (lg_sl ([.ref (a0 0), .ref (a1 0), .int x2, .int x3])).length) Slot.unset).toArray = ls at hl ⊢
  have hl : lv_has ls 9 [(0, .ref (a0 0)), (1, .ref (a1 0)), (2, .int x2), (3, .int x3)] := hl
  unfold fX10_priceOf at hf
  refine lv_iconst (v := (0 : Int32)) hx hb dX10_priceOf_0 (by decide) ?_
  refine lv_istore (lv' := [(4, .int (0 : Int32)), (0, .ref (a0 0)), (1, .ref (a1 0)), (2, .int x2), (3, .int x3)]) hx hb dX10_priceOf_1 hl (by decide) rfl (fun ls hl => ?_)
  refine lv_iconst (v := (0 : Int32)) hx hb dX10_priceOf_3 (by decide) ?_
  refine lv_istore (lv' := [(5, .int (0 : Int32)), (4, .int (0 : Int32)), (0, .ref (a0 0)), (1, .ref (a1 0)), (2, .int x2), (3, .int x3)]) hx hb dX10_priceOf_4 hl (by decide) rfl (fun ls hl => ?_)
  have L6 : ∀ (fu6 : Nat) (y6_4 : Int32) (y6_5 : Int32), ∀ (ls : Array Slot), lv_has ls 9 [(0, .ref (a0 0)), (1, .ref (a1 0)), (2, .int x2), (3, .int x3), (4, .int y6_4), (5, .int y6_5)] → fX10_priceOf_L6 N I0 M0 I1 M1 x2 x3 fu6 y6_4 y6_5 = some R → W p l e (headSpec wsX10_priceOf { frames := 4, cells := 0, slots := 0, locals := 91 }).room s m [.ref (a0 0), .ref (a1 0), .int x2, .int x3].toArray below meth c s.heap [] 0 0 (MQ below (vp_Si (fun r => r = R)) [.ref (a0 0), .ref (a1 0), .int x2, .int x3].toArray s 0 0 (fun _ => False)) (F0 m 6 ls []) := by
    intro fu6
    induction fu6 with
    | zero =>
      intro y6_4 y6_5 ls hl hf
      exact absurd hf (by rw [fX10_priceOf_L6.eq_1]; exact fun h => nomatch h)
    | succ fu6 ih6 =>
      intro y6_4 y6_5 ls hl hf
      rw [fX10_priceOf_L6.eq_2] at hf
      refine lv_iload hx hb dX10_priceOf_6 (lv_at hl 5 rfl) ?_
      refine lv_bipush (v := (20 : Int32)) hx hb dX10_priceOf_8 (by decide) ?_
      refine lv_icmp_ge (tgt := 80) hx hb dX10_priceOf_10 (by decide) (fun hc => ?_) (fun hc => ?_)
      · replace hf := wb_t hc hf
        refine lv_iload hx hb dX10_priceOf_80 (lv_at hl 4 rfl) ?_
        exact W.iret (v := y6_4) hx hb hr (fun t ht hW => ⟨_, rfl, Option.some.inj hf, ht⟩) (fun _ h => nomatch h) dX10_priceOf_82
      · replace hf := wb_f hc hf
        refine lv_iconst (v := (0 : Int32)) hx hb dX10_priceOf_13 (by decide) ?_
        refine lv_istore (lv' := [(6, .int (0 : Int32)), (0, .ref (a0 0)), (1, .ref (a1 0)), (2, .int x2), (3, .int x3), (4, .int y6_4), (5, .int y6_5)]) hx hb dX10_priceOf_14 hl (by decide) rfl (fun ls hl => ?_)
        have L16 : ∀ (fu16 : Nat) (y16_4 : Int32) (y16_6 : Int32), ∀ (ls : Array Slot), lv_has ls 9 [(0, .ref (a0 0)), (1, .ref (a1 0)), (2, .int x2), (3, .int x3), (4, .int y16_4), (5, .int y6_5), (6, .int y16_6)] → fX10_priceOf_L16 N I0 M0 I1 M1 x2 x3 y6_5 (fX10_priceOf_L6 N I0 M0 I1 M1 x2 x3 fu6) fu16 y16_4 y16_6 = some R → W p l e (headSpec wsX10_priceOf { frames := 4, cells := 0, slots := 0, locals := 91 }).room s m [.ref (a0 0), .ref (a1 0), .int x2, .int x3].toArray below meth c s.heap [] 0 0 (MQ below (vp_Si (fun r => r = R)) [.ref (a0 0), .ref (a1 0), .int x2, .int x3].toArray s 0 0 (fun _ => False)) (F0 m 16 ls []) := by
          intro fu16
          induction fu16 with
          | zero =>
            intro y16_4 y16_6 ls hl hf
            exact absurd hf (by rw [fX10_priceOf_L16.eq_1]; exact fun h => nomatch h)
          | succ fu16 ih16 =>
            intro y16_4 y16_6 ls hl hf
            rw [fX10_priceOf_L16.eq_2] at hf
            refine lv_iload hx hb dX10_priceOf_16 (lv_at hl 6 rfl) ?_
            refine lv_bipush (v := (22 : Int32)) hx hb dX10_priceOf_18 (by decide) ?_
            refine lv_icmp_ge (tgt := 74) hx hb dX10_priceOf_20 (by decide) (fun hc => ?_) (fun hc => ?_)
            · replace hf := wb_t hc hf
              obtain ⟨v1, ev1, hf⟩ := wb_v hf
              refine lv_iinc (v := v1) (lv' := [(5, .int v1), (0, .ref (a0 0)), (1, .ref (a1 0)), (2, .int x2), (3, .int x3), (4, .int y16_4), (6, .int y16_6)]) hx hb dX10_priceOf_74 hl (k := 5) rfl (by rw [ev1]; rfl) (by decide) rfl (fun ls hl => ?_)
              refine lv_goto (tgt := 6) hx hb dX10_priceOf_77 (by decide) ?_
              exact ih6 y16_4 v1 ls (lv_sub hl [1, 2, 3, 4, 5, 0] rfl) hf
            · replace hf := wb_f hc hf
              refine lv_aload_n hx hb dX10_priceOf_23 rfl (lv_at hl 1 rfl) ?_
              refine lv_bipush (v := (20 : Int32)) hx hb dX10_priceOf_24 (by decide) ?_
              refine lv_iload_n hx hb dX10_priceOf_26 rfl (lv_at hl 2 rfl) ?_
              refine lv_imul hx hb dX10_priceOf_27 ?_
              refine lv_iload hx hb dX10_priceOf_28 (lv_at hl 5 rfl) ?_
              refine lv_iadd hx hb dX10_priceOf_30 ?_
              refine lv_iload hx hb dX10_priceOf_31 (lv_at hl 6 rfl) ?_
              obtain ⟨r2, hr2, hf⟩ := wb_b hf
              refine vp_callSi (W.runV (As := [.int (((20 : Int32) * x2) + y6_5), .int y16_6]) (rest := []) ⟨hx, hb, hml, hown, hts⟩ (cn_X1_degreeOf l D cB cI cZ N a1 I1 M1 (((20 : Int32) * x2) + y6_5) y16_6 r2 hr2) (cwV 2 hts gX10_priceOf_X1_degreeOf rfl rfl rfl cdX1_degreeOf ⟨Nat.le_of_ble_eq_true rfl, Nat.le_of_ble_eq_true rfl⟩) (wb_preV (hP.sub (ws' := (wWX1 cB cI cZ a1 I1 M1)) [2, 3, 4] rfl) hK (wr_1 hK hP (q0 := 2) rfl)) rfl rfl hl.1 rfl (lv_room (Nat.le_of_ble_eq_true rfl)) dX10_priceOf_33 ⟨Nat.le_of_ble_eq_true rfl, Nat.le_of_ble_eq_true rfl⟩) (fun r9 e9 => ?_)
              rw [e9]
              refine lv_istore (lv' := [(7, .int r2), (0, .ref (a0 0)), (1, .ref (a1 0)), (2, .int x2), (3, .int x3), (4, .int y16_4), (5, .int y6_5), (6, .int y16_6)]) hx hb dX10_priceOf_36 hl (by decide) rfl (fun ls hl => ?_)
              refine lv_aload_n hx hb dX10_priceOf_38 rfl (lv_at hl 2 rfl) ?_
              refine lv_bipush (v := (20 : Int32)) hx hb dX10_priceOf_39 (by decide) ?_
              refine lv_iload_n hx hb dX10_priceOf_41 rfl (lv_at hl 4 rfl) ?_
              refine lv_imul hx hb dX10_priceOf_42 ?_
              refine lv_iload hx hb dX10_priceOf_43 (lv_at hl 6 rfl) ?_
              refine lv_iadd hx hb dX10_priceOf_45 ?_
              refine lv_iload hx hb dX10_priceOf_46 (lv_at hl 7 rfl) ?_
              obtain ⟨r3, hr3, hf⟩ := wb_b hf
              refine vp_callSi (W.runV (As := [.int (((20 : Int32) * x3) + y6_5), .int y16_6]) (rest := []) ⟨hx, hb, hml, hown, hts⟩ (cn_X1_degreeOf l D cB cI cZ N a1 I1 M1 (((20 : Int32) * x3) + y6_5) y16_6 r3 hr3) (cwV 2 hts gX10_priceOf_X1_degreeOf rfl rfl rfl cdX1_degreeOf ⟨Nat.le_of_ble_eq_true rfl, Nat.le_of_ble_eq_true rfl⟩) (wb_preV (hP.sub (ws' := (wWX1 cB cI cZ a1 I1 M1)) [2, 3, 4] rfl) hK (wr_1 hK hP (q0 := 2) rfl)) rfl rfl hl.1 rfl (lv_room (Nat.le_of_ble_eq_true rfl)) dX10_priceOf_48 ⟨Nat.le_of_ble_eq_true rfl, Nat.le_of_ble_eq_true rfl⟩) (fun r9 e9 => ?_)
              rw [e9]
              refine lv_istore (lv' := [(8, .int r3), (7, .int r2), (0, .ref (a0 0)), (1, .ref (a1 0)), (2, .int x2), (3, .int x3), (4, .int y16_4), (5, .int y6_5), (6, .int y16_6)]) hx hb dX10_priceOf_51 hl (by decide) rfl (fun ls hl => ?_)
              refine lv_iload hx hb dX10_priceOf_53 (lv_at hl 6 rfl) ?_
              refine lv_aload_n hx hb dX10_priceOf_55 rfl (lv_at hl 2 rfl) ?_
              refine lv_iload hx hb dX10_priceOf_56 (lv_at hl 8 rfl) ?_
              refine lv_iload hx hb dX10_priceOf_58 (lv_at hl 1 rfl) ?_
              refine lv_iload hx hb dX10_priceOf_60 (lv_at hl 0 rfl) ?_
              obtain ⟨r4, hr4, hf⟩ := wb_b hf
              refine vp_callSi (W.runS (As := [.ref (a0 0), .int y16_6, .int r2, .int r3]) (rest := [.int y16_4]) ⟨hx, hb, hml, hown, hts⟩ (cn_X10_priceOfEntry l D cB cI cZ N a0 I0 M0 y16_6 r2 r3 r4 hr4) (va_cwS 4 hts gX10_priceOf_X10_priceOfEntry rfl rfl rfl csX10_priceOfEntry ⟨Nat.le_of_ble_eq_true rfl, Nat.le_of_ble_eq_true rfl⟩) (wb_preS (hP.sub (ws' := (wWX4 cB cI cZ a0 I0 M0)) [0, 1] rfl) hK) rfl rfl hl.1 rfl (lv_room (Nat.le_of_ble_eq_true rfl)) dX10_priceOf_62 ⟨Nat.le_of_ble_eq_true rfl, Nat.le_of_ble_eq_true rfl⟩) (fun r9 e9 => ?_)
              rw [e9]
              refine lv_iadd hx hb dX10_priceOf_65 ?_
              obtain ⟨v5, ev5, hf⟩ := wb_v hf
              refine wb_topi ev5 ?_
              refine lv_istore (lv' := [(4, .int v5), (8, .int r3), (7, .int r2), (0, .ref (a0 0)), (1, .ref (a1 0)), (2, .int x2), (3, .int x3), (5, .int y6_5), (6, .int y16_6)]) hx hb dX10_priceOf_66 hl (by decide) rfl (fun ls hl => ?_)
              obtain ⟨v6, ev6, hf⟩ := wb_v hf
              refine lv_iinc (v := v6) (lv' := [(6, .int v6), (4, .int v5), (8, .int r3), (7, .int r2), (0, .ref (a0 0)), (1, .ref (a1 0)), (2, .int x2), (3, .int x3), (5, .int y6_5)]) hx hb dX10_priceOf_68 hl (k := 8) rfl (by rw [ev6]; rfl) (by decide) rfl (fun ls hl => ?_)
              refine lv_goto (tgt := 16) hx hb dX10_priceOf_71 (by decide) ?_
              exact ih16 v5 v6 ls (lv_sub hl [4, 5, 6, 7, 1, 8, 0] rfl) hf
        exact L16 N y6_4 (0 : Int32) ls (lv_sub hl [1, 2, 3, 4, 5, 6, 0] rfl) hf
  exact L6 N (0 : Int32) (0 : Int32) ls (lv_sub hl [2, 3, 4, 5, 1, 0] rfl) hf

set_option maxHeartbeats 4000000 in
set_option maxRecDepth 100000 in
theorem cn_X10_setBooks (l : Launch) (D : va_G) (cB cI cZ : ClassId) (N : Nat) (a0 : Nat → Nat) (I0 : Nat → Int32) (M0 : Nat → Nat → Int32) (a1 : Nat → Nat) (I1 : Nat → Int32) (M1 : Nat → Nat → Int32) (sz : Nat) (R : Int32 × (Nat → Int32) × (Nat → Nat → Int32)) (hf : fX10_setBooks N I0 M0 I1 M1 = some R) : Met l yX10_setBooks wsX10_setBooks ({ frames := 3, cells := 0, slots := 0, locals := 66 }) (va_Pc [.ref (a0 0), .ref (a1 0)] (wb_preD D [(cB, .byte), (cI, .int), (cZ, .boolean)] ((wWX10 cB cI cZ a0 I0 M0) ++ (wWX1 cB cI cZ a1 I1 M1)) sz)) (va_Qi (fun r (_ : Unit) => r = R.1) (fun _ t => wb_post D [(cB, .byte), (cI, .int), (cZ, .boolean)] (va_A ((wWX10 cB cI cZ a0 I0 M0) ++ (wWX1 cB cI cZ a1 I1 M1)) sz) ((wWX10 cB cI cZ a0 R.2.1 R.2.2) ++ (wWX1 cB cI cZ a1 I1 M1)) t) (va_A ((wWX10 cB cI cZ a0 I0 M0) ++ (wWX1 cB cI cZ a1 I1 M1)) sz)) 0 0 (va_A ((wWX10 cB cI cZ a0 I0 M0) ++ (wWX1 cB cI cZ a1 I1 M1)) sz) := by
  refine Met.ofW (cc := cX10_setBooks) (maxL := 4) (ret := (some .boolean)) pn_X10 rfl ?_
  intro p e s m args below meth c s₁ B hml hv
  obtain ⟨rfl, hsz, hP, hK, hD0⟩ := hv
  have hx := B.exec
  have hb := B.bytes
  have hr := B.returns
  have hts := atoms_spec (ws := wsX10_setBooks) B.pre
  have hown : s.vm.findClass RX10 = some m.cls := (findClass_of_methodNamed B.named :)
  have hlocks := B.notSynchronized
  have hinX10 : ∀ w ∈ u_ws RX10 TX10 5, w ∈ wsX10_setBooks := fun w h => List.mem_cons_of_mem _ (List.mem_append_left _ (List.mem_append_right _ h))
  subst hsz
  have hD := hD0.self (sz := s.heap.size)
  generalize hAe : va_A ((wWX10 cB cI cZ a0 I0 M0) ++ (wWX1 cB cI cZ a1 I1 M1)) s.heap.size = A at hD ⊢
  have hA : ∀ q : Nat, s.heap.size ≤ q → A q := fun q h => by rw [← hAe]; exact Or.inr h
  have hS : va_S A s.heap s.heap [] := va_S.rf
  have hl := lv_entry ([.ref (a0 0), .ref (a1 0)]) (n := 4) (Nat.le_of_ble_eq_true rfl)
  rw [lg_entry_eq]
  generalize (lg_sl ([.ref (a0 0), .ref (a1 0)]) ++ List.replicate (4 - (lg_sl ([.ref (a0 0), .ref (a1 0)])).length) Slot.unset).toArray = ls at hl ⊢
  have hl : lv_has ls 4 [(0, .ref (a0 0)), (1, .ref (a1 0))] := hl
  unfold fX10_setBooks at hf
  obtain ⟨H, hHe⟩ : ∃ H : Heap, H = s.heap := ⟨_, rfl⟩
  obtain ⟨locs, hle⟩ : ∃ locs : List Loc, locs = [] := ⟨_, rfl⟩
  refine wb_start (H := H) (locs := locs) hHe hle ?_
  rw [← hHe] at hP
  have hS : va_S A s.heap H locs := by rw [hHe, hle]; exact va_S.rf
  refine lv_iconst (v := (0 : Int32)) hx hb dX10_setBooks_0 (by decide) ?_
  refine lv_istore_n (lv' := [(2, .int (0 : Int32)), (0, .ref (a0 0)), (1, .ref (a1 0))]) hx hb dX10_setBooks_1 rfl hl (by decide) rfl (fun ls hl => ?_)
  refine lv_iconst (v := (0 : Int32)) hx hb dX10_setBooks_2 (by decide) ?_
  refine lv_istore_n (lv' := [(3, .int (0 : Int32)), (2, .int (0 : Int32)), (0, .ref (a0 0)), (1, .ref (a1 0))]) hx hb dX10_setBooks_3 rfl hl (by decide) rfl (fun ls hl => ?_)
  have L4 : ∀ (fu4 : Nat) (I0_l4 : Nat → Int32) (M0_l4 : Nat → Nat → Int32) (y4_2 : Int32) (y4_3 : Int32) (H : Heap) (locs : List Loc), va_P D vwCl ((wWX10 cB cI cZ a0 I0_l4 M0_l4) ++ (wWX1 cB cI cZ a1 I1 M1)) H → va_D A ((wWX10 cB cI cZ a0 I0_l4 M0_l4) ++ (wWX1 cB cI cZ a1 I1 M1)) → va_S A s.heap H locs → ∀ (ls : Array Slot), lv_has ls 4 [(0, .ref (a0 0)), (1, .ref (a1 0)), (2, .int y4_2), (3, .int y4_3)] → fX10_setBooks_L4 N I1 M1 fu4 I0_l4 M0_l4 y4_2 y4_3 = some R → W p l e (headSpec wsX10_setBooks { frames := 3, cells := 0, slots := 0, locals := 66 }).room s m [.ref (a0 0), .ref (a1 0)].toArray below meth c H locs 0 0 (MQ below (va_Qi (fun r (_ : Unit) => r = R.1) (fun _ t => wb_post D [(cB, .byte), (cI, .int), (cZ, .boolean)] A ((wWX10 cB cI cZ a0 R.2.1 R.2.2) ++ (wWX1 cB cI cZ a1 I1 M1)) t) A) [.ref (a0 0), .ref (a1 0)].toArray s 0 0 A) (F0 m 4 ls []) := by
    intro fu4
    induction fu4 with
    | zero =>
      intro I0_l4 M0_l4 y4_2 y4_3 H locs hP hD hS ls hl hf
      exact absurd hf (by rw [fX10_setBooks_L4.eq_1]; exact fun h => nomatch h)
    | succ fu4 ih4 =>
      have J30 : ∀ (I0_j30 : Nat → Int32) (M0_j30 : Nat → Nat → Int32) (y30_2 : Int32) (y30_3 : Int32) (z30_0 : Int32) (z30_1 : Int32) (H : Heap) (locs : List Loc), va_P D vwCl ((wWX10 cB cI cZ a0 I0_j30 M0_j30) ++ (wWX1 cB cI cZ a1 I1 M1)) H → va_D A ((wWX10 cB cI cZ a0 I0_j30 M0_j30) ++ (wWX1 cB cI cZ a1 I1 M1)) → va_S A s.heap H locs → ∀ (ls : Array Slot), lv_has ls 4 [(0, .ref (a0 0)), (1, .ref (a1 0)), (2, .int y30_2), (3, .int y30_3)] → fX10_setBooks_J30 N I1 M1 (fX10_setBooks_L4 N I1 M1 fu4) I0_j30 M0_j30 y30_2 y30_3 z30_0 z30_1 = some R → W p l e (headSpec wsX10_setBooks { frames := 3, cells := 0, slots := 0, locals := 66 }).room s m [.ref (a0 0), .ref (a1 0)].toArray below meth c H locs 0 0 (MQ below (va_Qi (fun r (_ : Unit) => r = R.1) (fun _ t => wb_post D [(cB, .byte), (cI, .int), (cZ, .boolean)] A ((wWX10 cB cI cZ a0 R.2.1 R.2.2) ++ (wWX1 cB cI cZ a1 I1 M1)) t) A) [.ref (a0 0), .ref (a1 0)].toArray s 0 0 A) (F0 m 30 ls [.int z30_0, .int z30_1, .ref (a0 2)]) := by
        intro I0_j30 M0_j30 y30_2 y30_3 z30_0 z30_1 H locs hP hD hS ls hl hf
        unfold fX10_setBooks_J30 at hf
        obtain ⟨hin, hf⟩ := wb_n hf
        refine va_iast hx hb hK hP hD hS 2 1 rfl rfl hin dX10_setBooks_30 (fun H locs hP hD hS => ?_)
        have hP : va_P D vwCl ((wWX10 cB cI cZ a0 I0_j30 (wb_um M0_j30 1 (z30_1).toNatClampNeg z30_0)) ++ (wWX1 cB cI cZ a1 I1 M1)) H := hP
        have hD : va_D A ((wWX10 cB cI cZ a0 I0_j30 (wb_um M0_j30 1 (z30_1).toNatClampNeg z30_0)) ++ (wWX1 cB cI cZ a1 I1 M1)) := hD
        obtain ⟨M0_1, eM0_1, hf⟩ := wb_v hf
        rw [← eM0_1] at hP hD
        refine lv_iload_n hx hb dX10_setBooks_31 rfl (lv_at hl 2 rfl) ?_
        refine lv_if_ne (tgt := 46) hx hb dX10_setBooks_32 (by decide) (fun hc => ?_) (fun hc => ?_)
        · replace hf := wb_f hc hf
          refine lv_iconst (v := (1 : Int32)) hx hb dX10_setBooks_46 (by decide) ?_
          refine lv_goto (tgt := 51) hx hb dX10_setBooks_47 (by decide) ?_
          refine lv_istore_n (lv' := [(2, .int (1 : Int32)), (0, .ref (a0 0)), (1, .ref (a1 0)), (3, .int y30_3)]) hx hb dX10_setBooks_51 rfl hl (by decide) rfl (fun ls hl => ?_)
          obtain ⟨v2, ev2, hf⟩ := wb_v hf
          refine lv_iinc (v := v2) (lv' := [(3, .int v2), (2, .int (1 : Int32)), (0, .ref (a0 0)), (1, .ref (a1 0))]) hx hb dX10_setBooks_52 hl (k := 3) rfl (by rw [ev2]; rfl) (by decide) rfl (fun ls hl => ?_)
          refine lv_goto (tgt := 4) hx hb dX10_setBooks_55 (by decide) ?_
          exact ih4 I0_j30 M0_1 (1 : Int32) v2 H locs hP hD hS ls (lv_sub hl [2, 3, 1, 0] rfl) hf
        · replace hf := wb_t hc hf
          refine lv_aload_n hx hb dX10_setBooks_35 rfl (lv_at hl 0 rfl) ?_
          refine va_get (D := D) (ci := 10) (v := .ref (a0 2)) (C := RX10) (T := TX10) (N := 5) hx hb hts hinX10 hown hK hP 0 rfl rfl 1 (by decide) (hts (.fieldLink RX10 15 "WheelBook$Tree" "row" "[I") (List.mem_of_getElem? (i := 1) rfl)) (fun _ h9 => h9) rfl dX10_setBooks_36 ?_
          refine lv_iload_n hx hb dX10_setBooks_39 rfl (lv_at hl 3 rfl) ?_
          obtain ⟨hin, hf⟩ := wb_n hf
          refine va_iald hx hb hK hP 2 1 rfl rfl hin dX10_setBooks_40 ?_
          refine lv_bipush (v := (-3 : Int32)) hx hb dX10_setBooks_41 (by decide) ?_
          refine lv_icmp_ne (tgt := 50) hx hb dX10_setBooks_43 (by decide) (fun hc => ?_) (fun hc => ?_)
          · replace hf := wb_f hc hf
            refine lv_iconst (v := (0 : Int32)) hx hb dX10_setBooks_50 (by decide) ?_
            refine lv_istore_n (lv' := [(2, .int (0 : Int32)), (0, .ref (a0 0)), (1, .ref (a1 0)), (3, .int y30_3)]) hx hb dX10_setBooks_51 rfl hl (by decide) rfl (fun ls hl => ?_)
            obtain ⟨v3, ev3, hf⟩ := wb_v hf
            refine lv_iinc (v := v3) (lv' := [(3, .int v3), (2, .int (0 : Int32)), (0, .ref (a0 0)), (1, .ref (a1 0))]) hx hb dX10_setBooks_52 hl (k := 3) rfl (by rw [ev3]; rfl) (by decide) rfl (fun ls hl => ?_)
            refine lv_goto (tgt := 4) hx hb dX10_setBooks_55 (by decide) ?_
            exact ih4 I0_j30 M0_1 (0 : Int32) v3 H locs hP hD hS ls (lv_sub hl [2, 3, 1, 0] rfl) hf
          · replace hf := wb_t hc hf
            refine lv_iconst (v := (1 : Int32)) hx hb dX10_setBooks_46 (by decide) ?_
            refine lv_goto (tgt := 51) hx hb dX10_setBooks_47 (by decide) ?_
            refine lv_istore_n (lv' := [(2, .int (1 : Int32)), (0, .ref (a0 0)), (1, .ref (a1 0)), (3, .int y30_3)]) hx hb dX10_setBooks_51 rfl hl (by decide) rfl (fun ls hl => ?_)
            obtain ⟨v4, ev4, hf⟩ := wb_v hf
            refine lv_iinc (v := v4) (lv' := [(3, .int v4), (2, .int (1 : Int32)), (0, .ref (a0 0)), (1, .ref (a1 0))]) hx hb dX10_setBooks_52 hl (k := 3) rfl (by rw [ev4]; rfl) (by decide) rfl (fun ls hl => ?_)
            refine lv_goto (tgt := 4) hx hb dX10_setBooks_55 (by decide) ?_
            exact ih4 I0_j30 M0_1 (1 : Int32) v4 H locs hP hD hS ls (lv_sub hl [2, 3, 1, 0] rfl) hf
      intro I0_l4 M0_l4 y4_2 y4_3 H locs hP hD hS ls hl hf
      rw [fX10_setBooks_L4.eq_2] at hf
      refine lv_iload_n hx hb dX10_setBooks_4 rfl (lv_at hl 3 rfl) ?_
      refine lv_bipush (v := (6 : Int32)) hx hb dX10_setBooks_5 (by decide) ?_
      refine lv_icmp_ge (tgt := 58) hx hb dX10_setBooks_7 (by decide) (fun hc => ?_) (fun hc => ?_)
      · replace hf := wb_t hc hf
        refine lv_iload_n hx hb dX10_setBooks_58 rfl (lv_at hl 2 rfl) ?_
        obtain ⟨hz, hf⟩ := wb_y hf
        exact W.zret (v := y4_2) hx hb hr (congrArg Value.int hz) (fun t ht hW => by rw [← Option.some.inj hf]; exact ⟨⟨y4_2, (), rfl, rfl, by rw [ht]; exact hP, va_K.moved hW.alike hK, hD⟩, hS.F ht⟩) hS.2.2 dX10_setBooks_59
      · replace hf := wb_f hc hf
        refine lv_aload_n hx hb dX10_setBooks_10 rfl (lv_at hl 0 rfl) ?_
        refine va_get (D := D) (ci := 10) (v := .ref (a0 2)) (C := RX10) (T := TX10) (N := 5) hx hb hts hinX10 hown hK hP 0 rfl rfl 1 (by decide) (hts (.fieldLink RX10 15 "WheelBook$Tree" "row" "[I") (List.mem_of_getElem? (i := 1) rfl)) (fun _ h9 => h9) rfl dX10_setBooks_11 ?_
        refine lv_iload_n hx hb dX10_setBooks_14 rfl (lv_at hl 3 rfl) ?_
        refine lv_aload_n hx hb dX10_setBooks_15 rfl (lv_at hl 1 rfl) ?_
        refine lv_iload_n hx hb dX10_setBooks_16 rfl (lv_at hl 3 rfl) ?_
        obtain ⟨r5, hr5, hf⟩ := wb_b hf
        refine vp_callSi (W.runV (As := [.int y4_3]) (rest := [.int y4_3, .ref (a0 2)]) ⟨hx, hb, hml, hown, hts⟩ (cn_X1_bookTells l D cB cI cZ N a1 I1 M1 y4_3 r5 hr5) (cwV 1 hts gX10_setBooks_X1_bookTells rfl rfl rfl cdX1_bookTells ⟨Nat.le_of_ble_eq_true rfl, Nat.le_of_ble_eq_true rfl⟩) (wb_preV (hP.sub (ws' := (wWX1 cB cI cZ a1 I1 M1)) [4, 5, 6] rfl) hK (wr_1 hK hP (q0 := 4) rfl)) rfl rfl hl.1 rfl (lv_room (Nat.le_of_ble_eq_true rfl)) dX10_setBooks_17 ⟨Nat.le_of_ble_eq_true rfl, Nat.le_of_ble_eq_true rfl⟩) (fun r9 e9 => ?_)
        rw [e9]
        refine lv_if_eq (tgt := 28) hx hb dX10_setBooks_20 (by decide) (fun hc => ?_) (fun hc => ?_)
        · replace hf := wb_t hc hf
          refine lv_bipush (v := (-2 : Int32)) hx hb dX10_setBooks_28 (by decide) ?_
          exact J30 I0_l4 M0_l4 y4_2 y4_3 (-2 : Int32) y4_3 H locs hP hD hS ls (lv_sub hl [0, 1, 2, 3] rfl) hf
        · replace hf := wb_f hc hf
          refine lv_bipush (v := (-3 : Int32)) hx hb dX10_setBooks_23 (by decide) ?_
          refine lv_goto (tgt := 30) hx hb dX10_setBooks_25 (by decide) ?_
          exact J30 I0_l4 M0_l4 y4_2 y4_3 (-3 : Int32) y4_3 H locs hP hD hS ls (lv_sub hl [0, 1, 2, 3] rfl) hf
  exact L4 N I0 M0 (0 : Int32) (0 : Int32) H locs hP hD hS ls (lv_sub hl [2, 3, 1, 0] rfl) hf

set_option maxHeartbeats 4000000 in
set_option maxRecDepth 100000 in
theorem cn_X10_setPrices (l : Launch) (D : va_G) (cB cI cZ : ClassId) (N : Nat) (a0 : Nat → Nat) (I0 : Nat → Int32) (M0 : Nat → Nat → Int32) (a1 : Nat → Nat) (I1 : Nat → Int32) (M1 : Nat → Nat → Int32) (a2 : Nat → Nat) (I2 : Nat → Int32) (M2 : Nat → Nat → Int32) (sz : Nat) (R : (Nat → Int32) × (Nat → Nat → Int32)) (hf : fX10_setPrices N I0 M0 I1 M1 I2 M2 = some R) : Met l yX10_setPrices wsX10_setPrices ({ frames := 5, cells := 0, slots := 0, locals := 119 }) (va_Pc [.ref (a0 0), .ref (a1 0), .ref (a2 0)] (wb_preD D [(cB, .byte), (cI, .int), (cZ, .boolean)] ((wWX10 cB cI cZ a0 I0 M0) ++ ((wWX4 cB cI cZ a1 I1 M1) ++ (wWX1 cB cI cZ a2 I2 M2))) sz)) (va_Qv (fun _ : Unit => True) (fun _ t => wb_post D [(cB, .byte), (cI, .int), (cZ, .boolean)] (va_A ((wWX10 cB cI cZ a0 I0 M0) ++ ((wWX4 cB cI cZ a1 I1 M1) ++ (wWX1 cB cI cZ a2 I2 M2))) sz) ((wWX10 cB cI cZ a0 R.1 R.2) ++ ((wWX4 cB cI cZ a1 I1 M1) ++ (wWX1 cB cI cZ a2 I2 M2))) t) (va_A ((wWX10 cB cI cZ a0 I0 M0) ++ ((wWX4 cB cI cZ a1 I1 M1) ++ (wWX1 cB cI cZ a2 I2 M2))) sz)) 0 0 (va_A ((wWX10 cB cI cZ a0 I0 M0) ++ ((wWX4 cB cI cZ a1 I1 M1) ++ (wWX1 cB cI cZ a2 I2 M2))) sz) := by
  refine Met.ofW (cc := cX10_setPrices) (maxL := 6) (ret := none) pn_X10 rfl ?_
  intro p e s m args below meth c s₁ B hml hv
  obtain ⟨rfl, hsz, hP, hK, hD0⟩ := hv
  have hx := B.exec
  have hb := B.bytes
  have hr := B.returns
  have hts := atoms_spec (ws := wsX10_setPrices) B.pre
  have hown : s.vm.findClass RX10 = some m.cls := (findClass_of_methodNamed B.named :)
  have hlocks := B.notSynchronized
  have hinX10 : ∀ w ∈ u_ws RX10 TX10 5, w ∈ wsX10_setPrices := fun w h => List.mem_cons_of_mem _ (List.mem_append_left _ (List.mem_append_left _ (List.mem_append_right _ h)))
  subst hsz
  have hD := hD0.self (sz := s.heap.size)
  generalize hAe : va_A ((wWX10 cB cI cZ a0 I0 M0) ++ ((wWX4 cB cI cZ a1 I1 M1) ++ (wWX1 cB cI cZ a2 I2 M2))) s.heap.size = A at hD ⊢
  have hA : ∀ q : Nat, s.heap.size ≤ q → A q := fun q h => by rw [← hAe]; exact Or.inr h
  have hS : va_S A s.heap s.heap [] := va_S.rf
  have hl := lv_entry ([.ref (a0 0), .ref (a1 0), .ref (a2 0)]) (n := 6) (Nat.le_of_ble_eq_true rfl)
  rw [lg_entry_eq]
  generalize (lg_sl ([.ref (a0 0), .ref (a1 0), .ref (a2 0)]) ++ List.replicate (6 - (lg_sl ([.ref (a0 0), .ref (a1 0), .ref (a2 0)])).length) Slot.unset).toArray = ls at hl ⊢
  have hl : lv_has ls 6 [(0, .ref (a0 0)), (1, .ref (a1 0)), (2, .ref (a2 0))] := hl
  unfold fX10_setPrices at hf
  obtain ⟨H, hHe⟩ : ∃ H : Heap, H = s.heap := ⟨_, rfl⟩
  obtain ⟨locs, hle⟩ : ∃ locs : List Loc, locs = [] := ⟨_, rfl⟩
  refine wb_start (H := H) (locs := locs) hHe hle ?_
  rw [← hHe] at hP
  have hS : va_S A s.heap H locs := by rw [hHe, hle]; exact va_S.rf
  refine lv_iconst (v := (0 : Int32)) hx hb dX10_setPrices_0 (by decide) ?_
  refine lv_istore_n (lv' := [(3, .int (0 : Int32)), (0, .ref (a0 0)), (1, .ref (a1 0)), (2, .ref (a2 0))]) hx hb dX10_setPrices_1 rfl hl (by decide) rfl (fun ls hl => ?_)
  have L2 : ∀ (fu2 : Nat) (I0_l2 : Nat → Int32) (M0_l2 : Nat → Nat → Int32) (y2_3 : Int32) (H : Heap) (locs : List Loc), va_P D vwCl ((wWX10 cB cI cZ a0 I0_l2 M0_l2) ++ ((wWX4 cB cI cZ a1 I1 M1) ++ (wWX1 cB cI cZ a2 I2 M2))) H → va_D A ((wWX10 cB cI cZ a0 I0_l2 M0_l2) ++ ((wWX4 cB cI cZ a1 I1 M1) ++ (wWX1 cB cI cZ a2 I2 M2))) → va_S A s.heap H locs → ∀ (ls : Array Slot), lv_has ls 6 [(0, .ref (a0 0)), (1, .ref (a1 0)), (2, .ref (a2 0)), (3, .int y2_3)] → fX10_setPrices_L2 N I1 M1 I2 M2 fu2 I0_l2 M0_l2 y2_3 = some R → W p l e (headSpec wsX10_setPrices { frames := 5, cells := 0, slots := 0, locals := 119 }).room s m [.ref (a0 0), .ref (a1 0), .ref (a2 0)].toArray below meth c H locs 0 0 (MQ below (va_Qv (fun _ : Unit => True) (fun _ t => wb_post D [(cB, .byte), (cI, .int), (cZ, .boolean)] A ((wWX10 cB cI cZ a0 R.1 R.2) ++ ((wWX4 cB cI cZ a1 I1 M1) ++ (wWX1 cB cI cZ a2 I2 M2))) t) A) [.ref (a0 0), .ref (a1 0), .ref (a2 0)].toArray s 0 0 A) (F0 m 2 ls []) := by
    intro fu2
    induction fu2 with
    | zero =>
      intro I0_l2 M0_l2 y2_3 H locs hP hD hS ls hl hf
      exact absurd hf (by rw [fX10_setPrices_L2.eq_1]; exact fun h => nomatch h)
    | succ fu2 ih2 =>
      intro I0_l2 M0_l2 y2_3 H locs hP hD hS ls hl hf
      rw [fX10_setPrices_L2.eq_2] at hf
      refine lv_iload_n hx hb dX10_setPrices_2 rfl (lv_at hl 3 rfl) ?_
      refine lv_bipush (v := (6 : Int32)) hx hb dX10_setPrices_3 (by decide) ?_
      refine lv_icmp_ge (tgt := 89) hx hb dX10_setPrices_5 (by decide) (fun hc => ?_) (fun hc => ?_)
      · replace hf := wb_t hc hf
        exact W.vret hx hb hr (fun t ht hW => by rw [← Option.some.inj hf]; exact ⟨⟨(), rfl, trivial, by rw [ht]; exact hP, va_K.moved hW.alike hK, hD⟩, hS.F ht⟩) hS.2.2 dX10_setPrices_89
      · replace hf := wb_f hc hf
        refine lv_iconst (v := (0 : Int32)) hx hb dX10_setPrices_8 (by decide) ?_
        refine lv_istore (lv' := [(4, .int (0 : Int32)), (0, .ref (a0 0)), (1, .ref (a1 0)), (2, .ref (a2 0)), (3, .int y2_3)]) hx hb dX10_setPrices_9 hl (by decide) rfl (fun ls hl => ?_)
        have L11 : ∀ (fu11 : Nat) (I0_l11 : Nat → Int32) (M0_l11 : Nat → Nat → Int32) (y11_4 : Int32) (H : Heap) (locs : List Loc), va_P D vwCl ((wWX10 cB cI cZ a0 I0_l11 M0_l11) ++ ((wWX4 cB cI cZ a1 I1 M1) ++ (wWX1 cB cI cZ a2 I2 M2))) H → va_D A ((wWX10 cB cI cZ a0 I0_l11 M0_l11) ++ ((wWX4 cB cI cZ a1 I1 M1) ++ (wWX1 cB cI cZ a2 I2 M2))) → va_S A s.heap H locs → ∀ (ls : Array Slot), lv_has ls 6 [(0, .ref (a0 0)), (1, .ref (a1 0)), (2, .ref (a2 0)), (3, .int y2_3), (4, .int y11_4)] → fX10_setPrices_L11 N I1 M1 I2 M2 y2_3 (fX10_setPrices_L2 N I1 M1 I2 M2 fu2) fu11 I0_l11 M0_l11 y11_4 = some R → W p l e (headSpec wsX10_setPrices { frames := 5, cells := 0, slots := 0, locals := 119 }).room s m [.ref (a0 0), .ref (a1 0), .ref (a2 0)].toArray below meth c H locs 0 0 (MQ below (va_Qv (fun _ : Unit => True) (fun _ t => wb_post D [(cB, .byte), (cI, .int), (cZ, .boolean)] A ((wWX10 cB cI cZ a0 R.1 R.2) ++ ((wWX4 cB cI cZ a1 I1 M1) ++ (wWX1 cB cI cZ a2 I2 M2))) t) A) [.ref (a0 0), .ref (a1 0), .ref (a2 0)].toArray s 0 0 A) (F0 m 11 ls []) := by
          intro fu11
          induction fu11 with
          | zero =>
            intro I0_l11 M0_l11 y11_4 H locs hP hD hS ls hl hf
            exact absurd hf (by rw [fX10_setPrices_L11.eq_1]; exact fun h => nomatch h)
          | succ fu11 ih11 =>
            have J46 : ∀ (I0_j46 : Nat → Int32) (M0_j46 : Nat → Nat → Int32) (y46_4 : Int32) (z46_0 : Int32) (H : Heap) (locs : List Loc), va_P D vwCl ((wWX10 cB cI cZ a0 I0_j46 M0_j46) ++ ((wWX4 cB cI cZ a1 I1 M1) ++ (wWX1 cB cI cZ a2 I2 M2))) H → va_D A ((wWX10 cB cI cZ a0 I0_j46 M0_j46) ++ ((wWX4 cB cI cZ a1 I1 M1) ++ (wWX1 cB cI cZ a2 I2 M2))) → va_S A s.heap H locs → ∀ (ls : Array Slot), lv_has ls 6 [(0, .ref (a0 0)), (1, .ref (a1 0)), (2, .ref (a2 0)), (3, .int y2_3), (4, .int y46_4)] → fX10_setPrices_J46 N I1 M1 I2 M2 y2_3 (fX10_setPrices_L2 N I1 M1 I2 M2 fu2) (fX10_setPrices_L11 N I1 M1 I2 M2 y2_3 (fX10_setPrices_L2 N I1 M1 I2 M2 fu2) fu11) I0_j46 M0_j46 y46_4 z46_0 = some R → W p l e (headSpec wsX10_setPrices { frames := 5, cells := 0, slots := 0, locals := 119 }).room s m [.ref (a0 0), .ref (a1 0), .ref (a2 0)].toArray below meth c H locs 0 0 (MQ below (va_Qv (fun _ : Unit => True) (fun _ t => wb_post D [(cB, .byte), (cI, .int), (cZ, .boolean)] A ((wWX10 cB cI cZ a0 R.1 R.2) ++ ((wWX4 cB cI cZ a1 I1 M1) ++ (wWX1 cB cI cZ a2 I2 M2))) t) A) [.ref (a0 0), .ref (a1 0), .ref (a2 0)].toArray s 0 0 A) (F0 m 46 ls [.int z46_0]) := by
              intro I0_j46 M0_j46 y46_4 z46_0 H locs hP hD hS ls hl hf
              unfold fX10_setPrices_J46 at hf
              refine lv_istore (lv' := [(5, .int z46_0), (0, .ref (a0 0)), (1, .ref (a1 0)), (2, .ref (a2 0)), (3, .int y2_3), (4, .int y46_4)]) hx hb dX10_setPrices_46 hl (by decide) rfl (fun ls hl => ?_)
              refine lv_aload_n hx hb dX10_setPrices_48 rfl (lv_at hl 1 rfl) ?_
              refine va_get (D := D) (ci := 10) (v := .ref (a0 1)) (C := RX10) (T := TX10) (N := 5) hx hb hts hinX10 hown hK hP 0 rfl rfl 0 (by decide) (hts (.fieldLink RX10 9 "WheelBook$Tree" "prices" "[I") (List.mem_of_getElem? (i := 2) rfl)) (fun _ h9 => h9) rfl dX10_setPrices_49 ?_
              refine lv_bipush (v := (6 : Int32)) hx hb dX10_setPrices_52 (by decide) ?_
              refine lv_iload_n hx hb dX10_setPrices_54 rfl (lv_at hl 4 rfl) ?_
              refine lv_imul hx hb dX10_setPrices_55 ?_
              refine lv_iload hx hb dX10_setPrices_56 (lv_at hl 5 rfl) ?_
              refine lv_iadd hx hb dX10_setPrices_58 ?_
              refine lv_iload hx hb dX10_setPrices_59 (lv_at hl 0 rfl) ?_
              refine lv_if_eq (tgt := 75) hx hb dX10_setPrices_61 (by decide) (fun hc => ?_) (fun hc => ?_)
              · replace hf := wb_t hc hf
                refine lv_iconst (v := (0 : Int32)) hx hb dX10_setPrices_75 (by decide) ?_
                obtain ⟨hin, hf⟩ := wb_n hf
                refine va_iast hx hb hK hP hD hS 1 1 rfl rfl hin dX10_setPrices_76 (fun H locs hP hD hS => ?_)
                have hP : va_P D vwCl ((wWX10 cB cI cZ a0 I0_j46 (wb_um M0_j46 0 ((((6 : Int32) * y2_3) + y46_4)).toNatClampNeg (0 : Int32))) ++ ((wWX4 cB cI cZ a1 I1 M1) ++ (wWX1 cB cI cZ a2 I2 M2))) H := hP
                have hD : va_D A ((wWX10 cB cI cZ a0 I0_j46 (wb_um M0_j46 0 ((((6 : Int32) * y2_3) + y46_4)).toNatClampNeg (0 : Int32))) ++ ((wWX4 cB cI cZ a1 I1 M1) ++ (wWX1 cB cI cZ a2 I2 M2))) := hD
                obtain ⟨M0_1, eM0_1, hf⟩ := wb_v hf
                rw [← eM0_1] at hP hD
                obtain ⟨v2, ev2, hf⟩ := wb_v hf
                refine lv_iinc (v := v2) (lv' := [(4, .int v2), (5, .int z46_0), (0, .ref (a0 0)), (1, .ref (a1 0)), (2, .ref (a2 0)), (3, .int y2_3)]) hx hb dX10_setPrices_77 hl (k := 5) rfl (by rw [ev2]; rfl) (by decide) rfl (fun ls hl => ?_)
                refine lv_goto (tgt := 11) hx hb dX10_setPrices_80 (by decide) ?_
                exact ih11 I0_j46 M0_1 v2 H locs hP hD hS ls (lv_sub hl [2, 3, 4, 5, 0] rfl) hf
              · replace hf := wb_f hc hf
                refine lv_aload_n hx hb dX10_setPrices_64 rfl (lv_at hl 2 rfl) ?_
                refine lv_aload_n hx hb dX10_setPrices_65 rfl (lv_at hl 3 rfl) ?_
                refine lv_iload_n hx hb dX10_setPrices_66 rfl (lv_at hl 4 rfl) ?_
                refine lv_iload hx hb dX10_setPrices_67 (lv_at hl 5 rfl) ?_
                obtain ⟨r3, hr3, hf⟩ := wb_b hf
                refine vp_callSi (W.runS (As := [.ref (a1 0), .ref (a2 0), .int y2_3, .int y46_4]) (rest := [.int (((6 : Int32) * y2_3) + y46_4), .ref (a0 1)]) ⟨hx, hb, hml, hown, hts⟩ (cn_X10_priceOf l D cB cI cZ N a1 I1 M1 a2 I2 M2 y2_3 y46_4 r3 hr3) (va_cwS 4 hts gX10_setPrices_X10_priceOf rfl rfl rfl csX10_priceOf ⟨Nat.le_of_ble_eq_true rfl, Nat.le_of_ble_eq_true rfl⟩) (wb_preS (hP.sub (ws' := ((wWX4 cB cI cZ a1 I1 M1) ++ (wWX1 cB cI cZ a2 I2 M2))) [4, 5, 6, 7, 8] rfl) hK) rfl rfl hl.1 rfl (lv_room (Nat.le_of_ble_eq_true rfl)) dX10_setPrices_69 ⟨Nat.le_of_ble_eq_true rfl, Nat.le_of_ble_eq_true rfl⟩) (fun r9 e9 => ?_)
                rw [e9]
                refine lv_goto (tgt := 76) hx hb dX10_setPrices_72 (by decide) ?_
                obtain ⟨hin, hf⟩ := wb_n hf
                refine va_iast hx hb hK hP hD hS 1 1 rfl rfl hin dX10_setPrices_76 (fun H locs hP hD hS => ?_)
                have hP : va_P D vwCl ((wWX10 cB cI cZ a0 I0_j46 (wb_um M0_j46 0 ((((6 : Int32) * y2_3) + y46_4)).toNatClampNeg r3)) ++ ((wWX4 cB cI cZ a1 I1 M1) ++ (wWX1 cB cI cZ a2 I2 M2))) H := hP
                have hD : va_D A ((wWX10 cB cI cZ a0 I0_j46 (wb_um M0_j46 0 ((((6 : Int32) * y2_3) + y46_4)).toNatClampNeg r3)) ++ ((wWX4 cB cI cZ a1 I1 M1) ++ (wWX1 cB cI cZ a2 I2 M2))) := hD
                obtain ⟨M0_4, eM0_4, hf⟩ := wb_v hf
                rw [← eM0_4] at hP hD
                obtain ⟨v5, ev5, hf⟩ := wb_v hf
                refine lv_iinc (v := v5) (lv' := [(4, .int v5), (5, .int z46_0), (0, .ref (a0 0)), (1, .ref (a1 0)), (2, .ref (a2 0)), (3, .int y2_3)]) hx hb dX10_setPrices_77 hl (k := 5) rfl (by rw [ev5]; rfl) (by decide) rfl (fun ls hl => ?_)
                refine lv_goto (tgt := 11) hx hb dX10_setPrices_80 (by decide) ?_
                exact ih11 I0_j46 M0_4 v5 H locs hP hD hS ls (lv_sub hl [2, 3, 4, 5, 0] rfl) hf
            have J45 : ∀ (I0_j45 : Nat → Int32) (M0_j45 : Nat → Nat → Int32) (y45_4 : Int32) (H : Heap) (locs : List Loc), va_P D vwCl ((wWX10 cB cI cZ a0 I0_j45 M0_j45) ++ ((wWX4 cB cI cZ a1 I1 M1) ++ (wWX1 cB cI cZ a2 I2 M2))) H → va_D A ((wWX10 cB cI cZ a0 I0_j45 M0_j45) ++ ((wWX4 cB cI cZ a1 I1 M1) ++ (wWX1 cB cI cZ a2 I2 M2))) → va_S A s.heap H locs → ∀ (ls : Array Slot), lv_has ls 6 [(0, .ref (a0 0)), (1, .ref (a1 0)), (2, .ref (a2 0)), (3, .int y2_3), (4, .int y45_4)] → fX10_setPrices_J45 N I1 M1 I2 M2 y2_3 (fX10_setPrices_L2 N I1 M1 I2 M2 fu2) (fX10_setPrices_L11 N I1 M1 I2 M2 y2_3 (fX10_setPrices_L2 N I1 M1 I2 M2 fu2) fu11) I0_j45 M0_j45 y45_4 = some R → W p l e (headSpec wsX10_setPrices { frames := 5, cells := 0, slots := 0, locals := 119 }).room s m [.ref (a0 0), .ref (a1 0), .ref (a2 0)].toArray below meth c H locs 0 0 (MQ below (va_Qv (fun _ : Unit => True) (fun _ t => wb_post D [(cB, .byte), (cI, .int), (cZ, .boolean)] A ((wWX10 cB cI cZ a0 R.1 R.2) ++ ((wWX4 cB cI cZ a1 I1 M1) ++ (wWX1 cB cI cZ a2 I2 M2))) t) A) [.ref (a0 0), .ref (a1 0), .ref (a2 0)].toArray s 0 0 A) (F0 m 45 ls []) := by
              intro I0_j45 M0_j45 y45_4 H locs hP hD hS ls hl hf
              unfold fX10_setPrices_J45 at hf
              refine lv_iconst (v := (0 : Int32)) hx hb dX10_setPrices_45 (by decide) ?_
              exact J46 I0_j45 M0_j45 y45_4 (0 : Int32) H locs hP hD hS ls (lv_sub hl [0, 1, 2, 3, 4] rfl) hf
            intro I0_l11 M0_l11 y11_4 H locs hP hD hS ls hl hf
            rw [fX10_setPrices_L11.eq_2] at hf
            refine lv_iload hx hb dX10_setPrices_11 (lv_at hl 4 rfl) ?_
            refine lv_bipush (v := (6 : Int32)) hx hb dX10_setPrices_13 (by decide) ?_
            refine lv_icmp_ge (tgt := 83) hx hb dX10_setPrices_15 (by decide) (fun hc => ?_) (fun hc => ?_)
            · replace hf := wb_t hc hf
              obtain ⟨v6, ev6, hf⟩ := wb_v hf
              refine lv_iinc (v := v6) (lv' := [(3, .int v6), (0, .ref (a0 0)), (1, .ref (a1 0)), (2, .ref (a2 0)), (4, .int y11_4)]) hx hb dX10_setPrices_83 hl (k := 3) rfl (by rw [ev6]; rfl) (by decide) rfl (fun ls hl => ?_)
              refine lv_goto (tgt := 2) hx hb dX10_setPrices_86 (by decide) ?_
              exact ih2 I0_l11 M0_l11 v6 H locs hP hD hS ls (lv_sub hl [1, 2, 3, 0] rfl) hf
            · replace hf := wb_f hc hf
              refine lv_aload_n hx hb dX10_setPrices_18 rfl (lv_at hl 0 rfl) ?_
              refine va_get (D := D) (ci := 10) (v := .ref (a0 2)) (C := RX10) (T := TX10) (N := 5) hx hb hts hinX10 hown hK hP 0 rfl rfl 1 (by decide) (hts (.fieldLink RX10 15 "WheelBook$Tree" "row" "[I") (List.mem_of_getElem? (i := 1) rfl)) (fun _ h9 => h9) rfl dX10_setPrices_19 ?_
              refine lv_iload_n hx hb dX10_setPrices_22 rfl (lv_at hl 3 rfl) ?_
              obtain ⟨hin, hf⟩ := wb_n hf
              refine va_iald hx hb hK hP 2 1 rfl rfl hin dX10_setPrices_23 ?_
              refine lv_bipush (v := (-3 : Int32)) hx hb dX10_setPrices_24 (by decide) ?_
              refine lv_icmp_ne (tgt := 45) hx hb dX10_setPrices_26 (by decide) (fun hc => ?_) (fun hc => ?_)
              · replace hf := wb_f hc hf
                exact J45 I0_l11 M0_l11 y11_4 H locs hP hD hS ls (lv_sub hl [0, 1, 2, 3, 4] rfl) hf
              · replace hf := wb_t hc hf
                refine lv_aload_n hx hb dX10_setPrices_29 rfl (lv_at hl 0 rfl) ?_
                refine va_get (D := D) (ci := 10) (v := .ref (a0 2)) (C := RX10) (T := TX10) (N := 5) hx hb hts hinX10 hown hK hP 0 rfl rfl 1 (by decide) (hts (.fieldLink RX10 15 "WheelBook$Tree" "row" "[I") (List.mem_of_getElem? (i := 1) rfl)) (fun _ h9 => h9) rfl dX10_setPrices_30 ?_
                refine lv_iload hx hb dX10_setPrices_33 (lv_at hl 4 rfl) ?_
                obtain ⟨hin, hf⟩ := wb_n hf
                refine va_iald hx hb hK hP 2 1 rfl rfl hin dX10_setPrices_35 ?_
                refine lv_bipush (v := (-3 : Int32)) hx hb dX10_setPrices_36 (by decide) ?_
                refine lv_icmp_ne (tgt := 45) hx hb dX10_setPrices_38 (by decide) (fun hc => ?_) (fun hc => ?_)
                · replace hf := wb_f hc hf
                  exact J45 I0_l11 M0_l11 y11_4 H locs hP hD hS ls (lv_sub hl [0, 1, 2, 3, 4] rfl) hf
                · replace hf := wb_t hc hf
                  refine lv_iconst (v := (1 : Int32)) hx hb dX10_setPrices_41 (by decide) ?_
                  refine lv_goto (tgt := 46) hx hb dX10_setPrices_42 (by decide) ?_
                  exact J46 I0_l11 M0_l11 y11_4 (1 : Int32) H locs hP hD hS ls (lv_sub hl [0, 1, 2, 3, 4] rfl) hf
        exact L11 N I0_l2 M0_l2 (0 : Int32) H locs hP hD hS ls (lv_sub hl [1, 2, 3, 4, 0] rfl) hf
  exact L2 N I0 M0 (0 : Int32) H locs hP hD hS ls (lv_sub hl [1, 2, 3, 0] rfl) hf

set_option maxHeartbeats 4000000 in
set_option maxRecDepth 100000 in
theorem cn_X10_comesFrom (l : Launch) (D : va_G) (cB cI cZ : ClassId) (N : Nat) (a0 : Nat → Nat) (I0 : Nat → Int32) (M0 : Nat → Nat → Int32) (x1 : Int32) (x2 : Int32) (R : Int32) (hf : fX10_comesFrom N I0 M0 x1 x2 = some R) : Met l yX10_comesFrom wsX10_comesFrom ({ frames := 0, cells := 0, slots := 0, locals := 0 }) (va_Pc [.ref (a0 0), .int x1, .int x2] (wb_pre D [(cB, .byte), (cI, .int), (cZ, .boolean)] (wWX10 cB cI cZ a0 I0 M0))) (vp_Si (fun r => r = R)) 0 0 (fun _ => False) := by
  refine Met.ofW (cc := cX10_comesFrom) (maxL := 5) (ret := (some .boolean)) pn_X10 rfl ?_
  intro p e s m args below meth c s₁ B hml hv
  obtain ⟨rfl, hP, hK⟩ := hv
  have hx := B.exec
  have hb := B.bytes
  have hr := B.returns
  have hts := atoms_spec (ws := wsX10_comesFrom) B.pre
  have hown : s.vm.findClass RX10 = some m.cls := (findClass_of_methodNamed B.named :)
  have hlocks := B.notSynchronized
  have hinX10 : ∀ w ∈ u_ws RX10 TX10 5, w ∈ wsX10_comesFrom := fun w h => List.mem_cons_of_mem _ (List.mem_append_right _ h)
  have hl := lv_entry ([.ref (a0 0), .int x1, .int x2]) (n := 5) (Nat.le_of_ble_eq_true rfl)
  rw [lg_entry_eq]
  generalize (lg_sl ([.ref (a0 0), .int x1, .int x2]) ++ List.replicate (5 - (lg_sl ([.ref (a0 0), .int x1, .int x2])).length) Slot.unset).toArray = ls at hl ⊢
  have hl : lv_has ls 5 [(0, .ref (a0 0)), (1, .int x1), (2, .int x2)] := hl
  unfold fX10_comesFrom at hf
  refine lv_iload_n hx hb dX10_comesFrom_0 rfl (lv_at hl 1 rfl) ?_
  refine lv_istore_n (lv' := [(3, .int x1), (0, .ref (a0 0)), (1, .int x1), (2, .int x2)]) hx hb dX10_comesFrom_1 rfl hl (by decide) rfl (fun ls hl => ?_)
  refine lv_iconst (v := (0 : Int32)) hx hb dX10_comesFrom_2 (by decide) ?_
  refine lv_istore (lv' := [(4, .int (0 : Int32)), (3, .int x1), (0, .ref (a0 0)), (1, .int x1), (2, .int x2)]) hx hb dX10_comesFrom_3 hl (by decide) rfl (fun ls hl => ?_)
  have L5 : ∀ (fu5 : Nat) (y5_3 : Int32) (y5_4 : Int32), ∀ (ls : Array Slot), lv_has ls 5 [(0, .ref (a0 0)), (2, .int x2), (3, .int y5_3), (4, .int y5_4)] → fX10_comesFrom_L5 N I0 M0 x1 x2 fu5 y5_3 y5_4 = some R → W p l e (headSpec wsX10_comesFrom { frames := 0, cells := 0, slots := 0, locals := 0 }).room s m [.ref (a0 0), .int x1, .int x2].toArray below meth c s.heap [] 0 0 (MQ below (vp_Si (fun r => r = R)) [.ref (a0 0), .int x1, .int x2].toArray s 0 0 (fun _ => False)) (F0 m 5 ls []) := by
    intro fu5
    induction fu5 with
    | zero =>
      intro y5_3 y5_4 ls hl hf
      exact absurd hf (by rw [fX10_comesFrom_L5.eq_1]; exact fun h => nomatch h)
    | succ fu5 ih5 =>
      intro y5_3 y5_4 ls hl hf
      rw [fX10_comesFrom_L5.eq_2] at hf
      refine lv_iload hx hb dX10_comesFrom_5 (lv_at hl 3 rfl) ?_
      refine lv_bipush (v := (6 : Int32)) hx hb dX10_comesFrom_7 (by decide) ?_
      refine lv_icmp_ge (tgt := 36) hx hb dX10_comesFrom_9 (by decide) (fun hc => ?_) (fun hc => ?_)
      · replace hf := wb_t hc hf
        refine lv_iconst (v := (0 : Int32)) hx hb dX10_comesFrom_36 (by decide) ?_
        exact W.zret (v := (0 : Int32)) hx hb hr (by decide) (fun t ht hW => ⟨_, rfl, Option.some.inj hf, ht⟩) (fun _ h => nomatch h) dX10_comesFrom_37
      · replace hf := wb_f hc hf
        refine lv_iload_n hx hb dX10_comesFrom_12 rfl (lv_at hl 2 rfl) ?_
        refine lv_if_lt (tgt := 36) hx hb dX10_comesFrom_13 (by decide) (fun hc => ?_) (fun hc => ?_)
        · replace hf := wb_t hc hf
          refine lv_iconst (v := (0 : Int32)) hx hb dX10_comesFrom_36 (by decide) ?_
          exact W.zret (v := (0 : Int32)) hx hb hr (by decide) (fun t ht hW => ⟨_, rfl, Option.some.inj hf, ht⟩) (fun _ h => nomatch h) dX10_comesFrom_37
        · replace hf := wb_f hc hf
          refine lv_iload_n hx hb dX10_comesFrom_16 rfl (lv_at hl 2 rfl) ?_
          refine lv_iload_n hx hb dX10_comesFrom_17 rfl (lv_at hl 1 rfl) ?_
          refine lv_icmp_ne (tgt := 23) hx hb dX10_comesFrom_18 (by decide) (fun hc => ?_) (fun hc => ?_)
          · replace hf := wb_f hc hf
            refine lv_aload_n hx hb dX10_comesFrom_23 rfl (lv_at hl 0 rfl) ?_
            refine va_get (D := D) (ci := 10) (v := .ref (a0 2)) (C := RX10) (T := TX10) (N := 5) hx hb hts hinX10 hown hK hP 0 rfl rfl 1 (by decide) (hts (.fieldLink RX10 15 "WheelBook$Tree" "row" "[I") (List.mem_of_getElem? (i := 1) rfl)) (fun _ h9 => h9) rfl dX10_comesFrom_24 ?_
            refine lv_iload_n hx hb dX10_comesFrom_27 rfl (lv_at hl 2 rfl) ?_
            obtain ⟨hin, hf⟩ := wb_n hf
            refine va_iald hx hb hK hP 2 1 rfl rfl hin dX10_comesFrom_28 ?_
            obtain ⟨v1, ev1, hf⟩ := wb_v hf
            refine wb_topi ev1 ?_
            refine lv_istore_n (lv' := [(3, .int v1), (0, .ref (a0 0)), (2, .int x2), (4, .int y5_4)]) hx hb dX10_comesFrom_29 rfl hl (by decide) rfl (fun ls hl => ?_)
            obtain ⟨v2, ev2, hf⟩ := wb_v hf
            refine lv_iinc (v := v2) (lv' := [(4, .int v2), (3, .int v1), (0, .ref (a0 0)), (2, .int x2)]) hx hb dX10_comesFrom_30 hl (k := 3) rfl (by rw [ev2]; rfl) (by decide) rfl (fun ls hl => ?_)
            refine lv_goto (tgt := 5) hx hb dX10_comesFrom_33 (by decide) ?_
            exact ih5 v1 v2 ls (lv_sub hl [2, 3, 1, 0] rfl) hf
          · replace hf := wb_t hc hf
            refine lv_iconst (v := (1 : Int32)) hx hb dX10_comesFrom_21 (by decide) ?_
            exact W.zret (v := (1 : Int32)) hx hb hr (by decide) (fun t ht hW => ⟨_, rfl, Option.some.inj hf, ht⟩) (fun _ h => nomatch h) dX10_comesFrom_22
  exact L5 N x1 (0 : Int32) ls (lv_sub hl [2, 4, 1, 0] rfl) hf

set_option maxHeartbeats 4000000 in
set_option maxRecDepth 100000 in
theorem cn_X10_choose_d1 (l : Launch) (D : va_G) (cB cI cZ : ClassId) (N : Nat) (a0 : Nat → Nat) (I0 : Nat → Int32) (M0 : Nat → Nat → Int32) (x1 : Int32) (x2 : Int32) (x3 : Int32) (sz : Nat) (R : (Nat → Int32) × (Nat → Nat → Int32)) (hf : fX10_choose_d1 N I0 M0 x1 x2 x3 = some R) : Met l yX10_choose wsX10_choose ({ frames := 1, cells := 0, slots := 0, locals := 80 }) (va_Pc [.ref (a0 0), .int x1, .int x2, .int x3] (wb_preD D [(cB, .byte), (cI, .int), (cZ, .boolean)] (wWX10 cB cI cZ a0 I0 M0) sz)) (va_Qv (fun _ : Unit => True) (fun _ t => wb_post D [(cB, .byte), (cI, .int), (cZ, .boolean)] (va_A (wWX10 cB cI cZ a0 I0 M0) sz) (wWX10 cB cI cZ a0 R.1 R.2) t) (va_A (wWX10 cB cI cZ a0 I0 M0) sz)) 0 0 (va_A (wWX10 cB cI cZ a0 I0 M0) sz) := by
  refine Met.ofW (cc := cX10_choose) (maxL := 5) (ret := none) pn_X10 rfl ?_
  intro p e s m args below meth c s₁ B hml hv
  obtain ⟨rfl, hsz, hP, hK, hD0⟩ := hv
  have hx := B.exec
  have hb := B.bytes
  have hr := B.returns
  have hts := atoms_spec (ws := wsX10_choose) B.pre
  have hown : s.vm.findClass RX10 = some m.cls := (findClass_of_methodNamed B.named :)
  have hlocks := B.notSynchronized
  have hinX10 : ∀ w ∈ u_ws RX10 TX10 5, w ∈ wsX10_choose := fun w h => List.mem_cons_of_mem _ (List.mem_append_right _ h)
  subst hsz
  have hD := hD0.self (sz := s.heap.size)
  generalize hAe : va_A (wWX10 cB cI cZ a0 I0 M0) s.heap.size = A at hD ⊢
  have hA : ∀ q : Nat, s.heap.size ≤ q → A q := fun q h => by rw [← hAe]; exact Or.inr h
  have hS : va_S A s.heap s.heap [] := va_S.rf
  have hl := lv_entry ([.ref (a0 0), .int x1, .int x2, .int x3]) (n := 5) (Nat.le_of_ble_eq_true rfl)
  rw [lg_entry_eq]
  generalize (lg_sl ([.ref (a0 0), .int x1, .int x2, .int x3]) ++ List.replicate (5 - (lg_sl ([.ref (a0 0), .int x1, .int x2, .int x3])).length) Slot.unset).toArray = ls at hl ⊢
  have hl : lv_has ls 5 [(0, .ref (a0 0)), (1, .int x1), (2, .int x2), (3, .int x3)] := hl
  unfold fX10_choose_d1 at hf
  obtain ⟨H, hHe⟩ : ∃ H : Heap, H = s.heap := ⟨_, rfl⟩
  obtain ⟨locs, hle⟩ : ∃ locs : List Loc, locs = [] := ⟨_, rfl⟩
  refine wb_start (H := H) (locs := locs) hHe hle ?_
  rw [← hHe] at hP
  have hS : va_S A s.heap H locs := by rw [hHe, hle]; exact va_S.rf
  have J77 : ∀ (I0_j77 : Nat → Int32) (M0_j77 : Nat → Nat → Int32) (H : Heap) (locs : List Loc), va_P D vwCl (wWX10 cB cI cZ a0 I0_j77 M0_j77) H → va_D A (wWX10 cB cI cZ a0 I0_j77 M0_j77) → va_S A s.heap H locs → ∀ (ls : Array Slot), lv_has ls 5 [(0, .ref (a0 0)), (1, .int x1), (2, .int x2), (3, .int x3)] → fX10_choose_d1_J77 N x1 x2 x3 I0_j77 M0_j77 = some R → W p l e (headSpec wsX10_choose { frames := 1, cells := 0, slots := 0, locals := 80 }).room s m [.ref (a0 0), .int x1, .int x2, .int x3].toArray below meth c H locs 0 0 (MQ below (va_Qv (fun _ : Unit => True) (fun _ t => wb_post D [(cB, .byte), (cI, .int), (cZ, .boolean)] A (wWX10 cB cI cZ a0 R.1 R.2) t) A) [.ref (a0 0), .int x1, .int x2, .int x3].toArray s 0 0 A) (F0 m 77 ls []) := by
    intro I0_j77 M0_j77 H locs hP hD hS ls hl hf
    unfold fX10_choose_d1_J77 at hf
    refine lv_iconst (v := (0 : Int32)) hx hb dX10_choose_77 (by decide) ?_
    refine lv_istore (lv' := [(4, .int (0 : Int32)), (0, .ref (a0 0)), (1, .int x1), (2, .int x2), (3, .int x3)]) hx hb dX10_choose_78 hl (by decide) rfl (fun ls hl => ?_)
    have L80 : ∀ (fu80 : Nat) (I0_l80 : Nat → Int32) (M0_l80 : Nat → Nat → Int32) (y80_4 : Int32) (H : Heap) (locs : List Loc), va_P D vwCl (wWX10 cB cI cZ a0 I0_l80 M0_l80) H → va_D A (wWX10 cB cI cZ a0 I0_l80 M0_l80) → va_S A s.heap H locs → ∀ (ls : Array Slot), lv_has ls 5 [(0, .ref (a0 0)), (1, .int x1), (2, .int x2), (3, .int x3), (4, .int y80_4)] → fX10_choose_d1_L80 N x1 x2 x3 fu80 I0_l80 M0_l80 y80_4 = some R → W p l e (headSpec wsX10_choose { frames := 1, cells := 0, slots := 0, locals := 80 }).room s m [.ref (a0 0), .int x1, .int x2, .int x3].toArray below meth c H locs 0 0 (MQ below (va_Qv (fun _ : Unit => True) (fun _ t => wb_post D [(cB, .byte), (cI, .int), (cZ, .boolean)] A (wWX10 cB cI cZ a0 R.1 R.2) t) A) [.ref (a0 0), .int x1, .int x2, .int x3].toArray s 0 0 A) (F0 m 80 ls []) := by
      intro fu80
      induction fu80 with
      | zero =>
        intro I0_l80 M0_l80 y80_4 H locs hP hD hS ls hl hf
        exact absurd hf (by rw [fX10_choose_d1_L80.eq_1]; exact fun h => nomatch h)
      | succ fu80 ih80 =>
        intro I0_l80 M0_l80 y80_4 H locs hP hD hS ls hl hf
        rw [fX10_choose_d1_L80.eq_2] at hf
        refine lv_iload hx hb dX10_choose_80 (lv_at hl 4 rfl) ?_
        refine lv_bipush (v := (6 : Int32)) hx hb dX10_choose_82 (by decide) ?_
        refine lv_icmp_ge (tgt := 153) hx hb dX10_choose_84 (by decide) (fun hc => ?_) (fun hc => ?_)
        · replace hf := wb_t hc hf
          refine lv_aload_n hx hb dX10_choose_153 rfl (lv_at hl 0 rfl) ?_
          refine va_get (D := D) (ci := 10) (v := .ref (a0 2)) (C := RX10) (T := TX10) (N := 5) hx hb hts hinX10 hown hK hP 0 rfl rfl 1 (by decide) (hts (.fieldLink RX10 15 "WheelBook$Tree" "row" "[I") (List.mem_of_getElem? (i := 2) rfl)) (fun _ h9 => h9) rfl dX10_choose_154 ?_
          refine lv_iload_n hx hb dX10_choose_157 rfl (lv_at hl 1 rfl) ?_
          refine lv_bipush (v := (-3 : Int32)) hx hb dX10_choose_158 (by decide) ?_
          obtain ⟨hin, hf⟩ := wb_n hf
          refine va_iast hx hb hK hP hD hS 2 1 rfl rfl hin dX10_choose_160 (fun H locs hP hD hS => ?_)
          have hP : va_P D vwCl (wWX10 cB cI cZ a0 I0_l80 (wb_um M0_l80 1 (x1).toNatClampNeg (-3 : Int32))) H := hP
          have hD : va_D A (wWX10 cB cI cZ a0 I0_l80 (wb_um M0_l80 1 (x1).toNatClampNeg (-3 : Int32))) := hD
          obtain ⟨M0_1, eM0_1, hf⟩ := wb_v hf
          rw [← eM0_1] at hP hD
          exact W.vret hx hb hr (fun t ht hW => by rw [← Option.some.inj hf]; exact ⟨⟨(), rfl, trivial, by rw [ht]; exact hP, va_K.moved hW.alike hK, hD⟩, hS.F ht⟩) hS.2.2 dX10_choose_161
        · replace hf := wb_f hc hf
          refine lv_aload_n hx hb dX10_choose_87 rfl (lv_at hl 0 rfl) ?_
          refine va_get (D := D) (ci := 10) (v := .ref (a0 2)) (C := RX10) (T := TX10) (N := 5) hx hb hts hinX10 hown hK hP 0 rfl rfl 1 (by decide) (hts (.fieldLink RX10 15 "WheelBook$Tree" "row" "[I") (List.mem_of_getElem? (i := 2) rfl)) (fun _ h9 => h9) rfl dX10_choose_88 ?_
          refine lv_iload_n hx hb dX10_choose_91 rfl (lv_at hl 1 rfl) ?_
          refine lv_bipush (v := (-3 : Int32)) hx hb dX10_choose_92 (by decide) ?_
          obtain ⟨hin, hf⟩ := wb_n hf
          refine va_iast hx hb hK hP hD hS 2 1 rfl rfl hin dX10_choose_94 (fun H locs hP hD hS => ?_)
          have hP : va_P D vwCl (wWX10 cB cI cZ a0 I0_l80 (wb_um M0_l80 1 (x1).toNatClampNeg (-3 : Int32))) H := hP
          have hD : va_D A (wWX10 cB cI cZ a0 I0_l80 (wb_um M0_l80 1 (x1).toNatClampNeg (-3 : Int32))) := hD
          obtain ⟨M0_2, eM0_2, hf⟩ := wb_v hf
          rw [← eM0_2] at hP hD
          refine lv_aload_n hx hb dX10_choose_95 rfl (lv_at hl 0 rfl) ?_
          refine va_get (D := D) (ci := 10) (v := .ref (a0 2)) (C := RX10) (T := TX10) (N := 5) hx hb hts hinX10 hown hK hP 0 rfl rfl 1 (by decide) (hts (.fieldLink RX10 15 "WheelBook$Tree" "row" "[I") (List.mem_of_getElem? (i := 2) rfl)) (fun _ h9 => h9) rfl dX10_choose_96 ?_
          refine lv_iload hx hb dX10_choose_99 (lv_at hl 4 rfl) ?_
          obtain ⟨hin, hf⟩ := wb_n hf
          refine va_iald hx hb hK hP 2 1 rfl rfl hin dX10_choose_101 ?_
          refine lv_bipush (v := (-2 : Int32)) hx hb dX10_choose_102 (by decide) ?_
          refine lv_icmp_eq (tgt := 147) hx hb dX10_choose_104 (by decide) (fun hc => ?_) (fun hc => ?_)
          · replace hf := wb_t hc hf
            obtain ⟨v3, ev3, hf⟩ := wb_v hf
            refine lv_iinc (v := v3) (lv' := [(4, .int v3), (0, .ref (a0 0)), (1, .int x1), (2, .int x2), (3, .int x3)]) hx hb dX10_choose_147 hl (k := 4) rfl (by rw [ev3]; rfl) (by decide) rfl (fun ls hl => ?_)
            refine lv_goto (tgt := 80) hx hb dX10_choose_150 (by decide) ?_
            exact ih80 I0_l80 M0_2 v3 H locs hP hD hS ls (lv_sub hl [1, 2, 3, 4, 0] rfl) hf
          · replace hf := wb_f hc hf
            refine lv_aload_n hx hb dX10_choose_107 rfl (lv_at hl 0 rfl) ?_
            refine lv_iload hx hb dX10_choose_108 (lv_at hl 4 rfl) ?_
            refine lv_iload_n hx hb dX10_choose_110 rfl (lv_at hl 1 rfl) ?_
            obtain ⟨r4, hr4, hf⟩ := wb_b hf
            refine vp_callSi (W.runV (As := [.int y80_4, .int x1]) (rest := []) ⟨hx, hb, hml, hown, hts⟩ (cn_X10_comesFrom l D cB cI cZ N a0 I0_l80 M0_2 y80_4 x1 r4 hr4) (cwV 2 hts gX10_choose_X10_comesFrom rfl rfl rfl cdX10_comesFrom ⟨Nat.le_of_ble_eq_true rfl, Nat.le_of_ble_eq_true rfl⟩) (wb_preV hP hK (wr_10 hK hP (q0 := 0) rfl)) rfl rfl hl.1 rfl (lv_room (Nat.le_of_ble_eq_true rfl)) dX10_choose_111 ⟨Nat.le_of_ble_eq_true rfl, Nat.le_of_ble_eq_true rfl⟩) (fun r9 e9 => ?_)
            rw [e9]
            refine lv_if_ne (tgt := 147) hx hb dX10_choose_114 (by decide) (fun hc => ?_) (fun hc => ?_)
            · replace hf := wb_f hc hf
              obtain ⟨v5, ev5, hf⟩ := wb_v hf
              refine lv_iinc (v := v5) (lv' := [(4, .int v5), (0, .ref (a0 0)), (1, .int x1), (2, .int x2), (3, .int x3)]) hx hb dX10_choose_147 hl (k := 4) rfl (by rw [ev5]; rfl) (by decide) rfl (fun ls hl => ?_)
              refine lv_goto (tgt := 80) hx hb dX10_choose_150 (by decide) ?_
              exact ih80 I0_l80 M0_2 v5 H locs hP hD hS ls (lv_sub hl [1, 2, 3, 4, 0] rfl) hf
            · replace hf := wb_t hc hf
              refine lv_aload_n hx hb dX10_choose_117 rfl (lv_at hl 0 rfl) ?_
              refine va_get (D := D) (ci := 10) (v := .ref (a0 2)) (C := RX10) (T := TX10) (N := 5) hx hb hts hinX10 hown hK hP 0 rfl rfl 1 (by decide) (hts (.fieldLink RX10 15 "WheelBook$Tree" "row" "[I") (List.mem_of_getElem? (i := 2) rfl)) (fun _ h9 => h9) rfl dX10_choose_118 ?_
              refine lv_iload_n hx hb dX10_choose_121 rfl (lv_at hl 1 rfl) ?_
              refine lv_iload hx hb dX10_choose_122 (lv_at hl 4 rfl) ?_
              obtain ⟨hin, hf⟩ := wb_n hf
              refine va_iast hx hb hK hP hD hS 2 1 rfl rfl hin dX10_choose_124 (fun H locs hP hD hS => ?_)
              have hP : va_P D vwCl (wWX10 cB cI cZ a0 I0_l80 (wb_um M0_2 1 (x1).toNatClampNeg y80_4)) H := hP
              have hD : va_D A (wWX10 cB cI cZ a0 I0_l80 (wb_um M0_2 1 (x1).toNatClampNeg y80_4)) := hD
              obtain ⟨M0_6, eM0_6, hf⟩ := wb_v hf
              rw [← eM0_6] at hP hD
              refine lv_aload_n hx hb dX10_choose_125 rfl (lv_at hl 0 rfl) ?_
              refine lv_iload_n hx hb dX10_choose_126 rfl (lv_at hl 1 rfl) ?_
              refine lv_iconst (v := (1 : Int32)) hx hb dX10_choose_127 (by decide) ?_
              refine lv_iadd hx hb dX10_choose_128 ?_
              refine lv_iload_n hx hb dX10_choose_129 rfl (lv_at hl 2 rfl) ?_
              refine lv_aload_n hx hb dX10_choose_130 rfl (lv_at hl 0 rfl) ?_
              refine va_get (D := D) (ci := 10) (v := .ref (a0 1)) (C := RX10) (T := TX10) (N := 5) hx hb hts hinX10 hown hK hP 0 rfl rfl 0 (by decide) (hts (.fieldLink RX10 9 "WheelBook$Tree" "prices" "[I") (List.mem_of_getElem? (i := 8) rfl)) (fun _ h9 => h9) rfl dX10_choose_131 ?_
              refine lv_bipush (v := (6 : Int32)) hx hb dX10_choose_134 (by decide) ?_
              refine lv_iload hx hb dX10_choose_136 (lv_at hl 4 rfl) ?_
              refine lv_imul hx hb dX10_choose_138 ?_
              refine lv_iload_n hx hb dX10_choose_139 rfl (lv_at hl 1 rfl) ?_
              refine lv_iadd hx hb dX10_choose_140 ?_
              obtain ⟨hin, hf⟩ := wb_n hf
              refine va_iald hx hb hK hP 1 1 rfl rfl hin dX10_choose_141 ?_
              refine lv_iadd hx hb dX10_choose_142 ?_
              refine lv_iload_n hx hb dX10_choose_143 rfl (lv_at hl 3 rfl) ?_
              cases hf
    exact L80 N I0_j77 M0_j77 (0 : Int32) H locs hP hD hS ls (lv_sub hl [1, 2, 3, 4, 0] rfl) hf
  refine lv_iload_n hx hb dX10_choose_0 rfl (lv_at hl 2 rfl) ?_
  refine lv_aload_n hx hb dX10_choose_1 rfl (lv_at hl 0 rfl) ?_
  refine va_get (D := D) (ci := 10) (v := .int (I0 0)) (C := RX10) (T := TX10) (N := 5) hx hb hts hinX10 hown hK hP 0 rfl rfl 3 (by decide) (hts (.fieldLink RX10 45 "WheelBook$Tree" "least" "I") (List.mem_of_getElem? (i := 1) rfl)) (fun _ h9 => h9) rfl dX10_choose_2 ?_
  refine lv_icmp_lt (tgt := 9) hx hb dX10_choose_5 (by decide) (fun hc => ?_) (fun hc => ?_)
  · replace hf := wb_t hc hf
    refine lv_iload_n hx hb dX10_choose_9 rfl (lv_at hl 1 rfl) ?_
    refine lv_bipush (v := (6 : Int32)) hx hb dX10_choose_10 (by decide) ?_
    refine lv_icmp_lt (tgt := 36) hx hb dX10_choose_12 (by decide) (fun hc => ?_) (fun hc => ?_)
    · replace hf := wb_t hc hf
      refine lv_aload_n hx hb dX10_choose_36 rfl (lv_at hl 0 rfl) ?_
      refine va_get (D := D) (ci := 10) (v := .ref (a0 2)) (C := RX10) (T := TX10) (N := 5) hx hb hts hinX10 hown hK hP 0 rfl rfl 1 (by decide) (hts (.fieldLink RX10 15 "WheelBook$Tree" "row" "[I") (List.mem_of_getElem? (i := 2) rfl)) (fun _ h9 => h9) rfl dX10_choose_37 ?_
      refine lv_iload_n hx hb dX10_choose_40 rfl (lv_at hl 1 rfl) ?_
      obtain ⟨hin, hf⟩ := wb_n hf
      refine va_iald hx hb hK hP 2 1 rfl rfl hin dX10_choose_41 ?_
      refine lv_bipush (v := (-2 : Int32)) hx hb dX10_choose_42 (by decide) ?_
      refine lv_icmp_ne (tgt := 57) hx hb dX10_choose_44 (by decide) (fun hc => ?_) (fun hc => ?_)
      · replace hf := wb_f hc hf
        refine lv_iload_n hx hb dX10_choose_57 rfl (lv_at hl 3 rfl) ?_
        refine lv_if_ne (tgt := 77) hx hb dX10_choose_58 (by decide) (fun hc => ?_) (fun hc => ?_)
        · replace hf := wb_f hc hf
          exact J77 I0 M0 H locs hP hD hS ls (lv_sub hl [0, 1, 2, 3] rfl) hf
        · replace hf := wb_t hc hf
          refine lv_aload_n hx hb dX10_choose_61 rfl (lv_at hl 0 rfl) ?_
          refine va_get (D := D) (ci := 10) (v := .ref (a0 2)) (C := RX10) (T := TX10) (N := 5) hx hb hts hinX10 hown hK hP 0 rfl rfl 1 (by decide) (hts (.fieldLink RX10 15 "WheelBook$Tree" "row" "[I") (List.mem_of_getElem? (i := 2) rfl)) (fun _ h9 => h9) rfl dX10_choose_62 ?_
          refine lv_iload_n hx hb dX10_choose_65 rfl (lv_at hl 1 rfl) ?_
          refine lv_iconst (v := (-1 : Int32)) hx hb dX10_choose_66 (by decide) ?_
          obtain ⟨hin, hf⟩ := wb_n hf
          refine va_iast hx hb hK hP hD hS 2 1 rfl rfl hin dX10_choose_67 (fun H locs hP hD hS => ?_)
          have hP : va_P D vwCl (wWX10 cB cI cZ a0 I0 (wb_um M0 1 (x1).toNatClampNeg (-1 : Int32))) H := hP
          have hD : va_D A (wWX10 cB cI cZ a0 I0 (wb_um M0 1 (x1).toNatClampNeg (-1 : Int32))) := hD
          obtain ⟨M0_7, eM0_7, hf⟩ := wb_v hf
          rw [← eM0_7] at hP hD
          refine lv_aload_n hx hb dX10_choose_68 rfl (lv_at hl 0 rfl) ?_
          refine lv_iload_n hx hb dX10_choose_69 rfl (lv_at hl 1 rfl) ?_
          refine lv_iconst (v := (1 : Int32)) hx hb dX10_choose_70 (by decide) ?_
          refine lv_iadd hx hb dX10_choose_71 ?_
          refine lv_iload_n hx hb dX10_choose_72 rfl (lv_at hl 2 rfl) ?_
          refine lv_iconst (v := (1 : Int32)) hx hb dX10_choose_73 (by decide) ?_
          cases hf
      · replace hf := wb_t hc hf
        refine lv_aload_n hx hb dX10_choose_47 rfl (lv_at hl 0 rfl) ?_
        refine lv_iload_n hx hb dX10_choose_48 rfl (lv_at hl 1 rfl) ?_
        refine lv_iconst (v := (1 : Int32)) hx hb dX10_choose_49 (by decide) ?_
        refine lv_iadd hx hb dX10_choose_50 ?_
        refine lv_iload_n hx hb dX10_choose_51 rfl (lv_at hl 2 rfl) ?_
        refine lv_iload_n hx hb dX10_choose_52 rfl (lv_at hl 3 rfl) ?_
        cases hf
    · replace hf := wb_f hc hf
      refine lv_aload_n hx hb dX10_choose_15 rfl (lv_at hl 0 rfl) ?_
      refine lv_iload_n hx hb dX10_choose_16 rfl (lv_at hl 2 rfl) ?_
      refine va_put (D := D) (ci := 10) (v := .int x2) (ty := .int) (C := RX10) (T := TX10) (N := 5) hx hb hts hinX10 tyX10 tyX10_ok nmX10 hown hK hP hD hS 0 rfl rfl 3 (by decide) (hts (.fieldLink RX10 45 "WheelBook$Tree" "least" "I") (List.mem_of_getElem? (i := 1) rfl)) (fun _ h9 => h9) rfl (by decide +kernel) rfl rfl (Nat.le_of_ble_eq_true rfl) dX10_choose_17 (fun H locs hP hD hS => ?_)
      have hP : va_P D vwCl (wWX10 cB cI cZ a0 (upd I0 0 x2) M0) H := hP
      have hD : va_D A (wWX10 cB cI cZ a0 (upd I0 0 x2) M0) := hD
      obtain ⟨I0_8, eI0_8, hf⟩ := wb_v hf
      rw [← eI0_8] at hP hD
      refine lv_aload_n hx hb dX10_choose_20 rfl (lv_at hl 0 rfl) ?_
      refine va_get (D := D) (ci := 10) (v := .ref (a0 2)) (C := RX10) (T := TX10) (N := 5) hx hb hts hinX10 hown hK hP 0 rfl rfl 1 (by decide) (hts (.fieldLink RX10 15 "WheelBook$Tree" "row" "[I") (List.mem_of_getElem? (i := 2) rfl)) (fun _ h9 => h9) rfl dX10_choose_21 ?_
      refine lv_iconst (v := (0 : Int32)) hx hb dX10_choose_24 (by decide) ?_
      refine lv_aload_n hx hb dX10_choose_25 rfl (lv_at hl 0 rfl) ?_
      refine va_get (D := D) (ci := 10) (v := .ref (a0 3)) (C := RX10) (T := TX10) (N := 5) hx hb hts hinX10 hown hK hP 0 rfl rfl 2 (by decide) (hts (.fieldLink RX10 18 "WheelBook$Tree" "bestRow" "[I") (List.mem_of_getElem? (i := 3) rfl)) (fun _ h9 => h9) rfl dX10_choose_26 ?_
      refine lv_iconst (v := (0 : Int32)) hx hb dX10_choose_29 (by decide) ?_
      refine lv_bipush (v := (6 : Int32)) hx hb dX10_choose_30 (by decide) ?_
      obtain ⟨hcp, hf⟩ := wb_n hf
      obtain ⟨hcp1, hcp2, hcp3, hcp4, hcp5⟩ := wb_cp hcp
      refine va_copyi hx hb (hml.trans hl.1.symm) hown (hts (.methodLink RX10 57 arraycopyName) (List.mem_of_getElem? (i := 4) rfl)) (hts (.native arraycopyName) (List.mem_of_getElem? (i := 5) rfl)) (hts (.static arraycopyName) (List.mem_of_getElem? (i := 6) rfl)) (hts (.initialized "java/lang/System") (List.mem_of_getElem? (i := 7) rfl)) hK hP hD hS 2 3 1 1 rfl rfl rfl rfl rfl hcp1 hcp2 hcp3 hcp4 hcp5 (fun _ _ => rfl) (Nat.le_of_ble_eq_true rfl) (by decide +kernel) dX10_choose_32 (fun H locs hP hD hS => ?_)
      have hP : va_P D vwCl (wWX10 cB cI cZ a0 I0_8 (wb_mm M0 2 (va_cpy (M0 1) (M0 2) ((0 : Int32)).toNatClampNeg ((0 : Int32)).toNatClampNeg ((6 : Int32)).toNatClampNeg))) H := hP
      have hD : va_D A (wWX10 cB cI cZ a0 I0_8 (wb_mm M0 2 (va_cpy (M0 1) (M0 2) ((0 : Int32)).toNatClampNeg ((0 : Int32)).toNatClampNeg ((6 : Int32)).toNatClampNeg))) := hD
      obtain ⟨M0_9, eM0_9, hf⟩ := wb_v hf
      rw [← eM0_9] at hP hD
      exact W.vret hx hb hr (fun t ht hW => by rw [← Option.some.inj hf]; exact ⟨⟨(), rfl, trivial, by rw [ht]; exact hP, va_K.moved hW.alike hK, hD⟩, hS.F ht⟩) hS.2.2 dX10_choose_35
  · replace hf := wb_f hc hf
    exact W.vret hx hb hr (fun t ht hW => by rw [← Option.some.inj hf]; exact ⟨⟨(), rfl, trivial, by rw [ht]; exact hP, va_K.moved hW.alike hK, hD⟩, hS.F ht⟩) hS.2.2 dX10_choose_8

set_option maxHeartbeats 4000000 in
set_option maxRecDepth 100000 in
theorem cn_X10_choose_d2 (l : Launch) (D : va_G) (cB cI cZ : ClassId) (N : Nat) (a0 : Nat → Nat) (I0 : Nat → Int32) (M0 : Nat → Nat → Int32) (x1 : Int32) (x2 : Int32) (x3 : Int32) (sz : Nat) (R : (Nat → Int32) × (Nat → Nat → Int32)) (hf : fX10_choose_d2 N I0 M0 x1 x2 x3 = some R) : Met l yX10_choose wsX10_choose ({ frames := 2, cells := 0, slots := 0, locals := 104 }) (va_Pc [.ref (a0 0), .int x1, .int x2, .int x3] (wb_preD D [(cB, .byte), (cI, .int), (cZ, .boolean)] (wWX10 cB cI cZ a0 I0 M0) sz)) (va_Qv (fun _ : Unit => True) (fun _ t => wb_post D [(cB, .byte), (cI, .int), (cZ, .boolean)] (va_A (wWX10 cB cI cZ a0 I0 M0) sz) (wWX10 cB cI cZ a0 R.1 R.2) t) (va_A (wWX10 cB cI cZ a0 I0 M0) sz)) 0 0 (va_A (wWX10 cB cI cZ a0 I0 M0) sz) := by
  refine Met.ofW (cc := cX10_choose) (maxL := 5) (ret := none) pn_X10 rfl ?_
  intro p e s m args below meth c s₁ B hml hv
  obtain ⟨rfl, hsz, hP, hK, hD0⟩ := hv
  have hx := B.exec
  have hb := B.bytes
  have hr := B.returns
  have hts := atoms_spec (ws := wsX10_choose) B.pre
  have hown : s.vm.findClass RX10 = some m.cls := (findClass_of_methodNamed B.named :)
  have hlocks := B.notSynchronized
  have hinX10 : ∀ w ∈ u_ws RX10 TX10 5, w ∈ wsX10_choose := fun w h => List.mem_cons_of_mem _ (List.mem_append_right _ h)
  subst hsz
  have hD := hD0.self (sz := s.heap.size)
  generalize hAe : va_A (wWX10 cB cI cZ a0 I0 M0) s.heap.size = A at hD ⊢
  have hA : ∀ q : Nat, s.heap.size ≤ q → A q := fun q h => by rw [← hAe]; exact Or.inr h
  have hS : va_S A s.heap s.heap [] := va_S.rf
  have hl := lv_entry ([.ref (a0 0), .int x1, .int x2, .int x3]) (n := 5) (Nat.le_of_ble_eq_true rfl)
  rw [lg_entry_eq]
  generalize (lg_sl ([.ref (a0 0), .int x1, .int x2, .int x3]) ++ List.replicate (5 - (lg_sl ([.ref (a0 0), .int x1, .int x2, .int x3])).length) Slot.unset).toArray = ls at hl ⊢
  have hl : lv_has ls 5 [(0, .ref (a0 0)), (1, .int x1), (2, .int x2), (3, .int x3)] := hl
  unfold fX10_choose_d2 at hf
  obtain ⟨H, hHe⟩ : ∃ H : Heap, H = s.heap := ⟨_, rfl⟩
  obtain ⟨locs, hle⟩ : ∃ locs : List Loc, locs = [] := ⟨_, rfl⟩
  refine wb_start (H := H) (locs := locs) hHe hle ?_
  rw [← hHe] at hP
  have hS : va_S A s.heap H locs := by rw [hHe, hle]; exact va_S.rf
  have J77 : ∀ (I0_j77 : Nat → Int32) (M0_j77 : Nat → Nat → Int32) (H : Heap) (locs : List Loc), va_P D vwCl (wWX10 cB cI cZ a0 I0_j77 M0_j77) H → va_D A (wWX10 cB cI cZ a0 I0_j77 M0_j77) → va_S A s.heap H locs → ∀ (ls : Array Slot), lv_has ls 5 [(0, .ref (a0 0)), (1, .int x1), (2, .int x2), (3, .int x3)] → fX10_choose_d2_J77 N x1 x2 x3 I0_j77 M0_j77 = some R → W p l e (headSpec wsX10_choose { frames := 2, cells := 0, slots := 0, locals := 104 }).room s m [.ref (a0 0), .int x1, .int x2, .int x3].toArray below meth c H locs 0 0 (MQ below (va_Qv (fun _ : Unit => True) (fun _ t => wb_post D [(cB, .byte), (cI, .int), (cZ, .boolean)] A (wWX10 cB cI cZ a0 R.1 R.2) t) A) [.ref (a0 0), .int x1, .int x2, .int x3].toArray s 0 0 A) (F0 m 77 ls []) := by
    intro I0_j77 M0_j77 H locs hP hD hS ls hl hf
    unfold fX10_choose_d2_J77 at hf
    refine lv_iconst (v := (0 : Int32)) hx hb dX10_choose_77 (by decide) ?_
    refine lv_istore (lv' := [(4, .int (0 : Int32)), (0, .ref (a0 0)), (1, .int x1), (2, .int x2), (3, .int x3)]) hx hb dX10_choose_78 hl (by decide) rfl (fun ls hl => ?_)
    have L80 : ∀ (fu80 : Nat) (I0_l80 : Nat → Int32) (M0_l80 : Nat → Nat → Int32) (y80_4 : Int32) (H : Heap) (locs : List Loc), va_P D vwCl (wWX10 cB cI cZ a0 I0_l80 M0_l80) H → va_D A (wWX10 cB cI cZ a0 I0_l80 M0_l80) → va_S A s.heap H locs → ∀ (ls : Array Slot), lv_has ls 5 [(0, .ref (a0 0)), (1, .int x1), (2, .int x2), (3, .int x3), (4, .int y80_4)] → fX10_choose_d2_L80 N x1 x2 x3 fu80 I0_l80 M0_l80 y80_4 = some R → W p l e (headSpec wsX10_choose { frames := 2, cells := 0, slots := 0, locals := 104 }).room s m [.ref (a0 0), .int x1, .int x2, .int x3].toArray below meth c H locs 0 0 (MQ below (va_Qv (fun _ : Unit => True) (fun _ t => wb_post D [(cB, .byte), (cI, .int), (cZ, .boolean)] A (wWX10 cB cI cZ a0 R.1 R.2) t) A) [.ref (a0 0), .int x1, .int x2, .int x3].toArray s 0 0 A) (F0 m 80 ls []) := by
      intro fu80
      induction fu80 with
      | zero =>
        intro I0_l80 M0_l80 y80_4 H locs hP hD hS ls hl hf
        exact absurd hf (by rw [fX10_choose_d2_L80.eq_1]; exact fun h => nomatch h)
      | succ fu80 ih80 =>
        intro I0_l80 M0_l80 y80_4 H locs hP hD hS ls hl hf
        rw [fX10_choose_d2_L80.eq_2] at hf
        refine lv_iload hx hb dX10_choose_80 (lv_at hl 4 rfl) ?_
        refine lv_bipush (v := (6 : Int32)) hx hb dX10_choose_82 (by decide) ?_
        refine lv_icmp_ge (tgt := 153) hx hb dX10_choose_84 (by decide) (fun hc => ?_) (fun hc => ?_)
        · replace hf := wb_t hc hf
          refine lv_aload_n hx hb dX10_choose_153 rfl (lv_at hl 0 rfl) ?_
          refine va_get (D := D) (ci := 10) (v := .ref (a0 2)) (C := RX10) (T := TX10) (N := 5) hx hb hts hinX10 hown hK hP 0 rfl rfl 1 (by decide) (hts (.fieldLink RX10 15 "WheelBook$Tree" "row" "[I") (List.mem_of_getElem? (i := 2) rfl)) (fun _ h9 => h9) rfl dX10_choose_154 ?_
          refine lv_iload_n hx hb dX10_choose_157 rfl (lv_at hl 1 rfl) ?_
          refine lv_bipush (v := (-3 : Int32)) hx hb dX10_choose_158 (by decide) ?_
          obtain ⟨hin, hf⟩ := wb_n hf
          refine va_iast hx hb hK hP hD hS 2 1 rfl rfl hin dX10_choose_160 (fun H locs hP hD hS => ?_)
          have hP : va_P D vwCl (wWX10 cB cI cZ a0 I0_l80 (wb_um M0_l80 1 (x1).toNatClampNeg (-3 : Int32))) H := hP
          have hD : va_D A (wWX10 cB cI cZ a0 I0_l80 (wb_um M0_l80 1 (x1).toNatClampNeg (-3 : Int32))) := hD
          obtain ⟨M0_1, eM0_1, hf⟩ := wb_v hf
          rw [← eM0_1] at hP hD
          exact W.vret hx hb hr (fun t ht hW => by rw [← Option.some.inj hf]; exact ⟨⟨(), rfl, trivial, by rw [ht]; exact hP, va_K.moved hW.alike hK, hD⟩, hS.F ht⟩) hS.2.2 dX10_choose_161
        · replace hf := wb_f hc hf
          refine lv_aload_n hx hb dX10_choose_87 rfl (lv_at hl 0 rfl) ?_
          refine va_get (D := D) (ci := 10) (v := .ref (a0 2)) (C := RX10) (T := TX10) (N := 5) hx hb hts hinX10 hown hK hP 0 rfl rfl 1 (by decide) (hts (.fieldLink RX10 15 "WheelBook$Tree" "row" "[I") (List.mem_of_getElem? (i := 2) rfl)) (fun _ h9 => h9) rfl dX10_choose_88 ?_
          refine lv_iload_n hx hb dX10_choose_91 rfl (lv_at hl 1 rfl) ?_
          refine lv_bipush (v := (-3 : Int32)) hx hb dX10_choose_92 (by decide) ?_
          obtain ⟨hin, hf⟩ := wb_n hf
          refine va_iast hx hb hK hP hD hS 2 1 rfl rfl hin dX10_choose_94 (fun H locs hP hD hS => ?_)
          have hP : va_P D vwCl (wWX10 cB cI cZ a0 I0_l80 (wb_um M0_l80 1 (x1).toNatClampNeg (-3 : Int32))) H := hP
          have hD : va_D A (wWX10 cB cI cZ a0 I0_l80 (wb_um M0_l80 1 (x1).toNatClampNeg (-3 : Int32))) := hD
          obtain ⟨M0_2, eM0_2, hf⟩ := wb_v hf
          rw [← eM0_2] at hP hD
          refine lv_aload_n hx hb dX10_choose_95 rfl (lv_at hl 0 rfl) ?_
          refine va_get (D := D) (ci := 10) (v := .ref (a0 2)) (C := RX10) (T := TX10) (N := 5) hx hb hts hinX10 hown hK hP 0 rfl rfl 1 (by decide) (hts (.fieldLink RX10 15 "WheelBook$Tree" "row" "[I") (List.mem_of_getElem? (i := 2) rfl)) (fun _ h9 => h9) rfl dX10_choose_96 ?_
          refine lv_iload hx hb dX10_choose_99 (lv_at hl 4 rfl) ?_
          obtain ⟨hin, hf⟩ := wb_n hf
          refine va_iald hx hb hK hP 2 1 rfl rfl hin dX10_choose_101 ?_
          refine lv_bipush (v := (-2 : Int32)) hx hb dX10_choose_102 (by decide) ?_
          refine lv_icmp_eq (tgt := 147) hx hb dX10_choose_104 (by decide) (fun hc => ?_) (fun hc => ?_)
          · replace hf := wb_t hc hf
            obtain ⟨v3, ev3, hf⟩ := wb_v hf
            refine lv_iinc (v := v3) (lv' := [(4, .int v3), (0, .ref (a0 0)), (1, .int x1), (2, .int x2), (3, .int x3)]) hx hb dX10_choose_147 hl (k := 4) rfl (by rw [ev3]; rfl) (by decide) rfl (fun ls hl => ?_)
            refine lv_goto (tgt := 80) hx hb dX10_choose_150 (by decide) ?_
            exact ih80 I0_l80 M0_2 v3 H locs hP hD hS ls (lv_sub hl [1, 2, 3, 4, 0] rfl) hf
          · replace hf := wb_f hc hf
            refine lv_aload_n hx hb dX10_choose_107 rfl (lv_at hl 0 rfl) ?_
            refine lv_iload hx hb dX10_choose_108 (lv_at hl 4 rfl) ?_
            refine lv_iload_n hx hb dX10_choose_110 rfl (lv_at hl 1 rfl) ?_
            obtain ⟨r4, hr4, hf⟩ := wb_b hf
            refine vp_callSi (W.runV (As := [.int y80_4, .int x1]) (rest := []) ⟨hx, hb, hml, hown, hts⟩ (cn_X10_comesFrom l D cB cI cZ N a0 I0_l80 M0_2 y80_4 x1 r4 hr4) (cwV 2 hts gX10_choose_X10_comesFrom rfl rfl rfl cdX10_comesFrom ⟨Nat.le_of_ble_eq_true rfl, Nat.le_of_ble_eq_true rfl⟩) (wb_preV hP hK (wr_10 hK hP (q0 := 0) rfl)) rfl rfl hl.1 rfl (lv_room (Nat.le_of_ble_eq_true rfl)) dX10_choose_111 ⟨Nat.le_of_ble_eq_true rfl, Nat.le_of_ble_eq_true rfl⟩) (fun r9 e9 => ?_)
            rw [e9]
            refine lv_if_ne (tgt := 147) hx hb dX10_choose_114 (by decide) (fun hc => ?_) (fun hc => ?_)
            · replace hf := wb_f hc hf
              obtain ⟨v5, ev5, hf⟩ := wb_v hf
              refine lv_iinc (v := v5) (lv' := [(4, .int v5), (0, .ref (a0 0)), (1, .int x1), (2, .int x2), (3, .int x3)]) hx hb dX10_choose_147 hl (k := 4) rfl (by rw [ev5]; rfl) (by decide) rfl (fun ls hl => ?_)
              refine lv_goto (tgt := 80) hx hb dX10_choose_150 (by decide) ?_
              exact ih80 I0_l80 M0_2 v5 H locs hP hD hS ls (lv_sub hl [1, 2, 3, 4, 0] rfl) hf
            · replace hf := wb_t hc hf
              refine lv_aload_n hx hb dX10_choose_117 rfl (lv_at hl 0 rfl) ?_
              refine va_get (D := D) (ci := 10) (v := .ref (a0 2)) (C := RX10) (T := TX10) (N := 5) hx hb hts hinX10 hown hK hP 0 rfl rfl 1 (by decide) (hts (.fieldLink RX10 15 "WheelBook$Tree" "row" "[I") (List.mem_of_getElem? (i := 2) rfl)) (fun _ h9 => h9) rfl dX10_choose_118 ?_
              refine lv_iload_n hx hb dX10_choose_121 rfl (lv_at hl 1 rfl) ?_
              refine lv_iload hx hb dX10_choose_122 (lv_at hl 4 rfl) ?_
              obtain ⟨hin, hf⟩ := wb_n hf
              refine va_iast hx hb hK hP hD hS 2 1 rfl rfl hin dX10_choose_124 (fun H locs hP hD hS => ?_)
              have hP : va_P D vwCl (wWX10 cB cI cZ a0 I0_l80 (wb_um M0_2 1 (x1).toNatClampNeg y80_4)) H := hP
              have hD : va_D A (wWX10 cB cI cZ a0 I0_l80 (wb_um M0_2 1 (x1).toNatClampNeg y80_4)) := hD
              obtain ⟨M0_6, eM0_6, hf⟩ := wb_v hf
              rw [← eM0_6] at hP hD
              refine lv_aload_n hx hb dX10_choose_125 rfl (lv_at hl 0 rfl) ?_
              refine lv_iload_n hx hb dX10_choose_126 rfl (lv_at hl 1 rfl) ?_
              refine lv_iconst (v := (1 : Int32)) hx hb dX10_choose_127 (by decide) ?_
              refine lv_iadd hx hb dX10_choose_128 ?_
              refine lv_iload_n hx hb dX10_choose_129 rfl (lv_at hl 2 rfl) ?_
              refine lv_aload_n hx hb dX10_choose_130 rfl (lv_at hl 0 rfl) ?_
              refine va_get (D := D) (ci := 10) (v := .ref (a0 1)) (C := RX10) (T := TX10) (N := 5) hx hb hts hinX10 hown hK hP 0 rfl rfl 0 (by decide) (hts (.fieldLink RX10 9 "WheelBook$Tree" "prices" "[I") (List.mem_of_getElem? (i := 8) rfl)) (fun _ h9 => h9) rfl dX10_choose_131 ?_
              refine lv_bipush (v := (6 : Int32)) hx hb dX10_choose_134 (by decide) ?_
              refine lv_iload hx hb dX10_choose_136 (lv_at hl 4 rfl) ?_
              refine lv_imul hx hb dX10_choose_138 ?_
              refine lv_iload_n hx hb dX10_choose_139 rfl (lv_at hl 1 rfl) ?_
              refine lv_iadd hx hb dX10_choose_140 ?_
              obtain ⟨hin, hf⟩ := wb_n hf
              refine va_iald hx hb hK hP 1 1 rfl rfl hin dX10_choose_141 ?_
              refine lv_iadd hx hb dX10_choose_142 ?_
              refine lv_iload_n hx hb dX10_choose_143 rfl (lv_at hl 3 rfl) ?_
              obtain ⟨r7, hr7, hf⟩ := wb_b hf
              have hPc := hP
              have hDc := hD
              have hFc := wj_F hDc hS hA
              refine va_callv (va_runV (As := [.int (x1 + (1 : Int32)), .int (x2 + (M0_6 0 ((((6 : Int32) * y80_4) + x1)).toNatClampNeg)), .int x3]) (rest := []) ⟨hx, hb, hml, hown, hts⟩ (cn_X10_choose_d1 l D cB cI cZ N a0 I0_l80 M0_6 (x1 + (1 : Int32)) (x2 + (M0_6 0 ((((6 : Int32) * y80_4) + x1)).toNatClampNeg)) x3 H.size r7 hr7) (cwV 3 hts gX10_choose_X10_choose rfl rfl rfl cdX10_choose ⟨Nat.le_of_ble_eq_true rfl, Nat.le_of_ble_eq_true rfl⟩) (wb_preDV hPc hK hDc (wr_10 hK hP (q0 := 0) rfl)) rfl rfl hl.1 rfl (lv_room (Nat.le_of_ble_eq_true rfl)) dX10_choose_144 ⟨Nat.le_of_ble_eq_true rfl, Nat.le_of_ble_eq_true rfl⟩) hS (fun q _ h => hFc q h) hFc (fun u t H locs ht hvm hw hB hz1 hk1 hS => ?_)
              obtain ⟨hP, hD⟩ := wj_0 hFc ht hB
              obtain ⟨v8, ev8, hf⟩ := wb_v hf
              refine lv_iinc (v := v8) (lv' := [(4, .int v8), (0, .ref (a0 0)), (1, .int x1), (2, .int x2), (3, .int x3)]) hx hb dX10_choose_147 hl (k := 4) rfl (by rw [ev8]; rfl) (by decide) rfl (fun ls hl => ?_)
              refine lv_goto (tgt := 80) hx hb dX10_choose_150 (by decide) ?_
              exact ih80 r7.1 r7.2 v8 H locs hP hD hS ls (lv_sub hl [1, 2, 3, 4, 0] rfl) hf
    exact L80 N I0_j77 M0_j77 (0 : Int32) H locs hP hD hS ls (lv_sub hl [1, 2, 3, 4, 0] rfl) hf
  refine lv_iload_n hx hb dX10_choose_0 rfl (lv_at hl 2 rfl) ?_
  refine lv_aload_n hx hb dX10_choose_1 rfl (lv_at hl 0 rfl) ?_
  refine va_get (D := D) (ci := 10) (v := .int (I0 0)) (C := RX10) (T := TX10) (N := 5) hx hb hts hinX10 hown hK hP 0 rfl rfl 3 (by decide) (hts (.fieldLink RX10 45 "WheelBook$Tree" "least" "I") (List.mem_of_getElem? (i := 1) rfl)) (fun _ h9 => h9) rfl dX10_choose_2 ?_
  refine lv_icmp_lt (tgt := 9) hx hb dX10_choose_5 (by decide) (fun hc => ?_) (fun hc => ?_)
  · replace hf := wb_t hc hf
    refine lv_iload_n hx hb dX10_choose_9 rfl (lv_at hl 1 rfl) ?_
    refine lv_bipush (v := (6 : Int32)) hx hb dX10_choose_10 (by decide) ?_
    refine lv_icmp_lt (tgt := 36) hx hb dX10_choose_12 (by decide) (fun hc => ?_) (fun hc => ?_)
    · replace hf := wb_t hc hf
      refine lv_aload_n hx hb dX10_choose_36 rfl (lv_at hl 0 rfl) ?_
      refine va_get (D := D) (ci := 10) (v := .ref (a0 2)) (C := RX10) (T := TX10) (N := 5) hx hb hts hinX10 hown hK hP 0 rfl rfl 1 (by decide) (hts (.fieldLink RX10 15 "WheelBook$Tree" "row" "[I") (List.mem_of_getElem? (i := 2) rfl)) (fun _ h9 => h9) rfl dX10_choose_37 ?_
      refine lv_iload_n hx hb dX10_choose_40 rfl (lv_at hl 1 rfl) ?_
      obtain ⟨hin, hf⟩ := wb_n hf
      refine va_iald hx hb hK hP 2 1 rfl rfl hin dX10_choose_41 ?_
      refine lv_bipush (v := (-2 : Int32)) hx hb dX10_choose_42 (by decide) ?_
      refine lv_icmp_ne (tgt := 57) hx hb dX10_choose_44 (by decide) (fun hc => ?_) (fun hc => ?_)
      · replace hf := wb_f hc hf
        refine lv_iload_n hx hb dX10_choose_57 rfl (lv_at hl 3 rfl) ?_
        refine lv_if_ne (tgt := 77) hx hb dX10_choose_58 (by decide) (fun hc => ?_) (fun hc => ?_)
        · replace hf := wb_f hc hf
          exact J77 I0 M0 H locs hP hD hS ls (lv_sub hl [0, 1, 2, 3] rfl) hf
        · replace hf := wb_t hc hf
          refine lv_aload_n hx hb dX10_choose_61 rfl (lv_at hl 0 rfl) ?_
          refine va_get (D := D) (ci := 10) (v := .ref (a0 2)) (C := RX10) (T := TX10) (N := 5) hx hb hts hinX10 hown hK hP 0 rfl rfl 1 (by decide) (hts (.fieldLink RX10 15 "WheelBook$Tree" "row" "[I") (List.mem_of_getElem? (i := 2) rfl)) (fun _ h9 => h9) rfl dX10_choose_62 ?_
          refine lv_iload_n hx hb dX10_choose_65 rfl (lv_at hl 1 rfl) ?_
          refine lv_iconst (v := (-1 : Int32)) hx hb dX10_choose_66 (by decide) ?_
          obtain ⟨hin, hf⟩ := wb_n hf
          refine va_iast hx hb hK hP hD hS 2 1 rfl rfl hin dX10_choose_67 (fun H locs hP hD hS => ?_)
          have hP : va_P D vwCl (wWX10 cB cI cZ a0 I0 (wb_um M0 1 (x1).toNatClampNeg (-1 : Int32))) H := hP
          have hD : va_D A (wWX10 cB cI cZ a0 I0 (wb_um M0 1 (x1).toNatClampNeg (-1 : Int32))) := hD
          obtain ⟨M0_9, eM0_9, hf⟩ := wb_v hf
          rw [← eM0_9] at hP hD
          refine lv_aload_n hx hb dX10_choose_68 rfl (lv_at hl 0 rfl) ?_
          refine lv_iload_n hx hb dX10_choose_69 rfl (lv_at hl 1 rfl) ?_
          refine lv_iconst (v := (1 : Int32)) hx hb dX10_choose_70 (by decide) ?_
          refine lv_iadd hx hb dX10_choose_71 ?_
          refine lv_iload_n hx hb dX10_choose_72 rfl (lv_at hl 2 rfl) ?_
          refine lv_iconst (v := (1 : Int32)) hx hb dX10_choose_73 (by decide) ?_
          obtain ⟨r10, hr10, hf⟩ := wb_b hf
          have hPc := hP
          have hDc := hD
          have hFc := wj_F hDc hS hA
          refine va_callv (va_runV (As := [.int (x1 + (1 : Int32)), .int x2, .int (1 : Int32)]) (rest := []) ⟨hx, hb, hml, hown, hts⟩ (cn_X10_choose_d1 l D cB cI cZ N a0 I0 M0_9 (x1 + (1 : Int32)) x2 (1 : Int32) H.size r10 hr10) (cwV 3 hts gX10_choose_X10_choose rfl rfl rfl cdX10_choose ⟨Nat.le_of_ble_eq_true rfl, Nat.le_of_ble_eq_true rfl⟩) (wb_preDV hPc hK hDc (wr_10 hK hP (q0 := 0) rfl)) rfl rfl hl.1 rfl (lv_room (Nat.le_of_ble_eq_true rfl)) dX10_choose_74 ⟨Nat.le_of_ble_eq_true rfl, Nat.le_of_ble_eq_true rfl⟩) hS (fun q _ h => hFc q h) hFc (fun u t H locs ht hvm hw hB hz1 hk1 hS => ?_)
          obtain ⟨hP, hD⟩ := wj_0 hFc ht hB
          exact J77 r10.1 r10.2 H locs hP hD hS ls (lv_sub hl [0, 1, 2, 3] rfl) hf
      · replace hf := wb_t hc hf
        refine lv_aload_n hx hb dX10_choose_47 rfl (lv_at hl 0 rfl) ?_
        refine lv_iload_n hx hb dX10_choose_48 rfl (lv_at hl 1 rfl) ?_
        refine lv_iconst (v := (1 : Int32)) hx hb dX10_choose_49 (by decide) ?_
        refine lv_iadd hx hb dX10_choose_50 ?_
        refine lv_iload_n hx hb dX10_choose_51 rfl (lv_at hl 2 rfl) ?_
        refine lv_iload_n hx hb dX10_choose_52 rfl (lv_at hl 3 rfl) ?_
        obtain ⟨r11, hr11, hf⟩ := wb_b hf
        have hPc := hP
        have hDc := hD
        have hFc := wj_F hDc hS hA
        refine va_callv (va_runV (As := [.int (x1 + (1 : Int32)), .int x2, .int x3]) (rest := []) ⟨hx, hb, hml, hown, hts⟩ (cn_X10_choose_d1 l D cB cI cZ N a0 I0 M0 (x1 + (1 : Int32)) x2 x3 H.size r11 hr11) (cwV 3 hts gX10_choose_X10_choose rfl rfl rfl cdX10_choose ⟨Nat.le_of_ble_eq_true rfl, Nat.le_of_ble_eq_true rfl⟩) (wb_preDV hPc hK hDc (wr_10 hK hP (q0 := 0) rfl)) rfl rfl hl.1 rfl (lv_room (Nat.le_of_ble_eq_true rfl)) dX10_choose_53 ⟨Nat.le_of_ble_eq_true rfl, Nat.le_of_ble_eq_true rfl⟩) hS (fun q _ h => hFc q h) hFc (fun u t H locs ht hvm hw hB hz1 hk1 hS => ?_)
        obtain ⟨hP, hD⟩ := wj_0 hFc ht hB
        exact W.vret hx hb hr (fun t ht hW => by rw [← Option.some.inj hf]; exact ⟨⟨(), rfl, trivial, by rw [ht]; exact hP, va_K.moved hW.alike hK, hD⟩, hS.F ht⟩) hS.2.2 dX10_choose_56
    · replace hf := wb_f hc hf
      refine lv_aload_n hx hb dX10_choose_15 rfl (lv_at hl 0 rfl) ?_
      refine lv_iload_n hx hb dX10_choose_16 rfl (lv_at hl 2 rfl) ?_
      refine va_put (D := D) (ci := 10) (v := .int x2) (ty := .int) (C := RX10) (T := TX10) (N := 5) hx hb hts hinX10 tyX10 tyX10_ok nmX10 hown hK hP hD hS 0 rfl rfl 3 (by decide) (hts (.fieldLink RX10 45 "WheelBook$Tree" "least" "I") (List.mem_of_getElem? (i := 1) rfl)) (fun _ h9 => h9) rfl (by decide +kernel) rfl rfl (Nat.le_of_ble_eq_true rfl) dX10_choose_17 (fun H locs hP hD hS => ?_)
      have hP : va_P D vwCl (wWX10 cB cI cZ a0 (upd I0 0 x2) M0) H := hP
      have hD : va_D A (wWX10 cB cI cZ a0 (upd I0 0 x2) M0) := hD
      obtain ⟨I0_12, eI0_12, hf⟩ := wb_v hf
      rw [← eI0_12] at hP hD
      refine lv_aload_n hx hb dX10_choose_20 rfl (lv_at hl 0 rfl) ?_
      refine va_get (D := D) (ci := 10) (v := .ref (a0 2)) (C := RX10) (T := TX10) (N := 5) hx hb hts hinX10 hown hK hP 0 rfl rfl 1 (by decide) (hts (.fieldLink RX10 15 "WheelBook$Tree" "row" "[I") (List.mem_of_getElem? (i := 2) rfl)) (fun _ h9 => h9) rfl dX10_choose_21 ?_
      refine lv_iconst (v := (0 : Int32)) hx hb dX10_choose_24 (by decide) ?_
      refine lv_aload_n hx hb dX10_choose_25 rfl (lv_at hl 0 rfl) ?_
      refine va_get (D := D) (ci := 10) (v := .ref (a0 3)) (C := RX10) (T := TX10) (N := 5) hx hb hts hinX10 hown hK hP 0 rfl rfl 2 (by decide) (hts (.fieldLink RX10 18 "WheelBook$Tree" "bestRow" "[I") (List.mem_of_getElem? (i := 3) rfl)) (fun _ h9 => h9) rfl dX10_choose_26 ?_
      refine lv_iconst (v := (0 : Int32)) hx hb dX10_choose_29 (by decide) ?_
      refine lv_bipush (v := (6 : Int32)) hx hb dX10_choose_30 (by decide) ?_
      obtain ⟨hcp, hf⟩ := wb_n hf
      obtain ⟨hcp1, hcp2, hcp3, hcp4, hcp5⟩ := wb_cp hcp
      refine va_copyi hx hb (hml.trans hl.1.symm) hown (hts (.methodLink RX10 57 arraycopyName) (List.mem_of_getElem? (i := 4) rfl)) (hts (.native arraycopyName) (List.mem_of_getElem? (i := 5) rfl)) (hts (.static arraycopyName) (List.mem_of_getElem? (i := 6) rfl)) (hts (.initialized "java/lang/System") (List.mem_of_getElem? (i := 7) rfl)) hK hP hD hS 2 3 1 1 rfl rfl rfl rfl rfl hcp1 hcp2 hcp3 hcp4 hcp5 (fun _ _ => rfl) (Nat.le_of_ble_eq_true rfl) (by decide +kernel) dX10_choose_32 (fun H locs hP hD hS => ?_)
      have hP : va_P D vwCl (wWX10 cB cI cZ a0 I0_12 (wb_mm M0 2 (va_cpy (M0 1) (M0 2) ((0 : Int32)).toNatClampNeg ((0 : Int32)).toNatClampNeg ((6 : Int32)).toNatClampNeg))) H := hP
      have hD : va_D A (wWX10 cB cI cZ a0 I0_12 (wb_mm M0 2 (va_cpy (M0 1) (M0 2) ((0 : Int32)).toNatClampNeg ((0 : Int32)).toNatClampNeg ((6 : Int32)).toNatClampNeg))) := hD
      obtain ⟨M0_13, eM0_13, hf⟩ := wb_v hf
      rw [← eM0_13] at hP hD
      exact W.vret hx hb hr (fun t ht hW => by rw [← Option.some.inj hf]; exact ⟨⟨(), rfl, trivial, by rw [ht]; exact hP, va_K.moved hW.alike hK, hD⟩, hS.F ht⟩) hS.2.2 dX10_choose_35
  · replace hf := wb_f hc hf
    exact W.vret hx hb hr (fun t ht hW => by rw [← Option.some.inj hf]; exact ⟨⟨(), rfl, trivial, by rw [ht]; exact hP, va_K.moved hW.alike hK, hD⟩, hS.F ht⟩) hS.2.2 dX10_choose_8

set_option maxHeartbeats 4000000 in
set_option maxRecDepth 100000 in
theorem cn_X10_choose_d3 (l : Launch) (D : va_G) (cB cI cZ : ClassId) (N : Nat) (a0 : Nat → Nat) (I0 : Nat → Int32) (M0 : Nat → Nat → Int32) (x1 : Int32) (x2 : Int32) (x3 : Int32) (sz : Nat) (R : (Nat → Int32) × (Nat → Nat → Int32)) (hf : fX10_choose_d3 N I0 M0 x1 x2 x3 = some R) : Met l yX10_choose wsX10_choose ({ frames := 3, cells := 0, slots := 0, locals := 128 }) (va_Pc [.ref (a0 0), .int x1, .int x2, .int x3] (wb_preD D [(cB, .byte), (cI, .int), (cZ, .boolean)] (wWX10 cB cI cZ a0 I0 M0) sz)) (va_Qv (fun _ : Unit => True) (fun _ t => wb_post D [(cB, .byte), (cI, .int), (cZ, .boolean)] (va_A (wWX10 cB cI cZ a0 I0 M0) sz) (wWX10 cB cI cZ a0 R.1 R.2) t) (va_A (wWX10 cB cI cZ a0 I0 M0) sz)) 0 0 (va_A (wWX10 cB cI cZ a0 I0 M0) sz) := by
  refine Met.ofW (cc := cX10_choose) (maxL := 5) (ret := none) pn_X10 rfl ?_
  intro p e s m args below meth c s₁ B hml hv
  obtain ⟨rfl, hsz, hP, hK, hD0⟩ := hv
  have hx := B.exec
  have hb := B.bytes
  have hr := B.returns
  have hts := atoms_spec (ws := wsX10_choose) B.pre
  have hown : s.vm.findClass RX10 = some m.cls := (findClass_of_methodNamed B.named :)
  have hlocks := B.notSynchronized
  have hinX10 : ∀ w ∈ u_ws RX10 TX10 5, w ∈ wsX10_choose := fun w h => List.mem_cons_of_mem _ (List.mem_append_right _ h)
  subst hsz
  have hD := hD0.self (sz := s.heap.size)
  generalize hAe : va_A (wWX10 cB cI cZ a0 I0 M0) s.heap.size = A at hD ⊢
  have hA : ∀ q : Nat, s.heap.size ≤ q → A q := fun q h => by rw [← hAe]; exact Or.inr h
  have hS : va_S A s.heap s.heap [] := va_S.rf
  have hl := lv_entry ([.ref (a0 0), .int x1, .int x2, .int x3]) (n := 5) (Nat.le_of_ble_eq_true rfl)
  rw [lg_entry_eq]
  generalize (lg_sl ([.ref (a0 0), .int x1, .int x2, .int x3]) ++ List.replicate (5 - (lg_sl ([.ref (a0 0), .int x1, .int x2, .int x3])).length) Slot.unset).toArray = ls at hl ⊢
  have hl : lv_has ls 5 [(0, .ref (a0 0)), (1, .int x1), (2, .int x2), (3, .int x3)] := hl
  unfold fX10_choose_d3 at hf
  obtain ⟨H, hHe⟩ : ∃ H : Heap, H = s.heap := ⟨_, rfl⟩
  obtain ⟨locs, hle⟩ : ∃ locs : List Loc, locs = [] := ⟨_, rfl⟩
  refine wb_start (H := H) (locs := locs) hHe hle ?_
  rw [← hHe] at hP
  have hS : va_S A s.heap H locs := by rw [hHe, hle]; exact va_S.rf
  have J77 : ∀ (I0_j77 : Nat → Int32) (M0_j77 : Nat → Nat → Int32) (H : Heap) (locs : List Loc), va_P D vwCl (wWX10 cB cI cZ a0 I0_j77 M0_j77) H → va_D A (wWX10 cB cI cZ a0 I0_j77 M0_j77) → va_S A s.heap H locs → ∀ (ls : Array Slot), lv_has ls 5 [(0, .ref (a0 0)), (1, .int x1), (2, .int x2), (3, .int x3)] → fX10_choose_d3_J77 N x1 x2 x3 I0_j77 M0_j77 = some R → W p l e (headSpec wsX10_choose { frames := 3, cells := 0, slots := 0, locals := 128 }).room s m [.ref (a0 0), .int x1, .int x2, .int x3].toArray below meth c H locs 0 0 (MQ below (va_Qv (fun _ : Unit => True) (fun _ t => wb_post D [(cB, .byte), (cI, .int), (cZ, .boolean)] A (wWX10 cB cI cZ a0 R.1 R.2) t) A) [.ref (a0 0), .int x1, .int x2, .int x3].toArray s 0 0 A) (F0 m 77 ls []) := by
    intro I0_j77 M0_j77 H locs hP hD hS ls hl hf
    unfold fX10_choose_d3_J77 at hf
    refine lv_iconst (v := (0 : Int32)) hx hb dX10_choose_77 (by decide) ?_
    refine lv_istore (lv' := [(4, .int (0 : Int32)), (0, .ref (a0 0)), (1, .int x1), (2, .int x2), (3, .int x3)]) hx hb dX10_choose_78 hl (by decide) rfl (fun ls hl => ?_)
    have L80 : ∀ (fu80 : Nat) (I0_l80 : Nat → Int32) (M0_l80 : Nat → Nat → Int32) (y80_4 : Int32) (H : Heap) (locs : List Loc), va_P D vwCl (wWX10 cB cI cZ a0 I0_l80 M0_l80) H → va_D A (wWX10 cB cI cZ a0 I0_l80 M0_l80) → va_S A s.heap H locs → ∀ (ls : Array Slot), lv_has ls 5 [(0, .ref (a0 0)), (1, .int x1), (2, .int x2), (3, .int x3), (4, .int y80_4)] → fX10_choose_d3_L80 N x1 x2 x3 fu80 I0_l80 M0_l80 y80_4 = some R → W p l e (headSpec wsX10_choose { frames := 3, cells := 0, slots := 0, locals := 128 }).room s m [.ref (a0 0), .int x1, .int x2, .int x3].toArray below meth c H locs 0 0 (MQ below (va_Qv (fun _ : Unit => True) (fun _ t => wb_post D [(cB, .byte), (cI, .int), (cZ, .boolean)] A (wWX10 cB cI cZ a0 R.1 R.2) t) A) [.ref (a0 0), .int x1, .int x2, .int x3].toArray s 0 0 A) (F0 m 80 ls []) := by
      intro fu80
      induction fu80 with
      | zero =>
        intro I0_l80 M0_l80 y80_4 H locs hP hD hS ls hl hf
        exact absurd hf (by rw [fX10_choose_d3_L80.eq_1]; exact fun h => nomatch h)
      | succ fu80 ih80 =>
        intro I0_l80 M0_l80 y80_4 H locs hP hD hS ls hl hf
        rw [fX10_choose_d3_L80.eq_2] at hf
        refine lv_iload hx hb dX10_choose_80 (lv_at hl 4 rfl) ?_
        refine lv_bipush (v := (6 : Int32)) hx hb dX10_choose_82 (by decide) ?_
        refine lv_icmp_ge (tgt := 153) hx hb dX10_choose_84 (by decide) (fun hc => ?_) (fun hc => ?_)
        · replace hf := wb_t hc hf
          refine lv_aload_n hx hb dX10_choose_153 rfl (lv_at hl 0 rfl) ?_
          refine va_get (D := D) (ci := 10) (v := .ref (a0 2)) (C := RX10) (T := TX10) (N := 5) hx hb hts hinX10 hown hK hP 0 rfl rfl 1 (by decide) (hts (.fieldLink RX10 15 "WheelBook$Tree" "row" "[I") (List.mem_of_getElem? (i := 2) rfl)) (fun _ h9 => h9) rfl dX10_choose_154 ?_
          refine lv_iload_n hx hb dX10_choose_157 rfl (lv_at hl 1 rfl) ?_
          refine lv_bipush (v := (-3 : Int32)) hx hb dX10_choose_158 (by decide) ?_
          obtain ⟨hin, hf⟩ := wb_n hf
          refine va_iast hx hb hK hP hD hS 2 1 rfl rfl hin dX10_choose_160 (fun H locs hP hD hS => ?_)
          have hP : va_P D vwCl (wWX10 cB cI cZ a0 I0_l80 (wb_um M0_l80 1 (x1).toNatClampNeg (-3 : Int32))) H := hP
          have hD : va_D A (wWX10 cB cI cZ a0 I0_l80 (wb_um M0_l80 1 (x1).toNatClampNeg (-3 : Int32))) := hD
          obtain ⟨M0_1, eM0_1, hf⟩ := wb_v hf
          rw [← eM0_1] at hP hD
          exact W.vret hx hb hr (fun t ht hW => by rw [← Option.some.inj hf]; exact ⟨⟨(), rfl, trivial, by rw [ht]; exact hP, va_K.moved hW.alike hK, hD⟩, hS.F ht⟩) hS.2.2 dX10_choose_161
        · replace hf := wb_f hc hf
          refine lv_aload_n hx hb dX10_choose_87 rfl (lv_at hl 0 rfl) ?_
          refine va_get (D := D) (ci := 10) (v := .ref (a0 2)) (C := RX10) (T := TX10) (N := 5) hx hb hts hinX10 hown hK hP 0 rfl rfl 1 (by decide) (hts (.fieldLink RX10 15 "WheelBook$Tree" "row" "[I") (List.mem_of_getElem? (i := 2) rfl)) (fun _ h9 => h9) rfl dX10_choose_88 ?_
          refine lv_iload_n hx hb dX10_choose_91 rfl (lv_at hl 1 rfl) ?_
          refine lv_bipush (v := (-3 : Int32)) hx hb dX10_choose_92 (by decide) ?_
          obtain ⟨hin, hf⟩ := wb_n hf
          refine va_iast hx hb hK hP hD hS 2 1 rfl rfl hin dX10_choose_94 (fun H locs hP hD hS => ?_)
          have hP : va_P D vwCl (wWX10 cB cI cZ a0 I0_l80 (wb_um M0_l80 1 (x1).toNatClampNeg (-3 : Int32))) H := hP
          have hD : va_D A (wWX10 cB cI cZ a0 I0_l80 (wb_um M0_l80 1 (x1).toNatClampNeg (-3 : Int32))) := hD
          obtain ⟨M0_2, eM0_2, hf⟩ := wb_v hf
          rw [← eM0_2] at hP hD
          refine lv_aload_n hx hb dX10_choose_95 rfl (lv_at hl 0 rfl) ?_
          refine va_get (D := D) (ci := 10) (v := .ref (a0 2)) (C := RX10) (T := TX10) (N := 5) hx hb hts hinX10 hown hK hP 0 rfl rfl 1 (by decide) (hts (.fieldLink RX10 15 "WheelBook$Tree" "row" "[I") (List.mem_of_getElem? (i := 2) rfl)) (fun _ h9 => h9) rfl dX10_choose_96 ?_
          refine lv_iload hx hb dX10_choose_99 (lv_at hl 4 rfl) ?_
          obtain ⟨hin, hf⟩ := wb_n hf
          refine va_iald hx hb hK hP 2 1 rfl rfl hin dX10_choose_101 ?_
          refine lv_bipush (v := (-2 : Int32)) hx hb dX10_choose_102 (by decide) ?_
          refine lv_icmp_eq (tgt := 147) hx hb dX10_choose_104 (by decide) (fun hc => ?_) (fun hc => ?_)
          · replace hf := wb_t hc hf
            obtain ⟨v3, ev3, hf⟩ := wb_v hf
            refine lv_iinc (v := v3) (lv' := [(4, .int v3), (0, .ref (a0 0)), (1, .int x1), (2, .int x2), (3, .int x3)]) hx hb dX10_choose_147 hl (k := 4) rfl (by rw [ev3]; rfl) (by decide) rfl (fun ls hl => ?_)
            refine lv_goto (tgt := 80) hx hb dX10_choose_150 (by decide) ?_
            exact ih80 I0_l80 M0_2 v3 H locs hP hD hS ls (lv_sub hl [1, 2, 3, 4, 0] rfl) hf
          · replace hf := wb_f hc hf
            refine lv_aload_n hx hb dX10_choose_107 rfl (lv_at hl 0 rfl) ?_
            refine lv_iload hx hb dX10_choose_108 (lv_at hl 4 rfl) ?_
            refine lv_iload_n hx hb dX10_choose_110 rfl (lv_at hl 1 rfl) ?_
            obtain ⟨r4, hr4, hf⟩ := wb_b hf
            refine vp_callSi (W.runV (As := [.int y80_4, .int x1]) (rest := []) ⟨hx, hb, hml, hown, hts⟩ (cn_X10_comesFrom l D cB cI cZ N a0 I0_l80 M0_2 y80_4 x1 r4 hr4) (cwV 2 hts gX10_choose_X10_comesFrom rfl rfl rfl cdX10_comesFrom ⟨Nat.le_of_ble_eq_true rfl, Nat.le_of_ble_eq_true rfl⟩) (wb_preV hP hK (wr_10 hK hP (q0 := 0) rfl)) rfl rfl hl.1 rfl (lv_room (Nat.le_of_ble_eq_true rfl)) dX10_choose_111 ⟨Nat.le_of_ble_eq_true rfl, Nat.le_of_ble_eq_true rfl⟩) (fun r9 e9 => ?_)
            rw [e9]
            refine lv_if_ne (tgt := 147) hx hb dX10_choose_114 (by decide) (fun hc => ?_) (fun hc => ?_)
            · replace hf := wb_f hc hf
              obtain ⟨v5, ev5, hf⟩ := wb_v hf
              refine lv_iinc (v := v5) (lv' := [(4, .int v5), (0, .ref (a0 0)), (1, .int x1), (2, .int x2), (3, .int x3)]) hx hb dX10_choose_147 hl (k := 4) rfl (by rw [ev5]; rfl) (by decide) rfl (fun ls hl => ?_)
              refine lv_goto (tgt := 80) hx hb dX10_choose_150 (by decide) ?_
              exact ih80 I0_l80 M0_2 v5 H locs hP hD hS ls (lv_sub hl [1, 2, 3, 4, 0] rfl) hf
            · replace hf := wb_t hc hf
              refine lv_aload_n hx hb dX10_choose_117 rfl (lv_at hl 0 rfl) ?_
              refine va_get (D := D) (ci := 10) (v := .ref (a0 2)) (C := RX10) (T := TX10) (N := 5) hx hb hts hinX10 hown hK hP 0 rfl rfl 1 (by decide) (hts (.fieldLink RX10 15 "WheelBook$Tree" "row" "[I") (List.mem_of_getElem? (i := 2) rfl)) (fun _ h9 => h9) rfl dX10_choose_118 ?_
              refine lv_iload_n hx hb dX10_choose_121 rfl (lv_at hl 1 rfl) ?_
              refine lv_iload hx hb dX10_choose_122 (lv_at hl 4 rfl) ?_
              obtain ⟨hin, hf⟩ := wb_n hf
              refine va_iast hx hb hK hP hD hS 2 1 rfl rfl hin dX10_choose_124 (fun H locs hP hD hS => ?_)
              have hP : va_P D vwCl (wWX10 cB cI cZ a0 I0_l80 (wb_um M0_2 1 (x1).toNatClampNeg y80_4)) H := hP
              have hD : va_D A (wWX10 cB cI cZ a0 I0_l80 (wb_um M0_2 1 (x1).toNatClampNeg y80_4)) := hD
              obtain ⟨M0_6, eM0_6, hf⟩ := wb_v hf
              rw [← eM0_6] at hP hD
              refine lv_aload_n hx hb dX10_choose_125 rfl (lv_at hl 0 rfl) ?_
              refine lv_iload_n hx hb dX10_choose_126 rfl (lv_at hl 1 rfl) ?_
              refine lv_iconst (v := (1 : Int32)) hx hb dX10_choose_127 (by decide) ?_
              refine lv_iadd hx hb dX10_choose_128 ?_
              refine lv_iload_n hx hb dX10_choose_129 rfl (lv_at hl 2 rfl) ?_
              refine lv_aload_n hx hb dX10_choose_130 rfl (lv_at hl 0 rfl) ?_
              refine va_get (D := D) (ci := 10) (v := .ref (a0 1)) (C := RX10) (T := TX10) (N := 5) hx hb hts hinX10 hown hK hP 0 rfl rfl 0 (by decide) (hts (.fieldLink RX10 9 "WheelBook$Tree" "prices" "[I") (List.mem_of_getElem? (i := 8) rfl)) (fun _ h9 => h9) rfl dX10_choose_131 ?_
              refine lv_bipush (v := (6 : Int32)) hx hb dX10_choose_134 (by decide) ?_
              refine lv_iload hx hb dX10_choose_136 (lv_at hl 4 rfl) ?_
              refine lv_imul hx hb dX10_choose_138 ?_
              refine lv_iload_n hx hb dX10_choose_139 rfl (lv_at hl 1 rfl) ?_
              refine lv_iadd hx hb dX10_choose_140 ?_
              obtain ⟨hin, hf⟩ := wb_n hf
              refine va_iald hx hb hK hP 1 1 rfl rfl hin dX10_choose_141 ?_
              refine lv_iadd hx hb dX10_choose_142 ?_
              refine lv_iload_n hx hb dX10_choose_143 rfl (lv_at hl 3 rfl) ?_
              obtain ⟨r7, hr7, hf⟩ := wb_b hf
              have hPc := hP
              have hDc := hD
              have hFc := wj_F hDc hS hA
              refine va_callv (va_runV (As := [.int (x1 + (1 : Int32)), .int (x2 + (M0_6 0 ((((6 : Int32) * y80_4) + x1)).toNatClampNeg)), .int x3]) (rest := []) ⟨hx, hb, hml, hown, hts⟩ (cn_X10_choose_d2 l D cB cI cZ N a0 I0_l80 M0_6 (x1 + (1 : Int32)) (x2 + (M0_6 0 ((((6 : Int32) * y80_4) + x1)).toNatClampNeg)) x3 H.size r7 hr7) (cwV 3 hts gX10_choose_X10_choose rfl rfl rfl cdX10_choose ⟨Nat.le_of_ble_eq_true rfl, Nat.le_of_ble_eq_true rfl⟩) (wb_preDV hPc hK hDc (wr_10 hK hP (q0 := 0) rfl)) rfl rfl hl.1 rfl (lv_room (Nat.le_of_ble_eq_true rfl)) dX10_choose_144 ⟨Nat.le_of_ble_eq_true rfl, Nat.le_of_ble_eq_true rfl⟩) hS (fun q _ h => hFc q h) hFc (fun u t H locs ht hvm hw hB hz1 hk1 hS => ?_)
              obtain ⟨hP, hD⟩ := wj_0 hFc ht hB
              obtain ⟨v8, ev8, hf⟩ := wb_v hf
              refine lv_iinc (v := v8) (lv' := [(4, .int v8), (0, .ref (a0 0)), (1, .int x1), (2, .int x2), (3, .int x3)]) hx hb dX10_choose_147 hl (k := 4) rfl (by rw [ev8]; rfl) (by decide) rfl (fun ls hl => ?_)
              refine lv_goto (tgt := 80) hx hb dX10_choose_150 (by decide) ?_
              exact ih80 r7.1 r7.2 v8 H locs hP hD hS ls (lv_sub hl [1, 2, 3, 4, 0] rfl) hf
    exact L80 N I0_j77 M0_j77 (0 : Int32) H locs hP hD hS ls (lv_sub hl [1, 2, 3, 4, 0] rfl) hf
  refine lv_iload_n hx hb dX10_choose_0 rfl (lv_at hl 2 rfl) ?_
  refine lv_aload_n hx hb dX10_choose_1 rfl (lv_at hl 0 rfl) ?_
  refine va_get (D := D) (ci := 10) (v := .int (I0 0)) (C := RX10) (T := TX10) (N := 5) hx hb hts hinX10 hown hK hP 0 rfl rfl 3 (by decide) (hts (.fieldLink RX10 45 "WheelBook$Tree" "least" "I") (List.mem_of_getElem? (i := 1) rfl)) (fun _ h9 => h9) rfl dX10_choose_2 ?_
  refine lv_icmp_lt (tgt := 9) hx hb dX10_choose_5 (by decide) (fun hc => ?_) (fun hc => ?_)
  · replace hf := wb_t hc hf
    refine lv_iload_n hx hb dX10_choose_9 rfl (lv_at hl 1 rfl) ?_
    refine lv_bipush (v := (6 : Int32)) hx hb dX10_choose_10 (by decide) ?_
    refine lv_icmp_lt (tgt := 36) hx hb dX10_choose_12 (by decide) (fun hc => ?_) (fun hc => ?_)
    · replace hf := wb_t hc hf
      refine lv_aload_n hx hb dX10_choose_36 rfl (lv_at hl 0 rfl) ?_
      refine va_get (D := D) (ci := 10) (v := .ref (a0 2)) (C := RX10) (T := TX10) (N := 5) hx hb hts hinX10 hown hK hP 0 rfl rfl 1 (by decide) (hts (.fieldLink RX10 15 "WheelBook$Tree" "row" "[I") (List.mem_of_getElem? (i := 2) rfl)) (fun _ h9 => h9) rfl dX10_choose_37 ?_
      refine lv_iload_n hx hb dX10_choose_40 rfl (lv_at hl 1 rfl) ?_
      obtain ⟨hin, hf⟩ := wb_n hf
      refine va_iald hx hb hK hP 2 1 rfl rfl hin dX10_choose_41 ?_
      refine lv_bipush (v := (-2 : Int32)) hx hb dX10_choose_42 (by decide) ?_
      refine lv_icmp_ne (tgt := 57) hx hb dX10_choose_44 (by decide) (fun hc => ?_) (fun hc => ?_)
      · replace hf := wb_f hc hf
        refine lv_iload_n hx hb dX10_choose_57 rfl (lv_at hl 3 rfl) ?_
        refine lv_if_ne (tgt := 77) hx hb dX10_choose_58 (by decide) (fun hc => ?_) (fun hc => ?_)
        · replace hf := wb_f hc hf
          exact J77 I0 M0 H locs hP hD hS ls (lv_sub hl [0, 1, 2, 3] rfl) hf
        · replace hf := wb_t hc hf
          refine lv_aload_n hx hb dX10_choose_61 rfl (lv_at hl 0 rfl) ?_
          refine va_get (D := D) (ci := 10) (v := .ref (a0 2)) (C := RX10) (T := TX10) (N := 5) hx hb hts hinX10 hown hK hP 0 rfl rfl 1 (by decide) (hts (.fieldLink RX10 15 "WheelBook$Tree" "row" "[I") (List.mem_of_getElem? (i := 2) rfl)) (fun _ h9 => h9) rfl dX10_choose_62 ?_
          refine lv_iload_n hx hb dX10_choose_65 rfl (lv_at hl 1 rfl) ?_
          refine lv_iconst (v := (-1 : Int32)) hx hb dX10_choose_66 (by decide) ?_
          obtain ⟨hin, hf⟩ := wb_n hf
          refine va_iast hx hb hK hP hD hS 2 1 rfl rfl hin dX10_choose_67 (fun H locs hP hD hS => ?_)
          have hP : va_P D vwCl (wWX10 cB cI cZ a0 I0 (wb_um M0 1 (x1).toNatClampNeg (-1 : Int32))) H := hP
          have hD : va_D A (wWX10 cB cI cZ a0 I0 (wb_um M0 1 (x1).toNatClampNeg (-1 : Int32))) := hD
          obtain ⟨M0_9, eM0_9, hf⟩ := wb_v hf
          rw [← eM0_9] at hP hD
          refine lv_aload_n hx hb dX10_choose_68 rfl (lv_at hl 0 rfl) ?_
          refine lv_iload_n hx hb dX10_choose_69 rfl (lv_at hl 1 rfl) ?_
          refine lv_iconst (v := (1 : Int32)) hx hb dX10_choose_70 (by decide) ?_
          refine lv_iadd hx hb dX10_choose_71 ?_
          refine lv_iload_n hx hb dX10_choose_72 rfl (lv_at hl 2 rfl) ?_
          refine lv_iconst (v := (1 : Int32)) hx hb dX10_choose_73 (by decide) ?_
          obtain ⟨r10, hr10, hf⟩ := wb_b hf
          have hPc := hP
          have hDc := hD
          have hFc := wj_F hDc hS hA
          refine va_callv (va_runV (As := [.int (x1 + (1 : Int32)), .int x2, .int (1 : Int32)]) (rest := []) ⟨hx, hb, hml, hown, hts⟩ (cn_X10_choose_d2 l D cB cI cZ N a0 I0 M0_9 (x1 + (1 : Int32)) x2 (1 : Int32) H.size r10 hr10) (cwV 3 hts gX10_choose_X10_choose rfl rfl rfl cdX10_choose ⟨Nat.le_of_ble_eq_true rfl, Nat.le_of_ble_eq_true rfl⟩) (wb_preDV hPc hK hDc (wr_10 hK hP (q0 := 0) rfl)) rfl rfl hl.1 rfl (lv_room (Nat.le_of_ble_eq_true rfl)) dX10_choose_74 ⟨Nat.le_of_ble_eq_true rfl, Nat.le_of_ble_eq_true rfl⟩) hS (fun q _ h => hFc q h) hFc (fun u t H locs ht hvm hw hB hz1 hk1 hS => ?_)
          obtain ⟨hP, hD⟩ := wj_0 hFc ht hB
          exact J77 r10.1 r10.2 H locs hP hD hS ls (lv_sub hl [0, 1, 2, 3] rfl) hf
      · replace hf := wb_t hc hf
        refine lv_aload_n hx hb dX10_choose_47 rfl (lv_at hl 0 rfl) ?_
        refine lv_iload_n hx hb dX10_choose_48 rfl (lv_at hl 1 rfl) ?_
        refine lv_iconst (v := (1 : Int32)) hx hb dX10_choose_49 (by decide) ?_
        refine lv_iadd hx hb dX10_choose_50 ?_
        refine lv_iload_n hx hb dX10_choose_51 rfl (lv_at hl 2 rfl) ?_
        refine lv_iload_n hx hb dX10_choose_52 rfl (lv_at hl 3 rfl) ?_
        obtain ⟨r11, hr11, hf⟩ := wb_b hf
        have hPc := hP
        have hDc := hD
        have hFc := wj_F hDc hS hA
        refine va_callv (va_runV (As := [.int (x1 + (1 : Int32)), .int x2, .int x3]) (rest := []) ⟨hx, hb, hml, hown, hts⟩ (cn_X10_choose_d2 l D cB cI cZ N a0 I0 M0 (x1 + (1 : Int32)) x2 x3 H.size r11 hr11) (cwV 3 hts gX10_choose_X10_choose rfl rfl rfl cdX10_choose ⟨Nat.le_of_ble_eq_true rfl, Nat.le_of_ble_eq_true rfl⟩) (wb_preDV hPc hK hDc (wr_10 hK hP (q0 := 0) rfl)) rfl rfl hl.1 rfl (lv_room (Nat.le_of_ble_eq_true rfl)) dX10_choose_53 ⟨Nat.le_of_ble_eq_true rfl, Nat.le_of_ble_eq_true rfl⟩) hS (fun q _ h => hFc q h) hFc (fun u t H locs ht hvm hw hB hz1 hk1 hS => ?_)
        obtain ⟨hP, hD⟩ := wj_0 hFc ht hB
        exact W.vret hx hb hr (fun t ht hW => by rw [← Option.some.inj hf]; exact ⟨⟨(), rfl, trivial, by rw [ht]; exact hP, va_K.moved hW.alike hK, hD⟩, hS.F ht⟩) hS.2.2 dX10_choose_56
    · replace hf := wb_f hc hf
      refine lv_aload_n hx hb dX10_choose_15 rfl (lv_at hl 0 rfl) ?_
      refine lv_iload_n hx hb dX10_choose_16 rfl (lv_at hl 2 rfl) ?_
      refine va_put (D := D) (ci := 10) (v := .int x2) (ty := .int) (C := RX10) (T := TX10) (N := 5) hx hb hts hinX10 tyX10 tyX10_ok nmX10 hown hK hP hD hS 0 rfl rfl 3 (by decide) (hts (.fieldLink RX10 45 "WheelBook$Tree" "least" "I") (List.mem_of_getElem? (i := 1) rfl)) (fun _ h9 => h9) rfl (by decide +kernel) rfl rfl (Nat.le_of_ble_eq_true rfl) dX10_choose_17 (fun H locs hP hD hS => ?_)
      have hP : va_P D vwCl (wWX10 cB cI cZ a0 (upd I0 0 x2) M0) H := hP
      have hD : va_D A (wWX10 cB cI cZ a0 (upd I0 0 x2) M0) := hD
      obtain ⟨I0_12, eI0_12, hf⟩ := wb_v hf
      rw [← eI0_12] at hP hD
      refine lv_aload_n hx hb dX10_choose_20 rfl (lv_at hl 0 rfl) ?_
      refine va_get (D := D) (ci := 10) (v := .ref (a0 2)) (C := RX10) (T := TX10) (N := 5) hx hb hts hinX10 hown hK hP 0 rfl rfl 1 (by decide) (hts (.fieldLink RX10 15 "WheelBook$Tree" "row" "[I") (List.mem_of_getElem? (i := 2) rfl)) (fun _ h9 => h9) rfl dX10_choose_21 ?_
      refine lv_iconst (v := (0 : Int32)) hx hb dX10_choose_24 (by decide) ?_
      refine lv_aload_n hx hb dX10_choose_25 rfl (lv_at hl 0 rfl) ?_
      refine va_get (D := D) (ci := 10) (v := .ref (a0 3)) (C := RX10) (T := TX10) (N := 5) hx hb hts hinX10 hown hK hP 0 rfl rfl 2 (by decide) (hts (.fieldLink RX10 18 "WheelBook$Tree" "bestRow" "[I") (List.mem_of_getElem? (i := 3) rfl)) (fun _ h9 => h9) rfl dX10_choose_26 ?_
      refine lv_iconst (v := (0 : Int32)) hx hb dX10_choose_29 (by decide) ?_
      refine lv_bipush (v := (6 : Int32)) hx hb dX10_choose_30 (by decide) ?_
      obtain ⟨hcp, hf⟩ := wb_n hf
      obtain ⟨hcp1, hcp2, hcp3, hcp4, hcp5⟩ := wb_cp hcp
      refine va_copyi hx hb (hml.trans hl.1.symm) hown (hts (.methodLink RX10 57 arraycopyName) (List.mem_of_getElem? (i := 4) rfl)) (hts (.native arraycopyName) (List.mem_of_getElem? (i := 5) rfl)) (hts (.static arraycopyName) (List.mem_of_getElem? (i := 6) rfl)) (hts (.initialized "java/lang/System") (List.mem_of_getElem? (i := 7) rfl)) hK hP hD hS 2 3 1 1 rfl rfl rfl rfl rfl hcp1 hcp2 hcp3 hcp4 hcp5 (fun _ _ => rfl) (Nat.le_of_ble_eq_true rfl) (by decide +kernel) dX10_choose_32 (fun H locs hP hD hS => ?_)
      have hP : va_P D vwCl (wWX10 cB cI cZ a0 I0_12 (wb_mm M0 2 (va_cpy (M0 1) (M0 2) ((0 : Int32)).toNatClampNeg ((0 : Int32)).toNatClampNeg ((6 : Int32)).toNatClampNeg))) H := hP
      have hD : va_D A (wWX10 cB cI cZ a0 I0_12 (wb_mm M0 2 (va_cpy (M0 1) (M0 2) ((0 : Int32)).toNatClampNeg ((0 : Int32)).toNatClampNeg ((6 : Int32)).toNatClampNeg))) := hD
      obtain ⟨M0_13, eM0_13, hf⟩ := wb_v hf
      rw [← eM0_13] at hP hD
      exact W.vret hx hb hr (fun t ht hW => by rw [← Option.some.inj hf]; exact ⟨⟨(), rfl, trivial, by rw [ht]; exact hP, va_K.moved hW.alike hK, hD⟩, hS.F ht⟩) hS.2.2 dX10_choose_35
  · replace hf := wb_f hc hf
    exact W.vret hx hb hr (fun t ht hW => by rw [← Option.some.inj hf]; exact ⟨⟨(), rfl, trivial, by rw [ht]; exact hP, va_K.moved hW.alike hK, hD⟩, hS.F ht⟩) hS.2.2 dX10_choose_8
