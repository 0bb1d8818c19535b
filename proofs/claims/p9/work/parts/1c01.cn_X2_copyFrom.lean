set_option maxHeartbeats 4000000 in
set_option maxRecDepth 100000 in
theorem cn_X2_copyFrom (l : Launch) (D : va_G) (cB cI cZ : ClassId) (N : Nat) (a0 : Nat → Nat) (I0 : Nat → Int32) (M0 : Nat → Nat → Int32) (a1 : Nat → Nat) (I1 : Nat → Int32) (M1 : Nat → Nat → Int32) (sz : Nat) (R : (Nat → Int32) × (Nat → Nat → Int32)) (hf : fX2_copyFrom N I0 M0 I1 M1 = some R) : Met l yX2_copyFrom wsX2_copyFrom ({ frames := 1, cells := 0, slots := 0, locals := 80 }) (va_Pc [.ref (a0 0), .ref (a1 0)] (wb_preD D [(cB, .byte), (cI, .int), (cZ, .boolean)] ((wWX2 cB cI cZ a0 I0 M0) ++ (wWX2 cB cI cZ a1 I1 M1)) sz)) (va_Qv (fun _ : Unit => True) (fun _ t => wb_post D [(cB, .byte), (cI, .int), (cZ, .boolean)] (va_A ((wWX2 cB cI cZ a0 I0 M0) ++ (wWX2 cB cI cZ a1 I1 M1)) sz) ((wWX2 cB cI cZ a0 R.1 R.2) ++ (wWX2 cB cI cZ a1 I1 M1)) t) (va_A ((wWX2 cB cI cZ a0 I0 M0) ++ (wWX2 cB cI cZ a1 I1 M1)) sz)) 0 0 (va_A ((wWX2 cB cI cZ a0 I0 M0) ++ (wWX2 cB cI cZ a1 I1 M1)) sz) := by
  refine Met.ofW (cc := cX2_copyFrom) (maxL := 2) (ret := none) (by decide) rfl ?_
  intro p e s m args below meth c s₁ B hml hv
  obtain ⟨rfl, hsz, hP, hK, hD0⟩ := hv
  have hx := B.exec
  have hb := B.bytes
  have hr := B.returns
  have hts := atoms_spec (ws := wsX2_copyFrom) B.pre
  have hown : s.vm.findClass RX2 = some m.cls := findClass_of_methodNamed B.named
  have hlocks := B.notSynchronized
  have hinX2 : ∀ w ∈ u_ws RX2 TX2 2, w ∈ wsX2_copyFrom := fun w h => List.mem_cons_of_mem _ (List.mem_append_right _ h)
  subst hsz
  have hD := hD0.self (sz := s.heap.size)
  generalize hAe : va_A ((wWX2 cB cI cZ a0 I0 M0) ++ (wWX2 cB cI cZ a1 I1 M1)) s.heap.size = A at hD ⊢
  have hA : ∀ q : Nat, s.heap.size ≤ q → A q := fun q h => by rw [← hAe]; exact Or.inr h
  have hS : va_S A s.heap s.heap [] := va_S.rf
  have hl := lv_entry ([.ref (a0 0), .ref (a1 0)]) (n := 2) (Nat.le_of_ble_eq_true rfl)
  rw [lg_entry_eq]
  generalize (lg_sl ([.ref (a0 0), .ref (a1 0)]) ++ List.replicate (2 - (lg_sl ([.ref (a0 0), .ref (a1 0)])).length) Slot.unset).toArray = ls at hl ⊢
  have hl : lv_has ls 2 [(0, .ref (a0 0)), (1, .ref (a1 0))] := hl
  unfold fX2_copyFrom at hf
  obtain ⟨H, hHe⟩ : ∃ H : Heap, H = s.heap := ⟨_, rfl⟩
  obtain ⟨locs, hle⟩ : ∃ locs : List Loc, locs = [] := ⟨_, rfl⟩
  refine wb_start (H := H) (locs := locs) hHe hle ?_
  rw [← hHe] at hP
  have hS : va_S A s.heap H locs := by rw [hHe, hle]; exact va_S.rf
  refine lv_aload_n hx hb dX2_copyFrom_0 rfl (lv_at hl 1 rfl) ?_
  refine va_get (D := D) (ci := 2) (v := .ref (a1 1)) (C := RX2) (T := TX2) (N := 2) hx hb hts hinX2 hown hK hP 2 rfl rfl 0 (by decide) (hts (.fieldLink RX2 11 "WheelBook$Climates" "ahead" "[I") (List.mem_of_getElem? (i := 1) rfl)) (fun _ h9 => h9) rfl dX2_copyFrom_1 ?_
  refine lv_iconst (v := (0 : Int32)) hx hb dX2_copyFrom_4 (by decide) ?_
  refine lv_aload_n hx hb dX2_copyFrom_5 rfl (lv_at hl 0 rfl) ?_
  refine va_get (D := D) (ci := 2) (v := .ref (a0 1)) (C := RX2) (T := TX2) (N := 2) hx hb hts hinX2 hown hK hP 0 rfl rfl 0 (by decide) (hts (.fieldLink RX2 11 "WheelBook$Climates" "ahead" "[I") (List.mem_of_getElem? (i := 1) rfl)) (fun _ h9 => h9) rfl dX2_copyFrom_6 ?_
  refine lv_iconst (v := (0 : Int32)) hx hb dX2_copyFrom_9 (by decide) ?_
  refine lv_bipush (v := (91 : Int32)) hx hb dX2_copyFrom_10 (by decide) ?_
  obtain ⟨hcp, hf⟩ := wb_n hf
  obtain ⟨hcp1, hcp2, hcp3, hcp4, hcp5⟩ := wb_cp hcp
  refine va_copyi hx hb (hml.trans hl.1.symm) hown (hts (.methodLink RX2 15 arraycopyName) (List.mem_of_getElem? (i := 2) rfl)) (hts (.native arraycopyName) (List.mem_of_getElem? (i := 3) rfl)) (hts (.static arraycopyName) (List.mem_of_getElem? (i := 4) rfl)) (hts (.initialized "java/lang/System") (List.mem_of_getElem? (i := 5) rfl)) hK hP hD hS 3 1 1 1 rfl rfl rfl rfl rfl hcp1 hcp2 hcp3 hcp4 hcp5 (fun _ _ => rfl) (Nat.le_of_ble_eq_true rfl) (by decide +kernel) dX2_copyFrom_12 (fun H locs hP hD hS => ?_)
  have hP : va_P D vwCl ((wWX2 cB cI cZ a0 I0 (wb_mm M0 0 (va_cpy (M1 0) (M0 0) ((0 : Int32)).toNatClampNeg ((0 : Int32)).toNatClampNeg ((91 : Int32)).toNatClampNeg))) ++ (wWX2 cB cI cZ a1 I1 M1)) H := hP
  have hD : va_D A ((wWX2 cB cI cZ a0 I0 (wb_mm M0 0 (va_cpy (M1 0) (M0 0) ((0 : Int32)).toNatClampNeg ((0 : Int32)).toNatClampNeg ((91 : Int32)).toNatClampNeg))) ++ (wWX2 cB cI cZ a1 I1 M1)) := hD
  obtain ⟨M0_1, eM0_1, hf⟩ := wb_v hf
  rw [← eM0_1] at hP hD
  refine lv_aload_n hx hb dX2_copyFrom_15 rfl (lv_at hl 0 rfl) ?_
  refine lv_aload_n hx hb dX2_copyFrom_16 rfl (lv_at hl 1 rfl) ?_
  refine va_get (D := D) (ci := 2) (v := .int (I1 0)) (C := RX2) (T := TX2) (N := 2) hx hb hts hinX2 hown hK hP 2 rfl rfl 1 (by decide) (hts (.fieldLink RX2 21 "WheelBook$Climates" "many" "I") (List.mem_of_getElem? (i := 6) rfl)) (fun _ h9 => h9) rfl dX2_copyFrom_17 ?_
  refine va_put (D := D) (ci := 2) (v := .int (I1 0)) (ty := .int) (C := RX2) (T := TX2) (N := 2) hx hb hts hinX2 tyX2 tyX2_ok nmX2 hown hK hP hD hS 0 rfl rfl 1 (by decide) (hts (.fieldLink RX2 21 "WheelBook$Climates" "many" "I") (List.mem_of_getElem? (i := 6) rfl)) (fun _ h9 => h9) rfl (by decide +kernel) rfl rfl (Nat.le_of_ble_eq_true rfl) dX2_copyFrom_20 (fun H locs hP hD hS => ?_)
  have hP : va_P D vwCl ((wWX2 cB cI cZ a0 (upd I0 0 (I1 0)) M0_1) ++ (wWX2 cB cI cZ a1 I1 M1)) H := hP
  have hD : va_D A ((wWX2 cB cI cZ a0 (upd I0 0 (I1 0)) M0_1) ++ (wWX2 cB cI cZ a1 I1 M1)) := hD
  obtain ⟨I0_2, eI0_2, hf⟩ := wb_v hf
  rw [← eI0_2] at hP hD
  exact W.vret hx hb hr (fun t ht hW => by rw [← Option.some.inj hf]; exact ⟨⟨(), rfl, trivial, by rw [ht]; exact hP, va_K.moved hW.alike hK, hD⟩, hS.F ht⟩) hS.2.2 dX2_copyFrom_23

