set_option maxHeartbeats 4000000 in
set_option maxRecDepth 100000 in
theorem cn_X4_init (l : Launch) (D : va_G) (cB cI cZ : ClassId) (N : Nat) (h0 sz : Nat) (R : (Nat → Int32) × (Nat → Nat → Int32)) (hf : fX4_init N = some R) : Met l yX4_init wsX4_init ({ frames := 1, cells := 1, slots := 30, locals := 12 }) (va_Pc [.ref h0] (wb_preN D [(cB, .byte), (cI, .int), (cZ, .boolean)] ([((h0, .inr (4, [.null, .int 0])) : Nat × va_E)] : va_W) sz [])) (va_Qv (fun _ : Unit => True) (fun _ t => wb_postN D [(cB, .byte), (cI, .int), (cZ, .boolean)] (va_A ([((h0, .inr (4, [.null, .int 0])) : Nat × va_E)] : va_W) sz) h0 (fun a => wWX4 cB cI cZ a R.1 R.2) t) (va_A ([((h0, .inr (4, [.null, .int 0])) : Nat × va_E)] : va_W) sz)) 1 30 (va_A ([((h0, .inr (4, [.null, .int 0])) : Nat × va_E)] : va_W) sz) := by
  refine Met.ofW (cc := cX4_init) (maxL := 1) (ret := none) pn_X4 rfl ?_
  intro p e s m args below meth c s₁ B hml hv
  obtain ⟨rfl, ⟨hsz, hP, hK, hD0⟩, hN⟩ := hv
  have hx := B.exec
  have hb := B.bytes
  have hr := B.returns
  have hts := atoms_spec (ws := wsX4_init) B.pre
  have hown : s.vm.findClass RX4 = some m.cls := (findClass_of_methodNamed B.named :)
  have hlocks := B.notSynchronized
  have hin0 : meth.name = "<init>" := (name_of_methodNamed B.named B.method).1
  have hinX4 : ∀ w ∈ u_ws RX4 TX4 2, w ∈ wsX4_init := fun w h => List.mem_cons_of_mem _ (List.mem_append_right _ h)
  subst hsz
  have hD := hD0.self (sz := s.heap.size)
  generalize hAe : va_A ([((h0, .inr (4, [.null, .int 0])) : Nat × va_E)] : va_W) s.heap.size = A at hD ⊢
  have hA : ∀ q : Nat, s.heap.size ≤ q → A q := fun q h => by rw [← hAe]; exact Or.inr h
  have hl := lv_entry ([.ref h0]) (n := 1) (Nat.le_of_ble_eq_true rfl)
  rw [lg_entry_eq]
  generalize (lg_sl ([.ref h0]) ++ List.replicate (1 - (lg_sl ([.ref h0])).length) Slot.unset).toArray = ls at hl ⊢
  have hl : lv_has ls 1 [(0, .ref h0)] := hl
  unfold fX4_init at hf
  obtain ⟨H, hHe⟩ : ∃ H : Heap, H = s.heap := ⟨_, rfl⟩
  obtain ⟨locs, hle⟩ : ∃ locs : List Loc, locs = [] := ⟨_, rfl⟩
  refine wb_start (H := H) (locs := locs) hHe hle ?_
  rw [← hHe] at hP
  have hS : va_S A s.heap H locs := by rw [hHe, hle]; exact va_S.rf
  refine lv_aload_n hx hb dX4_init_0 rfl (lv_at hl 0 rfl) ?_
  refine W.objInit hx hb hown (hts (.methodLink RX4 3 objectInit) (List.mem_of_getElem? (i := 1) rfl)) (hts (.instanceMethod objectInit) (List.mem_of_getElem? (i := 2) rfl)) (hts (.code objectInit ⟨#[0xb1]⟩ 1 none) (List.mem_of_getElem? (i := 3) rfl)) rfl (by rw [hml]; exact hl.1) rfl dX4_init_1 (Nat.le_of_ble_eq_true rfl) (Nat.le_of_ble_eq_true rfl) ?_
  refine W.eq (g2 := F0 m 4 ls []) rfl ?_
  refine lv_aload_n hx hb dX4_init_4 rfl (lv_at hl 0 rfl) ?_
  refine lv_bipush (v := (30 : Int32)) hx hb dX4_init_5 (by decide) ?_
  refine wb_newa (atype := .int) (ty := .int) (cT := cI) (N' := 30) hx hb (hts (.arrayClass .int) (List.mem_of_getElem? (i := 4) rfl)) rfl hK hP hD hS hA 1 rfl wb_raI (fun _ => rfl) (by decide +kernel) (by decide +kernel) (by decide +kernel) (Nat.le_of_ble_eq_true rfl) (Nat.le_of_ble_eq_true rfl) dX4_init_7 (fun q7 H hP hD hS => ?_)
  have hP : va_P D vwCl ([((h0, .inr (4, [.null, .int 0])) : Nat × va_E), ((q7, .inl (cI, 30, .inl (fun _ => (0 : Int32)))) : Nat × va_E)] : va_W) H := hP
  have hD : va_D A ([((h0, .inr (4, [.null, .int 0])) : Nat × va_E), ((q7, .inl (cI, 30, .inl (fun _ => (0 : Int32)))) : Nat × va_E)] : va_W) := hD
  refine va_putF (D := D) (ci := 4) (v := .ref q7) (ty := (.array .int)) (C := RX4) (T := TX4) (N := 2) hx hb hts hinX4 tyX4 tyX4_ok nmX4 hown hK hP hD hS 0 rfl rfl 0 (by decide) (hts (.fieldLink RX4 9 "WheelBook$Hands" "stoodFor" "[I") (List.mem_of_getElem? (i := 5) rfl)) (fun _ h9 => h9) rfl hin0 rfl (by decide +kernel) rfl rfl (Nat.le_of_ble_eq_true rfl) dX4_init_9 (fun H locs hP hD hS => ?_)
  have hP : va_P D vwCl ([((h0, .inr (4, [.ref q7, .int 0])) : Nat × va_E), ((q7, .inl (cI, 30, .inl (fun _ => (0 : Int32)))) : Nat × va_E)] : va_W) H := hP
  have hD : va_D A ([((h0, .inr (4, [.ref q7, .int 0])) : Nat × va_E), ((q7, .inl (cI, 30, .inl (fun _ => (0 : Int32)))) : Nat × va_E)] : va_W) := hD
  obtain ⟨I0_0, eI0_0, hf⟩ := wb_v hf
  obtain ⟨M0_0, eM0_0, hf⟩ := wb_v hf
  obtain ⟨a0, ea0⟩ : ∃ a0 : Nat → Nat, a0 = (fun k => ([h0, q7] : List Nat).getD k 0) := ⟨_, rfl⟩
  have hP : va_P D vwCl (wWX4 cB cI cZ a0 I0_0 M0_0) H := by rw [eI0_0, eM0_0, ea0]; exact hP.sub [0, 1] rfl
  have hD : va_D A (wWX4 cB cI cZ a0 I0_0 M0_0) := by rw [eI0_0, eM0_0, ea0]; exact hD.sub [0, 1] (by decide) rfl
  have h00 : a0 0 = h0 := by rw [ea0]; rfl
  rw [← h00] at hl
  refine W.widen (k := 1) (n := 30) (Nat.le_of_ble_eq_true rfl) (Nat.le_of_ble_eq_true rfl) ?_
  exact W.vret hx hb hr (fun t ht hW => by rw [← Option.some.inj hf]; exact ⟨⟨(), rfl, trivial, a0, h00, by rw [ht]; exact hP, va_K.moved hW.alike hK, hD⟩, hS.F ht⟩) hS.2.2 dX4_init_12

set_option maxHeartbeats 4000000 in
set_option maxRecDepth 100000 in
theorem cn_X5_init (l : Launch) (D : va_G) (cB cI cZ : ClassId) (N : Nat) (h0 sz : Nat) (R : (Nat → Int32) × (Nat → Nat → Int32)) (hf : fX5_init N = some R) : Met l yX5_init wsX5_init ({ frames := 2, cells := 8, slots := 237, locals := 32 }) (va_Pc [.ref h0] (wb_preN D [(cB, .byte), (cI, .int), (cZ, .boolean)] ([((h0, .inr (5, [.null, .null, .null, .null, .null, .null])) : Nat × va_E)] : va_W) sz [("WheelBook$House", 26, yX2_init, "WheelBook"), ("WheelBook$House", 33, yX4_init, "WheelBook")])) (va_Qv (fun _ : Unit => True) (fun _ t => wb_postN D [(cB, .byte), (cI, .int), (cZ, .boolean)] (va_A ([((h0, .inr (5, [.null, .null, .null, .null, .null, .null])) : Nat × va_E)] : va_W) sz) h0 (fun a => wWX5 cB cI cZ a R.1 R.2) t) (va_A ([((h0, .inr (5, [.null, .null, .null, .null, .null, .null])) : Nat × va_E)] : va_W) sz)) 8 237 (va_A ([((h0, .inr (5, [.null, .null, .null, .null, .null, .null])) : Nat × va_E)] : va_W) sz) := by
  refine Met.ofW (cc := cX5_init) (maxL := 1) (ret := none) pn_X5 rfl ?_
  intro p e s m args below meth c s₁ B hml hv
  obtain ⟨rfl, ⟨hsz, hP, hK, hD0⟩, hN⟩ := hv
  have hx := B.exec
  have hb := B.bytes
  have hr := B.returns
  have hts := atoms_spec (ws := wsX5_init) B.pre
  have hown : s.vm.findClass RX5 = some m.cls := (findClass_of_methodNamed B.named :)
  have hlocks := B.notSynchronized
  have hin0 : meth.name = "<init>" := (name_of_methodNamed B.named B.method).1
  have hinX2 : ∀ w ∈ u_ws RX2 TX2 2, w ∈ wsX5_init := fun w h => List.mem_cons_of_mem _ (List.mem_append_left _ (List.mem_append_right _ h))
  have hinX4 : ∀ w ∈ u_ws RX4 TX4 2, w ∈ wsX5_init := fun w h => List.mem_cons_of_mem _ (List.mem_append_right _ h)
  have hinX5 : ∀ w ∈ u_ws RX5 TX5 6, w ∈ wsX5_init := fun w h => List.mem_cons_of_mem _ (List.mem_append_left _ (List.mem_append_left _ (List.mem_append_right _ h)))
  subst hsz
  have hD := hD0.self (sz := s.heap.size)
  generalize hAe : va_A ([((h0, .inr (5, [.null, .null, .null, .null, .null, .null])) : Nat × va_E)] : va_W) s.heap.size = A at hD ⊢
  have hA : ∀ q : Nat, s.heap.size ≤ q → A q := fun q h => by rw [← hAe]; exact Or.inr h
  have hl := lv_entry ([.ref h0]) (n := 1) (Nat.le_of_ble_eq_true rfl)
  rw [lg_entry_eq]
  generalize (lg_sl ([.ref h0]) ++ List.replicate (1 - (lg_sl ([.ref h0])).length) Slot.unset).toArray = ls at hl ⊢
  have hl : lv_has ls 1 [(0, .ref h0)] := hl
  unfold fX5_init at hf
  obtain ⟨H, hHe⟩ : ∃ H : Heap, H = s.heap := ⟨_, rfl⟩
  obtain ⟨locs, hle⟩ : ∃ locs : List Loc, locs = [] := ⟨_, rfl⟩
  refine wb_start (H := H) (locs := locs) hHe hle ?_
  rw [← hHe] at hP
  have hS : va_S A s.heap H locs := by rw [hHe, hle]; exact va_S.rf
  refine lv_aload_n hx hb dX5_init_0 rfl (lv_at hl 0 rfl) ?_
  refine W.objInit hx hb hown (hts (.methodLink RX5 3 objectInit) (List.mem_of_getElem? (i := 1) rfl)) (hts (.instanceMethod objectInit) (List.mem_of_getElem? (i := 2) rfl)) (hts (.code objectInit ⟨#[0xb1]⟩ 1 none) (List.mem_of_getElem? (i := 3) rfl)) rfl (by rw [hml]; exact hl.1) rfl dX5_init_1 (Nat.le_of_ble_eq_true rfl) (Nat.le_of_ble_eq_true rfl) ?_
  refine W.eq (g2 := F0 m 4 ls []) rfl ?_
  refine lv_aload_n hx hb dX5_init_4 rfl (lv_at hl 0 rfl) ?_
  refine lv_bipush (v := (28 : Int32)) hx hb dX5_init_5 (by decide) ?_
  refine wb_newa (atype := .int) (ty := .int) (cT := cI) (N' := 28) hx hb (hts (.arrayClass .int) (List.mem_of_getElem? (i := 4) rfl)) rfl hK hP hD hS hA 1 rfl wb_raI (fun _ => rfl) (by decide +kernel) (by decide +kernel) (by decide +kernel) (Nat.le_of_ble_eq_true rfl) (Nat.le_of_ble_eq_true rfl) dX5_init_7 (fun q7 H hP hD hS => ?_)
  have hP : va_P D vwCl ([((h0, .inr (5, [.null, .null, .null, .null, .null, .null])) : Nat × va_E), ((q7, .inl (cI, 28, .inl (fun _ => (0 : Int32)))) : Nat × va_E)] : va_W) H := hP
  have hD : va_D A ([((h0, .inr (5, [.null, .null, .null, .null, .null, .null])) : Nat × va_E), ((q7, .inl (cI, 28, .inl (fun _ => (0 : Int32)))) : Nat × va_E)] : va_W) := hD
  refine va_putF (D := D) (ci := 5) (v := .ref q7) (ty := (.array .int)) (C := RX5) (T := TX5) (N := 6) hx hb hts hinX5 tyX5 tyX5_ok nmX5 hown hK hP hD hS 0 rfl rfl 0 (by decide) (hts (.fieldLink RX5 11 "WheelBook$House" "at" "[I") (List.mem_of_getElem? (i := 5) rfl)) (fun _ h9 => h9) rfl hin0 rfl (by decide +kernel) rfl rfl (Nat.le_of_ble_eq_true rfl) dX5_init_9 (fun H locs hP hD hS => ?_)
  have hP : va_P D vwCl ([((h0, .inr (5, [.ref q7, .null, .null, .null, .null, .null])) : Nat × va_E), ((q7, .inl (cI, 28, .inl (fun _ => (0 : Int32)))) : Nat × va_E)] : va_W) H := hP
  have hD : va_D A ([((h0, .inr (5, [.ref q7, .null, .null, .null, .null, .null])) : Nat × va_E), ((q7, .inl (cI, 28, .inl (fun _ => (0 : Int32)))) : Nat × va_E)] : va_W) := hD
  refine lv_aload_n hx hb dX5_init_12 rfl (lv_at hl 0 rfl) ?_
  refine lv_bipush (v := (28 : Int32)) hx hb dX5_init_13 (by decide) ?_
  refine wb_newa (atype := .int) (ty := .int) (cT := cI) (N' := 28) hx hb (hts (.arrayClass .int) (List.mem_of_getElem? (i := 4) rfl)) rfl hK hP hD hS hA 1 rfl wb_raI (fun _ => rfl) (by decide +kernel) (by decide +kernel) (by decide +kernel) (Nat.le_of_ble_eq_true rfl) (Nat.le_of_ble_eq_true rfl) dX5_init_15 (fun q15 H hP hD hS => ?_)
  have hP : va_P D vwCl ([((h0, .inr (5, [.ref q7, .null, .null, .null, .null, .null])) : Nat × va_E), ((q7, .inl (cI, 28, .inl (fun _ => (0 : Int32)))) : Nat × va_E), ((q15, .inl (cI, 28, .inl (fun _ => (0 : Int32)))) : Nat × va_E)] : va_W) H := hP
  have hD : va_D A ([((h0, .inr (5, [.ref q7, .null, .null, .null, .null, .null])) : Nat × va_E), ((q7, .inl (cI, 28, .inl (fun _ => (0 : Int32)))) : Nat × va_E), ((q15, .inl (cI, 28, .inl (fun _ => (0 : Int32)))) : Nat × va_E)] : va_W) := hD
  refine va_putF (D := D) (ci := 5) (v := .ref q15) (ty := (.array .int)) (C := RX5) (T := TX5) (N := 6) hx hb hts hinX5 tyX5 tyX5_ok nmX5 hown hK hP hD hS 0 rfl rfl 1 (by decide) (hts (.fieldLink RX5 15 "WheelBook$House" "goes" "[I") (List.mem_of_getElem? (i := 6) rfl)) (fun _ h9 => h9) rfl hin0 rfl (by decide +kernel) rfl rfl (Nat.le_of_ble_eq_true rfl) dX5_init_17 (fun H locs hP hD hS => ?_)
  have hP : va_P D vwCl ([((h0, .inr (5, [.ref q7, .ref q15, .null, .null, .null, .null])) : Nat × va_E), ((q7, .inl (cI, 28, .inl (fun _ => (0 : Int32)))) : Nat × va_E), ((q15, .inl (cI, 28, .inl (fun _ => (0 : Int32)))) : Nat × va_E)] : va_W) H := hP
  have hD : va_D A ([((h0, .inr (5, [.ref q7, .ref q15, .null, .null, .null, .null])) : Nat × va_E), ((q7, .inl (cI, 28, .inl (fun _ => (0 : Int32)))) : Nat × va_E), ((q15, .inl (cI, 28, .inl (fun _ => (0 : Int32)))) : Nat × va_E)] : va_W) := hD
  refine lv_aload_n hx hb dX5_init_20 rfl (lv_at hl 0 rfl) ?_
  refine lv_bipush (v := (28 : Int32)) hx hb dX5_init_21 (by decide) ?_
  refine wb_newa (atype := .int) (ty := .int) (cT := cI) (N' := 28) hx hb (hts (.arrayClass .int) (List.mem_of_getElem? (i := 4) rfl)) rfl hK hP hD hS hA 1 rfl wb_raI (fun _ => rfl) (by decide +kernel) (by decide +kernel) (by decide +kernel) (Nat.le_of_ble_eq_true rfl) (Nat.le_of_ble_eq_true rfl) dX5_init_23 (fun q23 H hP hD hS => ?_)
  have hP : va_P D vwCl ([((h0, .inr (5, [.ref q7, .ref q15, .null, .null, .null, .null])) : Nat × va_E), ((q7, .inl (cI, 28, .inl (fun _ => (0 : Int32)))) : Nat × va_E), ((q15, .inl (cI, 28, .inl (fun _ => (0 : Int32)))) : Nat × va_E), ((q23, .inl (cI, 28, .inl (fun _ => (0 : Int32)))) : Nat × va_E)] : va_W) H := hP
  have hD : va_D A ([((h0, .inr (5, [.ref q7, .ref q15, .null, .null, .null, .null])) : Nat × va_E), ((q7, .inl (cI, 28, .inl (fun _ => (0 : Int32)))) : Nat × va_E), ((q15, .inl (cI, 28, .inl (fun _ => (0 : Int32)))) : Nat × va_E), ((q23, .inl (cI, 28, .inl (fun _ => (0 : Int32)))) : Nat × va_E)] : va_W) := hD
  refine va_putF (D := D) (ci := 5) (v := .ref q23) (ty := (.array .int)) (C := RX5) (T := TX5) (N := 6) hx hb hts hinX5 tyX5 tyX5_ok nmX5 hown hK hP hD hS 0 rfl rfl 2 (by decide) (hts (.fieldLink RX5 18 "WheelBook$House" "swing" "[I") (List.mem_of_getElem? (i := 7) rfl)) (fun _ h9 => h9) rfl hin0 rfl (by decide +kernel) rfl rfl (Nat.le_of_ble_eq_true rfl) dX5_init_25 (fun H locs hP hD hS => ?_)
  have hP : va_P D vwCl ([((h0, .inr (5, [.ref q7, .ref q15, .ref q23, .null, .null, .null])) : Nat × va_E), ((q7, .inl (cI, 28, .inl (fun _ => (0 : Int32)))) : Nat × va_E), ((q15, .inl (cI, 28, .inl (fun _ => (0 : Int32)))) : Nat × va_E), ((q23, .inl (cI, 28, .inl (fun _ => (0 : Int32)))) : Nat × va_E)] : va_W) H := hP
  have hD : va_D A ([((h0, .inr (5, [.ref q7, .ref q15, .ref q23, .null, .null, .null])) : Nat × va_E), ((q7, .inl (cI, 28, .inl (fun _ => (0 : Int32)))) : Nat × va_E), ((q15, .inl (cI, 28, .inl (fun _ => (0 : Int32)))) : Nat × va_E), ((q23, .inl (cI, 28, .inl (fun _ => (0 : Int32)))) : Nat × va_E)] : va_W) := hD
  refine lv_aload_n hx hb dX5_init_28 rfl (lv_at hl 0 rfl) ?_
  refine lv_bipush (v := (28 : Int32)) hx hb dX5_init_29 (by decide) ?_
  refine wb_newa (atype := .int) (ty := .int) (cT := cI) (N' := 28) hx hb (hts (.arrayClass .int) (List.mem_of_getElem? (i := 4) rfl)) rfl hK hP hD hS hA 1 rfl wb_raI (fun _ => rfl) (by decide +kernel) (by decide +kernel) (by decide +kernel) (Nat.le_of_ble_eq_true rfl) (Nat.le_of_ble_eq_true rfl) dX5_init_31 (fun q31 H hP hD hS => ?_)
  have hP : va_P D vwCl ([((h0, .inr (5, [.ref q7, .ref q15, .ref q23, .null, .null, .null])) : Nat × va_E), ((q7, .inl (cI, 28, .inl (fun _ => (0 : Int32)))) : Nat × va_E), ((q15, .inl (cI, 28, .inl (fun _ => (0 : Int32)))) : Nat × va_E), ((q23, .inl (cI, 28, .inl (fun _ => (0 : Int32)))) : Nat × va_E), ((q31, .inl (cI, 28, .inl (fun _ => (0 : Int32)))) : Nat × va_E)] : va_W) H := hP
  have hD : va_D A ([((h0, .inr (5, [.ref q7, .ref q15, .ref q23, .null, .null, .null])) : Nat × va_E), ((q7, .inl (cI, 28, .inl (fun _ => (0 : Int32)))) : Nat × va_E), ((q15, .inl (cI, 28, .inl (fun _ => (0 : Int32)))) : Nat × va_E), ((q23, .inl (cI, 28, .inl (fun _ => (0 : Int32)))) : Nat × va_E), ((q31, .inl (cI, 28, .inl (fun _ => (0 : Int32)))) : Nat × va_E)] : va_W) := hD
  refine va_putF (D := D) (ci := 5) (v := .ref q31) (ty := (.array .int)) (C := RX5) (T := TX5) (N := 6) hx hb hts hinX5 tyX5 tyX5_ok nmX5 hown hK hP hD hS 0 rfl rfl 3 (by decide) (hts (.fieldLink RX5 21 "WheelBook$House" "period" "[I") (List.mem_of_getElem? (i := 8) rfl)) (fun _ h9 => h9) rfl hin0 rfl (by decide +kernel) rfl rfl (Nat.le_of_ble_eq_true rfl) dX5_init_33 (fun H locs hP hD hS => ?_)
  have hP : va_P D vwCl ([((h0, .inr (5, [.ref q7, .ref q15, .ref q23, .ref q31, .null, .null])) : Nat × va_E), ((q7, .inl (cI, 28, .inl (fun _ => (0 : Int32)))) : Nat × va_E), ((q15, .inl (cI, 28, .inl (fun _ => (0 : Int32)))) : Nat × va_E), ((q23, .inl (cI, 28, .inl (fun _ => (0 : Int32)))) : Nat × va_E), ((q31, .inl (cI, 28, .inl (fun _ => (0 : Int32)))) : Nat × va_E)] : va_W) H := hP
  have hD : va_D A ([((h0, .inr (5, [.ref q7, .ref q15, .ref q23, .ref q31, .null, .null])) : Nat × va_E), ((q7, .inl (cI, 28, .inl (fun _ => (0 : Int32)))) : Nat × va_E), ((q15, .inl (cI, 28, .inl (fun _ => (0 : Int32)))) : Nat × va_E), ((q23, .inl (cI, 28, .inl (fun _ => (0 : Int32)))) : Nat × va_E), ((q31, .inl (cI, 28, .inl (fun _ => (0 : Int32)))) : Nat × va_E)] : va_W) := hD
  refine lv_aload_n hx hb dX5_init_36 rfl (lv_at hl 0 rfl) ?_
  refine va_new (ci := 2) (fs := [.null, .int 0]) (C := RX2) (T := TX2) (N := 2) hx hb hts hinX2 tyX2 tyX2_ok hown (hts (.classLink RX5 24 RX2) (List.mem_of_getElem? (i := 9) rfl)) (hts (.instantiable RX2 2) (List.mem_of_getElem? (i := 10) rfl)) (hts (.initialized RX2) (List.mem_of_getElem? (i := 11) rfl)) hK hP hD hS hA rfl (fun j hj => wb_df2 (f := fun j => defaultValue (tyX2 j)) (g := fun j => vp_V [.null, .int 0] j) rfl rfl j hj) (Nat.le_of_ble_eq_true rfl) (Nat.le_of_ble_eq_true rfl) dX5_init_37 (fun q37 H hP hD hS => ?_)
  have hP : va_P D vwCl ([((h0, .inr (5, [.ref q7, .ref q15, .ref q23, .ref q31, .null, .null])) : Nat × va_E), ((q7, .inl (cI, 28, .inl (fun _ => (0 : Int32)))) : Nat × va_E), ((q15, .inl (cI, 28, .inl (fun _ => (0 : Int32)))) : Nat × va_E), ((q23, .inl (cI, 28, .inl (fun _ => (0 : Int32)))) : Nat × va_E), ((q31, .inl (cI, 28, .inl (fun _ => (0 : Int32)))) : Nat × va_E), ((q37, .inr (2, [.null, .int 0])) : Nat × va_E)] : va_W) H := hP
  have hD : va_D A ([((h0, .inr (5, [.ref q7, .ref q15, .ref q23, .ref q31, .null, .null])) : Nat × va_E), ((q7, .inl (cI, 28, .inl (fun _ => (0 : Int32)))) : Nat × va_E), ((q15, .inl (cI, 28, .inl (fun _ => (0 : Int32)))) : Nat × va_E), ((q23, .inl (cI, 28, .inl (fun _ => (0 : Int32)))) : Nat × va_E), ((q31, .inl (cI, 28, .inl (fun _ => (0 : Int32)))) : Nat × va_E), ((q37, .inr (2, [.null, .int 0])) : Nat × va_E)] : va_W) := hD
  refine lv_dup hx hb dX5_init_40 rfl ?_
  obtain ⟨r1, hr1, hf⟩ := wb_b hf
  have hPc := hP.sub (ws' := ([((q37, .inr (2, [.null, .int 0])) : Nat × va_E)] : va_W)) [5] rfl
  have hDc := hD.sub (ws' := ([((q37, .inr (2, [.null, .int 0])) : Nat × va_E)] : va_W)) [5] (by decide) rfl
  have hFc := va_free (wc := ([((q37, .inr (2, [.null, .int 0])) : Nat × va_E)] : va_W)) hD hS hA [5] rfl
  refine va_callv (va_runIN (As := []) (rest := [.ref q37, .ref h0]) ⟨hx, hb, hml, hown, hts⟩ (cn_X2_init l D cB cI cZ N q37 H.size r1 hr1) ⟨va_cnB (host := "WheelBook") 0 hts gX5_init_X2_init_n26 rfl rfl rfl (hN ("WheelBook$House", 26, yX2_init, "WheelBook") (by decide +kernel)) (hts (.initialized RX2) (List.mem_of_getElem? (i := 11) rfl)) csX2_init ⟨Nat.le_of_ble_eq_true rfl, Nat.le_of_ble_eq_true rfl⟩, rfl, (hts (.instanceMethod yX2_init) (List.mem_of_getElem? (i := 17) rfl))⟩ (wb_preNS hPc hK hDc (NW := []) (fun w hw => nomatch hw)) rfl rfl hl.1 rfl (lv_room (Nat.le_of_ble_eq_true rfl)) dX5_init_41 ⟨Nat.le_of_ble_eq_true rfl, Nat.le_of_ble_eq_true rfl⟩) hS (fun q _ h => hFc q h) hFc (fun u t H locs ht hvm hw hB hz1 hk1 hS => ?_)
  obtain ⟨an41, han41, hB⟩ := hB
  obtain ⟨hP, hD⟩ := wj_s (wc := ([((q37, .inr (2, [.null, .int 0])) : Nat × va_E)] : va_W)) (w1 := wWX2 cB cI cZ an41 r1.1 r1.2) (wf := ([((h0, .inr (5, [.ref q7, .ref q15, .ref q23, .ref q31, .null, .null])) : Nat × va_E), ((q7, .inl (cI, 28, .inl (fun _ => (0 : Int32)))) : Nat × va_E), ((q15, .inl (cI, 28, .inl (fun _ => (0 : Int32)))) : Nat × va_E), ((q23, .inl (cI, 28, .inl (fun _ => (0 : Int32)))) : Nat × va_E), ((q31, .inl (cI, 28, .inl (fun _ => (0 : Int32)))) : Nat × va_E)] ++ (wWX2 cB cI cZ an41 r1.1 r1.2))) 5 6 hP hD rfl rfl hk1 hFc ht hB
  rw [show (q37 : Nat) = an41 0 from han41.symm]
  refine va_putF (D := D) (ci := 5) (v := .ref (an41 0)) (ty := (.object "WheelBook$Climates")) (C := RX5) (T := TX5) (N := 6) hx hb hts hinX5 tyX5 tyX5_ok nmX5 hown hK hP hD hS 0 rfl rfl 4 (by decide) (hts (.fieldLink RX5 27 "WheelBook$House" "climates" "LWheelBook$Climates;") (List.mem_of_getElem? (i := 12) rfl)) (fun _ h9 => h9) rfl hin0 rfl (by decide +kernel) rfl rfl (Nat.le_of_ble_eq_true rfl) dX5_init_44 (fun H locs hP hD hS => ?_)
  have hP : va_P D vwCl ([((h0, .inr (5, [.ref q7, .ref q15, .ref q23, .ref q31, .ref (an41 0), .null])) : Nat × va_E), ((q7, .inl (cI, 28, .inl (fun _ => (0 : Int32)))) : Nat × va_E), ((q15, .inl (cI, 28, .inl (fun _ => (0 : Int32)))) : Nat × va_E), ((q23, .inl (cI, 28, .inl (fun _ => (0 : Int32)))) : Nat × va_E), ((q31, .inl (cI, 28, .inl (fun _ => (0 : Int32)))) : Nat × va_E)] ++ (wWX2 cB cI cZ an41 r1.1 r1.2)) H := hP
  have hD : va_D A ([((h0, .inr (5, [.ref q7, .ref q15, .ref q23, .ref q31, .ref (an41 0), .null])) : Nat × va_E), ((q7, .inl (cI, 28, .inl (fun _ => (0 : Int32)))) : Nat × va_E), ((q15, .inl (cI, 28, .inl (fun _ => (0 : Int32)))) : Nat × va_E), ((q23, .inl (cI, 28, .inl (fun _ => (0 : Int32)))) : Nat × va_E), ((q31, .inl (cI, 28, .inl (fun _ => (0 : Int32)))) : Nat × va_E)] ++ (wWX2 cB cI cZ an41 r1.1 r1.2)) := hD
  refine lv_aload_n hx hb dX5_init_47 rfl (lv_at hl 0 rfl) ?_
  refine va_new (ci := 4) (fs := [.null, .int 0]) (C := RX4) (T := TX4) (N := 2) hx hb hts hinX4 tyX4 tyX4_ok hown (hts (.classLink RX5 31 RX4) (List.mem_of_getElem? (i := 13) rfl)) (hts (.instantiable RX4 2) (List.mem_of_getElem? (i := 14) rfl)) (hts (.initialized RX4) (List.mem_of_getElem? (i := 15) rfl)) hK hP hD hS hA rfl (fun j hj => wb_df2 (f := fun j => defaultValue (tyX4 j)) (g := fun j => vp_V [.null, .int 0] j) rfl rfl j hj) (Nat.le_of_ble_eq_true rfl) (Nat.le_of_ble_eq_true rfl) dX5_init_48 (fun q48 H hP hD hS => ?_)
  have hP : va_P D vwCl ([((h0, .inr (5, [.ref q7, .ref q15, .ref q23, .ref q31, .ref (an41 0), .null])) : Nat × va_E), ((q7, .inl (cI, 28, .inl (fun _ => (0 : Int32)))) : Nat × va_E), ((q15, .inl (cI, 28, .inl (fun _ => (0 : Int32)))) : Nat × va_E), ((q23, .inl (cI, 28, .inl (fun _ => (0 : Int32)))) : Nat × va_E), ((q31, .inl (cI, 28, .inl (fun _ => (0 : Int32)))) : Nat × va_E)] ++ ((wWX2 cB cI cZ an41 r1.1 r1.2) ++ [((q48, .inr (4, [.null, .int 0])) : Nat × va_E)])) H := hP
  have hD : va_D A ([((h0, .inr (5, [.ref q7, .ref q15, .ref q23, .ref q31, .ref (an41 0), .null])) : Nat × va_E), ((q7, .inl (cI, 28, .inl (fun _ => (0 : Int32)))) : Nat × va_E), ((q15, .inl (cI, 28, .inl (fun _ => (0 : Int32)))) : Nat × va_E), ((q23, .inl (cI, 28, .inl (fun _ => (0 : Int32)))) : Nat × va_E), ((q31, .inl (cI, 28, .inl (fun _ => (0 : Int32)))) : Nat × va_E)] ++ ((wWX2 cB cI cZ an41 r1.1 r1.2) ++ [((q48, .inr (4, [.null, .int 0])) : Nat × va_E)])) := hD
  refine lv_dup hx hb dX5_init_51 rfl ?_
  obtain ⟨r2, hr2, hf⟩ := wb_b hf
  have hPc := hP.sub (ws' := ([((q48, .inr (4, [.null, .int 0])) : Nat × va_E)] : va_W)) [7] rfl
  have hDc := hD.sub (ws' := ([((q48, .inr (4, [.null, .int 0])) : Nat × va_E)] : va_W)) [7] (by decide) rfl
  have hFc := va_free (wc := ([((q48, .inr (4, [.null, .int 0])) : Nat × va_E)] : va_W)) hD hS hA [7] rfl
  refine va_callv (va_runIN (As := []) (rest := [.ref q48, .ref h0]) ⟨hx, hb, hml, hown, hts⟩ (cn_X4_init l D cB cI cZ N q48 H.size r2 hr2) ⟨va_cnB (host := "WheelBook") 0 hts gX5_init_X4_init_n33 rfl rfl rfl (hN ("WheelBook$House", 33, yX4_init, "WheelBook") (by decide +kernel)) (hts (.initialized RX4) (List.mem_of_getElem? (i := 15) rfl)) csX4_init ⟨Nat.le_of_ble_eq_true rfl, Nat.le_of_ble_eq_true rfl⟩, rfl, (hts (.instanceMethod yX4_init) (List.mem_of_getElem? (i := 21) rfl))⟩ (wb_preNS hPc hK hDc (NW := []) (fun w hw => nomatch hw)) rfl rfl hl.1 rfl (lv_room (Nat.le_of_ble_eq_true rfl)) dX5_init_52 ⟨Nat.le_of_ble_eq_true rfl, Nat.le_of_ble_eq_true rfl⟩) hS (fun q _ h => hFc q h) hFc (fun u t H locs ht hvm hw hB hz1 hk1 hS => ?_)
  obtain ⟨an52, han52, hB⟩ := hB
  obtain ⟨hP, hD⟩ := wj_s (wc := ([((q48, .inr (4, [.null, .int 0])) : Nat × va_E)] : va_W)) (w1 := wWX4 cB cI cZ an52 r2.1 r2.2) (wf := ([((h0, .inr (5, [.ref q7, .ref q15, .ref q23, .ref q31, .ref (an41 0), .null])) : Nat × va_E), ((q7, .inl (cI, 28, .inl (fun _ => (0 : Int32)))) : Nat × va_E), ((q15, .inl (cI, 28, .inl (fun _ => (0 : Int32)))) : Nat × va_E), ((q23, .inl (cI, 28, .inl (fun _ => (0 : Int32)))) : Nat × va_E), ((q31, .inl (cI, 28, .inl (fun _ => (0 : Int32)))) : Nat × va_E)] ++ ((wWX2 cB cI cZ an41 r1.1 r1.2) ++ (wWX4 cB cI cZ an52 r2.1 r2.2)))) 7 8 hP hD rfl rfl hk1 hFc ht hB
  rw [show (q48 : Nat) = an52 0 from han52.symm]
  refine va_putF (D := D) (ci := 5) (v := .ref (an52 0)) (ty := (.object "WheelBook$Hands")) (C := RX5) (T := TX5) (N := 6) hx hb hts hinX5 tyX5 tyX5_ok nmX5 hown hK hP hD hS 0 rfl rfl 5 (by decide) (hts (.fieldLink RX5 34 "WheelBook$House" "hands" "LWheelBook$Hands;") (List.mem_of_getElem? (i := 16) rfl)) (fun _ h9 => h9) rfl hin0 rfl (by decide +kernel) rfl rfl (Nat.le_of_ble_eq_true rfl) dX5_init_55 (fun H locs hP hD hS => ?_)
  have hP : va_P D vwCl ([((h0, .inr (5, [.ref q7, .ref q15, .ref q23, .ref q31, .ref (an41 0), .ref (an52 0)])) : Nat × va_E), ((q7, .inl (cI, 28, .inl (fun _ => (0 : Int32)))) : Nat × va_E), ((q15, .inl (cI, 28, .inl (fun _ => (0 : Int32)))) : Nat × va_E), ((q23, .inl (cI, 28, .inl (fun _ => (0 : Int32)))) : Nat × va_E), ((q31, .inl (cI, 28, .inl (fun _ => (0 : Int32)))) : Nat × va_E)] ++ ((wWX2 cB cI cZ an41 r1.1 r1.2) ++ (wWX4 cB cI cZ an52 r2.1 r2.2))) H := hP
  have hD : va_D A ([((h0, .inr (5, [.ref q7, .ref q15, .ref q23, .ref q31, .ref (an41 0), .ref (an52 0)])) : Nat × va_E), ((q7, .inl (cI, 28, .inl (fun _ => (0 : Int32)))) : Nat × va_E), ((q15, .inl (cI, 28, .inl (fun _ => (0 : Int32)))) : Nat × va_E), ((q23, .inl (cI, 28, .inl (fun _ => (0 : Int32)))) : Nat × va_E), ((q31, .inl (cI, 28, .inl (fun _ => (0 : Int32)))) : Nat × va_E)] ++ ((wWX2 cB cI cZ an41 r1.1 r1.2) ++ (wWX4 cB cI cZ an52 r2.1 r2.2))) := hD
  obtain ⟨I0_0, eI0_0, hf⟩ := wb_v hf
  obtain ⟨M0_0, eM0_0, hf⟩ := wb_v hf
  obtain ⟨a0, ea0⟩ : ∃ a0 : Nat → Nat, a0 = (fun k => ([h0, q7, q15, q23, q31, an41 0, an41 1, an52 0, an52 1] : List Nat).getD k 0) := ⟨_, rfl⟩
  have hP : va_P D vwCl (wWX5 cB cI cZ a0 I0_0 M0_0) H := by rw [eI0_0, eM0_0, ea0]; exact hP.sub [0, 1, 2, 3, 4, 5, 6, 7, 8] rfl
  have hD : va_D A (wWX5 cB cI cZ a0 I0_0 M0_0) := by rw [eI0_0, eM0_0, ea0]; exact hD.sub [0, 1, 2, 3, 4, 5, 6, 7, 8] (by decide) rfl
  have h00 : a0 0 = h0 := by rw [ea0]; rfl
  rw [← h00] at hl
  refine W.widen (k := 8) (n := 237) (Nat.le_of_ble_eq_true rfl) (Nat.le_of_ble_eq_true rfl) ?_
  refine lv_aload_n hx hb dX5_init_58 rfl (lv_at hl 0 rfl) ?_
  refine va_get (D := D) (ci := 5) (v := .ref (a0 4)) (C := RX5) (T := TX5) (N := 6) hx hb hts hinX5 hown hK hP 0 rfl rfl 3 (by decide) (hts (.fieldLink RX5 21 "WheelBook$House" "period" "[I") (List.mem_of_getElem? (i := 8) rfl)) (fun _ h9 => h9) rfl dX5_init_59 ?_
  refine lv_iconst (v := (1 : Int32)) hx hb dX5_init_62 (by decide) ?_
  obtain ⟨r3, hr3, hf⟩ := wb_b hf
  have hPc := hP.sub (ws' := ([(((a0 4), .inl (cI, 28, .inl (M0_0 3))) : Nat × va_E)] : va_W)) [4] rfl
  have hDc := hD.sub (ws' := ([(((a0 4), .inl (cI, 28, .inl (M0_0 3))) : Nat × va_E)] : va_W)) [4] (by decide) rfl
  have hFc := va_free (wc := ([(((a0 4), .inl (cI, 28, .inl (M0_0 3))) : Nat × va_E)] : va_W)) hD hS hA [4] rfl
  refine va_callv (va_runS (As := [.ref (a0 4), .int (1 : Int32)]) (rest := []) ⟨hx, hb, hml, hown, hts⟩ (cn_J7_fill_53178 l D cB cI cZ N (a0 4) 28 (M0_0 3) (1 : Int32) H.size r3 hr3) (va_cwS 2 hts gX5_init_J7_fill_53178 rfl rfl rfl csJ7_fill_53178 ⟨Nat.le_of_ble_eq_true rfl, Nat.le_of_ble_eq_true rfl⟩) (wb_preDS hPc hK hDc) rfl rfl hl.1 rfl (lv_room (Nat.le_of_ble_eq_true rfl)) dX5_init_63 ⟨Nat.le_of_ble_eq_true rfl, Nat.le_of_ble_eq_true rfl⟩) hS (fun q _ h => hFc q h) hFc (fun u t H locs ht hvm hw hB hz1 hk1 hS => ?_)
  obtain ⟨hP, hD⟩ := wj_s (wc := ([(((a0 4), .inl (cI, 28, .inl (M0_0 3))) : Nat × va_E)] : va_W)) (w1 := ([(((a0 4), .inl (cI, 28, .inl r3)) : Nat × va_E)] : va_W)) (wf := (wWX5 cB cI cZ a0 I0_0 (wb_mm M0_0 3 r3))) 4 5 hP hD rfl rfl hk1 hFc ht hB
  obtain ⟨M0_4, eM0_4, hf⟩ := wb_v hf
  rw [← eM0_4] at hP hD
  exact W.vret hx hb hr (fun t ht hW => by rw [← Option.some.inj hf]; exact ⟨⟨(), rfl, trivial, a0, h00, by rw [ht]; exact hP, va_K.moved hW.alike hK, hD⟩, hS.F ht⟩) hS.2.2 dX5_init_66

set_option maxHeartbeats 4000000 in
set_option maxRecDepth 100000 in
theorem cn_X6_init (l : Launch) (D : va_G) (cB cI cZ : ClassId) (N : Nat) (h0 sz : Nat) (R : (Nat → Int32) × (Nat → Nat → Int32)) (hf : fX6_init N = some R) : Met l yX6_init wsX6_init ({ frames := 1, cells := 4, slots := 166, locals := 12 }) (va_Pc [.ref h0] (wb_preN D [(cB, .byte), (cI, .int), (cZ, .boolean)] ([((h0, .inr (6, [.null, .null, .null, .null])) : Nat × va_E)] : va_W) sz [])) (va_Qv (fun _ : Unit => True) (fun _ t => wb_postN D [(cB, .byte), (cI, .int), (cZ, .boolean)] (va_A ([((h0, .inr (6, [.null, .null, .null, .null])) : Nat × va_E)] : va_W) sz) h0 (fun a => wWX6 cB cI cZ a R.1 R.2) t) (va_A ([((h0, .inr (6, [.null, .null, .null, .null])) : Nat × va_E)] : va_W) sz)) 4 166 (va_A ([((h0, .inr (6, [.null, .null, .null, .null])) : Nat × va_E)] : va_W) sz) := by
  refine Met.ofW (cc := cX6_init) (maxL := 1) (ret := none) pn_X6 rfl ?_
  intro p e s m args below meth c s₁ B hml hv
  obtain ⟨rfl, ⟨hsz, hP, hK, hD0⟩, hN⟩ := hv
  have hx := B.exec
  have hb := B.bytes
  have hr := B.returns
  have hts := atoms_spec (ws := wsX6_init) B.pre
  have hown : s.vm.findClass RX6 = some m.cls := (findClass_of_methodNamed B.named :)
  have hlocks := B.notSynchronized
  have hin0 : meth.name = "<init>" := (name_of_methodNamed B.named B.method).1
  have hinX6 : ∀ w ∈ u_ws RX6 TX6 4, w ∈ wsX6_init := fun w h => List.mem_cons_of_mem _ (List.mem_append_right _ h)
  subst hsz
  have hD := hD0.self (sz := s.heap.size)
  generalize hAe : va_A ([((h0, .inr (6, [.null, .null, .null, .null])) : Nat × va_E)] : va_W) s.heap.size = A at hD ⊢
  have hA : ∀ q : Nat, s.heap.size ≤ q → A q := fun q h => by rw [← hAe]; exact Or.inr h
  have hl := lv_entry ([.ref h0]) (n := 1) (Nat.le_of_ble_eq_true rfl)
  rw [lg_entry_eq]
  generalize (lg_sl ([.ref h0]) ++ List.replicate (1 - (lg_sl ([.ref h0])).length) Slot.unset).toArray = ls at hl ⊢
  have hl : lv_has ls 1 [(0, .ref h0)] := hl
  unfold fX6_init at hf
  obtain ⟨H, hHe⟩ : ∃ H : Heap, H = s.heap := ⟨_, rfl⟩
  obtain ⟨locs, hle⟩ : ∃ locs : List Loc, locs = [] := ⟨_, rfl⟩
  refine wb_start (H := H) (locs := locs) hHe hle ?_
  rw [← hHe] at hP
  have hS : va_S A s.heap H locs := by rw [hHe, hle]; exact va_S.rf
  refine lv_aload_n hx hb dX6_init_0 rfl (lv_at hl 0 rfl) ?_
  refine W.objInit hx hb hown (hts (.methodLink RX6 3 objectInit) (List.mem_of_getElem? (i := 1) rfl)) (hts (.instanceMethod objectInit) (List.mem_of_getElem? (i := 2) rfl)) (hts (.code objectInit ⟨#[0xb1]⟩ 1 none) (List.mem_of_getElem? (i := 3) rfl)) rfl (by rw [hml]; exact hl.1) rfl dX6_init_1 (Nat.le_of_ble_eq_true rfl) (Nat.le_of_ble_eq_true rfl) ?_
  refine W.eq (g2 := F0 m 4 ls []) rfl ?_
  refine lv_aload_n hx hb dX6_init_4 rfl (lv_at hl 0 rfl) ?_
  refine lv_bipush (v := (120 : Int32)) hx hb dX6_init_5 (by decide) ?_
  refine wb_newa (atype := .int) (ty := .int) (cT := cI) (N' := 120) hx hb (hts (.arrayClass .int) (List.mem_of_getElem? (i := 4) rfl)) rfl hK hP hD hS hA 1 rfl wb_raI (fun _ => rfl) (by decide +kernel) (by decide +kernel) (by decide +kernel) (Nat.le_of_ble_eq_true rfl) (Nat.le_of_ble_eq_true rfl) dX6_init_7 (fun q7 H hP hD hS => ?_)
  have hP : va_P D vwCl ([((h0, .inr (6, [.null, .null, .null, .null])) : Nat × va_E), ((q7, .inl (cI, 120, .inl (fun _ => (0 : Int32)))) : Nat × va_E)] : va_W) H := hP
  have hD : va_D A ([((h0, .inr (6, [.null, .null, .null, .null])) : Nat × va_E), ((q7, .inl (cI, 120, .inl (fun _ => (0 : Int32)))) : Nat × va_E)] : va_W) := hD
  refine va_putF (D := D) (ci := 6) (v := .ref q7) (ty := (.array .int)) (C := RX6) (T := TX6) (N := 4) hx hb hts hinX6 tyX6 tyX6_ok nmX6 hown hK hP hD hS 0 rfl rfl 0 (by decide) (hts (.fieldLink RX6 9 "WheelBook$Leaves" "wheels" "[I") (List.mem_of_getElem? (i := 5) rfl)) (fun _ h9 => h9) rfl hin0 rfl (by decide +kernel) rfl rfl (Nat.le_of_ble_eq_true rfl) dX6_init_9 (fun H locs hP hD hS => ?_)
  have hP : va_P D vwCl ([((h0, .inr (6, [.ref q7, .null, .null, .null])) : Nat × va_E), ((q7, .inl (cI, 120, .inl (fun _ => (0 : Int32)))) : Nat × va_E)] : va_W) H := hP
  have hD : va_D A ([((h0, .inr (6, [.ref q7, .null, .null, .null])) : Nat × va_E), ((q7, .inl (cI, 120, .inl (fun _ => (0 : Int32)))) : Nat × va_E)] : va_W) := hD
  refine lv_aload_n hx hb dX6_init_12 rfl (lv_at hl 0 rfl) ?_
  refine lv_bipush (v := (6 : Int32)) hx hb dX6_init_13 (by decide) ?_
  refine wb_newa (atype := .int) (ty := .int) (cT := cI) (N' := 6) hx hb (hts (.arrayClass .int) (List.mem_of_getElem? (i := 4) rfl)) rfl hK hP hD hS hA 1 rfl wb_raI (fun _ => rfl) (by decide +kernel) (by decide +kernel) (by decide +kernel) (Nat.le_of_ble_eq_true rfl) (Nat.le_of_ble_eq_true rfl) dX6_init_15 (fun q15 H hP hD hS => ?_)
  have hP : va_P D vwCl ([((h0, .inr (6, [.ref q7, .null, .null, .null])) : Nat × va_E), ((q7, .inl (cI, 120, .inl (fun _ => (0 : Int32)))) : Nat × va_E), ((q15, .inl (cI, 6, .inl (fun _ => (0 : Int32)))) : Nat × va_E)] : va_W) H := hP
  have hD : va_D A ([((h0, .inr (6, [.ref q7, .null, .null, .null])) : Nat × va_E), ((q7, .inl (cI, 120, .inl (fun _ => (0 : Int32)))) : Nat × va_E), ((q15, .inl (cI, 6, .inl (fun _ => (0 : Int32)))) : Nat × va_E)] : va_W) := hD
  refine va_putF (D := D) (ci := 6) (v := .ref q15) (ty := (.array .int)) (C := RX6) (T := TX6) (N := 4) hx hb hts hinX6 tyX6 tyX6_ok nmX6 hown hK hP hD hS 0 rfl rfl 1 (by decide) (hts (.fieldLink RX6 15 "WheelBook$Leaves" "many" "[I") (List.mem_of_getElem? (i := 6) rfl)) (fun _ h9 => h9) rfl hin0 rfl (by decide +kernel) rfl rfl (Nat.le_of_ble_eq_true rfl) dX6_init_17 (fun H locs hP hD hS => ?_)
  have hP : va_P D vwCl ([((h0, .inr (6, [.ref q7, .ref q15, .null, .null])) : Nat × va_E), ((q7, .inl (cI, 120, .inl (fun _ => (0 : Int32)))) : Nat × va_E), ((q15, .inl (cI, 6, .inl (fun _ => (0 : Int32)))) : Nat × va_E)] : va_W) H := hP
  have hD : va_D A ([((h0, .inr (6, [.ref q7, .ref q15, .null, .null])) : Nat × va_E), ((q7, .inl (cI, 120, .inl (fun _ => (0 : Int32)))) : Nat × va_E), ((q15, .inl (cI, 6, .inl (fun _ => (0 : Int32)))) : Nat × va_E)] : va_W) := hD
  refine lv_aload_n hx hb dX6_init_20 rfl (lv_at hl 0 rfl) ?_
  refine lv_bipush (v := (20 : Int32)) hx hb dX6_init_21 (by decide) ?_
  refine wb_newa (atype := .int) (ty := .int) (cT := cI) (N' := 20) hx hb (hts (.arrayClass .int) (List.mem_of_getElem? (i := 4) rfl)) rfl hK hP hD hS hA 1 rfl wb_raI (fun _ => rfl) (by decide +kernel) (by decide +kernel) (by decide +kernel) (Nat.le_of_ble_eq_true rfl) (Nat.le_of_ble_eq_true rfl) dX6_init_23 (fun q23 H hP hD hS => ?_)
  have hP : va_P D vwCl ([((h0, .inr (6, [.ref q7, .ref q15, .null, .null])) : Nat × va_E), ((q7, .inl (cI, 120, .inl (fun _ => (0 : Int32)))) : Nat × va_E), ((q15, .inl (cI, 6, .inl (fun _ => (0 : Int32)))) : Nat × va_E), ((q23, .inl (cI, 20, .inl (fun _ => (0 : Int32)))) : Nat × va_E)] : va_W) H := hP
  have hD : va_D A ([((h0, .inr (6, [.ref q7, .ref q15, .null, .null])) : Nat × va_E), ((q7, .inl (cI, 120, .inl (fun _ => (0 : Int32)))) : Nat × va_E), ((q15, .inl (cI, 6, .inl (fun _ => (0 : Int32)))) : Nat × va_E), ((q23, .inl (cI, 20, .inl (fun _ => (0 : Int32)))) : Nat × va_E)] : va_W) := hD
  refine va_putF (D := D) (ci := 6) (v := .ref q23) (ty := (.array .int)) (C := RX6) (T := TX6) (N := 4) hx hb hts hinX6 tyX6 tyX6_ok nmX6 hown hK hP hD hS 0 rfl rfl 2 (by decide) (hts (.fieldLink RX6 18 "WheelBook$Leaves" "places" "[I") (List.mem_of_getElem? (i := 7) rfl)) (fun _ h9 => h9) rfl hin0 rfl (by decide +kernel) rfl rfl (Nat.le_of_ble_eq_true rfl) dX6_init_25 (fun H locs hP hD hS => ?_)
  have hP : va_P D vwCl ([((h0, .inr (6, [.ref q7, .ref q15, .ref q23, .null])) : Nat × va_E), ((q7, .inl (cI, 120, .inl (fun _ => (0 : Int32)))) : Nat × va_E), ((q15, .inl (cI, 6, .inl (fun _ => (0 : Int32)))) : Nat × va_E), ((q23, .inl (cI, 20, .inl (fun _ => (0 : Int32)))) : Nat × va_E)] : va_W) H := hP
  have hD : va_D A ([((h0, .inr (6, [.ref q7, .ref q15, .ref q23, .null])) : Nat × va_E), ((q7, .inl (cI, 120, .inl (fun _ => (0 : Int32)))) : Nat × va_E), ((q15, .inl (cI, 6, .inl (fun _ => (0 : Int32)))) : Nat × va_E), ((q23, .inl (cI, 20, .inl (fun _ => (0 : Int32)))) : Nat × va_E)] : va_W) := hD
  refine lv_aload_n hx hb dX6_init_28 rfl (lv_at hl 0 rfl) ?_
  refine lv_bipush (v := (20 : Int32)) hx hb dX6_init_29 (by decide) ?_
  refine wb_newa (atype := .int) (ty := .int) (cT := cI) (N' := 20) hx hb (hts (.arrayClass .int) (List.mem_of_getElem? (i := 4) rfl)) rfl hK hP hD hS hA 1 rfl wb_raI (fun _ => rfl) (by decide +kernel) (by decide +kernel) (by decide +kernel) (Nat.le_of_ble_eq_true rfl) (Nat.le_of_ble_eq_true rfl) dX6_init_31 (fun q31 H hP hD hS => ?_)
  have hP : va_P D vwCl ([((h0, .inr (6, [.ref q7, .ref q15, .ref q23, .null])) : Nat × va_E), ((q7, .inl (cI, 120, .inl (fun _ => (0 : Int32)))) : Nat × va_E), ((q15, .inl (cI, 6, .inl (fun _ => (0 : Int32)))) : Nat × va_E), ((q23, .inl (cI, 20, .inl (fun _ => (0 : Int32)))) : Nat × va_E), ((q31, .inl (cI, 20, .inl (fun _ => (0 : Int32)))) : Nat × va_E)] : va_W) H := hP
  have hD : va_D A ([((h0, .inr (6, [.ref q7, .ref q15, .ref q23, .null])) : Nat × va_E), ((q7, .inl (cI, 120, .inl (fun _ => (0 : Int32)))) : Nat × va_E), ((q15, .inl (cI, 6, .inl (fun _ => (0 : Int32)))) : Nat × va_E), ((q23, .inl (cI, 20, .inl (fun _ => (0 : Int32)))) : Nat × va_E), ((q31, .inl (cI, 20, .inl (fun _ => (0 : Int32)))) : Nat × va_E)] : va_W) := hD
  refine va_putF (D := D) (ci := 6) (v := .ref q31) (ty := (.array .int)) (C := RX6) (T := TX6) (N := 4) hx hb hts hinX6 tyX6 tyX6_ok nmX6 hown hK hP hD hS 0 rfl rfl 3 (by decide) (hts (.fieldLink RX6 21 "WheelBook$Leaves" "longest" "[I") (List.mem_of_getElem? (i := 8) rfl)) (fun _ h9 => h9) rfl hin0 rfl (by decide +kernel) rfl rfl (Nat.le_of_ble_eq_true rfl) dX6_init_33 (fun H locs hP hD hS => ?_)
  have hP : va_P D vwCl ([((h0, .inr (6, [.ref q7, .ref q15, .ref q23, .ref q31])) : Nat × va_E), ((q7, .inl (cI, 120, .inl (fun _ => (0 : Int32)))) : Nat × va_E), ((q15, .inl (cI, 6, .inl (fun _ => (0 : Int32)))) : Nat × va_E), ((q23, .inl (cI, 20, .inl (fun _ => (0 : Int32)))) : Nat × va_E), ((q31, .inl (cI, 20, .inl (fun _ => (0 : Int32)))) : Nat × va_E)] : va_W) H := hP
  have hD : va_D A ([((h0, .inr (6, [.ref q7, .ref q15, .ref q23, .ref q31])) : Nat × va_E), ((q7, .inl (cI, 120, .inl (fun _ => (0 : Int32)))) : Nat × va_E), ((q15, .inl (cI, 6, .inl (fun _ => (0 : Int32)))) : Nat × va_E), ((q23, .inl (cI, 20, .inl (fun _ => (0 : Int32)))) : Nat × va_E), ((q31, .inl (cI, 20, .inl (fun _ => (0 : Int32)))) : Nat × va_E)] : va_W) := hD
  obtain ⟨I0_0, eI0_0, hf⟩ := wb_v hf
  obtain ⟨M0_0, eM0_0, hf⟩ := wb_v hf
  obtain ⟨a0, ea0⟩ : ∃ a0 : Nat → Nat, a0 = (fun k => ([h0, q7, q15, q23, q31] : List Nat).getD k 0) := ⟨_, rfl⟩
  have hP : va_P D vwCl (wWX6 cB cI cZ a0 I0_0 M0_0) H := by rw [eI0_0, eM0_0, ea0]; exact hP.sub [0, 1, 2, 3, 4] rfl
  have hD : va_D A (wWX6 cB cI cZ a0 I0_0 M0_0) := by rw [eI0_0, eM0_0, ea0]; exact hD.sub [0, 1, 2, 3, 4] (by decide) rfl
  have h00 : a0 0 = h0 := by rw [ea0]; rfl
  rw [← h00] at hl
  refine W.widen (k := 4) (n := 166) (Nat.le_of_ble_eq_true rfl) (Nat.le_of_ble_eq_true rfl) ?_
  exact W.vret hx hb hr (fun t ht hW => by rw [← Option.some.inj hf]; exact ⟨⟨(), rfl, trivial, a0, h00, by rw [ht]; exact hP, va_K.moved hW.alike hK, hD⟩, hS.F ht⟩) hS.2.2 dX6_init_36

set_option maxHeartbeats 4000000 in
set_option maxRecDepth 100000 in
theorem cn_X7_init (l : Launch) (D : va_G) (cB cI cZ : ClassId) (N : Nat) (h0 sz : Nat) (R : (Nat → Int32) × (Nat → Nat → Int32)) (hf : fX7_init N = some R) : Met l yX7_init wsX7_init ({ frames := 1, cells := 6, slots := 2448, locals := 23 }) (va_Pc [.ref h0] (wb_preN D [(cB, .byte), (cI, .int), (cZ, .boolean)] ([((h0, .inr (7, [.null, .null, .null, .null, .null, .null])) : Nat × va_E)] : va_W) sz [])) (va_Qv (fun _ : Unit => True) (fun _ t => wb_postN D [(cB, .byte), (cI, .int), (cZ, .boolean)] (va_A ([((h0, .inr (7, [.null, .null, .null, .null, .null, .null])) : Nat × va_E)] : va_W) sz) h0 (fun a => wWX7 cB cI cZ a R.1 R.2) t) (va_A ([((h0, .inr (7, [.null, .null, .null, .null, .null, .null])) : Nat × va_E)] : va_W) sz)) 6 2448 (va_A ([((h0, .inr (7, [.null, .null, .null, .null, .null, .null])) : Nat × va_E)] : va_W) sz) := by
  refine Met.ofW (cc := cX7_init) (maxL := 1) (ret := none) pn_X7 rfl ?_
  intro p e s m args below meth c s₁ B hml hv
  obtain ⟨rfl, ⟨hsz, hP, hK, hD0⟩, hN⟩ := hv
  have hx := B.exec
  have hb := B.bytes
  have hr := B.returns
  have hts := atoms_spec (ws := wsX7_init) B.pre
  have hown : s.vm.findClass RX7 = some m.cls := (findClass_of_methodNamed B.named :)
  have hlocks := B.notSynchronized
  have hin0 : meth.name = "<init>" := (name_of_methodNamed B.named B.method).1
  have hinX7 : ∀ w ∈ u_ws RX7 TX7 6, w ∈ wsX7_init := fun w h => List.mem_cons_of_mem _ (List.mem_append_right _ h)
  subst hsz
  have hD := hD0.self (sz := s.heap.size)
  generalize hAe : va_A ([((h0, .inr (7, [.null, .null, .null, .null, .null, .null])) : Nat × va_E)] : va_W) s.heap.size = A at hD ⊢
  have hA : ∀ q : Nat, s.heap.size ≤ q → A q := fun q h => by rw [← hAe]; exact Or.inr h
  have hl := lv_entry ([.ref h0]) (n := 1) (Nat.le_of_ble_eq_true rfl)
  rw [lg_entry_eq]
  generalize (lg_sl ([.ref h0]) ++ List.replicate (1 - (lg_sl ([.ref h0])).length) Slot.unset).toArray = ls at hl ⊢
  have hl : lv_has ls 1 [(0, .ref h0)] := hl
  unfold fX7_init at hf
  obtain ⟨H, hHe⟩ : ∃ H : Heap, H = s.heap := ⟨_, rfl⟩
  obtain ⟨locs, hle⟩ : ∃ locs : List Loc, locs = [] := ⟨_, rfl⟩
  refine wb_start (H := H) (locs := locs) hHe hle ?_
  rw [← hHe] at hP
  have hS : va_S A s.heap H locs := by rw [hHe, hle]; exact va_S.rf
  refine lv_aload_n hx hb dX7_init_0 rfl (lv_at hl 0 rfl) ?_
  refine W.objInit hx hb hown (hts (.methodLink RX7 3 objectInit) (List.mem_of_getElem? (i := 1) rfl)) (hts (.instanceMethod objectInit) (List.mem_of_getElem? (i := 2) rfl)) (hts (.code objectInit ⟨#[0xb1]⟩ 1 none) (List.mem_of_getElem? (i := 3) rfl)) rfl (by rw [hml]; exact hl.1) rfl dX7_init_1 (Nat.le_of_ble_eq_true rfl) (Nat.le_of_ble_eq_true rfl) ?_
  refine W.eq (g2 := F0 m 4 ls []) rfl ?_
  refine lv_aload_n hx hb dX7_init_4 rfl (lv_at hl 0 rfl) ?_
  refine lv_bipush (v := (20 : Int32)) hx hb dX7_init_5 (by decide) ?_
  refine wb_newa (atype := .int) (ty := .int) (cT := cI) (N' := 20) hx hb (hts (.arrayClass .int) (List.mem_of_getElem? (i := 4) rfl)) rfl hK hP hD hS hA 1 rfl wb_raI (fun _ => rfl) (by decide +kernel) (by decide +kernel) (by decide +kernel) (Nat.le_of_ble_eq_true rfl) (Nat.le_of_ble_eq_true rfl) dX7_init_7 (fun q7 H hP hD hS => ?_)
  have hP : va_P D vwCl ([((h0, .inr (7, [.null, .null, .null, .null, .null, .null])) : Nat × va_E), ((q7, .inl (cI, 20, .inl (fun _ => (0 : Int32)))) : Nat × va_E)] : va_W) H := hP
  have hD : va_D A ([((h0, .inr (7, [.null, .null, .null, .null, .null, .null])) : Nat × va_E), ((q7, .inl (cI, 20, .inl (fun _ => (0 : Int32)))) : Nat × va_E)] : va_W) := hD
  refine va_putF (D := D) (ci := 7) (v := .ref q7) (ty := (.array .int)) (C := RX7) (T := TX7) (N := 6) hx hb hts hinX7 tyX7 tyX7_ok nmX7 hown hK hP hD hS 0 rfl rfl 0 (by decide) (hts (.fieldLink RX7 9 "WheelBook$Outcomes" "foretold" "[I") (List.mem_of_getElem? (i := 5) rfl)) (fun _ h9 => h9) rfl hin0 rfl (by decide +kernel) rfl rfl (Nat.le_of_ble_eq_true rfl) dX7_init_9 (fun H locs hP hD hS => ?_)
  have hP : va_P D vwCl ([((h0, .inr (7, [.ref q7, .null, .null, .null, .null, .null])) : Nat × va_E), ((q7, .inl (cI, 20, .inl (fun _ => (0 : Int32)))) : Nat × va_E)] : va_W) H := hP
  have hD : va_D A ([((h0, .inr (7, [.ref q7, .null, .null, .null, .null, .null])) : Nat × va_E), ((q7, .inl (cI, 20, .inl (fun _ => (0 : Int32)))) : Nat × va_E)] : va_W) := hD
  refine lv_aload_n hx hb dX7_init_12 rfl (lv_at hl 0 rfl) ?_
  refine lv_bipush (v := (20 : Int32)) hx hb dX7_init_13 (by decide) ?_
  refine wb_newa (atype := .int) (ty := .int) (cT := cI) (N' := 20) hx hb (hts (.arrayClass .int) (List.mem_of_getElem? (i := 4) rfl)) rfl hK hP hD hS hA 1 rfl wb_raI (fun _ => rfl) (by decide +kernel) (by decide +kernel) (by decide +kernel) (Nat.le_of_ble_eq_true rfl) (Nat.le_of_ble_eq_true rfl) dX7_init_15 (fun q15 H hP hD hS => ?_)
  have hP : va_P D vwCl ([((h0, .inr (7, [.ref q7, .null, .null, .null, .null, .null])) : Nat × va_E), ((q7, .inl (cI, 20, .inl (fun _ => (0 : Int32)))) : Nat × va_E), ((q15, .inl (cI, 20, .inl (fun _ => (0 : Int32)))) : Nat × va_E)] : va_W) H := hP
  have hD : va_D A ([((h0, .inr (7, [.ref q7, .null, .null, .null, .null, .null])) : Nat × va_E), ((q7, .inl (cI, 20, .inl (fun _ => (0 : Int32)))) : Nat × va_E), ((q15, .inl (cI, 20, .inl (fun _ => (0 : Int32)))) : Nat × va_E)] : va_W) := hD
  refine va_putF (D := D) (ci := 7) (v := .ref q15) (ty := (.array .int)) (C := RX7) (T := TX7) (N := 6) hx hb hts hinX7 tyX7 tyX7_ok nmX7 hown hK hP hD hS 0 rfl rfl 1 (by decide) (hts (.fieldLink RX7 15 "WheelBook$Outcomes" "came" "[I") (List.mem_of_getElem? (i := 6) rfl)) (fun _ h9 => h9) rfl hin0 rfl (by decide +kernel) rfl rfl (Nat.le_of_ble_eq_true rfl) dX7_init_17 (fun H locs hP hD hS => ?_)
  have hP : va_P D vwCl ([((h0, .inr (7, [.ref q7, .ref q15, .null, .null, .null, .null])) : Nat × va_E), ((q7, .inl (cI, 20, .inl (fun _ => (0 : Int32)))) : Nat × va_E), ((q15, .inl (cI, 20, .inl (fun _ => (0 : Int32)))) : Nat × va_E)] : va_W) H := hP
  have hD : va_D A ([((h0, .inr (7, [.ref q7, .ref q15, .null, .null, .null, .null])) : Nat × va_E), ((q7, .inl (cI, 20, .inl (fun _ => (0 : Int32)))) : Nat × va_E), ((q15, .inl (cI, 20, .inl (fun _ => (0 : Int32)))) : Nat × va_E)] : va_W) := hD
  refine lv_aload_n hx hb dX7_init_20 rfl (lv_at hl 0 rfl) ?_
  refine lv_bipush (v := (20 : Int32)) hx hb dX7_init_21 (by decide) ?_
  refine wb_newa (atype := .int) (ty := .int) (cT := cI) (N' := 20) hx hb (hts (.arrayClass .int) (List.mem_of_getElem? (i := 4) rfl)) rfl hK hP hD hS hA 1 rfl wb_raI (fun _ => rfl) (by decide +kernel) (by decide +kernel) (by decide +kernel) (Nat.le_of_ble_eq_true rfl) (Nat.le_of_ble_eq_true rfl) dX7_init_23 (fun q23 H hP hD hS => ?_)
  have hP : va_P D vwCl ([((h0, .inr (7, [.ref q7, .ref q15, .null, .null, .null, .null])) : Nat × va_E), ((q7, .inl (cI, 20, .inl (fun _ => (0 : Int32)))) : Nat × va_E), ((q15, .inl (cI, 20, .inl (fun _ => (0 : Int32)))) : Nat × va_E), ((q23, .inl (cI, 20, .inl (fun _ => (0 : Int32)))) : Nat × va_E)] : va_W) H := hP
  have hD : va_D A ([((h0, .inr (7, [.ref q7, .ref q15, .null, .null, .null, .null])) : Nat × va_E), ((q7, .inl (cI, 20, .inl (fun _ => (0 : Int32)))) : Nat × va_E), ((q15, .inl (cI, 20, .inl (fun _ => (0 : Int32)))) : Nat × va_E), ((q23, .inl (cI, 20, .inl (fun _ => (0 : Int32)))) : Nat × va_E)] : va_W) := hD
  refine va_putF (D := D) (ci := 7) (v := .ref q23) (ty := (.array .int)) (C := RX7) (T := TX7) (N := 6) hx hb hts hinX7 tyX7 tyX7_ok nmX7 hown hK hP hD hS 0 rfl rfl 2 (by decide) (hts (.fieldLink RX7 18 "WheelBook$Outcomes" "houses" "[I") (List.mem_of_getElem? (i := 7) rfl)) (fun _ h9 => h9) rfl hin0 rfl (by decide +kernel) rfl rfl (Nat.le_of_ble_eq_true rfl) dX7_init_25 (fun H locs hP hD hS => ?_)
  have hP : va_P D vwCl ([((h0, .inr (7, [.ref q7, .ref q15, .ref q23, .null, .null, .null])) : Nat × va_E), ((q7, .inl (cI, 20, .inl (fun _ => (0 : Int32)))) : Nat × va_E), ((q15, .inl (cI, 20, .inl (fun _ => (0 : Int32)))) : Nat × va_E), ((q23, .inl (cI, 20, .inl (fun _ => (0 : Int32)))) : Nat × va_E)] : va_W) H := hP
  have hD : va_D A ([((h0, .inr (7, [.ref q7, .ref q15, .ref q23, .null, .null, .null])) : Nat × va_E), ((q7, .inl (cI, 20, .inl (fun _ => (0 : Int32)))) : Nat × va_E), ((q15, .inl (cI, 20, .inl (fun _ => (0 : Int32)))) : Nat × va_E), ((q23, .inl (cI, 20, .inl (fun _ => (0 : Int32)))) : Nat × va_E)] : va_W) := hD
  refine lv_aload_n hx hb dX7_init_28 rfl (lv_at hl 0 rfl) ?_
  refine lv_bipush (v := (20 : Int32)) hx hb dX7_init_29 (by decide) ?_
  refine wb_newa (atype := .int) (ty := .int) (cT := cI) (N' := 20) hx hb (hts (.arrayClass .int) (List.mem_of_getElem? (i := 4) rfl)) rfl hK hP hD hS hA 1 rfl wb_raI (fun _ => rfl) (by decide +kernel) (by decide +kernel) (by decide +kernel) (Nat.le_of_ble_eq_true rfl) (Nat.le_of_ble_eq_true rfl) dX7_init_31 (fun q31 H hP hD hS => ?_)
  have hP : va_P D vwCl ([((h0, .inr (7, [.ref q7, .ref q15, .ref q23, .null, .null, .null])) : Nat × va_E), ((q7, .inl (cI, 20, .inl (fun _ => (0 : Int32)))) : Nat × va_E), ((q15, .inl (cI, 20, .inl (fun _ => (0 : Int32)))) : Nat × va_E), ((q23, .inl (cI, 20, .inl (fun _ => (0 : Int32)))) : Nat × va_E), ((q31, .inl (cI, 20, .inl (fun _ => (0 : Int32)))) : Nat × va_E)] : va_W) H := hP
  have hD : va_D A ([((h0, .inr (7, [.ref q7, .ref q15, .ref q23, .null, .null, .null])) : Nat × va_E), ((q7, .inl (cI, 20, .inl (fun _ => (0 : Int32)))) : Nat × va_E), ((q15, .inl (cI, 20, .inl (fun _ => (0 : Int32)))) : Nat × va_E), ((q23, .inl (cI, 20, .inl (fun _ => (0 : Int32)))) : Nat × va_E), ((q31, .inl (cI, 20, .inl (fun _ => (0 : Int32)))) : Nat × va_E)] : va_W) := hD
  refine va_putF (D := D) (ci := 7) (v := .ref q31) (ty := (.array .int)) (C := RX7) (T := TX7) (N := 6) hx hb hts hinX7 tyX7 tyX7_ok nmX7 hown hK hP hD hS 0 rfl rfl 3 (by decide) (hts (.fieldLink RX7 21 "WheelBook$Outcomes" "rows" "[I") (List.mem_of_getElem? (i := 8) rfl)) (fun _ h9 => h9) rfl hin0 rfl (by decide +kernel) rfl rfl (Nat.le_of_ble_eq_true rfl) dX7_init_33 (fun H locs hP hD hS => ?_)
  have hP : va_P D vwCl ([((h0, .inr (7, [.ref q7, .ref q15, .ref q23, .ref q31, .null, .null])) : Nat × va_E), ((q7, .inl (cI, 20, .inl (fun _ => (0 : Int32)))) : Nat × va_E), ((q15, .inl (cI, 20, .inl (fun _ => (0 : Int32)))) : Nat × va_E), ((q23, .inl (cI, 20, .inl (fun _ => (0 : Int32)))) : Nat × va_E), ((q31, .inl (cI, 20, .inl (fun _ => (0 : Int32)))) : Nat × va_E)] : va_W) H := hP
  have hD : va_D A ([((h0, .inr (7, [.ref q7, .ref q15, .ref q23, .ref q31, .null, .null])) : Nat × va_E), ((q7, .inl (cI, 20, .inl (fun _ => (0 : Int32)))) : Nat × va_E), ((q15, .inl (cI, 20, .inl (fun _ => (0 : Int32)))) : Nat × va_E), ((q23, .inl (cI, 20, .inl (fun _ => (0 : Int32)))) : Nat × va_E), ((q31, .inl (cI, 20, .inl (fun _ => (0 : Int32)))) : Nat × va_E)] : va_W) := hD
  refine lv_aload_n hx hb dX7_init_36 rfl (lv_at hl 0 rfl) ?_
  refine lv_bipush (v := (64 : Int32)) hx hb dX7_init_37 (by decide) ?_
  refine wb_newa (atype := .boolean) (ty := .boolean) (cT := cZ) (N' := 64) hx hb (hts (.arrayClass .boolean) (List.mem_of_getElem? (i := 9) rfl)) rfl hK hP hD hS hA 2 rfl wb_raZ (fun _ => rfl) (by decide +kernel) (by decide +kernel) (by decide +kernel) (Nat.le_of_ble_eq_true rfl) (Nat.le_of_ble_eq_true rfl) dX7_init_39 (fun q39 H hP hD hS => ?_)
  have hP : va_P D vwCl ([((h0, .inr (7, [.ref q7, .ref q15, .ref q23, .ref q31, .null, .null])) : Nat × va_E), ((q7, .inl (cI, 20, .inl (fun _ => (0 : Int32)))) : Nat × va_E), ((q15, .inl (cI, 20, .inl (fun _ => (0 : Int32)))) : Nat × va_E), ((q23, .inl (cI, 20, .inl (fun _ => (0 : Int32)))) : Nat × va_E), ((q31, .inl (cI, 20, .inl (fun _ => (0 : Int32)))) : Nat × va_E), ((q39, .inl (cZ, 64, .inl (fun _ => (0 : Int32)))) : Nat × va_E)] : va_W) H := hP
  have hD : va_D A ([((h0, .inr (7, [.ref q7, .ref q15, .ref q23, .ref q31, .null, .null])) : Nat × va_E), ((q7, .inl (cI, 20, .inl (fun _ => (0 : Int32)))) : Nat × va_E), ((q15, .inl (cI, 20, .inl (fun _ => (0 : Int32)))) : Nat × va_E), ((q23, .inl (cI, 20, .inl (fun _ => (0 : Int32)))) : Nat × va_E), ((q31, .inl (cI, 20, .inl (fun _ => (0 : Int32)))) : Nat × va_E), ((q39, .inl (cZ, 64, .inl (fun _ => (0 : Int32)))) : Nat × va_E)] : va_W) := hD
  refine va_putF (D := D) (ci := 7) (v := .ref q39) (ty := (.array .boolean)) (C := RX7) (T := TX7) (N := 6) hx hb hts hinX7 tyX7 tyX7_ok nmX7 hown hK hP hD hS 0 rfl rfl 4 (by decide) (hts (.fieldLink RX7 24 "WheelBook$Outcomes" "hit" "[Z") (List.mem_of_getElem? (i := 10) rfl)) (fun _ h9 => h9) rfl hin0 rfl (by decide +kernel) rfl rfl (Nat.le_of_ble_eq_true rfl) dX7_init_41 (fun H locs hP hD hS => ?_)
  have hP : va_P D vwCl ([((h0, .inr (7, [.ref q7, .ref q15, .ref q23, .ref q31, .ref q39, .null])) : Nat × va_E), ((q7, .inl (cI, 20, .inl (fun _ => (0 : Int32)))) : Nat × va_E), ((q15, .inl (cI, 20, .inl (fun _ => (0 : Int32)))) : Nat × va_E), ((q23, .inl (cI, 20, .inl (fun _ => (0 : Int32)))) : Nat × va_E), ((q31, .inl (cI, 20, .inl (fun _ => (0 : Int32)))) : Nat × va_E), ((q39, .inl (cZ, 64, .inl (fun _ => (0 : Int32)))) : Nat × va_E)] : va_W) H := hP
  have hD : va_D A ([((h0, .inr (7, [.ref q7, .ref q15, .ref q23, .ref q31, .ref q39, .null])) : Nat × va_E), ((q7, .inl (cI, 20, .inl (fun _ => (0 : Int32)))) : Nat × va_E), ((q15, .inl (cI, 20, .inl (fun _ => (0 : Int32)))) : Nat × va_E), ((q23, .inl (cI, 20, .inl (fun _ => (0 : Int32)))) : Nat × va_E), ((q31, .inl (cI, 20, .inl (fun _ => (0 : Int32)))) : Nat × va_E), ((q39, .inl (cZ, 64, .inl (fun _ => (0 : Int32)))) : Nat × va_E)] : va_W) := hD
  refine lv_aload_n hx hb dX7_init_44 rfl (lv_at hl 0 rfl) ?_
  refine lv_sipush (v := (2304 : Int32)) hx hb dX7_init_45 (by decide) ?_
  refine wb_newa (atype := .int) (ty := .int) (cT := cI) (N' := 2304) hx hb (hts (.arrayClass .int) (List.mem_of_getElem? (i := 4) rfl)) rfl hK hP hD hS hA 1 rfl wb_raI (fun _ => rfl) (by decide +kernel) (by decide +kernel) (by decide +kernel) (Nat.le_of_ble_eq_true rfl) (Nat.le_of_ble_eq_true rfl) dX7_init_48 (fun q48 H hP hD hS => ?_)
  have hP : va_P D vwCl ([((h0, .inr (7, [.ref q7, .ref q15, .ref q23, .ref q31, .ref q39, .null])) : Nat × va_E), ((q7, .inl (cI, 20, .inl (fun _ => (0 : Int32)))) : Nat × va_E), ((q15, .inl (cI, 20, .inl (fun _ => (0 : Int32)))) : Nat × va_E), ((q23, .inl (cI, 20, .inl (fun _ => (0 : Int32)))) : Nat × va_E), ((q31, .inl (cI, 20, .inl (fun _ => (0 : Int32)))) : Nat × va_E), ((q39, .inl (cZ, 64, .inl (fun _ => (0 : Int32)))) : Nat × va_E), ((q48, .inl (cI, 2304, .inl (fun _ => (0 : Int32)))) : Nat × va_E)] : va_W) H := hP
  have hD : va_D A ([((h0, .inr (7, [.ref q7, .ref q15, .ref q23, .ref q31, .ref q39, .null])) : Nat × va_E), ((q7, .inl (cI, 20, .inl (fun _ => (0 : Int32)))) : Nat × va_E), ((q15, .inl (cI, 20, .inl (fun _ => (0 : Int32)))) : Nat × va_E), ((q23, .inl (cI, 20, .inl (fun _ => (0 : Int32)))) : Nat × va_E), ((q31, .inl (cI, 20, .inl (fun _ => (0 : Int32)))) : Nat × va_E), ((q39, .inl (cZ, 64, .inl (fun _ => (0 : Int32)))) : Nat × va_E), ((q48, .inl (cI, 2304, .inl (fun _ => (0 : Int32)))) : Nat × va_E)] : va_W) := hD
  refine va_putF (D := D) (ci := 7) (v := .ref q48) (ty := (.array .int)) (C := RX7) (T := TX7) (N := 6) hx hb hts hinX7 tyX7 tyX7_ok nmX7 hown hK hP hD hS 0 rfl rfl 5 (by decide) (hts (.fieldLink RX7 28 "WheelBook$Outcomes" "ways" "[I") (List.mem_of_getElem? (i := 11) rfl)) (fun _ h9 => h9) rfl hin0 rfl (by decide +kernel) rfl rfl (Nat.le_of_ble_eq_true rfl) dX7_init_50 (fun H locs hP hD hS => ?_)
  have hP : va_P D vwCl ([((h0, .inr (7, [.ref q7, .ref q15, .ref q23, .ref q31, .ref q39, .ref q48])) : Nat × va_E), ((q7, .inl (cI, 20, .inl (fun _ => (0 : Int32)))) : Nat × va_E), ((q15, .inl (cI, 20, .inl (fun _ => (0 : Int32)))) : Nat × va_E), ((q23, .inl (cI, 20, .inl (fun _ => (0 : Int32)))) : Nat × va_E), ((q31, .inl (cI, 20, .inl (fun _ => (0 : Int32)))) : Nat × va_E), ((q39, .inl (cZ, 64, .inl (fun _ => (0 : Int32)))) : Nat × va_E), ((q48, .inl (cI, 2304, .inl (fun _ => (0 : Int32)))) : Nat × va_E)] : va_W) H := hP
  have hD : va_D A ([((h0, .inr (7, [.ref q7, .ref q15, .ref q23, .ref q31, .ref q39, .ref q48])) : Nat × va_E), ((q7, .inl (cI, 20, .inl (fun _ => (0 : Int32)))) : Nat × va_E), ((q15, .inl (cI, 20, .inl (fun _ => (0 : Int32)))) : Nat × va_E), ((q23, .inl (cI, 20, .inl (fun _ => (0 : Int32)))) : Nat × va_E), ((q31, .inl (cI, 20, .inl (fun _ => (0 : Int32)))) : Nat × va_E), ((q39, .inl (cZ, 64, .inl (fun _ => (0 : Int32)))) : Nat × va_E), ((q48, .inl (cI, 2304, .inl (fun _ => (0 : Int32)))) : Nat × va_E)] : va_W) := hD
  obtain ⟨I0_0, eI0_0, hf⟩ := wb_v hf
  obtain ⟨M0_0, eM0_0, hf⟩ := wb_v hf
  obtain ⟨a0, ea0⟩ : ∃ a0 : Nat → Nat, a0 = (fun k => ([h0, q7, q15, q23, q31, q39, q48] : List Nat).getD k 0) := ⟨_, rfl⟩
  have hP : va_P D vwCl (wWX7 cB cI cZ a0 I0_0 M0_0) H := by rw [eI0_0, eM0_0, ea0]; exact hP.sub [0, 1, 2, 3, 4, 5, 6] rfl
  have hD : va_D A (wWX7 cB cI cZ a0 I0_0 M0_0) := by rw [eI0_0, eM0_0, ea0]; exact hD.sub [0, 1, 2, 3, 4, 5, 6] (by decide) rfl
  have h00 : a0 0 = h0 := by rw [ea0]; rfl
  rw [← h00] at hl
  refine W.widen (k := 6) (n := 2448) (Nat.le_of_ble_eq_true rfl) (Nat.le_of_ble_eq_true rfl) ?_
  refine lv_aload_n hx hb dX7_init_53 rfl (lv_at hl 0 rfl) ?_
  refine va_get (D := D) (ci := 7) (v := .ref (a0 1)) (C := RX7) (T := TX7) (N := 6) hx hb hts hinX7 hown hK hP 0 rfl rfl 0 (by decide) (hts (.fieldLink RX7 9 "WheelBook$Outcomes" "foretold" "[I") (List.mem_of_getElem? (i := 5) rfl)) (fun _ h9 => h9) rfl dX7_init_54 ?_
  refine lv_iconst (v := (-1 : Int32)) hx hb dX7_init_57 (by decide) ?_
  obtain ⟨r1, hr1, hf⟩ := wb_b hf
  have hPc := hP.sub (ws' := ([(((a0 1), .inl (cI, 20, .inl (M0_0 0))) : Nat × va_E)] : va_W)) [1] rfl
  have hDc := hD.sub (ws' := ([(((a0 1), .inl (cI, 20, .inl (M0_0 0))) : Nat × va_E)] : va_W)) [1] (by decide) rfl
  have hFc := va_free (wc := ([(((a0 1), .inl (cI, 20, .inl (M0_0 0))) : Nat × va_E)] : va_W)) hD hS hA [1] rfl
  refine va_callv (va_runS (As := [.ref (a0 1), .int (-1 : Int32)]) (rest := []) ⟨hx, hb, hml, hown, hts⟩ (cn_J7_fill_53178 l D cB cI cZ N (a0 1) 20 (M0_0 0) (-1 : Int32) H.size r1 hr1) (va_cwS 2 hts gX7_init_J7_fill_53178 rfl rfl rfl csJ7_fill_53178 ⟨Nat.le_of_ble_eq_true rfl, Nat.le_of_ble_eq_true rfl⟩) (wb_preDS hPc hK hDc) rfl rfl hl.1 rfl (lv_room (Nat.le_of_ble_eq_true rfl)) dX7_init_58 ⟨Nat.le_of_ble_eq_true rfl, Nat.le_of_ble_eq_true rfl⟩) hS (fun q _ h => hFc q h) hFc (fun u t H locs ht hvm hw hB hz1 hk1 hS => ?_)
  obtain ⟨hP, hD⟩ := wj_s (wc := ([(((a0 1), .inl (cI, 20, .inl (M0_0 0))) : Nat × va_E)] : va_W)) (w1 := ([(((a0 1), .inl (cI, 20, .inl r1)) : Nat × va_E)] : va_W)) (wf := (wWX7 cB cI cZ a0 I0_0 (wb_mm M0_0 0 r1))) 1 2 hP hD rfl rfl hk1 hFc ht hB
  obtain ⟨M0_2, eM0_2, hf⟩ := wb_v hf
  rw [← eM0_2] at hP hD
  refine lv_aload_n hx hb dX7_init_61 rfl (lv_at hl 0 rfl) ?_
  refine va_get (D := D) (ci := 7) (v := .ref (a0 2)) (C := RX7) (T := TX7) (N := 6) hx hb hts hinX7 hown hK hP 0 rfl rfl 1 (by decide) (hts (.fieldLink RX7 15 "WheelBook$Outcomes" "came" "[I") (List.mem_of_getElem? (i := 6) rfl)) (fun _ h9 => h9) rfl dX7_init_62 ?_
  refine lv_iconst (v := (-1 : Int32)) hx hb dX7_init_65 (by decide) ?_
  obtain ⟨r3, hr3, hf⟩ := wb_b hf
  have hPc := hP.sub (ws' := ([(((a0 2), .inl (cI, 20, .inl (M0_2 1))) : Nat × va_E)] : va_W)) [2] rfl
  have hDc := hD.sub (ws' := ([(((a0 2), .inl (cI, 20, .inl (M0_2 1))) : Nat × va_E)] : va_W)) [2] (by decide) rfl
  have hFc := va_free (wc := ([(((a0 2), .inl (cI, 20, .inl (M0_2 1))) : Nat × va_E)] : va_W)) hD hS hA [2] rfl
  refine va_callv (va_runS (As := [.ref (a0 2), .int (-1 : Int32)]) (rest := []) ⟨hx, hb, hml, hown, hts⟩ (cn_J7_fill_53178 l D cB cI cZ N (a0 2) 20 (M0_2 1) (-1 : Int32) H.size r3 hr3) (va_cwS 2 hts gX7_init_J7_fill_53178 rfl rfl rfl csJ7_fill_53178 ⟨Nat.le_of_ble_eq_true rfl, Nat.le_of_ble_eq_true rfl⟩) (wb_preDS hPc hK hDc) rfl rfl hl.1 rfl (lv_room (Nat.le_of_ble_eq_true rfl)) dX7_init_66 ⟨Nat.le_of_ble_eq_true rfl, Nat.le_of_ble_eq_true rfl⟩) hS (fun q _ h => hFc q h) hFc (fun u t H locs ht hvm hw hB hz1 hk1 hS => ?_)
  obtain ⟨hP, hD⟩ := wj_s (wc := ([(((a0 2), .inl (cI, 20, .inl (M0_2 1))) : Nat × va_E)] : va_W)) (w1 := ([(((a0 2), .inl (cI, 20, .inl r3)) : Nat × va_E)] : va_W)) (wf := (wWX7 cB cI cZ a0 I0_0 (wb_mm M0_2 1 r3))) 2 3 hP hD rfl rfl hk1 hFc ht hB
  obtain ⟨M0_4, eM0_4, hf⟩ := wb_v hf
  rw [← eM0_4] at hP hD
  refine lv_aload_n hx hb dX7_init_69 rfl (lv_at hl 0 rfl) ?_
  refine va_get (D := D) (ci := 7) (v := .ref (a0 3)) (C := RX7) (T := TX7) (N := 6) hx hb hts hinX7 hown hK hP 0 rfl rfl 2 (by decide) (hts (.fieldLink RX7 18 "WheelBook$Outcomes" "houses" "[I") (List.mem_of_getElem? (i := 7) rfl)) (fun _ h9 => h9) rfl dX7_init_70 ?_
  refine lv_iconst (v := (-1 : Int32)) hx hb dX7_init_73 (by decide) ?_
  obtain ⟨r5, hr5, hf⟩ := wb_b hf
  have hPc := hP.sub (ws' := ([(((a0 3), .inl (cI, 20, .inl (M0_4 2))) : Nat × va_E)] : va_W)) [3] rfl
  have hDc := hD.sub (ws' := ([(((a0 3), .inl (cI, 20, .inl (M0_4 2))) : Nat × va_E)] : va_W)) [3] (by decide) rfl
  have hFc := va_free (wc := ([(((a0 3), .inl (cI, 20, .inl (M0_4 2))) : Nat × va_E)] : va_W)) hD hS hA [3] rfl
  refine va_callv (va_runS (As := [.ref (a0 3), .int (-1 : Int32)]) (rest := []) ⟨hx, hb, hml, hown, hts⟩ (cn_J7_fill_53178 l D cB cI cZ N (a0 3) 20 (M0_4 2) (-1 : Int32) H.size r5 hr5) (va_cwS 2 hts gX7_init_J7_fill_53178 rfl rfl rfl csJ7_fill_53178 ⟨Nat.le_of_ble_eq_true rfl, Nat.le_of_ble_eq_true rfl⟩) (wb_preDS hPc hK hDc) rfl rfl hl.1 rfl (lv_room (Nat.le_of_ble_eq_true rfl)) dX7_init_74 ⟨Nat.le_of_ble_eq_true rfl, Nat.le_of_ble_eq_true rfl⟩) hS (fun q _ h => hFc q h) hFc (fun u t H locs ht hvm hw hB hz1 hk1 hS => ?_)
  obtain ⟨hP, hD⟩ := wj_s (wc := ([(((a0 3), .inl (cI, 20, .inl (M0_4 2))) : Nat × va_E)] : va_W)) (w1 := ([(((a0 3), .inl (cI, 20, .inl r5)) : Nat × va_E)] : va_W)) (wf := (wWX7 cB cI cZ a0 I0_0 (wb_mm M0_4 2 r5))) 3 4 hP hD rfl rfl hk1 hFc ht hB
  obtain ⟨M0_6, eM0_6, hf⟩ := wb_v hf
  rw [← eM0_6] at hP hD
  exact W.vret hx hb hr (fun t ht hW => by rw [← Option.some.inj hf]; exact ⟨⟨(), rfl, trivial, a0, h00, by rw [ht]; exact hP, va_K.moved hW.alike hK, hD⟩, hS.F ht⟩) hS.2.2 dX7_init_77

set_option maxHeartbeats 4000000 in
set_option maxRecDepth 100000 in
theorem cn_X8_init (l : Launch) (D : va_G) (cB cI cZ : ClassId) (N : Nat) (h0 sz : Nat) (R : (Nat → Int32) × (Nat → Nat → Int32)) (hf : fX8_init N = some R) : Met l yX8_init wsX8_init ({ frames := 1, cells := 1, slots := 20, locals := 12 }) (va_Pc [.ref h0] (wb_preN D [(cB, .byte), (cI, .int), (cZ, .boolean)] ([((h0, .inr (8, [.int 0, .int 0, .int 0, .int 0, .int 0, .int 0, .int 0, .null])) : Nat × va_E)] : va_W) sz [])) (va_Qv (fun _ : Unit => True) (fun _ t => wb_postN D [(cB, .byte), (cI, .int), (cZ, .boolean)] (va_A ([((h0, .inr (8, [.int 0, .int 0, .int 0, .int 0, .int 0, .int 0, .int 0, .null])) : Nat × va_E)] : va_W) sz) h0 (fun a => wWX8 cB cI cZ a R.1 R.2) t) (va_A ([((h0, .inr (8, [.int 0, .int 0, .int 0, .int 0, .int 0, .int 0, .int 0, .null])) : Nat × va_E)] : va_W) sz)) 1 20 (va_A ([((h0, .inr (8, [.int 0, .int 0, .int 0, .int 0, .int 0, .int 0, .int 0, .null])) : Nat × va_E)] : va_W) sz) := by
  refine Met.ofW (cc := cX8_init) (maxL := 1) (ret := none) pn_X8 rfl ?_
  intro p e s m args below meth c s₁ B hml hv
  obtain ⟨rfl, ⟨hsz, hP, hK, hD0⟩, hN⟩ := hv
  have hx := B.exec
  have hb := B.bytes
  have hr := B.returns
  have hts := atoms_spec (ws := wsX8_init) B.pre
  have hown : s.vm.findClass RX8 = some m.cls := (findClass_of_methodNamed B.named :)
  have hlocks := B.notSynchronized
  have hin0 : meth.name = "<init>" := (name_of_methodNamed B.named B.method).1
  have hinX8 : ∀ w ∈ u_ws RX8 TX8 8, w ∈ wsX8_init := fun w h => List.mem_cons_of_mem _ (List.mem_append_right _ h)
  subst hsz
  have hD := hD0.self (sz := s.heap.size)
  generalize hAe : va_A ([((h0, .inr (8, [.int 0, .int 0, .int 0, .int 0, .int 0, .int 0, .int 0, .null])) : Nat × va_E)] : va_W) s.heap.size = A at hD ⊢
  have hA : ∀ q : Nat, s.heap.size ≤ q → A q := fun q h => by rw [← hAe]; exact Or.inr h
  have hl := lv_entry ([.ref h0]) (n := 1) (Nat.le_of_ble_eq_true rfl)
  rw [lg_entry_eq]
  generalize (lg_sl ([.ref h0]) ++ List.replicate (1 - (lg_sl ([.ref h0])).length) Slot.unset).toArray = ls at hl ⊢
  have hl : lv_has ls 1 [(0, .ref h0)] := hl
  unfold fX8_init at hf
  obtain ⟨H, hHe⟩ : ∃ H : Heap, H = s.heap := ⟨_, rfl⟩
  obtain ⟨locs, hle⟩ : ∃ locs : List Loc, locs = [] := ⟨_, rfl⟩
  refine wb_start (H := H) (locs := locs) hHe hle ?_
  rw [← hHe] at hP
  have hS : va_S A s.heap H locs := by rw [hHe, hle]; exact va_S.rf
  refine lv_aload_n hx hb dX8_init_0 rfl (lv_at hl 0 rfl) ?_
  refine W.objInit hx hb hown (hts (.methodLink RX8 3 objectInit) (List.mem_of_getElem? (i := 1) rfl)) (hts (.instanceMethod objectInit) (List.mem_of_getElem? (i := 2) rfl)) (hts (.code objectInit ⟨#[0xb1]⟩ 1 none) (List.mem_of_getElem? (i := 3) rfl)) rfl (by rw [hml]; exact hl.1) rfl dX8_init_1 (Nat.le_of_ble_eq_true rfl) (Nat.le_of_ble_eq_true rfl) ?_
  refine W.eq (g2 := F0 m 4 ls []) rfl ?_
  refine lv_aload_n hx hb dX8_init_4 rfl (lv_at hl 0 rfl) ?_
  refine lv_bipush (v := (20 : Int32)) hx hb dX8_init_5 (by decide) ?_
  refine wb_newa (atype := .int) (ty := .int) (cT := cI) (N' := 20) hx hb (hts (.arrayClass .int) (List.mem_of_getElem? (i := 4) rfl)) rfl hK hP hD hS hA 1 rfl wb_raI (fun _ => rfl) (by decide +kernel) (by decide +kernel) (by decide +kernel) (Nat.le_of_ble_eq_true rfl) (Nat.le_of_ble_eq_true rfl) dX8_init_7 (fun q7 H hP hD hS => ?_)
  have hP : va_P D vwCl ([((h0, .inr (8, [.int 0, .int 0, .int 0, .int 0, .int 0, .int 0, .int 0, .null])) : Nat × va_E), ((q7, .inl (cI, 20, .inl (fun _ => (0 : Int32)))) : Nat × va_E)] : va_W) H := hP
  have hD : va_D A ([((h0, .inr (8, [.int 0, .int 0, .int 0, .int 0, .int 0, .int 0, .int 0, .null])) : Nat × va_E), ((q7, .inl (cI, 20, .inl (fun _ => (0 : Int32)))) : Nat × va_E)] : va_W) := hD
  refine va_putF (D := D) (ci := 8) (v := .ref q7) (ty := (.array .int)) (C := RX8) (T := TX8) (N := 8) hx hb hts hinX8 tyX8 tyX8_ok nmX8 hown hK hP hD hS 0 rfl rfl 7 (by decide) (hts (.fieldLink RX8 11 "WheelBook$Search" "days" "[I") (List.mem_of_getElem? (i := 5) rfl)) (fun _ h9 => h9) rfl hin0 rfl (by decide +kernel) rfl rfl (Nat.le_of_ble_eq_true rfl) dX8_init_9 (fun H locs hP hD hS => ?_)
  have hP : va_P D vwCl ([((h0, .inr (8, [.int 0, .int 0, .int 0, .int 0, .int 0, .int 0, .int 0, .ref q7])) : Nat × va_E), ((q7, .inl (cI, 20, .inl (fun _ => (0 : Int32)))) : Nat × va_E)] : va_W) H := hP
  have hD : va_D A ([((h0, .inr (8, [.int 0, .int 0, .int 0, .int 0, .int 0, .int 0, .int 0, .ref q7])) : Nat × va_E), ((q7, .inl (cI, 20, .inl (fun _ => (0 : Int32)))) : Nat × va_E)] : va_W) := hD
  obtain ⟨I0_0, eI0_0, hf⟩ := wb_v hf
  obtain ⟨M0_0, eM0_0, hf⟩ := wb_v hf
  obtain ⟨a0, ea0⟩ : ∃ a0 : Nat → Nat, a0 = (fun k => ([h0, q7] : List Nat).getD k 0) := ⟨_, rfl⟩
  have hP : va_P D vwCl (wWX8 cB cI cZ a0 I0_0 M0_0) H := by rw [eI0_0, eM0_0, ea0]; exact hP.sub [0, 1] rfl
  have hD : va_D A (wWX8 cB cI cZ a0 I0_0 M0_0) := by rw [eI0_0, eM0_0, ea0]; exact hD.sub [0, 1] (by decide) rfl
  have h00 : a0 0 = h0 := by rw [ea0]; rfl
  rw [← h00] at hl
  refine W.widen (k := 1) (n := 20) (Nat.le_of_ble_eq_true rfl) (Nat.le_of_ble_eq_true rfl) ?_
  exact W.vret hx hb hr (fun t ht hW => by rw [← Option.some.inj hf]; exact ⟨⟨(), rfl, trivial, a0, h00, by rw [ht]; exact hP, va_K.moved hW.alike hK, hD⟩, hS.F ht⟩) hS.2.2 dX8_init_12

set_option maxHeartbeats 4000000 in
set_option maxRecDepth 100000 in
theorem cn_X9_init (l : Launch) (D : va_G) (cB cI cZ : ClassId) (N : Nat) (h0 sz : Nat) (R : (Nat → Int32) × (Nat → Nat → Int32)) (hf : fX9_init N = some R) : Met l yX9_init wsX9_init ({ frames := 1, cells := 1, slots := 600, locals := 12 }) (va_Pc [.ref h0] (wb_preN D [(cB, .byte), (cI, .int), (cZ, .boolean)] ([((h0, .inr (9, [.null, .int 0, .int 0, .int 0, .int 0, .int 0, .int 0, .int 0, .int 0, .int 0])) : Nat × va_E)] : va_W) sz [])) (va_Qv (fun _ : Unit => True) (fun _ t => wb_postN D [(cB, .byte), (cI, .int), (cZ, .boolean)] (va_A ([((h0, .inr (9, [.null, .int 0, .int 0, .int 0, .int 0, .int 0, .int 0, .int 0, .int 0, .int 0])) : Nat × va_E)] : va_W) sz) h0 (fun a => wWX9 cB cI cZ a R.1 R.2) t) (va_A ([((h0, .inr (9, [.null, .int 0, .int 0, .int 0, .int 0, .int 0, .int 0, .int 0, .int 0, .int 0])) : Nat × va_E)] : va_W) sz)) 1 600 (va_A ([((h0, .inr (9, [.null, .int 0, .int 0, .int 0, .int 0, .int 0, .int 0, .int 0, .int 0, .int 0])) : Nat × va_E)] : va_W) sz) := by
  refine Met.ofW (cc := cX9_init) (maxL := 1) (ret := none) pn_X9 rfl ?_
  intro p e s m args below meth c s₁ B hml hv
  obtain ⟨rfl, ⟨hsz, hP, hK, hD0⟩, hN⟩ := hv
  have hx := B.exec
  have hb := B.bytes
  have hr := B.returns
  have hts := atoms_spec (ws := wsX9_init) B.pre
  have hown : s.vm.findClass RX9 = some m.cls := (findClass_of_methodNamed B.named :)
  have hlocks := B.notSynchronized
  have hin0 : meth.name = "<init>" := (name_of_methodNamed B.named B.method).1
  have hinX9 : ∀ w ∈ u_ws RX9 TX9 10, w ∈ wsX9_init := fun w h => List.mem_cons_of_mem _ (List.mem_append_right _ h)
  subst hsz
  have hD := hD0.self (sz := s.heap.size)
  generalize hAe : va_A ([((h0, .inr (9, [.null, .int 0, .int 0, .int 0, .int 0, .int 0, .int 0, .int 0, .int 0, .int 0])) : Nat × va_E)] : va_W) s.heap.size = A at hD ⊢
  have hA : ∀ q : Nat, s.heap.size ≤ q → A q := fun q h => by rw [← hAe]; exact Or.inr h
  have hl := lv_entry ([.ref h0]) (n := 1) (Nat.le_of_ble_eq_true rfl)
  rw [lg_entry_eq]
  generalize (lg_sl ([.ref h0]) ++ List.replicate (1 - (lg_sl ([.ref h0])).length) Slot.unset).toArray = ls at hl ⊢
  have hl : lv_has ls 1 [(0, .ref h0)] := hl
  unfold fX9_init at hf
  obtain ⟨H, hHe⟩ : ∃ H : Heap, H = s.heap := ⟨_, rfl⟩
  obtain ⟨locs, hle⟩ : ∃ locs : List Loc, locs = [] := ⟨_, rfl⟩
  refine wb_start (H := H) (locs := locs) hHe hle ?_
  rw [← hHe] at hP
  have hS : va_S A s.heap H locs := by rw [hHe, hle]; exact va_S.rf
  refine lv_aload_n hx hb dX9_init_0 rfl (lv_at hl 0 rfl) ?_
  refine W.objInit hx hb hown (hts (.methodLink RX9 3 objectInit) (List.mem_of_getElem? (i := 1) rfl)) (hts (.instanceMethod objectInit) (List.mem_of_getElem? (i := 2) rfl)) (hts (.code objectInit ⟨#[0xb1]⟩ 1 none) (List.mem_of_getElem? (i := 3) rfl)) rfl (by rw [hml]; exact hl.1) rfl dX9_init_1 (Nat.le_of_ble_eq_true rfl) (Nat.le_of_ble_eq_true rfl) ?_
  refine W.eq (g2 := F0 m 4 ls []) rfl ?_
  refine lv_aload_n hx hb dX9_init_4 rfl (lv_at hl 0 rfl) ?_
  refine lv_sipush (v := (600 : Int32)) hx hb dX9_init_5 (by decide) ?_
  refine wb_newa (atype := .byte) (ty := .byte) (cT := cB) (N' := 600) hx hb (hts (.arrayClass .byte) (List.mem_of_getElem? (i := 4) rfl)) rfl hK hP hD hS hA 0 rfl wb_raB (fun _ => rfl) (by decide +kernel) (by decide +kernel) (by decide +kernel) (Nat.le_of_ble_eq_true rfl) (Nat.le_of_ble_eq_true rfl) dX9_init_8 (fun q8 H hP hD hS => ?_)
  have hP : va_P D vwCl ([((h0, .inr (9, [.null, .int 0, .int 0, .int 0, .int 0, .int 0, .int 0, .int 0, .int 0, .int 0])) : Nat × va_E), ((q8, .inl (cB, 600, .inl (fun _ => (0 : Int32)))) : Nat × va_E)] : va_W) H := hP
  have hD : va_D A ([((h0, .inr (9, [.null, .int 0, .int 0, .int 0, .int 0, .int 0, .int 0, .int 0, .int 0, .int 0])) : Nat × va_E), ((q8, .inl (cB, 600, .inl (fun _ => (0 : Int32)))) : Nat × va_E)] : va_W) := hD
  refine va_putF (D := D) (ci := 9) (v := .ref q8) (ty := (.array .byte)) (C := RX9) (T := TX9) (N := 10) hx hb hts hinX9 tyX9 tyX9_ok nmX9 hown hK hP hD hS 0 rfl rfl 0 (by decide) (hts (.fieldLink RX9 11 "WheelBook$Text" "bytes" "[B") (List.mem_of_getElem? (i := 5) rfl)) (fun _ h9 => h9) rfl hin0 rfl (by decide +kernel) rfl rfl (Nat.le_of_ble_eq_true rfl) dX9_init_10 (fun H locs hP hD hS => ?_)
  have hP : va_P D vwCl ([((h0, .inr (9, [.ref q8, .int 0, .int 0, .int 0, .int 0, .int 0, .int 0, .int 0, .int 0, .int 0])) : Nat × va_E), ((q8, .inl (cB, 600, .inl (fun _ => (0 : Int32)))) : Nat × va_E)] : va_W) H := hP
  have hD : va_D A ([((h0, .inr (9, [.ref q8, .int 0, .int 0, .int 0, .int 0, .int 0, .int 0, .int 0, .int 0, .int 0])) : Nat × va_E), ((q8, .inl (cB, 600, .inl (fun _ => (0 : Int32)))) : Nat × va_E)] : va_W) := hD
  refine lv_aload_n hx hb dX9_init_13 rfl (lv_at hl 0 rfl) ?_
  refine lv_iconst (v := (-1 : Int32)) hx hb dX9_init_14 (by decide) ?_
  refine va_put (D := D) (ci := 9) (v := .int (-1 : Int32)) (ty := .int) (C := RX9) (T := TX9) (N := 10) hx hb hts hinX9 tyX9 tyX9_ok nmX9 hown hK hP hD hS 0 rfl rfl 9 (by decide) (hts (.fieldLink RX9 15 "WheelBook$Text" "faultPlace" "I") (List.mem_of_getElem? (i := 6) rfl)) (fun _ h9 => h9) rfl (by decide +kernel) rfl rfl (Nat.le_of_ble_eq_true rfl) dX9_init_15 (fun H locs hP hD hS => ?_)
  have hP : va_P D vwCl ([((h0, .inr (9, [.ref q8, .int 0, .int 0, .int 0, .int 0, .int 0, .int 0, .int 0, .int 0, .int (-1 : Int32)])) : Nat × va_E), ((q8, .inl (cB, 600, .inl (fun _ => (0 : Int32)))) : Nat × va_E)] : va_W) H := hP
  have hD : va_D A ([((h0, .inr (9, [.ref q8, .int 0, .int 0, .int 0, .int 0, .int 0, .int 0, .int 0, .int 0, .int (-1 : Int32)])) : Nat × va_E), ((q8, .inl (cB, 600, .inl (fun _ => (0 : Int32)))) : Nat × va_E)] : va_W) := hD
  obtain ⟨I0_0, eI0_0, hf⟩ := wb_v hf
  obtain ⟨M0_0, eM0_0, hf⟩ := wb_v hf
  obtain ⟨a0, ea0⟩ : ∃ a0 : Nat → Nat, a0 = (fun k => ([h0, q8] : List Nat).getD k 0) := ⟨_, rfl⟩
  have hP : va_P D vwCl (wWX9 cB cI cZ a0 I0_0 M0_0) H := by rw [eI0_0, eM0_0, ea0]; exact hP.sub [0, 1] rfl
  have hD : va_D A (wWX9 cB cI cZ a0 I0_0 M0_0) := by rw [eI0_0, eM0_0, ea0]; exact hD.sub [0, 1] (by decide) rfl
  have h00 : a0 0 = h0 := by rw [ea0]; rfl
  rw [← h00] at hl
  refine W.widen (k := 1) (n := 600) (Nat.le_of_ble_eq_true rfl) (Nat.le_of_ble_eq_true rfl) ?_
  exact W.vret hx hb hr (fun t ht hW => by rw [← Option.some.inj hf]; exact ⟨⟨(), rfl, trivial, a0, h00, by rw [ht]; exact hP, va_K.moved hW.alike hK, hD⟩, hS.F ht⟩) hS.2.2 dX9_init_18

set_option maxHeartbeats 4000000 in
set_option maxRecDepth 100000 in
theorem cn_X10_init (l : Launch) (D : va_G) (cB cI cZ : ClassId) (N : Nat) (h0 sz : Nat) (R : (Nat → Int32) × (Nat → Nat → Int32)) (hf : fX10_init N = some R) : Met l yX10_init wsX10_init ({ frames := 1, cells := 3, slots := 48, locals := 12 }) (va_Pc [.ref h0] (wb_preN D [(cB, .byte), (cI, .int), (cZ, .boolean)] ([((h0, .inr (10, [.null, .null, .null, .int 0, .int 0])) : Nat × va_E)] : va_W) sz [])) (va_Qv (fun _ : Unit => True) (fun _ t => wb_postN D [(cB, .byte), (cI, .int), (cZ, .boolean)] (va_A ([((h0, .inr (10, [.null, .null, .null, .int 0, .int 0])) : Nat × va_E)] : va_W) sz) h0 (fun a => wWX10 cB cI cZ a R.1 R.2) t) (va_A ([((h0, .inr (10, [.null, .null, .null, .int 0, .int 0])) : Nat × va_E)] : va_W) sz)) 3 48 (va_A ([((h0, .inr (10, [.null, .null, .null, .int 0, .int 0])) : Nat × va_E)] : va_W) sz) := by
  refine Met.ofW (cc := cX10_init) (maxL := 1) (ret := none) pn_X10 rfl ?_
  intro p e s m args below meth c s₁ B hml hv
  obtain ⟨rfl, ⟨hsz, hP, hK, hD0⟩, hN⟩ := hv
  have hx := B.exec
  have hb := B.bytes
  have hr := B.returns
  have hts := atoms_spec (ws := wsX10_init) B.pre
  have hown : s.vm.findClass RX10 = some m.cls := (findClass_of_methodNamed B.named :)
  have hlocks := B.notSynchronized
  have hin0 : meth.name = "<init>" := (name_of_methodNamed B.named B.method).1
  have hinX10 : ∀ w ∈ u_ws RX10 TX10 5, w ∈ wsX10_init := fun w h => List.mem_cons_of_mem _ (List.mem_append_right _ h)
  subst hsz
  have hD := hD0.self (sz := s.heap.size)
  generalize hAe : va_A ([((h0, .inr (10, [.null, .null, .null, .int 0, .int 0])) : Nat × va_E)] : va_W) s.heap.size = A at hD ⊢
  have hA : ∀ q : Nat, s.heap.size ≤ q → A q := fun q h => by rw [← hAe]; exact Or.inr h
  have hl := lv_entry ([.ref h0]) (n := 1) (Nat.le_of_ble_eq_true rfl)
  rw [lg_entry_eq]
  generalize (lg_sl ([.ref h0]) ++ List.replicate (1 - (lg_sl ([.ref h0])).length) Slot.unset).toArray = ls at hl ⊢
  have hl : lv_has ls 1 [(0, .ref h0)] := hl
  unfold fX10_init at hf
  obtain ⟨H, hHe⟩ : ∃ H : Heap, H = s.heap := ⟨_, rfl⟩
  obtain ⟨locs, hle⟩ : ∃ locs : List Loc, locs = [] := ⟨_, rfl⟩
  refine wb_start (H := H) (locs := locs) hHe hle ?_
  rw [← hHe] at hP
  have hS : va_S A s.heap H locs := by rw [hHe, hle]; exact va_S.rf
  refine lv_aload_n hx hb dX10_init_0 rfl (lv_at hl 0 rfl) ?_
  refine W.objInit hx hb hown (hts (.methodLink RX10 3 objectInit) (List.mem_of_getElem? (i := 1) rfl)) (hts (.instanceMethod objectInit) (List.mem_of_getElem? (i := 2) rfl)) (hts (.code objectInit ⟨#[0xb1]⟩ 1 none) (List.mem_of_getElem? (i := 3) rfl)) rfl (by rw [hml]; exact hl.1) rfl dX10_init_1 (Nat.le_of_ble_eq_true rfl) (Nat.le_of_ble_eq_true rfl) ?_
  refine W.eq (g2 := F0 m 4 ls []) rfl ?_
  refine lv_aload_n hx hb dX10_init_4 rfl (lv_at hl 0 rfl) ?_
  refine lv_bipush (v := (36 : Int32)) hx hb dX10_init_5 (by decide) ?_
  refine wb_newa (atype := .int) (ty := .int) (cT := cI) (N' := 36) hx hb (hts (.arrayClass .int) (List.mem_of_getElem? (i := 4) rfl)) rfl hK hP hD hS hA 1 rfl wb_raI (fun _ => rfl) (by decide +kernel) (by decide +kernel) (by decide +kernel) (Nat.le_of_ble_eq_true rfl) (Nat.le_of_ble_eq_true rfl) dX10_init_7 (fun q7 H hP hD hS => ?_)
  have hP : va_P D vwCl ([((h0, .inr (10, [.null, .null, .null, .int 0, .int 0])) : Nat × va_E), ((q7, .inl (cI, 36, .inl (fun _ => (0 : Int32)))) : Nat × va_E)] : va_W) H := hP
  have hD : va_D A ([((h0, .inr (10, [.null, .null, .null, .int 0, .int 0])) : Nat × va_E), ((q7, .inl (cI, 36, .inl (fun _ => (0 : Int32)))) : Nat × va_E)] : va_W) := hD
  refine va_putF (D := D) (ci := 10) (v := .ref q7) (ty := (.array .int)) (C := RX10) (T := TX10) (N := 5) hx hb hts hinX10 tyX10 tyX10_ok nmX10 hown hK hP hD hS 0 rfl rfl 0 (by decide) (hts (.fieldLink RX10 9 "WheelBook$Tree" "prices" "[I") (List.mem_of_getElem? (i := 5) rfl)) (fun _ h9 => h9) rfl hin0 rfl (by decide +kernel) rfl rfl (Nat.le_of_ble_eq_true rfl) dX10_init_9 (fun H locs hP hD hS => ?_)
  have hP : va_P D vwCl ([((h0, .inr (10, [.ref q7, .null, .null, .int 0, .int 0])) : Nat × va_E), ((q7, .inl (cI, 36, .inl (fun _ => (0 : Int32)))) : Nat × va_E)] : va_W) H := hP
  have hD : va_D A ([((h0, .inr (10, [.ref q7, .null, .null, .int 0, .int 0])) : Nat × va_E), ((q7, .inl (cI, 36, .inl (fun _ => (0 : Int32)))) : Nat × va_E)] : va_W) := hD
  refine lv_aload_n hx hb dX10_init_12 rfl (lv_at hl 0 rfl) ?_
  refine lv_bipush (v := (6 : Int32)) hx hb dX10_init_13 (by decide) ?_
  refine wb_newa (atype := .int) (ty := .int) (cT := cI) (N' := 6) hx hb (hts (.arrayClass .int) (List.mem_of_getElem? (i := 4) rfl)) rfl hK hP hD hS hA 1 rfl wb_raI (fun _ => rfl) (by decide +kernel) (by decide +kernel) (by decide +kernel) (Nat.le_of_ble_eq_true rfl) (Nat.le_of_ble_eq_true rfl) dX10_init_15 (fun q15 H hP hD hS => ?_)
  have hP : va_P D vwCl ([((h0, .inr (10, [.ref q7, .null, .null, .int 0, .int 0])) : Nat × va_E), ((q7, .inl (cI, 36, .inl (fun _ => (0 : Int32)))) : Nat × va_E), ((q15, .inl (cI, 6, .inl (fun _ => (0 : Int32)))) : Nat × va_E)] : va_W) H := hP
  have hD : va_D A ([((h0, .inr (10, [.ref q7, .null, .null, .int 0, .int 0])) : Nat × va_E), ((q7, .inl (cI, 36, .inl (fun _ => (0 : Int32)))) : Nat × va_E), ((q15, .inl (cI, 6, .inl (fun _ => (0 : Int32)))) : Nat × va_E)] : va_W) := hD
  refine va_putF (D := D) (ci := 10) (v := .ref q15) (ty := (.array .int)) (C := RX10) (T := TX10) (N := 5) hx hb hts hinX10 tyX10 tyX10_ok nmX10 hown hK hP hD hS 0 rfl rfl 1 (by decide) (hts (.fieldLink RX10 15 "WheelBook$Tree" "row" "[I") (List.mem_of_getElem? (i := 6) rfl)) (fun _ h9 => h9) rfl hin0 rfl (by decide +kernel) rfl rfl (Nat.le_of_ble_eq_true rfl) dX10_init_17 (fun H locs hP hD hS => ?_)
  have hP : va_P D vwCl ([((h0, .inr (10, [.ref q7, .ref q15, .null, .int 0, .int 0])) : Nat × va_E), ((q7, .inl (cI, 36, .inl (fun _ => (0 : Int32)))) : Nat × va_E), ((q15, .inl (cI, 6, .inl (fun _ => (0 : Int32)))) : Nat × va_E)] : va_W) H := hP
  have hD : va_D A ([((h0, .inr (10, [.ref q7, .ref q15, .null, .int 0, .int 0])) : Nat × va_E), ((q7, .inl (cI, 36, .inl (fun _ => (0 : Int32)))) : Nat × va_E), ((q15, .inl (cI, 6, .inl (fun _ => (0 : Int32)))) : Nat × va_E)] : va_W) := hD
  refine lv_aload_n hx hb dX10_init_20 rfl (lv_at hl 0 rfl) ?_
  refine lv_bipush (v := (6 : Int32)) hx hb dX10_init_21 (by decide) ?_
  refine wb_newa (atype := .int) (ty := .int) (cT := cI) (N' := 6) hx hb (hts (.arrayClass .int) (List.mem_of_getElem? (i := 4) rfl)) rfl hK hP hD hS hA 1 rfl wb_raI (fun _ => rfl) (by decide +kernel) (by decide +kernel) (by decide +kernel) (Nat.le_of_ble_eq_true rfl) (Nat.le_of_ble_eq_true rfl) dX10_init_23 (fun q23 H hP hD hS => ?_)
  have hP : va_P D vwCl ([((h0, .inr (10, [.ref q7, .ref q15, .null, .int 0, .int 0])) : Nat × va_E), ((q7, .inl (cI, 36, .inl (fun _ => (0 : Int32)))) : Nat × va_E), ((q15, .inl (cI, 6, .inl (fun _ => (0 : Int32)))) : Nat × va_E), ((q23, .inl (cI, 6, .inl (fun _ => (0 : Int32)))) : Nat × va_E)] : va_W) H := hP
  have hD : va_D A ([((h0, .inr (10, [.ref q7, .ref q15, .null, .int 0, .int 0])) : Nat × va_E), ((q7, .inl (cI, 36, .inl (fun _ => (0 : Int32)))) : Nat × va_E), ((q15, .inl (cI, 6, .inl (fun _ => (0 : Int32)))) : Nat × va_E), ((q23, .inl (cI, 6, .inl (fun _ => (0 : Int32)))) : Nat × va_E)] : va_W) := hD
  refine va_putF (D := D) (ci := 10) (v := .ref q23) (ty := (.array .int)) (C := RX10) (T := TX10) (N := 5) hx hb hts hinX10 tyX10 tyX10_ok nmX10 hown hK hP hD hS 0 rfl rfl 2 (by decide) (hts (.fieldLink RX10 18 "WheelBook$Tree" "bestRow" "[I") (List.mem_of_getElem? (i := 7) rfl)) (fun _ h9 => h9) rfl hin0 rfl (by decide +kernel) rfl rfl (Nat.le_of_ble_eq_true rfl) dX10_init_25 (fun H locs hP hD hS => ?_)
  have hP : va_P D vwCl ([((h0, .inr (10, [.ref q7, .ref q15, .ref q23, .int 0, .int 0])) : Nat × va_E), ((q7, .inl (cI, 36, .inl (fun _ => (0 : Int32)))) : Nat × va_E), ((q15, .inl (cI, 6, .inl (fun _ => (0 : Int32)))) : Nat × va_E), ((q23, .inl (cI, 6, .inl (fun _ => (0 : Int32)))) : Nat × va_E)] : va_W) H := hP
  have hD : va_D A ([((h0, .inr (10, [.ref q7, .ref q15, .ref q23, .int 0, .int 0])) : Nat × va_E), ((q7, .inl (cI, 36, .inl (fun _ => (0 : Int32)))) : Nat × va_E), ((q15, .inl (cI, 6, .inl (fun _ => (0 : Int32)))) : Nat × va_E), ((q23, .inl (cI, 6, .inl (fun _ => (0 : Int32)))) : Nat × va_E)] : va_W) := hD
  obtain ⟨I0_0, eI0_0, hf⟩ := wb_v hf
  obtain ⟨M0_0, eM0_0, hf⟩ := wb_v hf
  obtain ⟨a0, ea0⟩ : ∃ a0 : Nat → Nat, a0 = (fun k => ([h0, q7, q15, q23] : List Nat).getD k 0) := ⟨_, rfl⟩
  have hP : va_P D vwCl (wWX10 cB cI cZ a0 I0_0 M0_0) H := by rw [eI0_0, eM0_0, ea0]; exact hP.sub [0, 1, 2, 3] rfl
  have hD : va_D A (wWX10 cB cI cZ a0 I0_0 M0_0) := by rw [eI0_0, eM0_0, ea0]; exact hD.sub [0, 1, 2, 3] (by decide) rfl
  have h00 : a0 0 = h0 := by rw [ea0]; rfl
  rw [← h00] at hl
  refine W.widen (k := 3) (n := 48) (Nat.le_of_ble_eq_true rfl) (Nat.le_of_ble_eq_true rfl) ?_
  exact W.vret hx hb hr (fun t ht hW => by rw [← Option.some.inj hf]; exact ⟨⟨(), rfl, trivial, a0, h00, by rw [ht]; exact hP, va_K.moved hW.alike hK, hD⟩, hS.F ht⟩) hS.2.2 dX10_init_28
