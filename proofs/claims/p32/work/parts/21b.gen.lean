set_option maxHeartbeats 4000000 in
set_option maxRecDepth 100000 in
theorem cn_X11_entry (l : Launch) (D : va_G) (cB cI cZ : ClassId) (N : Nat) (a0 : Nat → Nat) (I0 : Nat → Int32) (M0 : Nat → Nat → Int32) (x1 : Int32) (x2 : Int32) (x3 : Int32) (R : Int32) (hf : fX11_entry N I0 M0 x1 x2 x3 = some (.inr R)) : Met l yX11_entry wyX11_entry ({ frames := 8, cells := 0, slots := 0, locals := 161 }) (va_Pc [.ref (a0 0), .int x1, .int x2, .int x3] (wb_pre D [(cB, .byte), (cI, .int), (cZ, .boolean)] (wWX11 cB cI cZ a0 I0 M0))) (vp_Si (fun r => r = R)) 0 0 (fun _ => False) := by
  refine Met.ofW (cc := cX11_entry) (maxL := 5) (ret := (some .int)) pn_X11 rfl ?_
  intro p e s m args below meth c s₁ B hml hv
  obtain ⟨rfl, hP, hK⟩ := hv
  have hx := B.exec
  have hb := B.bytes
  have hr := B.returns
  have hts := atoms_spec (ws := wyX11_entry) B.pre
  have hown : s.vm.findClass RX11 = some m.cls := (findClass_of_methodNamed B.named :)
  have hlocks := B.notSynchronized
  have hinX11 : ∀ w ∈ u_ws RX11 TX11 13, w ∈ wyX11_entry := fun w h => List.mem_cons_of_mem _ (List.mem_append_left _ (List.mem_append_left _ (List.mem_append_right _ h)))
  have hl := lv_entry ([.ref (a0 0), .int x1, .int x2, .int x3]) (n := 5) (Nat.le_of_ble_eq_true rfl)
  rw [lg_entry_eq]
  generalize (lg_sl ([.ref (a0 0), .int x1, .int x2, .int x3]) ++ List.replicate (5 - (lg_sl ([.ref (a0 0), .int x1, .int x2, .int x3])).length) Slot.unset).toArray = ls at hl ⊢
  have hl : lv_has ls 5 [(0, .ref (a0 0)), (1, .int x1), (2, .int x2), (3, .int x3)] := hl
  unfold fX11_entry at hf
  refine lv_iload_n hx hb dX11_entry_0 rfl (lv_at hl 1 rfl) ?_
  refine lv_iload_n hx hb dX11_entry_1 rfl (lv_at hl 2 rfl) ?_
  obtain ⟨r1, hr1, hf⟩ := wb_xr hf
  refine vp_callSi (W.runS (As := [.int x1, .int x2]) (rest := []) ⟨hx, hb, hml, hown, hts⟩ (cn_X11_numberOf l D cB cI cZ N x1 x2 r1 hr1) (va_cwS 2 hts gyX11_entry_X11_numberOf rfl rfl rfl csX11_numberOf ⟨Nat.le_of_ble_eq_true rfl, Nat.le_of_ble_eq_true rfl⟩) (wb_preS (hP.sub (ws' := ([] : va_W)) [] rfl) hK) rfl rfl hl.1 rfl (lv_room (Nat.le_of_ble_eq_true rfl)) dX11_entry_2 ⟨Nat.le_of_ble_eq_true rfl, Nat.le_of_ble_eq_true rfl⟩) (fun r9 e9 => ?_)
  rw [e9]
  refine lv_istore (lv' := [(4, .int r1), (0, .ref (a0 0)), (1, .int x1), (2, .int x2), (3, .int x3)]) hx hb dX11_entry_5 hl (by decide) rfl (fun ls hl => ?_)
  refine lv_iload_n hx hb dX11_entry_7 rfl (lv_at hl 4 rfl) ?_
  refine lv_iconst (v := (0 : Int32)) hx hb dX11_entry_8 (by decide) ?_
  refine lv_bipush (v := (21 : Int32)) hx hb dX11_entry_9 (by decide) ?_
  obtain ⟨r2, hr2, hf⟩ := wb_b hf
  refine vp_callSi (W.runS (As := [.int x3, .int (0 : Int32), .int (21 : Int32)]) (rest := []) ⟨hx, hb, hml, hown, hts⟩ (cn_X11_within l D cB cI cZ N x3 (0 : Int32) (21 : Int32) r2 hr2) (va_cwS 3 hts gyX11_entry_X11_within rfl rfl rfl csX11_within ⟨Nat.le_of_ble_eq_true rfl, Nat.le_of_ble_eq_true rfl⟩) (wb_preS (hP.sub (ws' := ([] : va_W)) [] rfl) hK) rfl rfl hl.1 rfl (lv_room (Nat.le_of_ble_eq_true rfl)) dX11_entry_11 ⟨Nat.le_of_ble_eq_true rfl, Nat.le_of_ble_eq_true rfl⟩) (fun r9 e9 => ?_)
  rw [e9]
  obtain ⟨r3, hr3, hf⟩ := wb_xr hf
  refine va_csv (W.runS (As := [.int r2]) (rest := []) ⟨hx, hb, hml, hown, hts⟩ (cn_X11_need l D cB cI cZ N r2 r3 hr3) (va_cwS 1 hts gyX11_entry_X11_need rfl rfl rfl csX11_need ⟨Nat.le_of_ble_eq_true rfl, Nat.le_of_ble_eq_true rfl⟩) (wb_preS (hP.sub (ws' := ([] : va_W)) [] rfl) hK) rfl rfl hl.1 rfl (lv_room (Nat.le_of_ble_eq_true rfl)) dX11_entry_14 ⟨Nat.le_of_ble_eq_true rfl, Nat.le_of_ble_eq_true rfl⟩) (fun _ => ?_)
  replace hf := wb_okr hf
  refine lv_aload_n hx hb dX11_entry_17 rfl (lv_at hl 1 rfl) ?_
  refine va_get (D := D) (ci := 11) (v := .ref (a0 21)) (C := RX11) (T := TX11) (N := 13) hx hb hts hinX11 hown hK hP 0 rfl rfl 3 (by decide) (hts (.fieldLink RX11 29 "WheelBook" "books" "LWheelBook$Books;") (List.mem_of_getElem? (i := 1) rfl)) (fun _ h9 => h9) rfl dX11_entry_18 ?_
  refine lv_iload hx hb dX11_entry_21 (lv_at hl 0 rfl) ?_
  refine lv_iload_n hx hb dX11_entry_23 rfl (lv_at hl 4 rfl) ?_
  obtain ⟨r4, hr4, hf⟩ := wb_b hf
  refine vp_callSi (W.runV (As := [.int r1, .int x3]) (rest := []) ⟨hx, hb, hml, hown, hts⟩ (cn_X1_degreeOf l D cB cI cZ N (wb_sh a0 21) (wb_sh I0 13) (wb_sh M0 13) r1 x3 r4 hr4) (cwV 2 hts gyX11_entry_X1_degreeOf rfl rfl rfl cdX1_degreeOf ⟨Nat.le_of_ble_eq_true rfl, Nat.le_of_ble_eq_true rfl⟩) (wb_preV (hP.sub (ws' := (wWX1 cB cI cZ (wb_sh a0 21) (wb_sh I0 13) (wb_sh M0 13))) [21, 22, 23] rfl) hK (wr_1 hK hP (q0 := 21) rfl)) rfl rfl hl.1 rfl (lv_room (Nat.le_of_ble_eq_true rfl)) dX11_entry_24 ⟨Nat.le_of_ble_eq_true rfl, Nat.le_of_ble_eq_true rfl⟩) (fun r9 e9 => ?_)
  rw [e9]
  exact W.iret (v := r4) hx hb hr (fun t ht hW => ⟨_, rfl, Option.some.inj hf, ht⟩) (fun _ h => nomatch h) dX11_entry_27
set_option maxHeartbeats 4000000 in
set_option maxRecDepth 100000 in
theorem ct_X11_entry (l : Launch) (hlt : l.stackTraces = false) (D : va_G) (cB cI cZ : ClassId) (N : Nat) (a0 : Nat → Nat) (I0 : Nat → Int32) (M0 : Nat → Nat → Int32) (x1 : Int32) (x2 : Int32) (x3 : Int32) (sz k : Nat) (hf : fX11_entry N I0 M0 x1 x2 x3 = some (.inl k)) : vx_Met l yX11_entry wyX11_entry ({ frames := 8, cells := 1, slots := 6, locals := 161 }) (va_Pc [.ref (a0 0), .int x1, .int x2, .int x3] (wb_preX D [(cB, .byte), (cI, .int), (cZ, .boolean)] (wWX11 cB cI cZ a0 I0 M0) sz)) (va_Qi (fun _ (_ : Unit) => False) (fun _ _ => True) (fun q => sz ≤ q)) (vx_X (fun _ : Unit => True) (fun E _ _ => E = wb_ex k) (fun q => sz ≤ q)) 1 6 (fun q => sz ≤ q) := by
  refine vx_ofW (cc := cX11_entry) (maxL := 5) (ret := (some .int)) (by decide) rfl ?_
  intro p e s m args below meth c s₁ B hml htab hv
  obtain ⟨rfl, hsz, hP, hK, hX⟩ := hv
  subst hsz
  have hx := B.exec
  have hb := B.bytes
  have hr := B.returns
  have hts := atoms_spec (ws := wyX11_entry) B.pre
  have hown : s.vm.findClass RX11 = some m.cls := (findClass_of_methodNamed B.named :)
  have hlocks := B.notSynchronized
  have hS : va_S (fun q => s.heap.size ≤ q) s.heap s.heap [] := va_S.rf
  have hl := lv_entry ([.ref (a0 0), .int x1, .int x2, .int x3]) (n := 5) (Nat.le_of_ble_eq_true rfl)
  rw [lg_entry_eq]
  generalize (lg_sl ([.ref (a0 0), .int x1, .int x2, .int x3]) ++ List.replicate (5 - (lg_sl ([.ref (a0 0), .int x1, .int x2, .int x3])).length) Slot.unset).toArray = ls at hl ⊢
  have hl : lv_has ls 5 [(0, .ref (a0 0)), (1, .int x1), (2, .int x2), (3, .int x3)] := hl
  unfold fX11_entry at hf
  refine lv_iload_n hx hb dX11_entry_0 rfl (lv_at hl 1 rfl) ?_
  refine lv_iload_n hx hb dX11_entry_1 rfl (lv_at hl 2 rfl) ?_
  rcases wb_xt hf with hrx | ⟨r1, hr1, hf⟩
  · refine vx_calli (vx_runS (As := [.int x1, .int x2]) (rest := []) ⟨hx, hb, hml, hown, hts⟩ (ct_X11_numberOf l hlt D cB cI cZ N x1 x2 s.heap.size k hrx) (va_cwS 2 hts gyX11_entry_X11_numberOf rfl rfl rfl csX11_numberOf ⟨Nat.le_of_ble_eq_true rfl, Nat.le_of_ble_eq_true rfl⟩) (wb_preXS (hP.sub (ws' := ([] : va_W)) [] rfl) hK hX) rfl rfl hl.1 rfl (lv_room (Nat.le_of_ble_eq_true rfl)) dX11_entry_2 ⟨Nat.le_of_ble_eq_true rfl, Nat.le_of_ble_eq_true rfl⟩) hS (fun q _ h => h) (fun _ h => h) (fun q _ h => h) (fun E ce q9 u t H locs ht hvm hpx hB hz1 hk1 hS hq9 hv9 hc9 => ?_) (fun r9 u t H locs ht hvm hw hB hz1 hk1 hS => hw.elim)
    exact vx_out (fun x hx9 => (htab x hx9).elim) hlocks hq9 hv9 hc9 (fun t9 ht9 hvm9 => ⟨(), trivial, hB, hS.F ht9⟩) hS.2.2 (Nat.le_of_ble_eq_true rfl) (Nat.le_of_ble_eq_true rfl)
  refine vp_callSi (W.runS (As := [.int x1, .int x2]) (rest := []) ⟨hx, hb, hml, hown, hts⟩ (cn_X11_numberOf l D cB cI cZ N x1 x2 r1 hr1) (va_cwS 2 hts gyX11_entry_X11_numberOf rfl rfl rfl csX11_numberOf ⟨Nat.le_of_ble_eq_true rfl, Nat.le_of_ble_eq_true rfl⟩) (wb_preS (hP.sub (ws' := ([] : va_W)) [] rfl) hK) rfl rfl hl.1 rfl (lv_room (Nat.le_of_ble_eq_true rfl)) dX11_entry_2 ⟨Nat.le_of_ble_eq_true rfl, Nat.le_of_ble_eq_true rfl⟩) (fun r9 e9 => ?_)
  rw [e9]
  refine lv_istore (lv' := [(4, .int r1), (0, .ref (a0 0)), (1, .int x1), (2, .int x2), (3, .int x3)]) hx hb dX11_entry_5 hl (by decide) rfl (fun ls hl => ?_)
  refine lv_iload_n hx hb dX11_entry_7 rfl (lv_at hl 4 rfl) ?_
  refine lv_iconst (v := (0 : Int32)) hx hb dX11_entry_8 (by decide) ?_
  refine lv_bipush (v := (21 : Int32)) hx hb dX11_entry_9 (by decide) ?_
  obtain ⟨r2, hr2, hf⟩ := wb_b hf
  refine vp_callSi (W.runS (As := [.int x3, .int (0 : Int32), .int (21 : Int32)]) (rest := []) ⟨hx, hb, hml, hown, hts⟩ (cn_X11_within l D cB cI cZ N x3 (0 : Int32) (21 : Int32) r2 hr2) (va_cwS 3 hts gyX11_entry_X11_within rfl rfl rfl csX11_within ⟨Nat.le_of_ble_eq_true rfl, Nat.le_of_ble_eq_true rfl⟩) (wb_preS (hP.sub (ws' := ([] : va_W)) [] rfl) hK) rfl rfl hl.1 rfl (lv_room (Nat.le_of_ble_eq_true rfl)) dX11_entry_11 ⟨Nat.le_of_ble_eq_true rfl, Nat.le_of_ble_eq_true rfl⟩) (fun r9 e9 => ?_)
  rw [e9]
  rcases wb_xt hf with hrx | ⟨r3, hr3, hf⟩
  · refine vx_callv (vx_runS (As := [.int r2]) (rest := []) ⟨hx, hb, hml, hown, hts⟩ (ct_X11_need l hlt D cB cI cZ N r2 s.heap.size k hrx) (va_cwS 1 hts gyX11_entry_X11_need rfl rfl rfl csX11_need ⟨Nat.le_of_ble_eq_true rfl, Nat.le_of_ble_eq_true rfl⟩) (wb_preXS (hP.sub (ws' := ([] : va_W)) [] rfl) hK hX) rfl rfl hl.1 rfl (lv_room (Nat.le_of_ble_eq_true rfl)) dX11_entry_14 ⟨Nat.le_of_ble_eq_true rfl, Nat.le_of_ble_eq_true rfl⟩) hS (fun q _ h => h) (fun _ h => h) (fun q _ h => h) (fun E ce q9 u t H locs ht hvm hpx hB hz1 hk1 hS hq9 hv9 hc9 => ?_) (fun u t H locs ht hvm hw hB hz1 hk1 hS => hw.elim)
    exact vx_out (fun x hx9 => (htab x hx9).elim) hlocks hq9 hv9 hc9 (fun t9 ht9 hvm9 => ⟨(), trivial, hB, hS.F ht9⟩) hS.2.2 (Nat.le_of_ble_eq_true rfl) (Nat.le_of_ble_eq_true rfl)
  refine va_csv (W.runS (As := [.int r2]) (rest := []) ⟨hx, hb, hml, hown, hts⟩ (cn_X11_need l D cB cI cZ N r2 r3 hr3) (va_cwS 1 hts gyX11_entry_X11_need rfl rfl rfl csX11_need ⟨Nat.le_of_ble_eq_true rfl, Nat.le_of_ble_eq_true rfl⟩) (wb_preS (hP.sub (ws' := ([] : va_W)) [] rfl) hK) rfl rfl hl.1 rfl (lv_room (Nat.le_of_ble_eq_true rfl)) dX11_entry_14 ⟨Nat.le_of_ble_eq_true rfl, Nat.le_of_ble_eq_true rfl⟩) (fun _ => ?_)
  exact absurd hf wb_okn

set_option maxHeartbeats 4000000 in
set_option maxRecDepth 100000 in
theorem cn_X11_cost (l : Launch) (D : va_G) (cB cI cZ : ClassId) (N : Nat) (a0 : Nat → Nat) (I0 : Nat → Int32) (M0 : Nat → Nat → Int32) (x1 : Int32) (x2 : Int32) (x3 : Int32) (x4 : Int32) (R : Int32) (hf : fX11_cost N I0 M0 x1 x2 x3 x4 = some (.inr R)) : Met l yX11_cost wyX11_cost ({ frames := 8, cells := 0, slots := 0, locals := 161 }) (va_Pc [.ref (a0 0), .int x1, .int x2, .int x3, .int x4] (wb_pre D [(cB, .byte), (cI, .int), (cZ, .boolean)] (wWX11 cB cI cZ a0 I0 M0))) (vp_Si (fun r => r = R)) 0 0 (fun _ => False) := by
  refine Met.ofW (cc := cX11_cost) (maxL := 6) (ret := (some .int)) pn_X11 rfl ?_
  intro p e s m args below meth c s₁ B hml hv
  obtain ⟨rfl, hP, hK⟩ := hv
  have hx := B.exec
  have hb := B.bytes
  have hr := B.returns
  have hts := atoms_spec (ws := wyX11_cost) B.pre
  have hown : s.vm.findClass RX11 = some m.cls := (findClass_of_methodNamed B.named :)
  have hlocks := B.notSynchronized
  have hinX11 : ∀ w ∈ u_ws RX11 TX11 13, w ∈ wyX11_cost := fun w h => List.mem_cons_of_mem _ (List.mem_append_left _ (List.mem_append_left _ (List.mem_append_left _ (List.mem_append_left _ (List.mem_append_right _ h)))))
  have hl := lv_entry ([.ref (a0 0), .int x1, .int x2, .int x3, .int x4]) (n := 6) (Nat.le_of_ble_eq_true rfl)
  rw [lg_entry_eq]
  generalize (lg_sl ([.ref (a0 0), .int x1, .int x2, .int x3, .int x4]) ++ List.replicate (6 - (lg_sl ([.ref (a0 0), .int x1, .int x2, .int x3, .int x4])).length) Slot.unset).toArray = ls at hl ⊢
  have hl : lv_has ls 6 [(0, .ref (a0 0)), (1, .int x1), (2, .int x2), (3, .int x3), (4, .int x4)] := hl
  unfold fX11_cost at hf
  have J29 : ∀ (y29_5 : Int32) (z29_0 : Int32), ∀ (ls : Array Slot), lv_has ls 6 [(0, .ref (a0 0)), (3, .int x3), (4, .int x4), (5, .int y29_5)] → fX11_cost_J29 N I0 M0 x1 x2 x3 x4 y29_5 z29_0 = some (.inr R) → W p l e (headSpec wyX11_cost { frames := 8, cells := 0, slots := 0, locals := 161 }).room s m [.ref (a0 0), .int x1, .int x2, .int x3, .int x4].toArray below meth c s.heap [] 0 0 (MQ below (vp_Si (fun r => r = R)) [.ref (a0 0), .int x1, .int x2, .int x3, .int x4].toArray s 0 0 (fun _ => False)) (F0 m 29 ls [.int z29_0]) := by
    intro y29_5 z29_0 ls hl hf
    unfold fX11_cost_J29 at hf
    obtain ⟨r1, hr1, hf⟩ := wb_xr hf
    refine va_csv (W.runS (As := [.int z29_0]) (rest := []) ⟨hx, hb, hml, hown, hts⟩ (cn_X11_need l D cB cI cZ N z29_0 r1 hr1) (va_cwS 1 hts gyX11_cost_X11_need rfl rfl rfl csX11_need ⟨Nat.le_of_ble_eq_true rfl, Nat.le_of_ble_eq_true rfl⟩) (wb_preS (hP.sub (ws' := ([] : va_W)) [] rfl) hK) rfl rfl hl.1 rfl (lv_room (Nat.le_of_ble_eq_true rfl)) dX11_cost_29 ⟨Nat.le_of_ble_eq_true rfl, Nat.le_of_ble_eq_true rfl⟩) (fun _ => ?_)
    replace hf := wb_okr hf
    refine lv_aload_n hx hb dX11_cost_32 rfl (lv_at hl 0 rfl) ?_
    refine va_get (D := D) (ci := 11) (v := .ref (a0 3)) (C := RX11) (T := TX11) (N := 13) hx hb hts hinX11 hown hK hP 0 rfl rfl 1 (by decide) (hts (.fieldLink RX11 19 "WheelBook" "told" "LWheelBook$House;") (List.mem_of_getElem? (i := 1) rfl)) (fun _ h9 => h9) rfl dX11_cost_33 ?_
    refine lv_aload_n hx hb dX11_cost_36 rfl (lv_at hl 0 rfl) ?_
    refine va_get (D := D) (ci := 11) (v := .ref (a0 21)) (C := RX11) (T := TX11) (N := 13) hx hb hts hinX11 hown hK hP 0 rfl rfl 3 (by decide) (hts (.fieldLink RX11 29 "WheelBook" "books" "LWheelBook$Books;") (List.mem_of_getElem? (i := 2) rfl)) (fun _ h9 => h9) rfl dX11_cost_37 ?_
    refine lv_iload hx hb dX11_cost_40 (lv_at hl 3 rfl) ?_
    refine lv_iload_n hx hb dX11_cost_42 rfl (lv_at hl 1 rfl) ?_
    refine lv_iload hx hb dX11_cost_43 (lv_at hl 2 rfl) ?_
    refine lv_sipush (v := (1000 : Int32)) hx hb dX11_cost_45 (by decide) ?_
    obtain ⟨r2, hr2, hf⟩ := wb_b hf
    refine vp_callSi (W.runS (As := [.ref (a0 3), .ref (a0 21), .int y29_5, .int x3, .int x4, .int (1000 : Int32)]) (rest := []) ⟨hx, hb, hml, hown, hts⟩ (cn_X3_costOn l D cB cI cZ N (wb_sh a0 3) (wb_sh I0 9) (wb_sh M0 1) (wb_sh a0 21) (wb_sh I0 13) (wb_sh M0 13) y29_5 x3 x4 (1000 : Int32) r2 hr2) (va_cwS 6 hts gyX11_cost_X3_costOn rfl rfl rfl csX3_costOn ⟨Nat.le_of_ble_eq_true rfl, Nat.le_of_ble_eq_true rfl⟩) (wb_preS (hP.sub (ws' := ((wWX5 cB cI cZ (wb_sh a0 3) (wb_sh I0 9) (wb_sh M0 1)) ++ (wWX1 cB cI cZ (wb_sh a0 21) (wb_sh I0 13) (wb_sh M0 13)))) [3, 4, 5, 6, 7, 8, 9, 10, 11, 21, 22, 23] rfl) hK) rfl rfl hl.1 rfl (lv_room (Nat.le_of_ble_eq_true rfl)) dX11_cost_48 ⟨Nat.le_of_ble_eq_true rfl, Nat.le_of_ble_eq_true rfl⟩) (fun r9 e9 => ?_)
    rw [e9]
    exact W.iret (v := r2) hx hb hr (fun t ht hW => ⟨_, rfl, Option.some.inj hf, ht⟩) (fun _ h => nomatch h) dX11_cost_51
  have J28 : ∀ (y28_5 : Int32), ∀ (ls : Array Slot), lv_has ls 6 [(0, .ref (a0 0)), (3, .int x3), (4, .int x4), (5, .int y28_5)] → fX11_cost_J28 N I0 M0 x1 x2 x3 x4 y28_5 = some (.inr R) → W p l e (headSpec wyX11_cost { frames := 8, cells := 0, slots := 0, locals := 161 }).room s m [.ref (a0 0), .int x1, .int x2, .int x3, .int x4].toArray below meth c s.heap [] 0 0 (MQ below (vp_Si (fun r => r = R)) [.ref (a0 0), .int x1, .int x2, .int x3, .int x4].toArray s 0 0 (fun _ => False)) (F0 m 28 ls []) := by
    intro y28_5 ls hl hf
    unfold fX11_cost_J28 at hf
    refine lv_iconst (v := (0 : Int32)) hx hb dX11_cost_28 (by decide) ?_
    exact J29 y28_5 (0 : Int32) ls (lv_sub hl [0, 1, 2, 3] rfl) hf
  refine lv_iload_n hx hb dX11_cost_0 rfl (lv_at hl 1 rfl) ?_
  refine lv_iload_n hx hb dX11_cost_1 rfl (lv_at hl 2 rfl) ?_
  obtain ⟨r3, hr3, hf⟩ := wb_xr hf
  refine vp_callSi (W.runS (As := [.int x1, .int x2]) (rest := []) ⟨hx, hb, hml, hown, hts⟩ (cn_X11_numberOf l D cB cI cZ N x1 x2 r3 hr3) (va_cwS 2 hts gyX11_cost_X11_numberOf rfl rfl rfl csX11_numberOf ⟨Nat.le_of_ble_eq_true rfl, Nat.le_of_ble_eq_true rfl⟩) (wb_preS (hP.sub (ws' := ([] : va_W)) [] rfl) hK) rfl rfl hl.1 rfl (lv_room (Nat.le_of_ble_eq_true rfl)) dX11_cost_2 ⟨Nat.le_of_ble_eq_true rfl, Nat.le_of_ble_eq_true rfl⟩) (fun r9 e9 => ?_)
  rw [e9]
  refine lv_istore (lv' := [(5, .int r3), (0, .ref (a0 0)), (1, .int x1), (2, .int x2), (3, .int x3), (4, .int x4)]) hx hb dX11_cost_5 hl (by decide) rfl (fun ls hl => ?_)
  refine lv_iload_n hx hb dX11_cost_7 rfl (lv_at hl 4 rfl) ?_
  refine lv_iconst (v := (0 : Int32)) hx hb dX11_cost_8 (by decide) ?_
  refine lv_iconst (v := (3 : Int32)) hx hb dX11_cost_9 (by decide) ?_
  obtain ⟨r4, hr4, hf⟩ := wb_b hf
  refine vp_callSi (W.runS (As := [.int x3, .int (0 : Int32), .int (3 : Int32)]) (rest := []) ⟨hx, hb, hml, hown, hts⟩ (cn_X11_within l D cB cI cZ N x3 (0 : Int32) (3 : Int32) r4 hr4) (va_cwS 3 hts gyX11_cost_X11_within rfl rfl rfl csX11_within ⟨Nat.le_of_ble_eq_true rfl, Nat.le_of_ble_eq_true rfl⟩) (wb_preS (hP.sub (ws' := ([] : va_W)) [] rfl) hK) rfl rfl hl.1 rfl (lv_room (Nat.le_of_ble_eq_true rfl)) dX11_cost_10 ⟨Nat.le_of_ble_eq_true rfl, Nat.le_of_ble_eq_true rfl⟩) (fun r9 e9 => ?_)
  rw [e9]
  refine lv_if_eq (tgt := 28) hx hb dX11_cost_13 (by decide) (fun hc => ?_) (fun hc => ?_)
  · replace hf := wb_t hc hf
    exact J28 r3 ls (lv_sub hl [1, 4, 5, 0] rfl) hf
  · replace hf := wb_f hc hf
    refine lv_iload hx hb dX11_cost_16 (lv_at hl 5 rfl) ?_
    obtain ⟨r5, hr5, hf⟩ := wb_b hf
    refine vp_callSi (W.runS (As := [.int x4]) (rest := []) ⟨hx, hb, hml, hown, hts⟩ (cn_X11_isDay l D cB cI cZ N x4 r5 hr5) (va_cwS 1 hts gyX11_cost_X11_isDay rfl rfl rfl csX11_isDay ⟨Nat.le_of_ble_eq_true rfl, Nat.le_of_ble_eq_true rfl⟩) (wb_preS (hP.sub (ws' := ([] : va_W)) [] rfl) hK) rfl rfl hl.1 rfl (lv_room (Nat.le_of_ble_eq_true rfl)) dX11_cost_18 ⟨Nat.le_of_ble_eq_true rfl, Nat.le_of_ble_eq_true rfl⟩) (fun r9 e9 => ?_)
    rw [e9]
    refine lv_if_eq (tgt := 28) hx hb dX11_cost_21 (by decide) (fun hc => ?_) (fun hc => ?_)
    · replace hf := wb_t hc hf
      exact J28 r3 ls (lv_sub hl [1, 4, 5, 0] rfl) hf
    · replace hf := wb_f hc hf
      refine lv_iconst (v := (1 : Int32)) hx hb dX11_cost_24 (by decide) ?_
      refine lv_goto (tgt := 29) hx hb dX11_cost_25 (by decide) ?_
      exact J29 r3 (1 : Int32) ls (lv_sub hl [1, 4, 5, 0] rfl) hf
set_option maxHeartbeats 4000000 in
set_option maxRecDepth 100000 in
theorem ct_X11_cost (l : Launch) (hlt : l.stackTraces = false) (D : va_G) (cB cI cZ : ClassId) (N : Nat) (a0 : Nat → Nat) (I0 : Nat → Int32) (M0 : Nat → Nat → Int32) (x1 : Int32) (x2 : Int32) (x3 : Int32) (x4 : Int32) (sz k : Nat) (hf : fX11_cost N I0 M0 x1 x2 x3 x4 = some (.inl k)) : vx_Met l yX11_cost wyX11_cost ({ frames := 8, cells := 1, slots := 6, locals := 161 }) (va_Pc [.ref (a0 0), .int x1, .int x2, .int x3, .int x4] (wb_preX D [(cB, .byte), (cI, .int), (cZ, .boolean)] (wWX11 cB cI cZ a0 I0 M0) sz)) (va_Qi (fun _ (_ : Unit) => False) (fun _ _ => True) (fun q => sz ≤ q)) (vx_X (fun _ : Unit => True) (fun E _ _ => E = wb_ex k) (fun q => sz ≤ q)) 1 6 (fun q => sz ≤ q) := by
  refine vx_ofW (cc := cX11_cost) (maxL := 6) (ret := (some .int)) (by decide) rfl ?_
  intro p e s m args below meth c s₁ B hml htab hv
  obtain ⟨rfl, hsz, hP, hK, hX⟩ := hv
  subst hsz
  have hx := B.exec
  have hb := B.bytes
  have hr := B.returns
  have hts := atoms_spec (ws := wyX11_cost) B.pre
  have hown : s.vm.findClass RX11 = some m.cls := (findClass_of_methodNamed B.named :)
  have hlocks := B.notSynchronized
  have hS : va_S (fun q => s.heap.size ≤ q) s.heap s.heap [] := va_S.rf
  have hl := lv_entry ([.ref (a0 0), .int x1, .int x2, .int x3, .int x4]) (n := 6) (Nat.le_of_ble_eq_true rfl)
  rw [lg_entry_eq]
  generalize (lg_sl ([.ref (a0 0), .int x1, .int x2, .int x3, .int x4]) ++ List.replicate (6 - (lg_sl ([.ref (a0 0), .int x1, .int x2, .int x3, .int x4])).length) Slot.unset).toArray = ls at hl ⊢
  have hl : lv_has ls 6 [(0, .ref (a0 0)), (1, .int x1), (2, .int x2), (3, .int x3), (4, .int x4)] := hl
  unfold fX11_cost at hf
  have J29 : ∀ (y29_5 : Int32) (z29_0 : Int32), ∀ (ls : Array Slot), lv_has ls 6 [(0, .ref (a0 0)), (3, .int x3), (4, .int x4), (5, .int y29_5)] → fX11_cost_J29 N I0 M0 x1 x2 x3 x4 y29_5 z29_0 = some (.inl k) → W p l e (headSpec wyX11_cost { frames := 8, cells := 1, slots := 6, locals := 161 }).room s m [.ref (a0 0), .int x1, .int x2, .int x3, .int x4].toArray below meth c s.heap [] 0 0 (vx_MQ below (va_Qi (fun _ (_ : Unit) => False) (fun _ _ => True) (fun q => s.heap.size ≤ q)) (vx_X (fun _ : Unit => True) (fun E _ _ => E = wb_ex k) (fun q => s.heap.size ≤ q)) [.ref (a0 0), .int x1, .int x2, .int x3, .int x4].toArray s 1 6 (fun q => s.heap.size ≤ q)) (F0 m 29 ls [.int z29_0]) := by
    intro y29_5 z29_0 ls hl hf
    unfold fX11_cost_J29 at hf
    rcases wb_xt hf with hrx | ⟨r1, hr1, hf⟩
    · refine vx_callv (vx_runS (As := [.int z29_0]) (rest := []) ⟨hx, hb, hml, hown, hts⟩ (ct_X11_need l hlt D cB cI cZ N z29_0 s.heap.size k hrx) (va_cwS 1 hts gyX11_cost_X11_need rfl rfl rfl csX11_need ⟨Nat.le_of_ble_eq_true rfl, Nat.le_of_ble_eq_true rfl⟩) (wb_preXS (hP.sub (ws' := ([] : va_W)) [] rfl) hK hX) rfl rfl hl.1 rfl (lv_room (Nat.le_of_ble_eq_true rfl)) dX11_cost_29 ⟨Nat.le_of_ble_eq_true rfl, Nat.le_of_ble_eq_true rfl⟩) hS (fun q _ h => h) (fun _ h => h) (fun q _ h => h) (fun E ce q9 u t H locs ht hvm hpx hB hz1 hk1 hS hq9 hv9 hc9 => ?_) (fun u t H locs ht hvm hw hB hz1 hk1 hS => hw.elim)
      exact vx_out (fun x hx9 => (htab x hx9).elim) hlocks hq9 hv9 hc9 (fun t9 ht9 hvm9 => ⟨(), trivial, hB, hS.F ht9⟩) hS.2.2 (Nat.le_of_ble_eq_true rfl) (Nat.le_of_ble_eq_true rfl)
    refine va_csv (W.runS (As := [.int z29_0]) (rest := []) ⟨hx, hb, hml, hown, hts⟩ (cn_X11_need l D cB cI cZ N z29_0 r1 hr1) (va_cwS 1 hts gyX11_cost_X11_need rfl rfl rfl csX11_need ⟨Nat.le_of_ble_eq_true rfl, Nat.le_of_ble_eq_true rfl⟩) (wb_preS (hP.sub (ws' := ([] : va_W)) [] rfl) hK) rfl rfl hl.1 rfl (lv_room (Nat.le_of_ble_eq_true rfl)) dX11_cost_29 ⟨Nat.le_of_ble_eq_true rfl, Nat.le_of_ble_eq_true rfl⟩) (fun _ => ?_)
    exact absurd hf wb_okn
  have J28 : ∀ (y28_5 : Int32), ∀ (ls : Array Slot), lv_has ls 6 [(0, .ref (a0 0)), (3, .int x3), (4, .int x4), (5, .int y28_5)] → fX11_cost_J28 N I0 M0 x1 x2 x3 x4 y28_5 = some (.inl k) → W p l e (headSpec wyX11_cost { frames := 8, cells := 1, slots := 6, locals := 161 }).room s m [.ref (a0 0), .int x1, .int x2, .int x3, .int x4].toArray below meth c s.heap [] 0 0 (vx_MQ below (va_Qi (fun _ (_ : Unit) => False) (fun _ _ => True) (fun q => s.heap.size ≤ q)) (vx_X (fun _ : Unit => True) (fun E _ _ => E = wb_ex k) (fun q => s.heap.size ≤ q)) [.ref (a0 0), .int x1, .int x2, .int x3, .int x4].toArray s 1 6 (fun q => s.heap.size ≤ q)) (F0 m 28 ls []) := by
    intro y28_5 ls hl hf
    unfold fX11_cost_J28 at hf
    refine lv_iconst (v := (0 : Int32)) hx hb dX11_cost_28 (by decide) ?_
    exact J29 y28_5 (0 : Int32) ls (lv_sub hl [0, 1, 2, 3] rfl) hf
  refine lv_iload_n hx hb dX11_cost_0 rfl (lv_at hl 1 rfl) ?_
  refine lv_iload_n hx hb dX11_cost_1 rfl (lv_at hl 2 rfl) ?_
  rcases wb_xt hf with hrx | ⟨r2, hr2, hf⟩
  · refine vx_calli (vx_runS (As := [.int x1, .int x2]) (rest := []) ⟨hx, hb, hml, hown, hts⟩ (ct_X11_numberOf l hlt D cB cI cZ N x1 x2 s.heap.size k hrx) (va_cwS 2 hts gyX11_cost_X11_numberOf rfl rfl rfl csX11_numberOf ⟨Nat.le_of_ble_eq_true rfl, Nat.le_of_ble_eq_true rfl⟩) (wb_preXS (hP.sub (ws' := ([] : va_W)) [] rfl) hK hX) rfl rfl hl.1 rfl (lv_room (Nat.le_of_ble_eq_true rfl)) dX11_cost_2 ⟨Nat.le_of_ble_eq_true rfl, Nat.le_of_ble_eq_true rfl⟩) hS (fun q _ h => h) (fun _ h => h) (fun q _ h => h) (fun E ce q9 u t H locs ht hvm hpx hB hz1 hk1 hS hq9 hv9 hc9 => ?_) (fun r9 u t H locs ht hvm hw hB hz1 hk1 hS => hw.elim)
    exact vx_out (fun x hx9 => (htab x hx9).elim) hlocks hq9 hv9 hc9 (fun t9 ht9 hvm9 => ⟨(), trivial, hB, hS.F ht9⟩) hS.2.2 (Nat.le_of_ble_eq_true rfl) (Nat.le_of_ble_eq_true rfl)
  refine vp_callSi (W.runS (As := [.int x1, .int x2]) (rest := []) ⟨hx, hb, hml, hown, hts⟩ (cn_X11_numberOf l D cB cI cZ N x1 x2 r2 hr2) (va_cwS 2 hts gyX11_cost_X11_numberOf rfl rfl rfl csX11_numberOf ⟨Nat.le_of_ble_eq_true rfl, Nat.le_of_ble_eq_true rfl⟩) (wb_preS (hP.sub (ws' := ([] : va_W)) [] rfl) hK) rfl rfl hl.1 rfl (lv_room (Nat.le_of_ble_eq_true rfl)) dX11_cost_2 ⟨Nat.le_of_ble_eq_true rfl, Nat.le_of_ble_eq_true rfl⟩) (fun r9 e9 => ?_)
  rw [e9]
  refine lv_istore (lv' := [(5, .int r2), (0, .ref (a0 0)), (1, .int x1), (2, .int x2), (3, .int x3), (4, .int x4)]) hx hb dX11_cost_5 hl (by decide) rfl (fun ls hl => ?_)
  refine lv_iload_n hx hb dX11_cost_7 rfl (lv_at hl 4 rfl) ?_
  refine lv_iconst (v := (0 : Int32)) hx hb dX11_cost_8 (by decide) ?_
  refine lv_iconst (v := (3 : Int32)) hx hb dX11_cost_9 (by decide) ?_
  obtain ⟨r3, hr3, hf⟩ := wb_b hf
  refine vp_callSi (W.runS (As := [.int x3, .int (0 : Int32), .int (3 : Int32)]) (rest := []) ⟨hx, hb, hml, hown, hts⟩ (cn_X11_within l D cB cI cZ N x3 (0 : Int32) (3 : Int32) r3 hr3) (va_cwS 3 hts gyX11_cost_X11_within rfl rfl rfl csX11_within ⟨Nat.le_of_ble_eq_true rfl, Nat.le_of_ble_eq_true rfl⟩) (wb_preS (hP.sub (ws' := ([] : va_W)) [] rfl) hK) rfl rfl hl.1 rfl (lv_room (Nat.le_of_ble_eq_true rfl)) dX11_cost_10 ⟨Nat.le_of_ble_eq_true rfl, Nat.le_of_ble_eq_true rfl⟩) (fun r9 e9 => ?_)
  rw [e9]
  refine lv_if_eq (tgt := 28) hx hb dX11_cost_13 (by decide) (fun hc => ?_) (fun hc => ?_)
  · replace hf := wb_t hc hf
    exact J28 r2 ls (lv_sub hl [1, 4, 5, 0] rfl) hf
  · replace hf := wb_f hc hf
    refine lv_iload hx hb dX11_cost_16 (lv_at hl 5 rfl) ?_
    obtain ⟨r4, hr4, hf⟩ := wb_b hf
    refine vp_callSi (W.runS (As := [.int x4]) (rest := []) ⟨hx, hb, hml, hown, hts⟩ (cn_X11_isDay l D cB cI cZ N x4 r4 hr4) (va_cwS 1 hts gyX11_cost_X11_isDay rfl rfl rfl csX11_isDay ⟨Nat.le_of_ble_eq_true rfl, Nat.le_of_ble_eq_true rfl⟩) (wb_preS (hP.sub (ws' := ([] : va_W)) [] rfl) hK) rfl rfl hl.1 rfl (lv_room (Nat.le_of_ble_eq_true rfl)) dX11_cost_18 ⟨Nat.le_of_ble_eq_true rfl, Nat.le_of_ble_eq_true rfl⟩) (fun r9 e9 => ?_)
    rw [e9]
    refine lv_if_eq (tgt := 28) hx hb dX11_cost_21 (by decide) (fun hc => ?_) (fun hc => ?_)
    · replace hf := wb_t hc hf
      exact J28 r2 ls (lv_sub hl [1, 4, 5, 0] rfl) hf
    · replace hf := wb_f hc hf
      refine lv_iconst (v := (1 : Int32)) hx hb dX11_cost_24 (by decide) ?_
      refine lv_goto (tgt := 29) hx hb dX11_cost_25 (by decide) ?_
      exact J29 r2 (1 : Int32) ls (lv_sub hl [1, 4, 5, 0] rfl) hf

set_option maxHeartbeats 4000000 in
set_option maxRecDepth 100000 in
theorem cn_X11_isSpan (l : Launch) (D : va_G) (cB cI cZ : ClassId) (N : Nat) (x0 : Int32) (x1 : Int32) (R : Int32) (hf : fX11_isSpan N x0 x1 = some R) : Met l yX11_isSpan wsX11_isSpan ({ frames := 1, cells := 0, slots := 0, locals := 22 }) (va_Pc [.int x0, .int x1] (wb_pre D [(cB, .byte), (cI, .int), (cZ, .boolean)] ([] : va_W))) (vp_Si (fun r => r = R)) 0 0 (fun _ => False) := by
  refine Met.ofW (cc := cX11_isSpan) (maxL := 2) (ret := (some .boolean)) pn_X11 rfl ?_
  intro p e s m args below meth c s₁ B hml hv
  obtain ⟨rfl, hP, hK⟩ := hv
  have hx := B.exec
  have hb := B.bytes
  have hr := B.returns
  have hts := atoms_spec (ws := wsX11_isSpan) B.pre
  have hown : s.vm.findClass RX11 = some m.cls := (findClass_of_methodNamed B.named :)
  have hlocks := B.notSynchronized
  have hl := lv_entry ([.int x0, .int x1]) (n := 2) (Nat.le_of_ble_eq_true rfl)
  rw [lg_entry_eq]
  generalize (lg_sl ([.int x0, .int x1]) ++ List.replicate (2 - (lg_sl ([.int x0, .int x1])).length) Slot.unset).toArray = ls at hl ⊢
  have hl : lv_has ls 2 [(0, .int x0), (1, .int x1)] := hl
  unfold fX11_isSpan at hf
  refine lv_iload_n hx hb dX11_isSpan_0 rfl (lv_at hl 1 rfl) ?_
  refine lv_iconst (v := (0 : Int32)) hx hb dX11_isSpan_1 (by decide) ?_
  refine lv_ldcw (v := (50000 : Int32)) hx hb hown (hts (.constant RX11 257 (50000)) (List.mem_of_getElem? (i := 1) rfl)) dX11_isSpan_2 ?_
  obtain ⟨r1, hr1, hf⟩ := wb_b hf
  refine vp_callSi (W.runS (As := [.int x1, .int (0 : Int32), .int (50000 : Int32)]) (rest := []) ⟨hx, hb, hml, hown, hts⟩ (cn_X11_within l D cB cI cZ N x1 (0 : Int32) (50000 : Int32) r1 hr1) (va_cwS 3 hts gX11_isSpan_X11_within rfl rfl rfl csX11_within ⟨Nat.le_of_ble_eq_true rfl, Nat.le_of_ble_eq_true rfl⟩) (wb_preS hP hK) rfl rfl hl.1 rfl (lv_room (Nat.le_of_ble_eq_true rfl)) dX11_isSpan_5 ⟨Nat.le_of_ble_eq_true rfl, Nat.le_of_ble_eq_true rfl⟩) (fun r9 e9 => ?_)
  rw [e9]
  refine lv_if_eq (tgt := 24) hx hb dX11_isSpan_8 (by decide) (fun hc => ?_) (fun hc => ?_)
  · replace hf := wb_t hc hf
    refine lv_iconst (v := (0 : Int32)) hx hb dX11_isSpan_24 (by decide) ?_
    exact W.zret (v := (0 : Int32)) hx hb hr (by decide) (fun t ht hW => ⟨_, rfl, Option.some.inj hf, ht⟩) (fun _ h => nomatch h) dX11_isSpan_25
  · replace hf := wb_f hc hf
    refine lv_iload_n hx hb dX11_isSpan_11 rfl (lv_at hl 1 rfl) ?_
    refine lv_ldcw (v := (1000000 : Int32)) hx hb hown (hts (.constant RX11 370 (1000000)) (List.mem_of_getElem? (i := 2) rfl)) dX11_isSpan_12 ?_
    refine lv_iload_n hx hb dX11_isSpan_15 rfl (lv_at hl 0 rfl) ?_
    refine lv_isub hx hb dX11_isSpan_16 ?_
    refine lv_icmp_gt (tgt := 24) hx hb dX11_isSpan_17 (by decide) (fun hc => ?_) (fun hc => ?_)
    · replace hf := wb_t hc hf
      refine lv_iconst (v := (0 : Int32)) hx hb dX11_isSpan_24 (by decide) ?_
      exact W.zret (v := (0 : Int32)) hx hb hr (by decide) (fun t ht hW => ⟨_, rfl, Option.some.inj hf, ht⟩) (fun _ h => nomatch h) dX11_isSpan_25
    · replace hf := wb_f hc hf
      refine lv_iconst (v := (1 : Int32)) hx hb dX11_isSpan_20 (by decide) ?_
      refine lv_goto (tgt := 25) hx hb dX11_isSpan_21 (by decide) ?_
      exact W.zret (v := (1 : Int32)) hx hb hr (by decide) (fun t ht hW => ⟨_, rfl, Option.some.inj hf, ht⟩) (fun _ h => nomatch h) dX11_isSpan_25

set_option maxHeartbeats 4000000 in
set_option maxRecDepth 100000 in
theorem cn_X11_best (l : Launch) (D : va_G) (cB cI cZ : ClassId) (N : Nat) (a0 : Nat → Nat) (I0 : Nat → Int32) (M0 : Nat → Nat → Int32) (x1 : Int32) (x2 : Int32) (x3 : Int32) (x4 : Int32) (x5 : Int32) (sz : Nat) (R : Int32 × (Nat → Int32) × (Nat → Nat → Int32)) (hf : fX11_best N I0 M0 x1 x2 x3 x4 x5 = some (.inr R)) : Met l yX11_best wyX11_best ({ frames := 8, cells := 0, slots := 0, locals := 168 }) (va_Pc [.ref (a0 0), .int x1, .int x2, .int x3, .int x4, .int x5] (wb_preD D [(cB, .byte), (cI, .int), (cZ, .boolean)] (wWX11 cB cI cZ a0 I0 M0) sz)) (va_Qi (fun r (_ : Unit) => r = R.1) (fun _ t => wb_post D [(cB, .byte), (cI, .int), (cZ, .boolean)] (va_A (wWX11 cB cI cZ a0 I0 M0) sz) (wWX11 cB cI cZ a0 R.2.1 R.2.2) t) (va_A (wWX11 cB cI cZ a0 I0 M0) sz)) 0 0 (va_A (wWX11 cB cI cZ a0 I0 M0) sz) := by
  refine Met.ofW (cc := cX11_best) (maxL := 7) (ret := (some .int)) pn_X11 rfl ?_
  intro p e s m args below meth c s₁ B hml hv
  obtain ⟨rfl, hsz, hP, hK, hD0⟩ := hv
  have hx := B.exec
  have hb := B.bytes
  have hr := B.returns
  have hts := atoms_spec (ws := wyX11_best) B.pre
  have hown : s.vm.findClass RX11 = some m.cls := (findClass_of_methodNamed B.named :)
  have hlocks := B.notSynchronized
  have hinX11 : ∀ w ∈ u_ws RX11 TX11 13, w ∈ wyX11_best := fun w h => List.mem_cons_of_mem _ (List.mem_append_left _ (List.mem_append_left _ (List.mem_append_left _ (List.mem_append_left _ (List.mem_append_left _ (List.mem_append_left _ (List.mem_append_right _ h)))))))
  have hinX8 : ∀ w ∈ u_ws RX8 TX8 8, w ∈ wyX11_best := fun w h => List.mem_cons_of_mem _ (List.mem_append_left _ (List.mem_append_left _ (List.mem_append_left _ (List.mem_append_left _ (List.mem_append_left _ (List.mem_append_right _ h))))))
  subst hsz
  have hD := hD0.self (sz := s.heap.size)
  generalize hAe : va_A (wWX11 cB cI cZ a0 I0 M0) s.heap.size = A at hD ⊢
  have hA : ∀ q : Nat, s.heap.size ≤ q → A q := fun q h => by rw [← hAe]; exact Or.inr h
  have hS : va_S A s.heap s.heap [] := va_S.rf
  have hl := lv_entry ([.ref (a0 0), .int x1, .int x2, .int x3, .int x4, .int x5]) (n := 7) (Nat.le_of_ble_eq_true rfl)
  rw [lg_entry_eq]
  generalize (lg_sl ([.ref (a0 0), .int x1, .int x2, .int x3, .int x4, .int x5]) ++ List.replicate (7 - (lg_sl ([.ref (a0 0), .int x1, .int x2, .int x3, .int x4, .int x5])).length) Slot.unset).toArray = ls at hl ⊢
  have hl : lv_has ls 7 [(0, .ref (a0 0)), (1, .int x1), (2, .int x2), (3, .int x3), (4, .int x4), (5, .int x5)] := hl
  unfold fX11_best at hf
  obtain ⟨H, hHe⟩ : ∃ H : Heap, H = s.heap := ⟨_, rfl⟩
  obtain ⟨locs, hle⟩ : ∃ locs : List Loc, locs = [] := ⟨_, rfl⟩
  refine wb_start (H := H) (locs := locs) hHe hle ?_
  rw [← hHe] at hP
  have hS : va_S A s.heap H locs := by rw [hHe, hle]; exact va_S.rf
  have J29 : ∀ (I0_j29 : Nat → Int32) (M0_j29 : Nat → Nat → Int32) (y29_6 : Int32) (z29_0 : Int32) (H : Heap) (locs : List Loc), va_P D vwCl (wWX11 cB cI cZ a0 I0_j29 M0_j29) H → va_D A (wWX11 cB cI cZ a0 I0_j29 M0_j29) → va_S A s.heap H locs → ∀ (ls : Array Slot), lv_has ls 7 [(0, .ref (a0 0)), (3, .int x3), (4, .int x4), (5, .int x5), (6, .int y29_6)] → fX11_best_J29 N x1 x2 x3 x4 x5 I0_j29 M0_j29 y29_6 z29_0 = some (.inr R) → W p l e (headSpec wyX11_best { frames := 8, cells := 0, slots := 0, locals := 168 }).room s m [.ref (a0 0), .int x1, .int x2, .int x3, .int x4, .int x5].toArray below meth c H locs 0 0 (MQ below (va_Qi (fun r (_ : Unit) => r = R.1) (fun _ t => wb_post D [(cB, .byte), (cI, .int), (cZ, .boolean)] A (wWX11 cB cI cZ a0 R.2.1 R.2.2) t) A) [.ref (a0 0), .int x1, .int x2, .int x3, .int x4, .int x5].toArray s 0 0 A) (F0 m 29 ls [.int z29_0]) := by
    intro I0_j29 M0_j29 y29_6 z29_0 H locs hP hD hS ls hl hf
    unfold fX11_best_J29 at hf
    obtain ⟨r1, hr1, hf⟩ := wb_xr hf
    refine va_csv (W.runS (As := [.int z29_0]) (rest := []) ⟨hx, hb, hml, hown, hts⟩ (cn_X11_need l D cB cI cZ N z29_0 r1 hr1) (va_cwS 1 hts gyX11_best_X11_need rfl rfl rfl csX11_need ⟨Nat.le_of_ble_eq_true rfl, Nat.le_of_ble_eq_true rfl⟩) (wb_preS (hP.sub (ws' := ([] : va_W)) [] rfl) hK) rfl rfl hl.1 rfl (lv_room (Nat.le_of_ble_eq_true rfl)) dX11_best_29 ⟨Nat.le_of_ble_eq_true rfl, Nat.le_of_ble_eq_true rfl⟩) (fun _ => ?_)
    refine lv_iload hx hb dX11_best_32 (lv_at hl 2 rfl) ?_
    refine lv_iload hx hb dX11_best_34 (lv_at hl 3 rfl) ?_
    obtain ⟨r2, hr2, hf⟩ := wb_b hf
    refine vp_callSi (W.runS (As := [.int x4, .int x5]) (rest := []) ⟨hx, hb, hml, hown, hts⟩ (cn_X11_isSpan l D cB cI cZ N x4 x5 r2 hr2) (va_cwS 2 hts gyX11_best_X11_isSpan rfl rfl rfl csX11_isSpan ⟨Nat.le_of_ble_eq_true rfl, Nat.le_of_ble_eq_true rfl⟩) (wb_preS (hP.sub (ws' := ([] : va_W)) [] rfl) hK) rfl rfl hl.1 rfl (lv_room (Nat.le_of_ble_eq_true rfl)) dX11_best_36 ⟨Nat.le_of_ble_eq_true rfl, Nat.le_of_ble_eq_true rfl⟩) (fun r9 e9 => ?_)
    rw [e9]
    obtain ⟨r3, hr3, hf⟩ := wb_xr hf
    refine va_csv (W.runS (As := [.int r2]) (rest := []) ⟨hx, hb, hml, hown, hts⟩ (cn_X11_allow l D cB cI cZ N r2 r3 hr3) (va_cwS 1 hts gyX11_best_X11_allow rfl rfl rfl csX11_allow ⟨Nat.le_of_ble_eq_true rfl, Nat.le_of_ble_eq_true rfl⟩) (wb_preS (hP.sub (ws' := ([] : va_W)) [] rfl) hK) rfl rfl hl.1 rfl (lv_room (Nat.le_of_ble_eq_true rfl)) dX11_best_39 ⟨Nat.le_of_ble_eq_true rfl, Nat.le_of_ble_eq_true rfl⟩) (fun _ => ?_)
    replace hf := wb_okr hf
    refine lv_aload_n hx hb dX11_best_42 rfl (lv_at hl 0 rfl) ?_
    refine va_get (D := D) (ci := 11) (v := .ref (a0 26)) (C := RX11) (T := TX11) (N := 13) hx hb hts hinX11 hown hK hP 0 rfl rfl 5 (by decide) (hts (.fieldLink RX11 43 "WheelBook" "latestBest" "LWheelBook$Search;") (List.mem_of_getElem? (i := 1) rfl)) (fun _ h9 => h9) rfl dX11_best_43 ?_
    refine lv_iload hx hb dX11_best_46 (lv_at hl 4 rfl) ?_
    refine lv_iload_n hx hb dX11_best_48 rfl (lv_at hl 1 rfl) ?_
    refine lv_iload hx hb dX11_best_49 (lv_at hl 2 rfl) ?_
    obtain ⟨r4, hr4, hf⟩ := wb_b hf
    have hPc := hP.sub (ws' := (wWX8 cB cI cZ (wb_sh a0 26) (wb_sh I0_j29 13) (wb_sh M0_j29 16))) [26, 27] rfl
    have hDc := hD.sub (ws' := (wWX8 cB cI cZ (wb_sh a0 26) (wb_sh I0_j29 13) (wb_sh M0_j29 16))) [26, 27] (by decide) rfl
    have hFc := va_free (wc := (wWX8 cB cI cZ (wb_sh a0 26) (wb_sh I0_j29 13) (wb_sh M0_j29 16))) hD hS hA [26, 27] rfl
    refine va_callv (va_runV (As := [.int y29_6, .int x3, .int x4]) (rest := []) ⟨hx, hb, hml, hown, hts⟩ (cn_X8_begin l D cB cI cZ N (wb_sh a0 26) (wb_sh I0_j29 13) (wb_sh M0_j29 16) y29_6 x3 x4 H.size r4 hr4) (cwV 3 hts gyX11_best_X8_begin rfl rfl rfl cdX8_begin ⟨Nat.le_of_ble_eq_true rfl, Nat.le_of_ble_eq_true rfl⟩) (wb_preDV hPc hK hDc (wr_8 hK hP (q0 := 26) rfl)) rfl rfl hl.1 rfl (lv_room (Nat.le_of_ble_eq_true rfl)) dX11_best_51 ⟨Nat.le_of_ble_eq_true rfl, Nat.le_of_ble_eq_true rfl⟩) hS (fun q _ h => hFc q h) hFc (fun u t H locs ht hvm hw hB hz1 hk1 hS => ?_)
    obtain ⟨hP, hD⟩ := wj_s (wc := (wWX8 cB cI cZ (wb_sh a0 26) (wb_sh I0_j29 13) (wb_sh M0_j29 16))) (w1 := (wWX8 cB cI cZ (wb_sh a0 26) r4.1 r4.2)) (wf := (wWX11 cB cI cZ a0 (wb_in I0_j29 13 7 r4.1) (wb_in M0_j29 16 1 r4.2))) 26 28 hP hD rfl rfl hk1 hFc ht hB
    obtain ⟨I0_5, eI0_5, hf⟩ := wb_v hf
    rw [← eI0_5] at hP hD
    obtain ⟨M0_6, eM0_6, hf⟩ := wb_v hf
    rw [← eM0_6] at hP hD
    refine lv_aload_n hx hb dX11_best_54 rfl (lv_at hl 0 rfl) ?_
    refine va_get (D := D) (ci := 11) (v := .ref (a0 26)) (C := RX11) (T := TX11) (N := 13) hx hb hts hinX11 hown hK hP 0 rfl rfl 5 (by decide) (hts (.fieldLink RX11 43 "WheelBook" "latestBest" "LWheelBook$Search;") (List.mem_of_getElem? (i := 1) rfl)) (fun _ h9 => h9) rfl dX11_best_55 ?_
    refine lv_aload_n hx hb dX11_best_58 rfl (lv_at hl 0 rfl) ?_
    refine va_get (D := D) (ci := 11) (v := .ref (a0 3)) (C := RX11) (T := TX11) (N := 13) hx hb hts hinX11 hown hK hP 0 rfl rfl 1 (by decide) (hts (.fieldLink RX11 19 "WheelBook" "told" "LWheelBook$House;") (List.mem_of_getElem? (i := 2) rfl)) (fun _ h9 => h9) rfl dX11_best_59 ?_
    refine lv_aload_n hx hb dX11_best_62 rfl (lv_at hl 0 rfl) ?_
    refine va_get (D := D) (ci := 11) (v := .ref (a0 21)) (C := RX11) (T := TX11) (N := 13) hx hb hts hinX11 hown hK hP 0 rfl rfl 3 (by decide) (hts (.fieldLink RX11 29 "WheelBook" "books" "LWheelBook$Books;") (List.mem_of_getElem? (i := 3) rfl)) (fun _ h9 => h9) rfl dX11_best_63 ?_
    refine lv_iload hx hb dX11_best_66 (lv_at hl 3 rfl) ?_
    refine lv_iconst (v := (1 : Int32)) hx hb dX11_best_68 (by decide) ?_
    refine lv_iadd hx hb dX11_best_69 ?_
    obtain ⟨r7, hr7, hf⟩ := wb_b hf
    have hPc := hP.sub (ws' := ((wWX8 cB cI cZ (wb_sh a0 26) (wb_sh I0_5 13) (wb_sh M0_6 16)) ++ ((wWX5 cB cI cZ (wb_sh a0 3) (wb_sh I0_5 9) (wb_sh M0_6 1)) ++ (wWX1 cB cI cZ (wb_sh a0 21) (wb_sh I0_5 13) (wb_sh M0_6 13))))) [26, 27, 3, 4, 5, 6, 7, 8, 9, 10, 11, 21, 22, 23] rfl
    have hDc := hD.sub (ws' := ((wWX8 cB cI cZ (wb_sh a0 26) (wb_sh I0_5 13) (wb_sh M0_6 16)) ++ ((wWX5 cB cI cZ (wb_sh a0 3) (wb_sh I0_5 9) (wb_sh M0_6 1)) ++ (wWX1 cB cI cZ (wb_sh a0 21) (wb_sh I0_5 13) (wb_sh M0_6 13))))) [26, 27, 3, 4, 5, 6, 7, 8, 9, 10, 11, 21, 22, 23] (by decide) rfl
    have hFc := va_free (wc := ((wWX8 cB cI cZ (wb_sh a0 26) (wb_sh I0_5 13) (wb_sh M0_6 16)) ++ ((wWX5 cB cI cZ (wb_sh a0 3) (wb_sh I0_5 9) (wb_sh M0_6 1)) ++ (wWX1 cB cI cZ (wb_sh a0 21) (wb_sh I0_5 13) (wb_sh M0_6 13))))) hD hS hA [26, 27, 3, 4, 5, 6, 7, 8, 9, 10, 11, 21, 22, 23] rfl
    refine va_calli (va_runV (As := [.ref (a0 3), .ref (a0 21), .int (x5 + (1 : Int32))]) (rest := []) ⟨hx, hb, hml, hown, hts⟩ (cn_X8_goOn l D cB cI cZ N (wb_sh a0 26) (wb_sh I0_5 13) (wb_sh M0_6 16) (wb_sh a0 3) (wb_sh I0_5 9) (wb_sh M0_6 1) (wb_sh a0 21) (wb_sh I0_5 13) (wb_sh M0_6 13) (x5 + (1 : Int32)) H.size r7 hr7) (cwV 3 hts gyX11_best_X8_goOn rfl rfl rfl cdX8_goOn ⟨Nat.le_of_ble_eq_true rfl, Nat.le_of_ble_eq_true rfl⟩) (wb_preDV hPc hK hDc (wr_8 hK hP (q0 := 26) rfl)) rfl rfl hl.1 rfl (lv_room (Nat.le_of_ble_eq_true rfl)) dX11_best_70 ⟨Nat.le_of_ble_eq_true rfl, Nat.le_of_ble_eq_true rfl⟩) hS (fun q _ h => hFc q h) hFc (fun r9 u t H locs ht hvm hw hB hz1 hk1 hS => ?_)
    obtain ⟨hP, hD⟩ := wj_bca (a := (wWX8 cB cI cZ (wb_sh a0 26) (wb_sh I0_5 13) (wb_sh M0_6 16))) (b := (wWX5 cB cI cZ (wb_sh a0 3) (wb_sh I0_5 9) (wb_sh M0_6 1))) (c := (wWX1 cB cI cZ (wb_sh a0 21) (wb_sh I0_5 13) (wb_sh M0_6 13))) (a' := (wWX8 cB cI cZ (wb_sh a0 26) r7.2.1 r7.2.2)) (b' := (wWX5 cB cI cZ (wb_sh a0 3) (wb_sh I0_5 9) (wb_sh M0_6 1))) (c' := (wWX1 cB cI cZ (wb_sh a0 21) (wb_sh I0_5 13) (wb_sh M0_6 13))) (wf := (wWX11 cB cI cZ a0 (wb_in I0_5 13 7 r7.2.1) (wb_in M0_6 16 1 r7.2.2))) 3 12 9 24 2 28 hP hD rfl rfl hk1 hFc ht hB
    rw [hw]
    obtain ⟨I0_8, eI0_8, hf⟩ := wb_v hf
    rw [← eI0_8] at hP hD
    obtain ⟨M0_9, eM0_9, hf⟩ := wb_v hf
    rw [← eM0_9] at hP hD
    refine lv_pop hx hb dX11_best_73 rfl ?_
    refine lv_aload_n hx hb dX11_best_74 rfl (lv_at hl 0 rfl) ?_
    refine va_get (D := D) (ci := 11) (v := .ref (a0 26)) (C := RX11) (T := TX11) (N := 13) hx hb hts hinX11 hown hK hP 0 rfl rfl 5 (by decide) (hts (.fieldLink RX11 43 "WheelBook" "latestBest" "LWheelBook$Search;") (List.mem_of_getElem? (i := 1) rfl)) (fun _ h9 => h9) rfl dX11_best_75 ?_
    refine va_get (D := D) (ci := 8) (v := .int (I0_8 17)) (C := RX8) (T := TX8) (N := 8) hx hb hts hinX8 hown hK hP 26 rfl rfl 4 (by decide) (hts (.fieldLink RX11 193 "WheelBook$Search" "least" "I") (List.mem_of_getElem? (i := 4) rfl)) (fun _ h9 => h9) rfl dX11_best_78 ?_
    exact W.iret (v := (I0_8 17)) hx hb hr (fun t ht hW => by rw [← Option.some.inj hf]; exact ⟨⟨(I0_8 17), (), rfl, rfl, by rw [ht]; exact hP, va_K.moved hW.alike hK, hD⟩, hS.F ht⟩) hS.2.2 dX11_best_81
  have J28 : ∀ (I0_j28 : Nat → Int32) (M0_j28 : Nat → Nat → Int32) (y28_6 : Int32) (H : Heap) (locs : List Loc), va_P D vwCl (wWX11 cB cI cZ a0 I0_j28 M0_j28) H → va_D A (wWX11 cB cI cZ a0 I0_j28 M0_j28) → va_S A s.heap H locs → ∀ (ls : Array Slot), lv_has ls 7 [(0, .ref (a0 0)), (3, .int x3), (4, .int x4), (5, .int x5), (6, .int y28_6)] → fX11_best_J28 N x1 x2 x3 x4 x5 I0_j28 M0_j28 y28_6 = some (.inr R) → W p l e (headSpec wyX11_best { frames := 8, cells := 0, slots := 0, locals := 168 }).room s m [.ref (a0 0), .int x1, .int x2, .int x3, .int x4, .int x5].toArray below meth c H locs 0 0 (MQ below (va_Qi (fun r (_ : Unit) => r = R.1) (fun _ t => wb_post D [(cB, .byte), (cI, .int), (cZ, .boolean)] A (wWX11 cB cI cZ a0 R.2.1 R.2.2) t) A) [.ref (a0 0), .int x1, .int x2, .int x3, .int x4, .int x5].toArray s 0 0 A) (F0 m 28 ls []) := by
    intro I0_j28 M0_j28 y28_6 H locs hP hD hS ls hl hf
    unfold fX11_best_J28 at hf
    refine lv_iconst (v := (0 : Int32)) hx hb dX11_best_28 (by decide) ?_
    exact J29 I0_j28 M0_j28 y28_6 (0 : Int32) H locs hP hD hS ls (lv_sub hl [0, 1, 2, 3, 4] rfl) hf
  refine lv_iload_n hx hb dX11_best_0 rfl (lv_at hl 1 rfl) ?_
  refine lv_iload_n hx hb dX11_best_1 rfl (lv_at hl 2 rfl) ?_
  obtain ⟨r10, hr10, hf⟩ := wb_xr hf
  refine vp_callSi (W.runS (As := [.int x1, .int x2]) (rest := []) ⟨hx, hb, hml, hown, hts⟩ (cn_X11_numberOf l D cB cI cZ N x1 x2 r10 hr10) (va_cwS 2 hts gyX11_best_X11_numberOf rfl rfl rfl csX11_numberOf ⟨Nat.le_of_ble_eq_true rfl, Nat.le_of_ble_eq_true rfl⟩) (wb_preS (hP.sub (ws' := ([] : va_W)) [] rfl) hK) rfl rfl hl.1 rfl (lv_room (Nat.le_of_ble_eq_true rfl)) dX11_best_2 ⟨Nat.le_of_ble_eq_true rfl, Nat.le_of_ble_eq_true rfl⟩) (fun r9 e9 => ?_)
  rw [e9]
  refine lv_istore (lv' := [(6, .int r10), (0, .ref (a0 0)), (1, .int x1), (2, .int x2), (3, .int x3), (4, .int x4), (5, .int x5)]) hx hb dX11_best_5 hl (by decide) rfl (fun ls hl => ?_)
  refine lv_iload_n hx hb dX11_best_7 rfl (lv_at hl 4 rfl) ?_
  refine lv_iconst (v := (0 : Int32)) hx hb dX11_best_8 (by decide) ?_
  refine lv_iconst (v := (3 : Int32)) hx hb dX11_best_9 (by decide) ?_
  obtain ⟨r11, hr11, hf⟩ := wb_b hf
  refine vp_callSi (W.runS (As := [.int x3, .int (0 : Int32), .int (3 : Int32)]) (rest := []) ⟨hx, hb, hml, hown, hts⟩ (cn_X11_within l D cB cI cZ N x3 (0 : Int32) (3 : Int32) r11 hr11) (va_cwS 3 hts gyX11_best_X11_within rfl rfl rfl csX11_within ⟨Nat.le_of_ble_eq_true rfl, Nat.le_of_ble_eq_true rfl⟩) (wb_preS (hP.sub (ws' := ([] : va_W)) [] rfl) hK) rfl rfl hl.1 rfl (lv_room (Nat.le_of_ble_eq_true rfl)) dX11_best_10 ⟨Nat.le_of_ble_eq_true rfl, Nat.le_of_ble_eq_true rfl⟩) (fun r9 e9 => ?_)
  rw [e9]
  refine lv_if_eq (tgt := 28) hx hb dX11_best_13 (by decide) (fun hc => ?_) (fun hc => ?_)
  · replace hf := wb_t hc hf
    exact J28 I0 M0 r10 H locs hP hD hS ls (lv_sub hl [1, 4, 5, 6, 0] rfl) hf
  · replace hf := wb_f hc hf
    refine lv_iload hx hb dX11_best_16 (lv_at hl 5 rfl) ?_
    obtain ⟨r12, hr12, hf⟩ := wb_b hf
    refine vp_callSi (W.runS (As := [.int x4]) (rest := []) ⟨hx, hb, hml, hown, hts⟩ (cn_X11_isDay l D cB cI cZ N x4 r12 hr12) (va_cwS 1 hts gyX11_best_X11_isDay rfl rfl rfl csX11_isDay ⟨Nat.le_of_ble_eq_true rfl, Nat.le_of_ble_eq_true rfl⟩) (wb_preS (hP.sub (ws' := ([] : va_W)) [] rfl) hK) rfl rfl hl.1 rfl (lv_room (Nat.le_of_ble_eq_true rfl)) dX11_best_18 ⟨Nat.le_of_ble_eq_true rfl, Nat.le_of_ble_eq_true rfl⟩) (fun r9 e9 => ?_)
    rw [e9]
    refine lv_if_eq (tgt := 28) hx hb dX11_best_21 (by decide) (fun hc => ?_) (fun hc => ?_)
    · replace hf := wb_t hc hf
      exact J28 I0 M0 r10 H locs hP hD hS ls (lv_sub hl [1, 4, 5, 6, 0] rfl) hf
    · replace hf := wb_f hc hf
      refine lv_iconst (v := (1 : Int32)) hx hb dX11_best_24 (by decide) ?_
      refine lv_goto (tgt := 29) hx hb dX11_best_25 (by decide) ?_
      exact J29 I0 M0 r10 (1 : Int32) H locs hP hD hS ls (lv_sub hl [1, 4, 5, 6, 0] rfl) hf
set_option maxHeartbeats 4000000 in
set_option maxRecDepth 100000 in
theorem ct_X11_best (l : Launch) (hlt : l.stackTraces = false) (D : va_G) (cB cI cZ : ClassId) (N : Nat) (a0 : Nat → Nat) (I0 : Nat → Int32) (M0 : Nat → Nat → Int32) (x1 : Int32) (x2 : Int32) (x3 : Int32) (x4 : Int32) (x5 : Int32) (sz k : Nat) (hf : fX11_best N I0 M0 x1 x2 x3 x4 x5 = some (.inl k)) : vx_Met l yX11_best wyX11_best ({ frames := 8, cells := 1, slots := 6, locals := 168 }) (va_Pc [.ref (a0 0), .int x1, .int x2, .int x3, .int x4, .int x5] (wb_preX D [(cB, .byte), (cI, .int), (cZ, .boolean)] (wWX11 cB cI cZ a0 I0 M0) sz)) (va_Qi (fun _ (_ : Unit) => False) (fun _ _ => True) (fun q => sz ≤ q)) (vx_X (fun _ : Unit => True) (fun E _ _ => E = wb_ex k) (fun q => sz ≤ q)) 1 6 (fun q => sz ≤ q) := by
  refine vx_ofW (cc := cX11_best) (maxL := 7) (ret := (some .int)) (by decide) rfl ?_
  intro p e s m args below meth c s₁ B hml htab hv
  obtain ⟨rfl, hsz, hP, hK, hX⟩ := hv
  subst hsz
  have hx := B.exec
  have hb := B.bytes
  have hr := B.returns
  have hts := atoms_spec (ws := wyX11_best) B.pre
  have hown : s.vm.findClass RX11 = some m.cls := (findClass_of_methodNamed B.named :)
  have hlocks := B.notSynchronized
  have hS : va_S (fun q => s.heap.size ≤ q) s.heap s.heap [] := va_S.rf
  have hl := lv_entry ([.ref (a0 0), .int x1, .int x2, .int x3, .int x4, .int x5]) (n := 7) (Nat.le_of_ble_eq_true rfl)
  rw [lg_entry_eq]
  generalize (lg_sl ([.ref (a0 0), .int x1, .int x2, .int x3, .int x4, .int x5]) ++ List.replicate (7 - (lg_sl ([.ref (a0 0), .int x1, .int x2, .int x3, .int x4, .int x5])).length) Slot.unset).toArray = ls at hl ⊢
  have hl : lv_has ls 7 [(0, .ref (a0 0)), (1, .int x1), (2, .int x2), (3, .int x3), (4, .int x4), (5, .int x5)] := hl
  unfold fX11_best at hf
  have J29 : ∀ (y29_6 : Int32) (z29_0 : Int32), ∀ (ls : Array Slot), lv_has ls 7 [(0, .ref (a0 0)), (3, .int x3), (4, .int x4), (5, .int x5), (6, .int y29_6)] → fX11_best_J29 N x1 x2 x3 x4 x5 I0 M0 y29_6 z29_0 = some (.inl k) → W p l e (headSpec wyX11_best { frames := 8, cells := 1, slots := 6, locals := 168 }).room s m [.ref (a0 0), .int x1, .int x2, .int x3, .int x4, .int x5].toArray below meth c s.heap [] 0 0 (vx_MQ below (va_Qi (fun _ (_ : Unit) => False) (fun _ _ => True) (fun q => s.heap.size ≤ q)) (vx_X (fun _ : Unit => True) (fun E _ _ => E = wb_ex k) (fun q => s.heap.size ≤ q)) [.ref (a0 0), .int x1, .int x2, .int x3, .int x4, .int x5].toArray s 1 6 (fun q => s.heap.size ≤ q)) (F0 m 29 ls [.int z29_0]) := by
    intro y29_6 z29_0 ls hl hf
    unfold fX11_best_J29 at hf
    rcases wb_xt hf with hrx | ⟨r1, hr1, hf⟩
    · refine vx_callv (vx_runS (As := [.int z29_0]) (rest := []) ⟨hx, hb, hml, hown, hts⟩ (ct_X11_need l hlt D cB cI cZ N z29_0 s.heap.size k hrx) (va_cwS 1 hts gyX11_best_X11_need rfl rfl rfl csX11_need ⟨Nat.le_of_ble_eq_true rfl, Nat.le_of_ble_eq_true rfl⟩) (wb_preXS (hP.sub (ws' := ([] : va_W)) [] rfl) hK hX) rfl rfl hl.1 rfl (lv_room (Nat.le_of_ble_eq_true rfl)) dX11_best_29 ⟨Nat.le_of_ble_eq_true rfl, Nat.le_of_ble_eq_true rfl⟩) hS (fun q _ h => h) (fun _ h => h) (fun q _ h => h) (fun E ce q9 u t H locs ht hvm hpx hB hz1 hk1 hS hq9 hv9 hc9 => ?_) (fun u t H locs ht hvm hw hB hz1 hk1 hS => hw.elim)
      exact vx_out (fun x hx9 => (htab x hx9).elim) hlocks hq9 hv9 hc9 (fun t9 ht9 hvm9 => ⟨(), trivial, hB, hS.F ht9⟩) hS.2.2 (Nat.le_of_ble_eq_true rfl) (Nat.le_of_ble_eq_true rfl)
    refine va_csv (W.runS (As := [.int z29_0]) (rest := []) ⟨hx, hb, hml, hown, hts⟩ (cn_X11_need l D cB cI cZ N z29_0 r1 hr1) (va_cwS 1 hts gyX11_best_X11_need rfl rfl rfl csX11_need ⟨Nat.le_of_ble_eq_true rfl, Nat.le_of_ble_eq_true rfl⟩) (wb_preS (hP.sub (ws' := ([] : va_W)) [] rfl) hK) rfl rfl hl.1 rfl (lv_room (Nat.le_of_ble_eq_true rfl)) dX11_best_29 ⟨Nat.le_of_ble_eq_true rfl, Nat.le_of_ble_eq_true rfl⟩) (fun _ => ?_)
    refine lv_iload hx hb dX11_best_32 (lv_at hl 2 rfl) ?_
    refine lv_iload hx hb dX11_best_34 (lv_at hl 3 rfl) ?_
    obtain ⟨r2, hr2, hf⟩ := wb_b hf
    refine vp_callSi (W.runS (As := [.int x4, .int x5]) (rest := []) ⟨hx, hb, hml, hown, hts⟩ (cn_X11_isSpan l D cB cI cZ N x4 x5 r2 hr2) (va_cwS 2 hts gyX11_best_X11_isSpan rfl rfl rfl csX11_isSpan ⟨Nat.le_of_ble_eq_true rfl, Nat.le_of_ble_eq_true rfl⟩) (wb_preS (hP.sub (ws' := ([] : va_W)) [] rfl) hK) rfl rfl hl.1 rfl (lv_room (Nat.le_of_ble_eq_true rfl)) dX11_best_36 ⟨Nat.le_of_ble_eq_true rfl, Nat.le_of_ble_eq_true rfl⟩) (fun r9 e9 => ?_)
    rw [e9]
    rcases wb_xt hf with hrx | ⟨r3, hr3, hf⟩
    · refine vx_callv (vx_runS (As := [.int r2]) (rest := []) ⟨hx, hb, hml, hown, hts⟩ (ct_X11_allow l hlt D cB cI cZ N r2 s.heap.size k hrx) (va_cwS 1 hts gyX11_best_X11_allow rfl rfl rfl csX11_allow ⟨Nat.le_of_ble_eq_true rfl, Nat.le_of_ble_eq_true rfl⟩) (wb_preXS (hP.sub (ws' := ([] : va_W)) [] rfl) hK hX) rfl rfl hl.1 rfl (lv_room (Nat.le_of_ble_eq_true rfl)) dX11_best_39 ⟨Nat.le_of_ble_eq_true rfl, Nat.le_of_ble_eq_true rfl⟩) hS (fun q _ h => h) (fun _ h => h) (fun q _ h => h) (fun E ce q9 u t H locs ht hvm hpx hB hz1 hk1 hS hq9 hv9 hc9 => ?_) (fun u t H locs ht hvm hw hB hz1 hk1 hS => hw.elim)
      exact vx_out (fun x hx9 => (htab x hx9).elim) hlocks hq9 hv9 hc9 (fun t9 ht9 hvm9 => ⟨(), trivial, hB, hS.F ht9⟩) hS.2.2 (Nat.le_of_ble_eq_true rfl) (Nat.le_of_ble_eq_true rfl)
    refine va_csv (W.runS (As := [.int r2]) (rest := []) ⟨hx, hb, hml, hown, hts⟩ (cn_X11_allow l D cB cI cZ N r2 r3 hr3) (va_cwS 1 hts gyX11_best_X11_allow rfl rfl rfl csX11_allow ⟨Nat.le_of_ble_eq_true rfl, Nat.le_of_ble_eq_true rfl⟩) (wb_preS (hP.sub (ws' := ([] : va_W)) [] rfl) hK) rfl rfl hl.1 rfl (lv_room (Nat.le_of_ble_eq_true rfl)) dX11_best_39 ⟨Nat.le_of_ble_eq_true rfl, Nat.le_of_ble_eq_true rfl⟩) (fun _ => ?_)
    exact absurd hf wb_okn
  have J28 : ∀ (y28_6 : Int32), ∀ (ls : Array Slot), lv_has ls 7 [(0, .ref (a0 0)), (3, .int x3), (4, .int x4), (5, .int x5), (6, .int y28_6)] → fX11_best_J28 N x1 x2 x3 x4 x5 I0 M0 y28_6 = some (.inl k) → W p l e (headSpec wyX11_best { frames := 8, cells := 1, slots := 6, locals := 168 }).room s m [.ref (a0 0), .int x1, .int x2, .int x3, .int x4, .int x5].toArray below meth c s.heap [] 0 0 (vx_MQ below (va_Qi (fun _ (_ : Unit) => False) (fun _ _ => True) (fun q => s.heap.size ≤ q)) (vx_X (fun _ : Unit => True) (fun E _ _ => E = wb_ex k) (fun q => s.heap.size ≤ q)) [.ref (a0 0), .int x1, .int x2, .int x3, .int x4, .int x5].toArray s 1 6 (fun q => s.heap.size ≤ q)) (F0 m 28 ls []) := by
    intro y28_6 ls hl hf
    unfold fX11_best_J28 at hf
    refine lv_iconst (v := (0 : Int32)) hx hb dX11_best_28 (by decide) ?_
    exact J29 y28_6 (0 : Int32) ls (lv_sub hl [0, 1, 2, 3, 4] rfl) hf
  refine lv_iload_n hx hb dX11_best_0 rfl (lv_at hl 1 rfl) ?_
  refine lv_iload_n hx hb dX11_best_1 rfl (lv_at hl 2 rfl) ?_
  rcases wb_xt hf with hrx | ⟨r4, hr4, hf⟩
  · refine vx_calli (vx_runS (As := [.int x1, .int x2]) (rest := []) ⟨hx, hb, hml, hown, hts⟩ (ct_X11_numberOf l hlt D cB cI cZ N x1 x2 s.heap.size k hrx) (va_cwS 2 hts gyX11_best_X11_numberOf rfl rfl rfl csX11_numberOf ⟨Nat.le_of_ble_eq_true rfl, Nat.le_of_ble_eq_true rfl⟩) (wb_preXS (hP.sub (ws' := ([] : va_W)) [] rfl) hK hX) rfl rfl hl.1 rfl (lv_room (Nat.le_of_ble_eq_true rfl)) dX11_best_2 ⟨Nat.le_of_ble_eq_true rfl, Nat.le_of_ble_eq_true rfl⟩) hS (fun q _ h => h) (fun _ h => h) (fun q _ h => h) (fun E ce q9 u t H locs ht hvm hpx hB hz1 hk1 hS hq9 hv9 hc9 => ?_) (fun r9 u t H locs ht hvm hw hB hz1 hk1 hS => hw.elim)
    exact vx_out (fun x hx9 => (htab x hx9).elim) hlocks hq9 hv9 hc9 (fun t9 ht9 hvm9 => ⟨(), trivial, hB, hS.F ht9⟩) hS.2.2 (Nat.le_of_ble_eq_true rfl) (Nat.le_of_ble_eq_true rfl)
  refine vp_callSi (W.runS (As := [.int x1, .int x2]) (rest := []) ⟨hx, hb, hml, hown, hts⟩ (cn_X11_numberOf l D cB cI cZ N x1 x2 r4 hr4) (va_cwS 2 hts gyX11_best_X11_numberOf rfl rfl rfl csX11_numberOf ⟨Nat.le_of_ble_eq_true rfl, Nat.le_of_ble_eq_true rfl⟩) (wb_preS (hP.sub (ws' := ([] : va_W)) [] rfl) hK) rfl rfl hl.1 rfl (lv_room (Nat.le_of_ble_eq_true rfl)) dX11_best_2 ⟨Nat.le_of_ble_eq_true rfl, Nat.le_of_ble_eq_true rfl⟩) (fun r9 e9 => ?_)
  rw [e9]
  refine lv_istore (lv' := [(6, .int r4), (0, .ref (a0 0)), (1, .int x1), (2, .int x2), (3, .int x3), (4, .int x4), (5, .int x5)]) hx hb dX11_best_5 hl (by decide) rfl (fun ls hl => ?_)
  refine lv_iload_n hx hb dX11_best_7 rfl (lv_at hl 4 rfl) ?_
  refine lv_iconst (v := (0 : Int32)) hx hb dX11_best_8 (by decide) ?_
  refine lv_iconst (v := (3 : Int32)) hx hb dX11_best_9 (by decide) ?_
  obtain ⟨r5, hr5, hf⟩ := wb_b hf
  refine vp_callSi (W.runS (As := [.int x3, .int (0 : Int32), .int (3 : Int32)]) (rest := []) ⟨hx, hb, hml, hown, hts⟩ (cn_X11_within l D cB cI cZ N x3 (0 : Int32) (3 : Int32) r5 hr5) (va_cwS 3 hts gyX11_best_X11_within rfl rfl rfl csX11_within ⟨Nat.le_of_ble_eq_true rfl, Nat.le_of_ble_eq_true rfl⟩) (wb_preS (hP.sub (ws' := ([] : va_W)) [] rfl) hK) rfl rfl hl.1 rfl (lv_room (Nat.le_of_ble_eq_true rfl)) dX11_best_10 ⟨Nat.le_of_ble_eq_true rfl, Nat.le_of_ble_eq_true rfl⟩) (fun r9 e9 => ?_)
  rw [e9]
  refine lv_if_eq (tgt := 28) hx hb dX11_best_13 (by decide) (fun hc => ?_) (fun hc => ?_)
  · replace hf := wb_t hc hf
    exact J28 r4 ls (lv_sub hl [1, 4, 5, 6, 0] rfl) hf
  · replace hf := wb_f hc hf
    refine lv_iload hx hb dX11_best_16 (lv_at hl 5 rfl) ?_
    obtain ⟨r6, hr6, hf⟩ := wb_b hf
    refine vp_callSi (W.runS (As := [.int x4]) (rest := []) ⟨hx, hb, hml, hown, hts⟩ (cn_X11_isDay l D cB cI cZ N x4 r6 hr6) (va_cwS 1 hts gyX11_best_X11_isDay rfl rfl rfl csX11_isDay ⟨Nat.le_of_ble_eq_true rfl, Nat.le_of_ble_eq_true rfl⟩) (wb_preS (hP.sub (ws' := ([] : va_W)) [] rfl) hK) rfl rfl hl.1 rfl (lv_room (Nat.le_of_ble_eq_true rfl)) dX11_best_18 ⟨Nat.le_of_ble_eq_true rfl, Nat.le_of_ble_eq_true rfl⟩) (fun r9 e9 => ?_)
    rw [e9]
    refine lv_if_eq (tgt := 28) hx hb dX11_best_21 (by decide) (fun hc => ?_) (fun hc => ?_)
    · replace hf := wb_t hc hf
      exact J28 r4 ls (lv_sub hl [1, 4, 5, 6, 0] rfl) hf
    · replace hf := wb_f hc hf
      refine lv_iconst (v := (1 : Int32)) hx hb dX11_best_24 (by decide) ?_
      refine lv_goto (tgt := 29) hx hb dX11_best_25 (by decide) ?_
      exact J29 r4 (1 : Int32) ls (lv_sub hl [1, 4, 5, 6, 0] rfl) hf

set_option maxHeartbeats 4000000 in
set_option maxRecDepth 100000 in
theorem cn_X11_day (l : Launch) (D : va_G) (cB cI cZ : ClassId) (N : Nat) (a0 : Nat → Nat) (I0 : Nat → Int32) (M0 : Nat → Nat → Int32) (x1 : Int32) (R : Int32) (hf : fX11_day N I0 M0 x1 = some (.inr R)) : Met l yX11_day wyX11_day ({ frames := 7, cells := 0, slots := 0, locals := 140 }) (va_Pc [.ref (a0 0), .int x1] (wb_pre D [(cB, .byte), (cI, .int), (cZ, .boolean)] (wWX11 cB cI cZ a0 I0 M0))) (vp_Si (fun r => r = R)) 0 0 (fun _ => False) := by
  refine Met.ofW (cc := cX11_day) (maxL := 2) (ret := (some .int)) pn_X11 rfl ?_
  intro p e s m args below meth c s₁ B hml hv
  obtain ⟨rfl, hP, hK⟩ := hv
  have hx := B.exec
  have hb := B.bytes
  have hr := B.returns
  have hts := atoms_spec (ws := wyX11_day) B.pre
  have hown : s.vm.findClass RX11 = some m.cls := (findClass_of_methodNamed B.named :)
  have hlocks := B.notSynchronized
  have hinX11 : ∀ w ∈ u_ws RX11 TX11 13, w ∈ wyX11_day := fun w h => List.mem_cons_of_mem _ (List.mem_append_left _ (List.mem_append_left _ (List.mem_append_right _ h)))
  have hinX8 : ∀ w ∈ u_ws RX8 TX8 8, w ∈ wyX11_day := fun w h => List.mem_cons_of_mem _ (List.mem_append_left _ (List.mem_append_right _ h))
  have hl := lv_entry ([.ref (a0 0), .int x1]) (n := 2) (Nat.le_of_ble_eq_true rfl)
  rw [lg_entry_eq]
  generalize (lg_sl ([.ref (a0 0), .int x1]) ++ List.replicate (2 - (lg_sl ([.ref (a0 0), .int x1])).length) Slot.unset).toArray = ls at hl ⊢
  have hl : lv_has ls 2 [(0, .ref (a0 0)), (1, .int x1)] := hl
  unfold fX11_day at hf
  refine lv_aload_n hx hb dX11_day_0 rfl (lv_at hl 0 rfl) ?_
  refine va_get (D := D) (ci := 11) (v := .ref (a0 26)) (C := RX11) (T := TX11) (N := 13) hx hb hts hinX11 hown hK hP 0 rfl rfl 5 (by decide) (hts (.fieldLink RX11 43 "WheelBook" "latestBest" "LWheelBook$Search;") (List.mem_of_getElem? (i := 1) rfl)) (fun _ h9 => h9) rfl dX11_day_1 ?_
  refine va_get (D := D) (ci := 8) (v := .int (I0 13)) (C := RX8) (T := TX8) (N := 8) hx hb hts hinX8 hown hK hP 26 rfl rfl 0 (by decide) (hts (.fieldLink RX11 196 "WheelBook$Search" "begun" "Z") (List.mem_of_getElem? (i := 2) rfl)) (fun _ h9 => h9) rfl dX11_day_4 ?_
  obtain ⟨r1, hr1, hf⟩ := wb_xr hf
  refine va_csv (W.runS (As := [.int (I0 13)]) (rest := []) ⟨hx, hb, hml, hown, hts⟩ (cn_X11_need l D cB cI cZ N (I0 13) r1 hr1) (va_cwS 1 hts gyX11_day_X11_need rfl rfl rfl csX11_need ⟨Nat.le_of_ble_eq_true rfl, Nat.le_of_ble_eq_true rfl⟩) (wb_preS (hP.sub (ws' := ([] : va_W)) [] rfl) hK) rfl rfl hl.1 rfl (lv_room (Nat.le_of_ble_eq_true rfl)) dX11_day_7 ⟨Nat.le_of_ble_eq_true rfl, Nat.le_of_ble_eq_true rfl⟩) (fun _ => ?_)
  refine lv_iload_n hx hb dX11_day_10 rfl (lv_at hl 1 rfl) ?_
  refine lv_iconst (v := (-1 : Int32)) hx hb dX11_day_11 (by decide) ?_
  refine lv_icmp_ne (tgt := 23) hx hb dX11_day_12 (by decide) (fun hc => ?_) (fun hc => ?_)
  · replace hf := wb_f hc hf
    refine lv_iload_n hx hb dX11_day_23 rfl (lv_at hl 1 rfl) ?_
    refine lv_iconst (v := (0 : Int32)) hx hb dX11_day_24 (by decide) ?_
    refine lv_aload_n hx hb dX11_day_25 rfl (lv_at hl 0 rfl) ?_
    refine va_get (D := D) (ci := 11) (v := .ref (a0 26)) (C := RX11) (T := TX11) (N := 13) hx hb hts hinX11 hown hK hP 0 rfl rfl 5 (by decide) (hts (.fieldLink RX11 43 "WheelBook" "latestBest" "LWheelBook$Search;") (List.mem_of_getElem? (i := 1) rfl)) (fun _ h9 => h9) rfl dX11_day_26 ?_
    obtain ⟨r2, hr2, hf⟩ := wb_b hf
    refine vp_callSi (W.runV (As := []) (rest := [.int (0 : Int32), .int x1]) ⟨hx, hb, hml, hown, hts⟩ (cn_X8_howManyKept l D cB cI cZ N (wb_sh a0 26) (wb_sh I0 13) (wb_sh M0 16) r2 hr2) (cwV 0 hts gyX11_day_X8_howManyKept rfl rfl rfl cdX8_howManyKept ⟨Nat.le_of_ble_eq_true rfl, Nat.le_of_ble_eq_true rfl⟩) (wb_preV (hP.sub (ws' := (wWX8 cB cI cZ (wb_sh a0 26) (wb_sh I0 13) (wb_sh M0 16))) [26, 27] rfl) hK (wr_8 hK hP (q0 := 26) rfl)) rfl rfl hl.1 rfl (lv_room (Nat.le_of_ble_eq_true rfl)) dX11_day_29 ⟨Nat.le_of_ble_eq_true rfl, Nat.le_of_ble_eq_true rfl⟩) (fun r9 e9 => ?_)
    rw [e9]
    refine lv_iconst (v := (1 : Int32)) hx hb dX11_day_32 (by decide) ?_
    refine lv_isub hx hb dX11_day_33 ?_
    obtain ⟨r3, hr3, hf⟩ := wb_b hf
    refine vp_callSi (W.runS (As := [.int x1, .int (0 : Int32), .int (r2 - (1 : Int32))]) (rest := []) ⟨hx, hb, hml, hown, hts⟩ (cn_X11_within l D cB cI cZ N x1 (0 : Int32) (r2 - (1 : Int32)) r3 hr3) (va_cwS 3 hts gyX11_day_X11_within rfl rfl rfl csX11_within ⟨Nat.le_of_ble_eq_true rfl, Nat.le_of_ble_eq_true rfl⟩) (wb_preS (hP.sub (ws' := ([] : va_W)) [] rfl) hK) rfl rfl hl.1 rfl (lv_room (Nat.le_of_ble_eq_true rfl)) dX11_day_34 ⟨Nat.le_of_ble_eq_true rfl, Nat.le_of_ble_eq_true rfl⟩) (fun r9 e9 => ?_)
    rw [e9]
    obtain ⟨r4, hr4, hf⟩ := wb_xr hf
    refine va_csv (W.runS (As := [.int r3]) (rest := []) ⟨hx, hb, hml, hown, hts⟩ (cn_X11_need l D cB cI cZ N r3 r4 hr4) (va_cwS 1 hts gyX11_day_X11_need rfl rfl rfl csX11_need ⟨Nat.le_of_ble_eq_true rfl, Nat.le_of_ble_eq_true rfl⟩) (wb_preS (hP.sub (ws' := ([] : va_W)) [] rfl) hK) rfl rfl hl.1 rfl (lv_room (Nat.le_of_ble_eq_true rfl)) dX11_day_37 ⟨Nat.le_of_ble_eq_true rfl, Nat.le_of_ble_eq_true rfl⟩) (fun _ => ?_)
    replace hf := wb_okr hf
    refine lv_aload_n hx hb dX11_day_40 rfl (lv_at hl 0 rfl) ?_
    refine va_get (D := D) (ci := 11) (v := .ref (a0 26)) (C := RX11) (T := TX11) (N := 13) hx hb hts hinX11 hown hK hP 0 rfl rfl 5 (by decide) (hts (.fieldLink RX11 43 "WheelBook" "latestBest" "LWheelBook$Search;") (List.mem_of_getElem? (i := 1) rfl)) (fun _ h9 => h9) rfl dX11_day_41 ?_
    refine lv_iload_n hx hb dX11_day_44 rfl (lv_at hl 1 rfl) ?_
    obtain ⟨r5, hr5, hf⟩ := wb_b hf
    refine vp_callSi (W.runV (As := [.int x1]) (rest := []) ⟨hx, hb, hml, hown, hts⟩ (cn_X8_keptDay l D cB cI cZ N (wb_sh a0 26) (wb_sh I0 13) (wb_sh M0 16) x1 r5 hr5) (cwV 1 hts gyX11_day_X8_keptDay rfl rfl rfl cdX8_keptDay ⟨Nat.le_of_ble_eq_true rfl, Nat.le_of_ble_eq_true rfl⟩) (wb_preV (hP.sub (ws' := (wWX8 cB cI cZ (wb_sh a0 26) (wb_sh I0 13) (wb_sh M0 16))) [26, 27] rfl) hK (wr_8 hK hP (q0 := 26) rfl)) rfl rfl hl.1 rfl (lv_room (Nat.le_of_ble_eq_true rfl)) dX11_day_45 ⟨Nat.le_of_ble_eq_true rfl, Nat.le_of_ble_eq_true rfl⟩) (fun r9 e9 => ?_)
    rw [e9]
    exact W.iret (v := r5) hx hb hr (fun t ht hW => ⟨_, rfl, Option.some.inj hf, ht⟩) (fun _ h => nomatch h) dX11_day_48
  · replace hf := wb_t hc hf
    replace hf := wb_okr hf
    refine lv_aload_n hx hb dX11_day_15 rfl (lv_at hl 0 rfl) ?_
    refine va_get (D := D) (ci := 11) (v := .ref (a0 26)) (C := RX11) (T := TX11) (N := 13) hx hb hts hinX11 hown hK hP 0 rfl rfl 5 (by decide) (hts (.fieldLink RX11 43 "WheelBook" "latestBest" "LWheelBook$Search;") (List.mem_of_getElem? (i := 1) rfl)) (fun _ h9 => h9) rfl dX11_day_16 ?_
    refine va_get (D := D) (ci := 8) (v := .int (I0 18)) (C := RX8) (T := TX8) (N := 8) hx hb hts hinX8 hown hK hP 26 rfl rfl 5 (by decide) (hts (.fieldLink RX11 200 "WheelBook$Search" "many" "I") (List.mem_of_getElem? (i := 3) rfl)) (fun _ h9 => h9) rfl dX11_day_19 ?_
    exact W.iret (v := (I0 18)) hx hb hr (fun t ht hW => ⟨_, rfl, Option.some.inj hf, ht⟩) (fun _ h => nomatch h) dX11_day_22
set_option maxHeartbeats 4000000 in
set_option maxRecDepth 100000 in
theorem ct_X11_day (l : Launch) (hlt : l.stackTraces = false) (D : va_G) (cB cI cZ : ClassId) (N : Nat) (a0 : Nat → Nat) (I0 : Nat → Int32) (M0 : Nat → Nat → Int32) (x1 : Int32) (sz k : Nat) (hf : fX11_day N I0 M0 x1 = some (.inl k)) : vx_Met l yX11_day wyX11_day ({ frames := 7, cells := 1, slots := 6, locals := 140 }) (va_Pc [.ref (a0 0), .int x1] (wb_preX D [(cB, .byte), (cI, .int), (cZ, .boolean)] (wWX11 cB cI cZ a0 I0 M0) sz)) (va_Qi (fun _ (_ : Unit) => False) (fun _ _ => True) (fun q => sz ≤ q)) (vx_X (fun _ : Unit => True) (fun E _ _ => E = wb_ex k) (fun q => sz ≤ q)) 1 6 (fun q => sz ≤ q) := by
  refine vx_ofW (cc := cX11_day) (maxL := 2) (ret := (some .int)) (by decide) rfl ?_
  intro p e s m args below meth c s₁ B hml htab hv
  obtain ⟨rfl, hsz, hP, hK, hX⟩ := hv
  subst hsz
  have hx := B.exec
  have hb := B.bytes
  have hr := B.returns
  have hts := atoms_spec (ws := wyX11_day) B.pre
  have hown : s.vm.findClass RX11 = some m.cls := (findClass_of_methodNamed B.named :)
  have hlocks := B.notSynchronized
  have hS : va_S (fun q => s.heap.size ≤ q) s.heap s.heap [] := va_S.rf
  have hinX11 : ∀ w ∈ u_ws RX11 TX11 13, w ∈ wyX11_day := fun w h => List.mem_cons_of_mem _ (List.mem_append_left _ (List.mem_append_left _ (List.mem_append_right _ h)))
  have hinX8 : ∀ w ∈ u_ws RX8 TX8 8, w ∈ wyX11_day := fun w h => List.mem_cons_of_mem _ (List.mem_append_left _ (List.mem_append_right _ h))
  have hl := lv_entry ([.ref (a0 0), .int x1]) (n := 2) (Nat.le_of_ble_eq_true rfl)
  rw [lg_entry_eq]
  generalize (lg_sl ([.ref (a0 0), .int x1]) ++ List.replicate (2 - (lg_sl ([.ref (a0 0), .int x1])).length) Slot.unset).toArray = ls at hl ⊢
  have hl : lv_has ls 2 [(0, .ref (a0 0)), (1, .int x1)] := hl
  unfold fX11_day at hf
  refine lv_aload_n hx hb dX11_day_0 rfl (lv_at hl 0 rfl) ?_
  refine va_get (D := D) (ci := 11) (v := .ref (a0 26)) (C := RX11) (T := TX11) (N := 13) hx hb hts hinX11 hown hK hP 0 rfl rfl 5 (by decide) (hts (.fieldLink RX11 43 "WheelBook" "latestBest" "LWheelBook$Search;") (List.mem_of_getElem? (i := 1) rfl)) (fun _ h9 => h9) rfl dX11_day_1 ?_
  refine va_get (D := D) (ci := 8) (v := .int (I0 13)) (C := RX8) (T := TX8) (N := 8) hx hb hts hinX8 hown hK hP 26 rfl rfl 0 (by decide) (hts (.fieldLink RX11 196 "WheelBook$Search" "begun" "Z") (List.mem_of_getElem? (i := 2) rfl)) (fun _ h9 => h9) rfl dX11_day_4 ?_
  rcases wb_xt hf with hrx | ⟨r1, hr1, hf⟩
  · refine vx_callv (vx_runS (As := [.int (I0 13)]) (rest := []) ⟨hx, hb, hml, hown, hts⟩ (ct_X11_need l hlt D cB cI cZ N (I0 13) s.heap.size k hrx) (va_cwS 1 hts gyX11_day_X11_need rfl rfl rfl csX11_need ⟨Nat.le_of_ble_eq_true rfl, Nat.le_of_ble_eq_true rfl⟩) (wb_preXS (hP.sub (ws' := ([] : va_W)) [] rfl) hK hX) rfl rfl hl.1 rfl (lv_room (Nat.le_of_ble_eq_true rfl)) dX11_day_7 ⟨Nat.le_of_ble_eq_true rfl, Nat.le_of_ble_eq_true rfl⟩) hS (fun q _ h => h) (fun _ h => h) (fun q _ h => h) (fun E ce q9 u t H locs ht hvm hpx hB hz1 hk1 hS hq9 hv9 hc9 => ?_) (fun u t H locs ht hvm hw hB hz1 hk1 hS => hw.elim)
    exact vx_out (fun x hx9 => (htab x hx9).elim) hlocks hq9 hv9 hc9 (fun t9 ht9 hvm9 => ⟨(), trivial, hB, hS.F ht9⟩) hS.2.2 (Nat.le_of_ble_eq_true rfl) (Nat.le_of_ble_eq_true rfl)
  refine va_csv (W.runS (As := [.int (I0 13)]) (rest := []) ⟨hx, hb, hml, hown, hts⟩ (cn_X11_need l D cB cI cZ N (I0 13) r1 hr1) (va_cwS 1 hts gyX11_day_X11_need rfl rfl rfl csX11_need ⟨Nat.le_of_ble_eq_true rfl, Nat.le_of_ble_eq_true rfl⟩) (wb_preS (hP.sub (ws' := ([] : va_W)) [] rfl) hK) rfl rfl hl.1 rfl (lv_room (Nat.le_of_ble_eq_true rfl)) dX11_day_7 ⟨Nat.le_of_ble_eq_true rfl, Nat.le_of_ble_eq_true rfl⟩) (fun _ => ?_)
  refine lv_iload_n hx hb dX11_day_10 rfl (lv_at hl 1 rfl) ?_
  refine lv_iconst (v := (-1 : Int32)) hx hb dX11_day_11 (by decide) ?_
  refine lv_icmp_ne (tgt := 23) hx hb dX11_day_12 (by decide) (fun hc => ?_) (fun hc => ?_)
  · replace hf := wb_f hc hf
    refine lv_iload_n hx hb dX11_day_23 rfl (lv_at hl 1 rfl) ?_
    refine lv_iconst (v := (0 : Int32)) hx hb dX11_day_24 (by decide) ?_
    refine lv_aload_n hx hb dX11_day_25 rfl (lv_at hl 0 rfl) ?_
    refine va_get (D := D) (ci := 11) (v := .ref (a0 26)) (C := RX11) (T := TX11) (N := 13) hx hb hts hinX11 hown hK hP 0 rfl rfl 5 (by decide) (hts (.fieldLink RX11 43 "WheelBook" "latestBest" "LWheelBook$Search;") (List.mem_of_getElem? (i := 1) rfl)) (fun _ h9 => h9) rfl dX11_day_26 ?_
    obtain ⟨r2, hr2, hf⟩ := wb_b hf
    refine vp_callSi (W.runV (As := []) (rest := [.int (0 : Int32), .int x1]) ⟨hx, hb, hml, hown, hts⟩ (cn_X8_howManyKept l D cB cI cZ N (wb_sh a0 26) (wb_sh I0 13) (wb_sh M0 16) r2 hr2) (cwV 0 hts gyX11_day_X8_howManyKept rfl rfl rfl cdX8_howManyKept ⟨Nat.le_of_ble_eq_true rfl, Nat.le_of_ble_eq_true rfl⟩) (wb_preV (hP.sub (ws' := (wWX8 cB cI cZ (wb_sh a0 26) (wb_sh I0 13) (wb_sh M0 16))) [26, 27] rfl) hK (wr_8 hK hP (q0 := 26) rfl)) rfl rfl hl.1 rfl (lv_room (Nat.le_of_ble_eq_true rfl)) dX11_day_29 ⟨Nat.le_of_ble_eq_true rfl, Nat.le_of_ble_eq_true rfl⟩) (fun r9 e9 => ?_)
    rw [e9]
    refine lv_iconst (v := (1 : Int32)) hx hb dX11_day_32 (by decide) ?_
    refine lv_isub hx hb dX11_day_33 ?_
    obtain ⟨r3, hr3, hf⟩ := wb_b hf
    refine vp_callSi (W.runS (As := [.int x1, .int (0 : Int32), .int (r2 - (1 : Int32))]) (rest := []) ⟨hx, hb, hml, hown, hts⟩ (cn_X11_within l D cB cI cZ N x1 (0 : Int32) (r2 - (1 : Int32)) r3 hr3) (va_cwS 3 hts gyX11_day_X11_within rfl rfl rfl csX11_within ⟨Nat.le_of_ble_eq_true rfl, Nat.le_of_ble_eq_true rfl⟩) (wb_preS (hP.sub (ws' := ([] : va_W)) [] rfl) hK) rfl rfl hl.1 rfl (lv_room (Nat.le_of_ble_eq_true rfl)) dX11_day_34 ⟨Nat.le_of_ble_eq_true rfl, Nat.le_of_ble_eq_true rfl⟩) (fun r9 e9 => ?_)
    rw [e9]
    rcases wb_xt hf with hrx | ⟨r4, hr4, hf⟩
    · refine vx_callv (vx_runS (As := [.int r3]) (rest := []) ⟨hx, hb, hml, hown, hts⟩ (ct_X11_need l hlt D cB cI cZ N r3 s.heap.size k hrx) (va_cwS 1 hts gyX11_day_X11_need rfl rfl rfl csX11_need ⟨Nat.le_of_ble_eq_true rfl, Nat.le_of_ble_eq_true rfl⟩) (wb_preXS (hP.sub (ws' := ([] : va_W)) [] rfl) hK hX) rfl rfl hl.1 rfl (lv_room (Nat.le_of_ble_eq_true rfl)) dX11_day_37 ⟨Nat.le_of_ble_eq_true rfl, Nat.le_of_ble_eq_true rfl⟩) hS (fun q _ h => h) (fun _ h => h) (fun q _ h => h) (fun E ce q9 u t H locs ht hvm hpx hB hz1 hk1 hS hq9 hv9 hc9 => ?_) (fun u t H locs ht hvm hw hB hz1 hk1 hS => hw.elim)
      exact vx_out (fun x hx9 => (htab x hx9).elim) hlocks hq9 hv9 hc9 (fun t9 ht9 hvm9 => ⟨(), trivial, hB, hS.F ht9⟩) hS.2.2 (Nat.le_of_ble_eq_true rfl) (Nat.le_of_ble_eq_true rfl)
    refine va_csv (W.runS (As := [.int r3]) (rest := []) ⟨hx, hb, hml, hown, hts⟩ (cn_X11_need l D cB cI cZ N r3 r4 hr4) (va_cwS 1 hts gyX11_day_X11_need rfl rfl rfl csX11_need ⟨Nat.le_of_ble_eq_true rfl, Nat.le_of_ble_eq_true rfl⟩) (wb_preS (hP.sub (ws' := ([] : va_W)) [] rfl) hK) rfl rfl hl.1 rfl (lv_room (Nat.le_of_ble_eq_true rfl)) dX11_day_37 ⟨Nat.le_of_ble_eq_true rfl, Nat.le_of_ble_eq_true rfl⟩) (fun _ => ?_)
    exact absurd hf wb_okn
  · replace hf := wb_t hc hf
    exact absurd hf wb_okn

set_option maxHeartbeats 4000000 in
set_option maxRecDepth 100000 in
theorem cn_X11_whose (l : Launch) (D : va_G) (cB cI cZ : ClassId) (N : Nat) (a0 : Nat → Nat) (I0 : Nat → Int32) (M0 : Nat → Nat → Int32) (x1 : Int32) (x2 : Int32) (x3 : Int32) (x4 : Int32) (x5 : Int32) (sz : Nat) (R : Int32 × (Nat → Int32) × (Nat → Nat → Int32)) (hf : fX11_whose N I0 M0 x1 x2 x3 x4 x5 = some (.inr R)) : Met l yX11_whose wyX11_whose ({ frames := 8, cells := 0, slots := 0, locals := 168 }) (va_Pc [.ref (a0 0), .int x1, .int x2, .int x3, .int x4, .int x5] (wb_preD D [(cB, .byte), (cI, .int), (cZ, .boolean)] (wWX11 cB cI cZ a0 I0 M0) sz)) (va_Qi (fun r (_ : Unit) => r = R.1) (fun _ t => wb_post D [(cB, .byte), (cI, .int), (cZ, .boolean)] (va_A (wWX11 cB cI cZ a0 I0 M0) sz) (wWX11 cB cI cZ a0 R.2.1 R.2.2) t) (va_A (wWX11 cB cI cZ a0 I0 M0) sz)) 0 0 (va_A (wWX11 cB cI cZ a0 I0 M0) sz) := by
  refine Met.ofW (cc := cX11_whose) (maxL := 11) (ret := (some .int)) pn_X11 rfl ?_
  intro p e s m args below meth c s₁ B hml hv
  obtain ⟨rfl, hsz, hP, hK, hD0⟩ := hv
  have hx := B.exec
  have hb := B.bytes
  have hr := B.returns
  have hts := atoms_spec (ws := wyX11_whose) B.pre
  have hown : s.vm.findClass RX11 = some m.cls := (findClass_of_methodNamed B.named :)
  have hlocks := B.notSynchronized
  have hinX11 : ∀ w ∈ u_ws RX11 TX11 13, w ∈ wyX11_whose := fun w h => List.mem_cons_of_mem _ (List.mem_append_left _ (List.mem_append_left _ (List.mem_append_left _ (List.mem_append_left _ (List.mem_append_left _ (List.mem_append_left _ (List.mem_append_right _ h)))))))
  have hinX8 : ∀ w ∈ u_ws RX8 TX8 8, w ∈ wyX11_whose := fun w h => List.mem_cons_of_mem _ (List.mem_append_left _ (List.mem_append_left _ (List.mem_append_left _ (List.mem_append_left _ (List.mem_append_left _ (List.mem_append_right _ h))))))
  subst hsz
  have hD := hD0.self (sz := s.heap.size)
  generalize hAe : va_A (wWX11 cB cI cZ a0 I0 M0) s.heap.size = A at hD ⊢
  have hA : ∀ q : Nat, s.heap.size ≤ q → A q := fun q h => by rw [← hAe]; exact Or.inr h
  have hS : va_S A s.heap s.heap [] := va_S.rf
  have hl := lv_entry ([.ref (a0 0), .int x1, .int x2, .int x3, .int x4, .int x5]) (n := 11) (Nat.le_of_ble_eq_true rfl)
  rw [lg_entry_eq]
  generalize (lg_sl ([.ref (a0 0), .int x1, .int x2, .int x3, .int x4, .int x5]) ++ List.replicate (11 - (lg_sl ([.ref (a0 0), .int x1, .int x2, .int x3, .int x4, .int x5])).length) Slot.unset).toArray = ls at hl ⊢
  have hl : lv_has ls 11 [(0, .ref (a0 0)), (1, .int x1), (2, .int x2), (3, .int x3), (4, .int x4), (5, .int x5)] := hl
  unfold fX11_whose at hf
  obtain ⟨H, hHe⟩ : ∃ H : Heap, H = s.heap := ⟨_, rfl⟩
  obtain ⟨locs, hle⟩ : ∃ locs : List Loc, locs = [] := ⟨_, rfl⟩
  refine wb_start (H := H) (locs := locs) hHe hle ?_
  rw [← hHe] at hP
  have hS : va_S A s.heap H locs := by rw [hHe, hle]; exact va_S.rf
  have J29 : ∀ (I0_j29 : Nat → Int32) (M0_j29 : Nat → Nat → Int32) (y29_6 : Int32) (z29_0 : Int32) (H : Heap) (locs : List Loc), va_P D vwCl (wWX11 cB cI cZ a0 I0_j29 M0_j29) H → va_D A (wWX11 cB cI cZ a0 I0_j29 M0_j29) → va_S A s.heap H locs → ∀ (ls : Array Slot), lv_has ls 11 [(0, .ref (a0 0)), (3, .int x3), (4, .int x4), (5, .int x5), (6, .int y29_6)] → fX11_whose_J29 N x1 x2 x3 x4 x5 I0_j29 M0_j29 y29_6 z29_0 = some (.inr R) → W p l e (headSpec wyX11_whose { frames := 8, cells := 0, slots := 0, locals := 168 }).room s m [.ref (a0 0), .int x1, .int x2, .int x3, .int x4, .int x5].toArray below meth c H locs 0 0 (MQ below (va_Qi (fun r (_ : Unit) => r = R.1) (fun _ t => wb_post D [(cB, .byte), (cI, .int), (cZ, .boolean)] A (wWX11 cB cI cZ a0 R.2.1 R.2.2) t) A) [.ref (a0 0), .int x1, .int x2, .int x3, .int x4, .int x5].toArray s 0 0 A) (F0 m 29 ls [.int z29_0]) := by
    intro I0_j29 M0_j29 y29_6 z29_0 H locs hP hD hS ls hl hf
    unfold fX11_whose_J29 at hf
    obtain ⟨r1, hr1, hf⟩ := wb_xr hf
    refine va_csv (W.runS (As := [.int z29_0]) (rest := []) ⟨hx, hb, hml, hown, hts⟩ (cn_X11_need l D cB cI cZ N z29_0 r1 hr1) (va_cwS 1 hts gyX11_whose_X11_need rfl rfl rfl csX11_need ⟨Nat.le_of_ble_eq_true rfl, Nat.le_of_ble_eq_true rfl⟩) (wb_preS (hP.sub (ws' := ([] : va_W)) [] rfl) hK) rfl rfl hl.1 rfl (lv_room (Nat.le_of_ble_eq_true rfl)) dX11_whose_29 ⟨Nat.le_of_ble_eq_true rfl, Nat.le_of_ble_eq_true rfl⟩) (fun _ => ?_)
    refine lv_iload_n hx hb dX11_whose_32 rfl (lv_at hl 1 rfl) ?_
    refine lv_iload hx hb dX11_whose_33 (lv_at hl 2 rfl) ?_
    obtain ⟨r2, hr2, hf⟩ := wb_b hf
    refine vp_callSi (W.runS (As := [.int x3, .int x4]) (rest := []) ⟨hx, hb, hml, hown, hts⟩ (cn_X11_isSpan l D cB cI cZ N x3 x4 r2 hr2) (va_cwS 2 hts gyX11_whose_X11_isSpan rfl rfl rfl csX11_isSpan ⟨Nat.le_of_ble_eq_true rfl, Nat.le_of_ble_eq_true rfl⟩) (wb_preS (hP.sub (ws' := ([] : va_W)) [] rfl) hK) rfl rfl hl.1 rfl (lv_room (Nat.le_of_ble_eq_true rfl)) dX11_whose_35 ⟨Nat.le_of_ble_eq_true rfl, Nat.le_of_ble_eq_true rfl⟩) (fun r9 e9 => ?_)
    rw [e9]
    obtain ⟨r3, hr3, hf⟩ := wb_xr hf
    refine va_csv (W.runS (As := [.int r2]) (rest := []) ⟨hx, hb, hml, hown, hts⟩ (cn_X11_allow l D cB cI cZ N r2 r3 hr3) (va_cwS 1 hts gyX11_whose_X11_allow rfl rfl rfl csX11_allow ⟨Nat.le_of_ble_eq_true rfl, Nat.le_of_ble_eq_true rfl⟩) (wb_preS (hP.sub (ws' := ([] : va_W)) [] rfl) hK) rfl rfl hl.1 rfl (lv_room (Nat.le_of_ble_eq_true rfl)) dX11_whose_38 ⟨Nat.le_of_ble_eq_true rfl, Nat.le_of_ble_eq_true rfl⟩) (fun _ => ?_)
    replace hf := wb_okr hf
    refine lv_sipush (v := (1000 : Int32)) hx hb dX11_whose_41 (by decide) ?_
    refine lv_istore (lv' := [(7, .int (1000 : Int32)), (0, .ref (a0 0)), (3, .int x3), (4, .int x4), (5, .int x5), (6, .int y29_6)]) hx hb dX11_whose_44 hl (by decide) rfl (fun ls hl => ?_)
    refine lv_iconst (v := (0 : Int32)) hx hb dX11_whose_46 (by decide) ?_
    refine lv_istore (lv' := [(8, .int (0 : Int32)), (7, .int (1000 : Int32)), (0, .ref (a0 0)), (3, .int x3), (4, .int x4), (5, .int x5), (6, .int y29_6)]) hx hb dX11_whose_47 hl (by decide) rfl (fun ls hl => ?_)
    refine lv_iconst (v := (0 : Int32)) hx hb dX11_whose_49 (by decide) ?_
    refine lv_istore (lv' := [(9, .int (0 : Int32)), (8, .int (0 : Int32)), (7, .int (1000 : Int32)), (0, .ref (a0 0)), (3, .int x3), (4, .int x4), (5, .int x5), (6, .int y29_6)]) hx hb dX11_whose_50 hl (by decide) rfl (fun ls hl => ?_)
    refine lv_iconst (v := (0 : Int32)) hx hb dX11_whose_52 (by decide) ?_
    refine lv_istore (lv' := [(10, .int (0 : Int32)), (9, .int (0 : Int32)), (8, .int (0 : Int32)), (7, .int (1000 : Int32)), (0, .ref (a0 0)), (3, .int x3), (4, .int x4), (5, .int x5), (6, .int y29_6)]) hx hb dX11_whose_53 hl (by decide) rfl (fun ls hl => ?_)
    have L55 : ∀ (fu55 : Nat) (I0_l55 : Nat → Int32) (M0_l55 : Nat → Nat → Int32) (y55_7 : Int32) (y55_8 : Int32) (y55_9 : Int32) (y55_10 : Int32) (H : Heap) (locs : List Loc), va_P D vwCl (wWX11 cB cI cZ a0 I0_l55 M0_l55) H → va_D A (wWX11 cB cI cZ a0 I0_l55 M0_l55) → va_S A s.heap H locs → ∀ (ls : Array Slot), lv_has ls 11 [(0, .ref (a0 0)), (3, .int x3), (4, .int x4), (5, .int x5), (6, .int y29_6), (7, .int y55_7), (8, .int y55_8), (9, .int y55_9), (10, .int y55_10)] → fX11_whose_L55 N x1 x2 x3 x4 x5 y29_6 fu55 I0_l55 M0_l55 y55_7 y55_8 y55_9 y55_10 = some R → W p l e (headSpec wyX11_whose { frames := 8, cells := 0, slots := 0, locals := 168 }).room s m [.ref (a0 0), .int x1, .int x2, .int x3, .int x4, .int x5].toArray below meth c H locs 0 0 (MQ below (va_Qi (fun r (_ : Unit) => r = R.1) (fun _ t => wb_post D [(cB, .byte), (cI, .int), (cZ, .boolean)] A (wWX11 cB cI cZ a0 R.2.1 R.2.2) t) A) [.ref (a0 0), .int x1, .int x2, .int x3, .int x4, .int x5].toArray s 0 0 A) (F0 m 55 ls []) := by
      intro fu55
      induction fu55 with
      | zero =>
        intro I0_l55 M0_l55 y55_7 y55_8 y55_9 y55_10 H locs hP hD hS ls hl hf
        exact absurd hf (by rw [fX11_whose_L55.eq_1]; exact fun h => nomatch h)
      | succ fu55 ih55 =>
        have J121 : ∀ (I0_j121 : Nat → Int32) (M0_j121 : Nat → Nat → Int32) (y121_7 : Int32) (y121_8 : Int32) (y121_9 : Int32) (y121_10 : Int32) (H : Heap) (locs : List Loc), va_P D vwCl (wWX11 cB cI cZ a0 I0_j121 M0_j121) H → va_D A (wWX11 cB cI cZ a0 I0_j121 M0_j121) → va_S A s.heap H locs → ∀ (ls : Array Slot), lv_has ls 11 [(0, .ref (a0 0)), (3, .int x3), (4, .int x4), (5, .int x5), (6, .int y29_6), (7, .int y121_7), (8, .int y121_8), (9, .int y121_9), (10, .int y121_10)] → fX11_whose_J121 N x1 x2 x3 x4 x5 y29_6 (fX11_whose_L55 N x1 x2 x3 x4 x5 y29_6 fu55) I0_j121 M0_j121 y121_7 y121_8 y121_9 y121_10 = some R → W p l e (headSpec wyX11_whose { frames := 8, cells := 0, slots := 0, locals := 168 }).room s m [.ref (a0 0), .int x1, .int x2, .int x3, .int x4, .int x5].toArray below meth c H locs 0 0 (MQ below (va_Qi (fun r (_ : Unit) => r = R.1) (fun _ t => wb_post D [(cB, .byte), (cI, .int), (cZ, .boolean)] A (wWX11 cB cI cZ a0 R.2.1 R.2.2) t) A) [.ref (a0 0), .int x1, .int x2, .int x3, .int x4, .int x5].toArray s 0 0 A) (F0 m 121 ls []) := by
          intro I0_j121 M0_j121 y121_7 y121_8 y121_9 y121_10 H locs hP hD hS ls hl hf
          unfold fX11_whose_J121 at hf
          refine lv_aload_n hx hb dX11_whose_121 rfl (lv_at hl 0 rfl) ?_
          refine va_get (D := D) (ci := 11) (v := .ref (a0 28)) (C := RX11) (T := TX11) (N := 13) hx hb hts hinX11 hown hK hP 0 rfl rfl 6 (by decide) (hts (.fieldLink RX11 47 "WheelBook" "trial" "LWheelBook$Search;") (List.mem_of_getElem? (i := 1) rfl)) (fun _ h9 => h9) rfl dX11_whose_122 ?_
          refine va_get (D := D) (ci := 8) (v := .int (I0_j121 24)) (C := RX8) (T := TX8) (N := 8) hx hb hts hinX8 hown hK hP 28 rfl rfl 4 (by decide) (hts (.fieldLink RX11 193 "WheelBook$Search" "least" "I") (List.mem_of_getElem? (i := 4) rfl)) (fun _ h9 => h9) rfl dX11_whose_125 ?_
          refine lv_iload hx hb dX11_whose_128 (lv_at hl 5 rfl) ?_
          refine lv_icmp_ne (tgt := 136) hx hb dX11_whose_130 (by decide) (fun hc => ?_) (fun hc => ?_)
          · replace hf := wb_f hc hf
            obtain ⟨v4, ev4, hf⟩ := wb_v hf
            refine lv_iinc (v := v4) (lv' := [(10, .int v4), (0, .ref (a0 0)), (3, .int x3), (4, .int x4), (5, .int x5), (6, .int y29_6), (7, .int y121_7), (8, .int y121_8), (9, .int y121_9)]) hx hb dX11_whose_136 hl (k := 8) rfl (by rw [ev4]; rfl) (by decide) rfl (fun ls hl => ?_)
            refine lv_goto (tgt := 55) hx hb dX11_whose_139 (by decide) ?_
            exact ih55 I0_j121 M0_j121 y121_7 y121_8 y121_9 v4 H locs hP hD hS ls (lv_sub hl [1, 2, 3, 4, 5, 6, 7, 8, 0] rfl) hf
          · replace hf := wb_t hc hf
            obtain ⟨v5, ev5, hf⟩ := wb_v hf
            refine lv_iinc (v := v5) (lv' := [(9, .int v5), (0, .ref (a0 0)), (3, .int x3), (4, .int x4), (5, .int x5), (6, .int y29_6), (7, .int y121_7), (8, .int y121_8), (10, .int y121_10)]) hx hb dX11_whose_133 hl (k := 7) rfl (by rw [ev5]; rfl) (by decide) rfl (fun ls hl => ?_)
            obtain ⟨v6, ev6, hf⟩ := wb_v hf
            refine lv_iinc (v := v6) (lv' := [(10, .int v6), (9, .int v5), (0, .ref (a0 0)), (3, .int x3), (4, .int x4), (5, .int x5), (6, .int y29_6), (7, .int y121_7), (8, .int y121_8)]) hx hb dX11_whose_136 hl (k := 8) rfl (by rw [ev6]; rfl) (by decide) rfl (fun ls hl => ?_)
            refine lv_goto (tgt := 55) hx hb dX11_whose_139 (by decide) ?_
            exact ih55 I0_j121 M0_j121 y121_7 y121_8 v5 v6 H locs hP hD hS ls (lv_sub hl [2, 3, 4, 5, 6, 7, 8, 1, 0] rfl) hf
        intro I0_l55 M0_l55 y55_7 y55_8 y55_9 y55_10 H locs hP hD hS ls hl hf
        rw [fX11_whose_L55.eq_2] at hf
        refine lv_iload hx hb dX11_whose_55 (lv_at hl 8 rfl) ?_
        refine lv_iconst (v := (4 : Int32)) hx hb dX11_whose_57 (by decide) ?_
        refine lv_icmp_ge (tgt := 142) hx hb dX11_whose_58 (by decide) (fun hc => ?_) (fun hc => ?_)
        · replace hf := wb_t hc hf
          refine lv_iload hx hb dX11_whose_142 (lv_at hl 3 rfl) ?_
          refine lv_if_ne (tgt := 152) hx hb dX11_whose_144 (by decide) (fun hc => ?_) (fun hc => ?_)
          · replace hf := wb_f hc hf
            refine lv_iload hx hb dX11_whose_152 (lv_at hl 3 rfl) ?_
            refine lv_iconst (v := (1 : Int32)) hx hb dX11_whose_154 (by decide) ?_
            refine lv_icmp_ne (tgt := 163) hx hb dX11_whose_155 (by decide) (fun hc => ?_) (fun hc => ?_)
            · replace hf := wb_f hc hf
              refine lv_iload hx hb dX11_whose_163 (lv_at hl 7 rfl) ?_
              exact W.iret (v := y55_9) hx hb hr (fun t ht hW => by rw [← Option.some.inj hf]; exact ⟨⟨y55_9, (), rfl, rfl, by rw [ht]; exact hP, va_K.moved hW.alike hK, hD⟩, hS.F ht⟩) hS.2.2 dX11_whose_165
            · replace hf := wb_t hc hf
              refine lv_iload hx hb dX11_whose_158 (lv_at hl 5 rfl) ?_
              refine lv_goto (tgt := 165) hx hb dX11_whose_160 (by decide) ?_
              exact W.iret (v := y55_7) hx hb hr (fun t ht hW => by rw [← Option.some.inj hf]; exact ⟨⟨y55_7, (), rfl, rfl, by rw [ht]; exact hP, va_K.moved hW.alike hK, hD⟩, hS.F ht⟩) hS.2.2 dX11_whose_165
          · replace hf := wb_t hc hf
            refine lv_iload hx hb dX11_whose_147 (lv_at hl 6 rfl) ?_
            refine lv_goto (tgt := 165) hx hb dX11_whose_149 (by decide) ?_
            exact W.iret (v := y55_8) hx hb hr (fun t ht hW => by rw [← Option.some.inj hf]; exact ⟨⟨y55_8, (), rfl, rfl, by rw [ht]; exact hP, va_K.moved hW.alike hK, hD⟩, hS.F ht⟩) hS.2.2 dX11_whose_165
        · replace hf := wb_f hc hf
          refine lv_aload_n hx hb dX11_whose_61 rfl (lv_at hl 0 rfl) ?_
          refine va_get (D := D) (ci := 11) (v := .ref (a0 28)) (C := RX11) (T := TX11) (N := 13) hx hb hts hinX11 hown hK hP 0 rfl rfl 6 (by decide) (hts (.fieldLink RX11 47 "WheelBook" "trial" "LWheelBook$Search;") (List.mem_of_getElem? (i := 1) rfl)) (fun _ h9 => h9) rfl dX11_whose_62 ?_
          refine lv_iload hx hb dX11_whose_65 (lv_at hl 4 rfl) ?_
          refine lv_iload hx hb dX11_whose_67 (lv_at hl 8 rfl) ?_
          refine lv_iload_n hx hb dX11_whose_69 rfl (lv_at hl 1 rfl) ?_
          obtain ⟨r7, hr7, hf⟩ := wb_b hf
          have hPc := hP.sub (ws' := (wWX8 cB cI cZ (wb_sh a0 28) (wb_sh I0_l55 20) (wb_sh M0_l55 17))) [28, 29] rfl
          have hDc := hD.sub (ws' := (wWX8 cB cI cZ (wb_sh a0 28) (wb_sh I0_l55 20) (wb_sh M0_l55 17))) [28, 29] (by decide) rfl
          have hFc := va_free (wc := (wWX8 cB cI cZ (wb_sh a0 28) (wb_sh I0_l55 20) (wb_sh M0_l55 17))) hD hS hA [28, 29] rfl
          refine va_callv (va_runV (As := [.int y29_6, .int y55_10, .int x3]) (rest := []) ⟨hx, hb, hml, hown, hts⟩ (cn_X8_begin l D cB cI cZ N (wb_sh a0 28) (wb_sh I0_l55 20) (wb_sh M0_l55 17) y29_6 y55_10 x3 H.size r7 hr7) (cwV 3 hts gyX11_whose_X8_begin rfl rfl rfl cdX8_begin ⟨Nat.le_of_ble_eq_true rfl, Nat.le_of_ble_eq_true rfl⟩) (wb_preDV hPc hK hDc (wr_8 hK hP (q0 := 28) rfl)) rfl rfl hl.1 rfl (lv_room (Nat.le_of_ble_eq_true rfl)) dX11_whose_70 ⟨Nat.le_of_ble_eq_true rfl, Nat.le_of_ble_eq_true rfl⟩) hS (fun q _ h => hFc q h) hFc (fun u t H locs ht hvm hw hB hz1 hk1 hS => ?_)
          obtain ⟨hP, hD⟩ := wj_s (wc := (wWX8 cB cI cZ (wb_sh a0 28) (wb_sh I0_l55 20) (wb_sh M0_l55 17))) (w1 := (wWX8 cB cI cZ (wb_sh a0 28) r7.1 r7.2)) (wf := (wWX11 cB cI cZ a0 (wb_in I0_l55 20 7 r7.1) (wb_in M0_l55 17 1 r7.2))) 28 30 hP hD rfl rfl hk1 hFc ht hB
          obtain ⟨I0_8, eI0_8, hf⟩ := wb_v hf
          rw [← eI0_8] at hP hD
          obtain ⟨M0_9, eM0_9, hf⟩ := wb_v hf
          rw [← eM0_9] at hP hD
          refine lv_aload_n hx hb dX11_whose_73 rfl (lv_at hl 0 rfl) ?_
          refine va_get (D := D) (ci := 11) (v := .ref (a0 28)) (C := RX11) (T := TX11) (N := 13) hx hb hts hinX11 hown hK hP 0 rfl rfl 6 (by decide) (hts (.fieldLink RX11 47 "WheelBook" "trial" "LWheelBook$Search;") (List.mem_of_getElem? (i := 1) rfl)) (fun _ h9 => h9) rfl dX11_whose_74 ?_
          refine lv_aload_n hx hb dX11_whose_77 rfl (lv_at hl 0 rfl) ?_
          refine va_get (D := D) (ci := 11) (v := .ref (a0 3)) (C := RX11) (T := TX11) (N := 13) hx hb hts hinX11 hown hK hP 0 rfl rfl 1 (by decide) (hts (.fieldLink RX11 19 "WheelBook" "told" "LWheelBook$House;") (List.mem_of_getElem? (i := 2) rfl)) (fun _ h9 => h9) rfl dX11_whose_78 ?_
          refine lv_aload_n hx hb dX11_whose_81 rfl (lv_at hl 0 rfl) ?_
          refine va_get (D := D) (ci := 11) (v := .ref (a0 21)) (C := RX11) (T := TX11) (N := 13) hx hb hts hinX11 hown hK hP 0 rfl rfl 3 (by decide) (hts (.fieldLink RX11 29 "WheelBook" "books" "LWheelBook$Books;") (List.mem_of_getElem? (i := 3) rfl)) (fun _ h9 => h9) rfl dX11_whose_82 ?_
          refine lv_iload hx hb dX11_whose_85 (lv_at hl 2 rfl) ?_
          refine lv_iconst (v := (1 : Int32)) hx hb dX11_whose_87 (by decide) ?_
          refine lv_iadd hx hb dX11_whose_88 ?_
          obtain ⟨r10, hr10, hf⟩ := wb_b hf
          have hPc := hP.sub (ws' := ((wWX8 cB cI cZ (wb_sh a0 28) (wb_sh I0_8 20) (wb_sh M0_9 17)) ++ ((wWX5 cB cI cZ (wb_sh a0 3) (wb_sh I0_8 9) (wb_sh M0_9 1)) ++ (wWX1 cB cI cZ (wb_sh a0 21) (wb_sh I0_8 13) (wb_sh M0_9 13))))) [28, 29, 3, 4, 5, 6, 7, 8, 9, 10, 11, 21, 22, 23] rfl
          have hDc := hD.sub (ws' := ((wWX8 cB cI cZ (wb_sh a0 28) (wb_sh I0_8 20) (wb_sh M0_9 17)) ++ ((wWX5 cB cI cZ (wb_sh a0 3) (wb_sh I0_8 9) (wb_sh M0_9 1)) ++ (wWX1 cB cI cZ (wb_sh a0 21) (wb_sh I0_8 13) (wb_sh M0_9 13))))) [28, 29, 3, 4, 5, 6, 7, 8, 9, 10, 11, 21, 22, 23] (by decide) rfl
          have hFc := va_free (wc := ((wWX8 cB cI cZ (wb_sh a0 28) (wb_sh I0_8 20) (wb_sh M0_9 17)) ++ ((wWX5 cB cI cZ (wb_sh a0 3) (wb_sh I0_8 9) (wb_sh M0_9 1)) ++ (wWX1 cB cI cZ (wb_sh a0 21) (wb_sh I0_8 13) (wb_sh M0_9 13))))) hD hS hA [28, 29, 3, 4, 5, 6, 7, 8, 9, 10, 11, 21, 22, 23] rfl
          refine va_calli (va_runV (As := [.ref (a0 3), .ref (a0 21), .int (x4 + (1 : Int32))]) (rest := []) ⟨hx, hb, hml, hown, hts⟩ (cn_X8_goOn l D cB cI cZ N (wb_sh a0 28) (wb_sh I0_8 20) (wb_sh M0_9 17) (wb_sh a0 3) (wb_sh I0_8 9) (wb_sh M0_9 1) (wb_sh a0 21) (wb_sh I0_8 13) (wb_sh M0_9 13) (x4 + (1 : Int32)) H.size r10 hr10) (cwV 3 hts gyX11_whose_X8_goOn rfl rfl rfl cdX8_goOn ⟨Nat.le_of_ble_eq_true rfl, Nat.le_of_ble_eq_true rfl⟩) (wb_preDV hPc hK hDc (wr_8 hK hP (q0 := 28) rfl)) rfl rfl hl.1 rfl (lv_room (Nat.le_of_ble_eq_true rfl)) dX11_whose_89 ⟨Nat.le_of_ble_eq_true rfl, Nat.le_of_ble_eq_true rfl⟩) hS (fun q _ h => hFc q h) hFc (fun r9 u t H locs ht hvm hw hB hz1 hk1 hS => ?_)
          obtain ⟨hP, hD⟩ := wj_bca (a := (wWX8 cB cI cZ (wb_sh a0 28) (wb_sh I0_8 20) (wb_sh M0_9 17))) (b := (wWX5 cB cI cZ (wb_sh a0 3) (wb_sh I0_8 9) (wb_sh M0_9 1))) (c := (wWX1 cB cI cZ (wb_sh a0 21) (wb_sh I0_8 13) (wb_sh M0_9 13))) (a' := (wWX8 cB cI cZ (wb_sh a0 28) r10.2.1 r10.2.2)) (b' := (wWX5 cB cI cZ (wb_sh a0 3) (wb_sh I0_8 9) (wb_sh M0_9 1))) (c' := (wWX1 cB cI cZ (wb_sh a0 21) (wb_sh I0_8 13) (wb_sh M0_9 13))) (wf := (wWX11 cB cI cZ a0 (wb_in I0_8 20 7 r10.2.1) (wb_in M0_9 17 1 r10.2.2))) 3 12 9 24 4 30 hP hD rfl rfl hk1 hFc ht hB
          rw [hw]
          obtain ⟨I0_11, eI0_11, hf⟩ := wb_v hf
          rw [← eI0_11] at hP hD
          obtain ⟨M0_12, eM0_12, hf⟩ := wb_v hf
          rw [← eM0_12] at hP hD
          refine lv_pop hx hb dX11_whose_92 rfl ?_
          refine lv_aload_n hx hb dX11_whose_93 rfl (lv_at hl 0 rfl) ?_
          refine va_get (D := D) (ci := 11) (v := .ref (a0 28)) (C := RX11) (T := TX11) (N := 13) hx hb hts hinX11 hown hK hP 0 rfl rfl 6 (by decide) (hts (.fieldLink RX11 47 "WheelBook" "trial" "LWheelBook$Search;") (List.mem_of_getElem? (i := 1) rfl)) (fun _ h9 => h9) rfl dX11_whose_94 ?_
          refine va_get (D := D) (ci := 8) (v := .int (I0_11 24)) (C := RX8) (T := TX8) (N := 8) hx hb hts hinX8 hown hK hP 28 rfl rfl 4 (by decide) (hts (.fieldLink RX11 193 "WheelBook$Search" "least" "I") (List.mem_of_getElem? (i := 4) rfl)) (fun _ h9 => h9) rfl dX11_whose_97 ?_
          refine lv_iload hx hb dX11_whose_100 (lv_at hl 5 rfl) ?_
          refine lv_icmp_ge (tgt := 121) hx hb dX11_whose_102 (by decide) (fun hc => ?_) (fun hc => ?_)
          · replace hf := wb_t hc hf
            exact J121 I0_11 M0_12 y55_7 y55_8 y55_9 y55_10 H locs hP hD hS ls (lv_sub hl [0, 1, 2, 3, 4, 5, 6, 7, 8] rfl) hf
          · replace hf := wb_f hc hf
            refine lv_aload_n hx hb dX11_whose_105 rfl (lv_at hl 0 rfl) ?_
            refine va_get (D := D) (ci := 11) (v := .ref (a0 28)) (C := RX11) (T := TX11) (N := 13) hx hb hts hinX11 hown hK hP 0 rfl rfl 6 (by decide) (hts (.fieldLink RX11 47 "WheelBook" "trial" "LWheelBook$Search;") (List.mem_of_getElem? (i := 1) rfl)) (fun _ h9 => h9) rfl dX11_whose_106 ?_
            refine va_get (D := D) (ci := 8) (v := .int (I0_11 24)) (C := RX8) (T := TX8) (N := 8) hx hb hts hinX8 hown hK hP 28 rfl rfl 4 (by decide) (hts (.fieldLink RX11 193 "WheelBook$Search" "least" "I") (List.mem_of_getElem? (i := 4) rfl)) (fun _ h9 => h9) rfl dX11_whose_109 ?_
            obtain ⟨v13, ev13, hf⟩ := wb_v hf
            refine wb_topi ev13 ?_
            refine lv_istore (lv' := [(7, .int v13), (0, .ref (a0 0)), (3, .int x3), (4, .int x4), (5, .int x5), (6, .int y29_6), (8, .int y55_8), (9, .int y55_9), (10, .int y55_10)]) hx hb dX11_whose_112 hl (by decide) rfl (fun ls hl => ?_)
            refine lv_iload hx hb dX11_whose_114 (lv_at hl 8 rfl) ?_
            refine lv_istore (lv' := [(8, .int y55_10), (7, .int v13), (0, .ref (a0 0)), (3, .int x3), (4, .int x4), (5, .int x5), (6, .int y29_6), (9, .int y55_9), (10, .int y55_10)]) hx hb dX11_whose_116 hl (by decide) rfl (fun ls hl => ?_)
            refine lv_iconst (v := (0 : Int32)) hx hb dX11_whose_118 (by decide) ?_
            refine lv_istore (lv' := [(9, .int (0 : Int32)), (8, .int y55_10), (7, .int v13), (0, .ref (a0 0)), (3, .int x3), (4, .int x4), (5, .int x5), (6, .int y29_6), (10, .int y55_10)]) hx hb dX11_whose_119 hl (by decide) rfl (fun ls hl => ?_)
            exact J121 I0_11 M0_12 v13 y55_10 (0 : Int32) y55_10 H locs hP hD hS ls (lv_sub hl [3, 4, 5, 6, 7, 2, 1, 0, 8] rfl) hf
    exact L55 N I0_j29 M0_j29 (1000 : Int32) (0 : Int32) (0 : Int32) (0 : Int32) H locs hP hD hS ls (lv_sub hl [4, 5, 6, 7, 8, 3, 2, 1, 0] rfl) hf
  have J28 : ∀ (I0_j28 : Nat → Int32) (M0_j28 : Nat → Nat → Int32) (y28_6 : Int32) (H : Heap) (locs : List Loc), va_P D vwCl (wWX11 cB cI cZ a0 I0_j28 M0_j28) H → va_D A (wWX11 cB cI cZ a0 I0_j28 M0_j28) → va_S A s.heap H locs → ∀ (ls : Array Slot), lv_has ls 11 [(0, .ref (a0 0)), (3, .int x3), (4, .int x4), (5, .int x5), (6, .int y28_6)] → fX11_whose_J28 N x1 x2 x3 x4 x5 I0_j28 M0_j28 y28_6 = some (.inr R) → W p l e (headSpec wyX11_whose { frames := 8, cells := 0, slots := 0, locals := 168 }).room s m [.ref (a0 0), .int x1, .int x2, .int x3, .int x4, .int x5].toArray below meth c H locs 0 0 (MQ below (va_Qi (fun r (_ : Unit) => r = R.1) (fun _ t => wb_post D [(cB, .byte), (cI, .int), (cZ, .boolean)] A (wWX11 cB cI cZ a0 R.2.1 R.2.2) t) A) [.ref (a0 0), .int x1, .int x2, .int x3, .int x4, .int x5].toArray s 0 0 A) (F0 m 28 ls []) := by
    intro I0_j28 M0_j28 y28_6 H locs hP hD hS ls hl hf
    unfold fX11_whose_J28 at hf
    refine lv_iconst (v := (0 : Int32)) hx hb dX11_whose_28 (by decide) ?_
    exact J29 I0_j28 M0_j28 y28_6 (0 : Int32) H locs hP hD hS ls (lv_sub hl [0, 1, 2, 3, 4] rfl) hf
  refine lv_iload_n hx hb dX11_whose_0 rfl (lv_at hl 1 rfl) ?_
  refine lv_iload_n hx hb dX11_whose_1 rfl (lv_at hl 2 rfl) ?_
  obtain ⟨r14, hr14, hf⟩ := wb_xr hf
  refine vp_callSi (W.runS (As := [.int x1, .int x2]) (rest := []) ⟨hx, hb, hml, hown, hts⟩ (cn_X11_numberOf l D cB cI cZ N x1 x2 r14 hr14) (va_cwS 2 hts gyX11_whose_X11_numberOf rfl rfl rfl csX11_numberOf ⟨Nat.le_of_ble_eq_true rfl, Nat.le_of_ble_eq_true rfl⟩) (wb_preS (hP.sub (ws' := ([] : va_W)) [] rfl) hK) rfl rfl hl.1 rfl (lv_room (Nat.le_of_ble_eq_true rfl)) dX11_whose_2 ⟨Nat.le_of_ble_eq_true rfl, Nat.le_of_ble_eq_true rfl⟩) (fun r9 e9 => ?_)
  rw [e9]
  refine lv_istore (lv' := [(6, .int r14), (0, .ref (a0 0)), (1, .int x1), (2, .int x2), (3, .int x3), (4, .int x4), (5, .int x5)]) hx hb dX11_whose_5 hl (by decide) rfl (fun ls hl => ?_)
  refine lv_iload_n hx hb dX11_whose_7 rfl (lv_at hl 4 rfl) ?_
  obtain ⟨r15, hr15, hf⟩ := wb_b hf
  refine vp_callSi (W.runS (As := [.int x3]) (rest := []) ⟨hx, hb, hml, hown, hts⟩ (cn_X11_isDay l D cB cI cZ N x3 r15 hr15) (va_cwS 1 hts gyX11_whose_X11_isDay rfl rfl rfl csX11_isDay ⟨Nat.le_of_ble_eq_true rfl, Nat.le_of_ble_eq_true rfl⟩) (wb_preS (hP.sub (ws' := ([] : va_W)) [] rfl) hK) rfl rfl hl.1 rfl (lv_room (Nat.le_of_ble_eq_true rfl)) dX11_whose_8 ⟨Nat.le_of_ble_eq_true rfl, Nat.le_of_ble_eq_true rfl⟩) (fun r9 e9 => ?_)
  rw [e9]
  refine lv_if_eq (tgt := 28) hx hb dX11_whose_11 (by decide) (fun hc => ?_) (fun hc => ?_)
  · replace hf := wb_t hc hf
    exact J28 I0 M0 r14 H locs hP hD hS ls (lv_sub hl [1, 4, 5, 6, 0] rfl) hf
  · replace hf := wb_f hc hf
    refine lv_iload hx hb dX11_whose_14 (lv_at hl 6 rfl) ?_
    refine lv_iconst (v := (0 : Int32)) hx hb dX11_whose_16 (by decide) ?_
    refine lv_iconst (v := (2 : Int32)) hx hb dX11_whose_17 (by decide) ?_
    obtain ⟨r16, hr16, hf⟩ := wb_b hf
    refine vp_callSi (W.runS (As := [.int x5, .int (0 : Int32), .int (2 : Int32)]) (rest := []) ⟨hx, hb, hml, hown, hts⟩ (cn_X11_within l D cB cI cZ N x5 (0 : Int32) (2 : Int32) r16 hr16) (va_cwS 3 hts gyX11_whose_X11_within rfl rfl rfl csX11_within ⟨Nat.le_of_ble_eq_true rfl, Nat.le_of_ble_eq_true rfl⟩) (wb_preS (hP.sub (ws' := ([] : va_W)) [] rfl) hK) rfl rfl hl.1 rfl (lv_room (Nat.le_of_ble_eq_true rfl)) dX11_whose_18 ⟨Nat.le_of_ble_eq_true rfl, Nat.le_of_ble_eq_true rfl⟩) (fun r9 e9 => ?_)
    rw [e9]
    refine lv_if_eq (tgt := 28) hx hb dX11_whose_21 (by decide) (fun hc => ?_) (fun hc => ?_)
    · replace hf := wb_t hc hf
      exact J28 I0 M0 r14 H locs hP hD hS ls (lv_sub hl [1, 4, 5, 6, 0] rfl) hf
    · replace hf := wb_f hc hf
      refine lv_iconst (v := (1 : Int32)) hx hb dX11_whose_24 (by decide) ?_
      refine lv_goto (tgt := 29) hx hb dX11_whose_25 (by decide) ?_
      exact J29 I0 M0 r14 (1 : Int32) H locs hP hD hS ls (lv_sub hl [1, 4, 5, 6, 0] rfl) hf
set_option maxHeartbeats 4000000 in
set_option maxRecDepth 100000 in
theorem ct_X11_whose (l : Launch) (hlt : l.stackTraces = false) (D : va_G) (cB cI cZ : ClassId) (N : Nat) (a0 : Nat → Nat) (I0 : Nat → Int32) (M0 : Nat → Nat → Int32) (x1 : Int32) (x2 : Int32) (x3 : Int32) (x4 : Int32) (x5 : Int32) (sz k : Nat) (hf : fX11_whose N I0 M0 x1 x2 x3 x4 x5 = some (.inl k)) : vx_Met l yX11_whose wyX11_whose ({ frames := 8, cells := 1, slots := 6, locals := 168 }) (va_Pc [.ref (a0 0), .int x1, .int x2, .int x3, .int x4, .int x5] (wb_preX D [(cB, .byte), (cI, .int), (cZ, .boolean)] (wWX11 cB cI cZ a0 I0 M0) sz)) (va_Qi (fun _ (_ : Unit) => False) (fun _ _ => True) (fun q => sz ≤ q)) (vx_X (fun _ : Unit => True) (fun E _ _ => E = wb_ex k) (fun q => sz ≤ q)) 1 6 (fun q => sz ≤ q) := by
  refine vx_ofW (cc := cX11_whose) (maxL := 11) (ret := (some .int)) (by decide) rfl ?_
  intro p e s m args below meth c s₁ B hml htab hv
  obtain ⟨rfl, hsz, hP, hK, hX⟩ := hv
  subst hsz
  have hx := B.exec
  have hb := B.bytes
  have hr := B.returns
  have hts := atoms_spec (ws := wyX11_whose) B.pre
  have hown : s.vm.findClass RX11 = some m.cls := (findClass_of_methodNamed B.named :)
  have hlocks := B.notSynchronized
  have hS : va_S (fun q => s.heap.size ≤ q) s.heap s.heap [] := va_S.rf
  have hl := lv_entry ([.ref (a0 0), .int x1, .int x2, .int x3, .int x4, .int x5]) (n := 11) (Nat.le_of_ble_eq_true rfl)
  rw [lg_entry_eq]
  generalize (lg_sl ([.ref (a0 0), .int x1, .int x2, .int x3, .int x4, .int x5]) ++ List.replicate (11 - (lg_sl ([.ref (a0 0), .int x1, .int x2, .int x3, .int x4, .int x5])).length) Slot.unset).toArray = ls at hl ⊢
  have hl : lv_has ls 11 [(0, .ref (a0 0)), (1, .int x1), (2, .int x2), (3, .int x3), (4, .int x4), (5, .int x5)] := hl
  unfold fX11_whose at hf
  have J29 : ∀ (y29_6 : Int32) (z29_0 : Int32), ∀ (ls : Array Slot), lv_has ls 11 [(0, .ref (a0 0)), (3, .int x3), (4, .int x4), (5, .int x5), (6, .int y29_6)] → fX11_whose_J29 N x1 x2 x3 x4 x5 I0 M0 y29_6 z29_0 = some (.inl k) → W p l e (headSpec wyX11_whose { frames := 8, cells := 1, slots := 6, locals := 168 }).room s m [.ref (a0 0), .int x1, .int x2, .int x3, .int x4, .int x5].toArray below meth c s.heap [] 0 0 (vx_MQ below (va_Qi (fun _ (_ : Unit) => False) (fun _ _ => True) (fun q => s.heap.size ≤ q)) (vx_X (fun _ : Unit => True) (fun E _ _ => E = wb_ex k) (fun q => s.heap.size ≤ q)) [.ref (a0 0), .int x1, .int x2, .int x3, .int x4, .int x5].toArray s 1 6 (fun q => s.heap.size ≤ q)) (F0 m 29 ls [.int z29_0]) := by
    intro y29_6 z29_0 ls hl hf
    unfold fX11_whose_J29 at hf
    rcases wb_xt hf with hrx | ⟨r1, hr1, hf⟩
    · refine vx_callv (vx_runS (As := [.int z29_0]) (rest := []) ⟨hx, hb, hml, hown, hts⟩ (ct_X11_need l hlt D cB cI cZ N z29_0 s.heap.size k hrx) (va_cwS 1 hts gyX11_whose_X11_need rfl rfl rfl csX11_need ⟨Nat.le_of_ble_eq_true rfl, Nat.le_of_ble_eq_true rfl⟩) (wb_preXS (hP.sub (ws' := ([] : va_W)) [] rfl) hK hX) rfl rfl hl.1 rfl (lv_room (Nat.le_of_ble_eq_true rfl)) dX11_whose_29 ⟨Nat.le_of_ble_eq_true rfl, Nat.le_of_ble_eq_true rfl⟩) hS (fun q _ h => h) (fun _ h => h) (fun q _ h => h) (fun E ce q9 u t H locs ht hvm hpx hB hz1 hk1 hS hq9 hv9 hc9 => ?_) (fun u t H locs ht hvm hw hB hz1 hk1 hS => hw.elim)
      exact vx_out (fun x hx9 => (htab x hx9).elim) hlocks hq9 hv9 hc9 (fun t9 ht9 hvm9 => ⟨(), trivial, hB, hS.F ht9⟩) hS.2.2 (Nat.le_of_ble_eq_true rfl) (Nat.le_of_ble_eq_true rfl)
    refine va_csv (W.runS (As := [.int z29_0]) (rest := []) ⟨hx, hb, hml, hown, hts⟩ (cn_X11_need l D cB cI cZ N z29_0 r1 hr1) (va_cwS 1 hts gyX11_whose_X11_need rfl rfl rfl csX11_need ⟨Nat.le_of_ble_eq_true rfl, Nat.le_of_ble_eq_true rfl⟩) (wb_preS (hP.sub (ws' := ([] : va_W)) [] rfl) hK) rfl rfl hl.1 rfl (lv_room (Nat.le_of_ble_eq_true rfl)) dX11_whose_29 ⟨Nat.le_of_ble_eq_true rfl, Nat.le_of_ble_eq_true rfl⟩) (fun _ => ?_)
    refine lv_iload_n hx hb dX11_whose_32 rfl (lv_at hl 1 rfl) ?_
    refine lv_iload hx hb dX11_whose_33 (lv_at hl 2 rfl) ?_
    obtain ⟨r2, hr2, hf⟩ := wb_b hf
    refine vp_callSi (W.runS (As := [.int x3, .int x4]) (rest := []) ⟨hx, hb, hml, hown, hts⟩ (cn_X11_isSpan l D cB cI cZ N x3 x4 r2 hr2) (va_cwS 2 hts gyX11_whose_X11_isSpan rfl rfl rfl csX11_isSpan ⟨Nat.le_of_ble_eq_true rfl, Nat.le_of_ble_eq_true rfl⟩) (wb_preS (hP.sub (ws' := ([] : va_W)) [] rfl) hK) rfl rfl hl.1 rfl (lv_room (Nat.le_of_ble_eq_true rfl)) dX11_whose_35 ⟨Nat.le_of_ble_eq_true rfl, Nat.le_of_ble_eq_true rfl⟩) (fun r9 e9 => ?_)
    rw [e9]
    rcases wb_xt hf with hrx | ⟨r3, hr3, hf⟩
    · refine vx_callv (vx_runS (As := [.int r2]) (rest := []) ⟨hx, hb, hml, hown, hts⟩ (ct_X11_allow l hlt D cB cI cZ N r2 s.heap.size k hrx) (va_cwS 1 hts gyX11_whose_X11_allow rfl rfl rfl csX11_allow ⟨Nat.le_of_ble_eq_true rfl, Nat.le_of_ble_eq_true rfl⟩) (wb_preXS (hP.sub (ws' := ([] : va_W)) [] rfl) hK hX) rfl rfl hl.1 rfl (lv_room (Nat.le_of_ble_eq_true rfl)) dX11_whose_38 ⟨Nat.le_of_ble_eq_true rfl, Nat.le_of_ble_eq_true rfl⟩) hS (fun q _ h => h) (fun _ h => h) (fun q _ h => h) (fun E ce q9 u t H locs ht hvm hpx hB hz1 hk1 hS hq9 hv9 hc9 => ?_) (fun u t H locs ht hvm hw hB hz1 hk1 hS => hw.elim)
      exact vx_out (fun x hx9 => (htab x hx9).elim) hlocks hq9 hv9 hc9 (fun t9 ht9 hvm9 => ⟨(), trivial, hB, hS.F ht9⟩) hS.2.2 (Nat.le_of_ble_eq_true rfl) (Nat.le_of_ble_eq_true rfl)
    refine va_csv (W.runS (As := [.int r2]) (rest := []) ⟨hx, hb, hml, hown, hts⟩ (cn_X11_allow l D cB cI cZ N r2 r3 hr3) (va_cwS 1 hts gyX11_whose_X11_allow rfl rfl rfl csX11_allow ⟨Nat.le_of_ble_eq_true rfl, Nat.le_of_ble_eq_true rfl⟩) (wb_preS (hP.sub (ws' := ([] : va_W)) [] rfl) hK) rfl rfl hl.1 rfl (lv_room (Nat.le_of_ble_eq_true rfl)) dX11_whose_38 ⟨Nat.le_of_ble_eq_true rfl, Nat.le_of_ble_eq_true rfl⟩) (fun _ => ?_)
    exact absurd hf wb_okn
  have J28 : ∀ (y28_6 : Int32), ∀ (ls : Array Slot), lv_has ls 11 [(0, .ref (a0 0)), (3, .int x3), (4, .int x4), (5, .int x5), (6, .int y28_6)] → fX11_whose_J28 N x1 x2 x3 x4 x5 I0 M0 y28_6 = some (.inl k) → W p l e (headSpec wyX11_whose { frames := 8, cells := 1, slots := 6, locals := 168 }).room s m [.ref (a0 0), .int x1, .int x2, .int x3, .int x4, .int x5].toArray below meth c s.heap [] 0 0 (vx_MQ below (va_Qi (fun _ (_ : Unit) => False) (fun _ _ => True) (fun q => s.heap.size ≤ q)) (vx_X (fun _ : Unit => True) (fun E _ _ => E = wb_ex k) (fun q => s.heap.size ≤ q)) [.ref (a0 0), .int x1, .int x2, .int x3, .int x4, .int x5].toArray s 1 6 (fun q => s.heap.size ≤ q)) (F0 m 28 ls []) := by
    intro y28_6 ls hl hf
    unfold fX11_whose_J28 at hf
    refine lv_iconst (v := (0 : Int32)) hx hb dX11_whose_28 (by decide) ?_
    exact J29 y28_6 (0 : Int32) ls (lv_sub hl [0, 1, 2, 3, 4] rfl) hf
  refine lv_iload_n hx hb dX11_whose_0 rfl (lv_at hl 1 rfl) ?_
  refine lv_iload_n hx hb dX11_whose_1 rfl (lv_at hl 2 rfl) ?_
  rcases wb_xt hf with hrx | ⟨r4, hr4, hf⟩
  · refine vx_calli (vx_runS (As := [.int x1, .int x2]) (rest := []) ⟨hx, hb, hml, hown, hts⟩ (ct_X11_numberOf l hlt D cB cI cZ N x1 x2 s.heap.size k hrx) (va_cwS 2 hts gyX11_whose_X11_numberOf rfl rfl rfl csX11_numberOf ⟨Nat.le_of_ble_eq_true rfl, Nat.le_of_ble_eq_true rfl⟩) (wb_preXS (hP.sub (ws' := ([] : va_W)) [] rfl) hK hX) rfl rfl hl.1 rfl (lv_room (Nat.le_of_ble_eq_true rfl)) dX11_whose_2 ⟨Nat.le_of_ble_eq_true rfl, Nat.le_of_ble_eq_true rfl⟩) hS (fun q _ h => h) (fun _ h => h) (fun q _ h => h) (fun E ce q9 u t H locs ht hvm hpx hB hz1 hk1 hS hq9 hv9 hc9 => ?_) (fun r9 u t H locs ht hvm hw hB hz1 hk1 hS => hw.elim)
    exact vx_out (fun x hx9 => (htab x hx9).elim) hlocks hq9 hv9 hc9 (fun t9 ht9 hvm9 => ⟨(), trivial, hB, hS.F ht9⟩) hS.2.2 (Nat.le_of_ble_eq_true rfl) (Nat.le_of_ble_eq_true rfl)
  refine vp_callSi (W.runS (As := [.int x1, .int x2]) (rest := []) ⟨hx, hb, hml, hown, hts⟩ (cn_X11_numberOf l D cB cI cZ N x1 x2 r4 hr4) (va_cwS 2 hts gyX11_whose_X11_numberOf rfl rfl rfl csX11_numberOf ⟨Nat.le_of_ble_eq_true rfl, Nat.le_of_ble_eq_true rfl⟩) (wb_preS (hP.sub (ws' := ([] : va_W)) [] rfl) hK) rfl rfl hl.1 rfl (lv_room (Nat.le_of_ble_eq_true rfl)) dX11_whose_2 ⟨Nat.le_of_ble_eq_true rfl, Nat.le_of_ble_eq_true rfl⟩) (fun r9 e9 => ?_)
  rw [e9]
  refine lv_istore (lv' := [(6, .int r4), (0, .ref (a0 0)), (1, .int x1), (2, .int x2), (3, .int x3), (4, .int x4), (5, .int x5)]) hx hb dX11_whose_5 hl (by decide) rfl (fun ls hl => ?_)
  refine lv_iload_n hx hb dX11_whose_7 rfl (lv_at hl 4 rfl) ?_
  obtain ⟨r5, hr5, hf⟩ := wb_b hf
  refine vp_callSi (W.runS (As := [.int x3]) (rest := []) ⟨hx, hb, hml, hown, hts⟩ (cn_X11_isDay l D cB cI cZ N x3 r5 hr5) (va_cwS 1 hts gyX11_whose_X11_isDay rfl rfl rfl csX11_isDay ⟨Nat.le_of_ble_eq_true rfl, Nat.le_of_ble_eq_true rfl⟩) (wb_preS (hP.sub (ws' := ([] : va_W)) [] rfl) hK) rfl rfl hl.1 rfl (lv_room (Nat.le_of_ble_eq_true rfl)) dX11_whose_8 ⟨Nat.le_of_ble_eq_true rfl, Nat.le_of_ble_eq_true rfl⟩) (fun r9 e9 => ?_)
  rw [e9]
  refine lv_if_eq (tgt := 28) hx hb dX11_whose_11 (by decide) (fun hc => ?_) (fun hc => ?_)
  · replace hf := wb_t hc hf
    exact J28 r4 ls (lv_sub hl [1, 4, 5, 6, 0] rfl) hf
  · replace hf := wb_f hc hf
    refine lv_iload hx hb dX11_whose_14 (lv_at hl 6 rfl) ?_
    refine lv_iconst (v := (0 : Int32)) hx hb dX11_whose_16 (by decide) ?_
    refine lv_iconst (v := (2 : Int32)) hx hb dX11_whose_17 (by decide) ?_
    obtain ⟨r6, hr6, hf⟩ := wb_b hf
    refine vp_callSi (W.runS (As := [.int x5, .int (0 : Int32), .int (2 : Int32)]) (rest := []) ⟨hx, hb, hml, hown, hts⟩ (cn_X11_within l D cB cI cZ N x5 (0 : Int32) (2 : Int32) r6 hr6) (va_cwS 3 hts gyX11_whose_X11_within rfl rfl rfl csX11_within ⟨Nat.le_of_ble_eq_true rfl, Nat.le_of_ble_eq_true rfl⟩) (wb_preS (hP.sub (ws' := ([] : va_W)) [] rfl) hK) rfl rfl hl.1 rfl (lv_room (Nat.le_of_ble_eq_true rfl)) dX11_whose_18 ⟨Nat.le_of_ble_eq_true rfl, Nat.le_of_ble_eq_true rfl⟩) (fun r9 e9 => ?_)
    rw [e9]
    refine lv_if_eq (tgt := 28) hx hb dX11_whose_21 (by decide) (fun hc => ?_) (fun hc => ?_)
    · replace hf := wb_t hc hf
      exact J28 r4 ls (lv_sub hl [1, 4, 5, 6, 0] rfl) hf
    · replace hf := wb_f hc hf
      refine lv_iconst (v := (1 : Int32)) hx hb dX11_whose_24 (by decide) ?_
      refine lv_goto (tgt := 29) hx hb dX11_whose_25 (by decide) ?_
      exact J29 r4 (1 : Int32) ls (lv_sub hl [1, 4, 5, 6, 0] rfl) hf

set_option maxHeartbeats 4000000 in
set_option maxRecDepth 100000 in
theorem cn_X11_mixed (l : Launch) (D : va_G) (cB cI cZ : ClassId) (N : Nat) (a0 : Nat → Nat) (I0 : Nat → Int32) (M0 : Nat → Nat → Int32) (x1 : Int32) (x2 : Int32) (x3 : Int32) (x4 : Int32) (R : Int32) (hf : fX11_mixed N I0 M0 x1 x2 x3 x4 = some (.inr R)) : Met l yX11_mixed wyX11_mixed ({ frames := 8, cells := 0, slots := 0, locals := 167 }) (va_Pc [.ref (a0 0), .int x1, .int x2, .int x3, .int x4] (wb_pre D [(cB, .byte), (cI, .int), (cZ, .boolean)] (wWX11 cB cI cZ a0 I0 M0))) (vp_Si (fun r => r = R)) 0 0 (fun _ => False) := by
  refine Met.ofW (cc := cX11_mixed) (maxL := 8) (ret := (some .int)) pn_X11 rfl ?_
  intro p e s m args below meth c s₁ B hml hv
  obtain ⟨rfl, hP, hK⟩ := hv
  have hx := B.exec
  have hb := B.bytes
  have hr := B.returns
  have hts := atoms_spec (ws := wyX11_mixed) B.pre
  have hown : s.vm.findClass RX11 = some m.cls := (findClass_of_methodNamed B.named :)
  have hlocks := B.notSynchronized
  have hinX11 : ∀ w ∈ u_ws RX11 TX11 13, w ∈ wyX11_mixed := fun w h => List.mem_cons_of_mem _ (List.mem_append_left _ (List.mem_append_left _ (List.mem_append_left _ (List.mem_append_left _ (List.mem_append_right _ h)))))
  have hl := lv_entry ([.ref (a0 0), .int x1, .int x2, .int x3, .int x4]) (n := 8) (Nat.le_of_ble_eq_true rfl)
  rw [lg_entry_eq]
  generalize (lg_sl ([.ref (a0 0), .int x1, .int x2, .int x3, .int x4]) ++ List.replicate (8 - (lg_sl ([.ref (a0 0), .int x1, .int x2, .int x3, .int x4])).length) Slot.unset).toArray = ls at hl ⊢
  have hl : lv_has ls 8 [(0, .ref (a0 0)), (1, .int x1), (2, .int x2), (3, .int x3), (4, .int x4)] := hl
  unfold fX11_mixed at hf
  refine lv_iload_n hx hb dX11_mixed_0 rfl (lv_at hl 1 rfl) ?_
  refine lv_iload_n hx hb dX11_mixed_1 rfl (lv_at hl 2 rfl) ?_
  obtain ⟨r1, hr1, hf⟩ := wb_xr hf
  refine vp_callSi (W.runS (As := [.int x1, .int x2]) (rest := []) ⟨hx, hb, hml, hown, hts⟩ (cn_X11_numberOf l D cB cI cZ N x1 x2 r1 hr1) (va_cwS 2 hts gyX11_mixed_X11_numberOf rfl rfl rfl csX11_numberOf ⟨Nat.le_of_ble_eq_true rfl, Nat.le_of_ble_eq_true rfl⟩) (wb_preS (hP.sub (ws' := ([] : va_W)) [] rfl) hK) rfl rfl hl.1 rfl (lv_room (Nat.le_of_ble_eq_true rfl)) dX11_mixed_2 ⟨Nat.le_of_ble_eq_true rfl, Nat.le_of_ble_eq_true rfl⟩) (fun r9 e9 => ?_)
  rw [e9]
  refine lv_istore (lv' := [(5, .int r1), (0, .ref (a0 0)), (1, .int x1), (2, .int x2), (3, .int x3), (4, .int x4)]) hx hb dX11_mixed_5 hl (by decide) rfl (fun ls hl => ?_)
  refine lv_iload_n hx hb dX11_mixed_7 rfl (lv_at hl 4 rfl) ?_
  obtain ⟨r2, hr2, hf⟩ := wb_b hf
  refine vp_callSi (W.runS (As := [.int x3]) (rest := []) ⟨hx, hb, hml, hown, hts⟩ (cn_X11_isDay l D cB cI cZ N x3 r2 hr2) (va_cwS 1 hts gyX11_mixed_X11_isDay rfl rfl rfl csX11_isDay ⟨Nat.le_of_ble_eq_true rfl, Nat.le_of_ble_eq_true rfl⟩) (wb_preS (hP.sub (ws' := ([] : va_W)) [] rfl) hK) rfl rfl hl.1 rfl (lv_room (Nat.le_of_ble_eq_true rfl)) dX11_mixed_8 ⟨Nat.le_of_ble_eq_true rfl, Nat.le_of_ble_eq_true rfl⟩) (fun r9 e9 => ?_)
  rw [e9]
  obtain ⟨r3, hr3, hf⟩ := wb_xr hf
  refine va_csv (W.runS (As := [.int r2]) (rest := []) ⟨hx, hb, hml, hown, hts⟩ (cn_X11_need l D cB cI cZ N r2 r3 hr3) (va_cwS 1 hts gyX11_mixed_X11_need rfl rfl rfl csX11_need ⟨Nat.le_of_ble_eq_true rfl, Nat.le_of_ble_eq_true rfl⟩) (wb_preS (hP.sub (ws' := ([] : va_W)) [] rfl) hK) rfl rfl hl.1 rfl (lv_room (Nat.le_of_ble_eq_true rfl)) dX11_mixed_11 ⟨Nat.le_of_ble_eq_true rfl, Nat.le_of_ble_eq_true rfl⟩) (fun _ => ?_)
  refine lv_iload_n hx hb dX11_mixed_14 rfl (lv_at hl 4 rfl) ?_
  refine lv_iload hx hb dX11_mixed_15 (lv_at hl 5 rfl) ?_
  obtain ⟨r4, hr4, hf⟩ := wb_b hf
  refine vp_callSi (W.runS (As := [.int x3, .int x4]) (rest := []) ⟨hx, hb, hml, hown, hts⟩ (cn_X11_isSpan l D cB cI cZ N x3 x4 r4 hr4) (va_cwS 2 hts gyX11_mixed_X11_isSpan rfl rfl rfl csX11_isSpan ⟨Nat.le_of_ble_eq_true rfl, Nat.le_of_ble_eq_true rfl⟩) (wb_preS (hP.sub (ws' := ([] : va_W)) [] rfl) hK) rfl rfl hl.1 rfl (lv_room (Nat.le_of_ble_eq_true rfl)) dX11_mixed_17 ⟨Nat.le_of_ble_eq_true rfl, Nat.le_of_ble_eq_true rfl⟩) (fun r9 e9 => ?_)
  rw [e9]
  obtain ⟨r5, hr5, hf⟩ := wb_xr hf
  refine va_csv (W.runS (As := [.int r4]) (rest := []) ⟨hx, hb, hml, hown, hts⟩ (cn_X11_allow l D cB cI cZ N r4 r5 hr5) (va_cwS 1 hts gyX11_mixed_X11_allow rfl rfl rfl csX11_allow ⟨Nat.le_of_ble_eq_true rfl, Nat.le_of_ble_eq_true rfl⟩) (wb_preS (hP.sub (ws' := ([] : va_W)) [] rfl) hK) rfl rfl hl.1 rfl (lv_room (Nat.le_of_ble_eq_true rfl)) dX11_mixed_20 ⟨Nat.le_of_ble_eq_true rfl, Nat.le_of_ble_eq_true rfl⟩) (fun _ => ?_)
  replace hf := wb_okr hf
  refine lv_iconst (v := (0 : Int32)) hx hb dX11_mixed_23 (by decide) ?_
  refine lv_istore (lv' := [(6, .int (0 : Int32)), (5, .int r1), (0, .ref (a0 0)), (1, .int x1), (2, .int x2), (3, .int x3), (4, .int x4)]) hx hb dX11_mixed_24 hl (by decide) rfl (fun ls hl => ?_)
  refine lv_iconst (v := (0 : Int32)) hx hb dX11_mixed_26 (by decide) ?_
  refine lv_istore (lv' := [(7, .int (0 : Int32)), (6, .int (0 : Int32)), (5, .int r1), (0, .ref (a0 0)), (1, .int x1), (2, .int x2), (3, .int x3), (4, .int x4)]) hx hb dX11_mixed_27 hl (by decide) rfl (fun ls hl => ?_)
  have L29 : ∀ (fu29 : Nat) (y29_6 : Int32) (y29_7 : Int32), ∀ (ls : Array Slot), lv_has ls 8 [(0, .ref (a0 0)), (3, .int x3), (4, .int x4), (5, .int r1), (6, .int y29_6), (7, .int y29_7)] → fX11_mixed_L29 N I0 M0 x1 x2 x3 x4 r1 fu29 y29_6 y29_7 = some R → W p l e (headSpec wyX11_mixed { frames := 8, cells := 0, slots := 0, locals := 167 }).room s m [.ref (a0 0), .int x1, .int x2, .int x3, .int x4].toArray below meth c s.heap [] 0 0 (MQ below (vp_Si (fun r => r = R)) [.ref (a0 0), .int x1, .int x2, .int x3, .int x4].toArray s 0 0 (fun _ => False)) (F0 m 29 ls []) := by
    intro fu29
    induction fu29 with
    | zero =>
      intro y29_6 y29_7 ls hl hf
      exact absurd hf (by rw [fX11_mixed_L29.eq_1]; exact fun h => nomatch h)
    | succ fu29 ih29 =>
      intro y29_6 y29_7 ls hl hf
      rw [fX11_mixed_L29.eq_2] at hf
      refine lv_iload hx hb dX11_mixed_29 (lv_at hl 5 rfl) ?_
      refine lv_iload hx hb dX11_mixed_31 (lv_at hl 2 rfl) ?_
      refine lv_icmp_gt (tgt := 65) hx hb dX11_mixed_33 (by decide) (fun hc => ?_) (fun hc => ?_)
      · replace hf := wb_t hc hf
        refine lv_iload hx hb dX11_mixed_65 (lv_at hl 4 rfl) ?_
        exact W.iret (v := y29_6) hx hb hr (fun t ht hW => ⟨_, rfl, Option.some.inj hf, ht⟩) (fun _ h => nomatch h) dX11_mixed_67
      · replace hf := wb_f hc hf
        refine lv_aload_n hx hb dX11_mixed_36 rfl (lv_at hl 0 rfl) ?_
        refine va_get (D := D) (ci := 11) (v := .ref (a0 3)) (C := RX11) (T := TX11) (N := 13) hx hb hts hinX11 hown hK hP 0 rfl rfl 1 (by decide) (hts (.fieldLink RX11 19 "WheelBook" "told" "LWheelBook$House;") (List.mem_of_getElem? (i := 1) rfl)) (fun _ h9 => h9) rfl dX11_mixed_37 ?_
        refine lv_aload_n hx hb dX11_mixed_40 rfl (lv_at hl 0 rfl) ?_
        refine va_get (D := D) (ci := 11) (v := .ref (a0 21)) (C := RX11) (T := TX11) (N := 13) hx hb hts hinX11 hown hK hP 0 rfl rfl 3 (by decide) (hts (.fieldLink RX11 29 "WheelBook" "books" "LWheelBook$Books;") (List.mem_of_getElem? (i := 2) rfl)) (fun _ h9 => h9) rfl dX11_mixed_41 ?_
        refine lv_iload hx hb dX11_mixed_44 (lv_at hl 3 rfl) ?_
        refine lv_iload_n hx hb dX11_mixed_46 rfl (lv_at hl 1 rfl) ?_
        refine lv_iload hx hb dX11_mixed_47 (lv_at hl 5 rfl) ?_
        refine lv_iadd hx hb dX11_mixed_49 ?_
        obtain ⟨r6, hr6, hf⟩ := wb_b hf
        refine vp_callSi (W.runS (As := [.ref (a0 3), .ref (a0 21), .int r1, .int (x3 + y29_7)]) (rest := []) ⟨hx, hb, hml, hown, hts⟩ (cn_X3_isMixed l D cB cI cZ N (wb_sh a0 3) (wb_sh I0 9) (wb_sh M0 1) (wb_sh a0 21) (wb_sh I0 13) (wb_sh M0 13) r1 (x3 + y29_7) r6 hr6) (va_cwS 4 hts gyX11_mixed_X3_isMixed rfl rfl rfl csX3_isMixed ⟨Nat.le_of_ble_eq_true rfl, Nat.le_of_ble_eq_true rfl⟩) (wb_preS (hP.sub (ws' := ((wWX5 cB cI cZ (wb_sh a0 3) (wb_sh I0 9) (wb_sh M0 1)) ++ (wWX1 cB cI cZ (wb_sh a0 21) (wb_sh I0 13) (wb_sh M0 13)))) [3, 4, 5, 6, 7, 8, 9, 10, 11, 21, 22, 23] rfl) hK) rfl rfl hl.1 rfl (lv_room (Nat.le_of_ble_eq_true rfl)) dX11_mixed_50 ⟨Nat.le_of_ble_eq_true rfl, Nat.le_of_ble_eq_true rfl⟩) (fun r9 e9 => ?_)
        rw [e9]
        refine lv_if_eq (tgt := 59) hx hb dX11_mixed_53 (by decide) (fun hc => ?_) (fun hc => ?_)
        · replace hf := wb_t hc hf
          obtain ⟨v7, ev7, hf⟩ := wb_v hf
          refine lv_iinc (v := v7) (lv' := [(7, .int v7), (0, .ref (a0 0)), (3, .int x3), (4, .int x4), (5, .int r1), (6, .int y29_6)]) hx hb dX11_mixed_59 hl (k := 5) rfl (by rw [ev7]; rfl) (by decide) rfl (fun ls hl => ?_)
          refine lv_goto (tgt := 29) hx hb dX11_mixed_62 (by decide) ?_
          exact ih29 y29_6 v7 ls (lv_sub hl [1, 2, 3, 4, 5, 0] rfl) hf
        · replace hf := wb_f hc hf
          obtain ⟨v8, ev8, hf⟩ := wb_v hf
          refine lv_iinc (v := v8) (lv' := [(6, .int v8), (0, .ref (a0 0)), (3, .int x3), (4, .int x4), (5, .int r1), (7, .int y29_7)]) hx hb dX11_mixed_56 hl (k := 4) rfl (by rw [ev8]; rfl) (by decide) rfl (fun ls hl => ?_)
          obtain ⟨v9, ev9, hf⟩ := wb_v hf
          refine lv_iinc (v := v9) (lv' := [(7, .int v9), (6, .int v8), (0, .ref (a0 0)), (3, .int x3), (4, .int x4), (5, .int r1)]) hx hb dX11_mixed_59 hl (k := 5) rfl (by rw [ev9]; rfl) (by decide) rfl (fun ls hl => ?_)
          refine lv_goto (tgt := 29) hx hb dX11_mixed_62 (by decide) ?_
          exact ih29 v8 v9 ls (lv_sub hl [2, 3, 4, 5, 1, 0] rfl) hf
  exact L29 N (0 : Int32) (0 : Int32) ls (lv_sub hl [3, 6, 7, 2, 1, 0] rfl) hf
set_option maxHeartbeats 4000000 in
set_option maxRecDepth 100000 in
theorem ct_X11_mixed (l : Launch) (hlt : l.stackTraces = false) (D : va_G) (cB cI cZ : ClassId) (N : Nat) (a0 : Nat → Nat) (I0 : Nat → Int32) (M0 : Nat → Nat → Int32) (x1 : Int32) (x2 : Int32) (x3 : Int32) (x4 : Int32) (sz k : Nat) (hf : fX11_mixed N I0 M0 x1 x2 x3 x4 = some (.inl k)) : vx_Met l yX11_mixed wyX11_mixed ({ frames := 8, cells := 1, slots := 6, locals := 167 }) (va_Pc [.ref (a0 0), .int x1, .int x2, .int x3, .int x4] (wb_preX D [(cB, .byte), (cI, .int), (cZ, .boolean)] (wWX11 cB cI cZ a0 I0 M0) sz)) (va_Qi (fun _ (_ : Unit) => False) (fun _ _ => True) (fun q => sz ≤ q)) (vx_X (fun _ : Unit => True) (fun E _ _ => E = wb_ex k) (fun q => sz ≤ q)) 1 6 (fun q => sz ≤ q) := by
  refine vx_ofW (cc := cX11_mixed) (maxL := 8) (ret := (some .int)) (by decide) rfl ?_
  intro p e s m args below meth c s₁ B hml htab hv
  obtain ⟨rfl, hsz, hP, hK, hX⟩ := hv
  subst hsz
  have hx := B.exec
  have hb := B.bytes
  have hr := B.returns
  have hts := atoms_spec (ws := wyX11_mixed) B.pre
  have hown : s.vm.findClass RX11 = some m.cls := (findClass_of_methodNamed B.named :)
  have hlocks := B.notSynchronized
  have hS : va_S (fun q => s.heap.size ≤ q) s.heap s.heap [] := va_S.rf
  have hl := lv_entry ([.ref (a0 0), .int x1, .int x2, .int x3, .int x4]) (n := 8) (Nat.le_of_ble_eq_true rfl)
  rw [lg_entry_eq]
  generalize (lg_sl ([.ref (a0 0), .int x1, .int x2, .int x3, .int x4]) ++ List.replicate (8 - (lg_sl ([.ref (a0 0), .int x1, .int x2, .int x3, .int x4])).length) Slot.unset).toArray = ls at hl ⊢
  have hl : lv_has ls 8 [(0, .ref (a0 0)), (1, .int x1), (2, .int x2), (3, .int x3), (4, .int x4)] := hl
  unfold fX11_mixed at hf
  refine lv_iload_n hx hb dX11_mixed_0 rfl (lv_at hl 1 rfl) ?_
  refine lv_iload_n hx hb dX11_mixed_1 rfl (lv_at hl 2 rfl) ?_
  rcases wb_xt hf with hrx | ⟨r1, hr1, hf⟩
  · refine vx_calli (vx_runS (As := [.int x1, .int x2]) (rest := []) ⟨hx, hb, hml, hown, hts⟩ (ct_X11_numberOf l hlt D cB cI cZ N x1 x2 s.heap.size k hrx) (va_cwS 2 hts gyX11_mixed_X11_numberOf rfl rfl rfl csX11_numberOf ⟨Nat.le_of_ble_eq_true rfl, Nat.le_of_ble_eq_true rfl⟩) (wb_preXS (hP.sub (ws' := ([] : va_W)) [] rfl) hK hX) rfl rfl hl.1 rfl (lv_room (Nat.le_of_ble_eq_true rfl)) dX11_mixed_2 ⟨Nat.le_of_ble_eq_true rfl, Nat.le_of_ble_eq_true rfl⟩) hS (fun q _ h => h) (fun _ h => h) (fun q _ h => h) (fun E ce q9 u t H locs ht hvm hpx hB hz1 hk1 hS hq9 hv9 hc9 => ?_) (fun r9 u t H locs ht hvm hw hB hz1 hk1 hS => hw.elim)
    exact vx_out (fun x hx9 => (htab x hx9).elim) hlocks hq9 hv9 hc9 (fun t9 ht9 hvm9 => ⟨(), trivial, hB, hS.F ht9⟩) hS.2.2 (Nat.le_of_ble_eq_true rfl) (Nat.le_of_ble_eq_true rfl)
  refine vp_callSi (W.runS (As := [.int x1, .int x2]) (rest := []) ⟨hx, hb, hml, hown, hts⟩ (cn_X11_numberOf l D cB cI cZ N x1 x2 r1 hr1) (va_cwS 2 hts gyX11_mixed_X11_numberOf rfl rfl rfl csX11_numberOf ⟨Nat.le_of_ble_eq_true rfl, Nat.le_of_ble_eq_true rfl⟩) (wb_preS (hP.sub (ws' := ([] : va_W)) [] rfl) hK) rfl rfl hl.1 rfl (lv_room (Nat.le_of_ble_eq_true rfl)) dX11_mixed_2 ⟨Nat.le_of_ble_eq_true rfl, Nat.le_of_ble_eq_true rfl⟩) (fun r9 e9 => ?_)
  rw [e9]
  refine lv_istore (lv' := [(5, .int r1), (0, .ref (a0 0)), (1, .int x1), (2, .int x2), (3, .int x3), (4, .int x4)]) hx hb dX11_mixed_5 hl (by decide) rfl (fun ls hl => ?_)
  refine lv_iload_n hx hb dX11_mixed_7 rfl (lv_at hl 4 rfl) ?_
  obtain ⟨r2, hr2, hf⟩ := wb_b hf
  refine vp_callSi (W.runS (As := [.int x3]) (rest := []) ⟨hx, hb, hml, hown, hts⟩ (cn_X11_isDay l D cB cI cZ N x3 r2 hr2) (va_cwS 1 hts gyX11_mixed_X11_isDay rfl rfl rfl csX11_isDay ⟨Nat.le_of_ble_eq_true rfl, Nat.le_of_ble_eq_true rfl⟩) (wb_preS (hP.sub (ws' := ([] : va_W)) [] rfl) hK) rfl rfl hl.1 rfl (lv_room (Nat.le_of_ble_eq_true rfl)) dX11_mixed_8 ⟨Nat.le_of_ble_eq_true rfl, Nat.le_of_ble_eq_true rfl⟩) (fun r9 e9 => ?_)
  rw [e9]
  rcases wb_xt hf with hrx | ⟨r3, hr3, hf⟩
  · refine vx_callv (vx_runS (As := [.int r2]) (rest := []) ⟨hx, hb, hml, hown, hts⟩ (ct_X11_need l hlt D cB cI cZ N r2 s.heap.size k hrx) (va_cwS 1 hts gyX11_mixed_X11_need rfl rfl rfl csX11_need ⟨Nat.le_of_ble_eq_true rfl, Nat.le_of_ble_eq_true rfl⟩) (wb_preXS (hP.sub (ws' := ([] : va_W)) [] rfl) hK hX) rfl rfl hl.1 rfl (lv_room (Nat.le_of_ble_eq_true rfl)) dX11_mixed_11 ⟨Nat.le_of_ble_eq_true rfl, Nat.le_of_ble_eq_true rfl⟩) hS (fun q _ h => h) (fun _ h => h) (fun q _ h => h) (fun E ce q9 u t H locs ht hvm hpx hB hz1 hk1 hS hq9 hv9 hc9 => ?_) (fun u t H locs ht hvm hw hB hz1 hk1 hS => hw.elim)
    exact vx_out (fun x hx9 => (htab x hx9).elim) hlocks hq9 hv9 hc9 (fun t9 ht9 hvm9 => ⟨(), trivial, hB, hS.F ht9⟩) hS.2.2 (Nat.le_of_ble_eq_true rfl) (Nat.le_of_ble_eq_true rfl)
  refine va_csv (W.runS (As := [.int r2]) (rest := []) ⟨hx, hb, hml, hown, hts⟩ (cn_X11_need l D cB cI cZ N r2 r3 hr3) (va_cwS 1 hts gyX11_mixed_X11_need rfl rfl rfl csX11_need ⟨Nat.le_of_ble_eq_true rfl, Nat.le_of_ble_eq_true rfl⟩) (wb_preS (hP.sub (ws' := ([] : va_W)) [] rfl) hK) rfl rfl hl.1 rfl (lv_room (Nat.le_of_ble_eq_true rfl)) dX11_mixed_11 ⟨Nat.le_of_ble_eq_true rfl, Nat.le_of_ble_eq_true rfl⟩) (fun _ => ?_)
  refine lv_iload_n hx hb dX11_mixed_14 rfl (lv_at hl 4 rfl) ?_
  refine lv_iload hx hb dX11_mixed_15 (lv_at hl 5 rfl) ?_
  obtain ⟨r4, hr4, hf⟩ := wb_b hf
  refine vp_callSi (W.runS (As := [.int x3, .int x4]) (rest := []) ⟨hx, hb, hml, hown, hts⟩ (cn_X11_isSpan l D cB cI cZ N x3 x4 r4 hr4) (va_cwS 2 hts gyX11_mixed_X11_isSpan rfl rfl rfl csX11_isSpan ⟨Nat.le_of_ble_eq_true rfl, Nat.le_of_ble_eq_true rfl⟩) (wb_preS (hP.sub (ws' := ([] : va_W)) [] rfl) hK) rfl rfl hl.1 rfl (lv_room (Nat.le_of_ble_eq_true rfl)) dX11_mixed_17 ⟨Nat.le_of_ble_eq_true rfl, Nat.le_of_ble_eq_true rfl⟩) (fun r9 e9 => ?_)
  rw [e9]
  rcases wb_xt hf with hrx | ⟨r5, hr5, hf⟩
  · refine vx_callv (vx_runS (As := [.int r4]) (rest := []) ⟨hx, hb, hml, hown, hts⟩ (ct_X11_allow l hlt D cB cI cZ N r4 s.heap.size k hrx) (va_cwS 1 hts gyX11_mixed_X11_allow rfl rfl rfl csX11_allow ⟨Nat.le_of_ble_eq_true rfl, Nat.le_of_ble_eq_true rfl⟩) (wb_preXS (hP.sub (ws' := ([] : va_W)) [] rfl) hK hX) rfl rfl hl.1 rfl (lv_room (Nat.le_of_ble_eq_true rfl)) dX11_mixed_20 ⟨Nat.le_of_ble_eq_true rfl, Nat.le_of_ble_eq_true rfl⟩) hS (fun q _ h => h) (fun _ h => h) (fun q _ h => h) (fun E ce q9 u t H locs ht hvm hpx hB hz1 hk1 hS hq9 hv9 hc9 => ?_) (fun u t H locs ht hvm hw hB hz1 hk1 hS => hw.elim)
    exact vx_out (fun x hx9 => (htab x hx9).elim) hlocks hq9 hv9 hc9 (fun t9 ht9 hvm9 => ⟨(), trivial, hB, hS.F ht9⟩) hS.2.2 (Nat.le_of_ble_eq_true rfl) (Nat.le_of_ble_eq_true rfl)
  refine va_csv (W.runS (As := [.int r4]) (rest := []) ⟨hx, hb, hml, hown, hts⟩ (cn_X11_allow l D cB cI cZ N r4 r5 hr5) (va_cwS 1 hts gyX11_mixed_X11_allow rfl rfl rfl csX11_allow ⟨Nat.le_of_ble_eq_true rfl, Nat.le_of_ble_eq_true rfl⟩) (wb_preS (hP.sub (ws' := ([] : va_W)) [] rfl) hK) rfl rfl hl.1 rfl (lv_room (Nat.le_of_ble_eq_true rfl)) dX11_mixed_20 ⟨Nat.le_of_ble_eq_true rfl, Nat.le_of_ble_eq_true rfl⟩) (fun _ => ?_)
  exact absurd hf wb_okn

set_option maxHeartbeats 4000000 in
set_option maxRecDepth 100000 in
theorem cn_X11_isClimate (l : Launch) (D : va_G) (cB cI cZ : ClassId) (N : Nat) (a0 : Nat → Nat) (I0 : Nat → Int32) (M0 : Nat → Nat → Int32) (x1 : Int32) (R : Int32) (hf : fX11_isClimate N I0 M0 x1 = some R) : Met l yX11_isClimate wsX11_isClimate ({ frames := 1, cells := 0, slots := 0, locals := 22 }) (va_Pc [.ref (a0 0), .int x1] (wb_pre D [(cB, .byte), (cI, .int), (cZ, .boolean)] (wWX11 cB cI cZ a0 I0 M0))) (vp_Si (fun r => r = R)) 0 0 (fun _ => False) := by
  refine Met.ofW (cc := cX11_isClimate) (maxL := 2) (ret := (some .boolean)) pn_X11 rfl ?_
  intro p e s m args below meth c s₁ B hml hv
  obtain ⟨rfl, hP, hK⟩ := hv
  have hx := B.exec
  have hb := B.bytes
  have hr := B.returns
  have hts := atoms_spec (ws := wsX11_isClimate) B.pre
  have hown : s.vm.findClass RX11 = some m.cls := (findClass_of_methodNamed B.named :)
  have hlocks := B.notSynchronized
  have hinX11 : ∀ w ∈ u_ws RX11 TX11 13, w ∈ wsX11_isClimate := fun w h => List.mem_cons_of_mem _ (List.mem_append_left _ (List.mem_append_left _ (List.mem_append_right _ h)))
  have hinX2 : ∀ w ∈ u_ws RX2 TX2 2, w ∈ wsX11_isClimate := fun w h => List.mem_cons_of_mem _ (List.mem_append_right _ h)
  have hinX5 : ∀ w ∈ u_ws RX5 TX5 6, w ∈ wsX11_isClimate := fun w h => List.mem_cons_of_mem _ (List.mem_append_left _ (List.mem_append_right _ h))
  have hl := lv_entry ([.ref (a0 0), .int x1]) (n := 2) (Nat.le_of_ble_eq_true rfl)
  rw [lg_entry_eq]
  generalize (lg_sl ([.ref (a0 0), .int x1]) ++ List.replicate (2 - (lg_sl ([.ref (a0 0), .int x1])).length) Slot.unset).toArray = ls at hl ⊢
  have hl : lv_has ls 2 [(0, .ref (a0 0)), (1, .int x1)] := hl
  unfold fX11_isClimate at hf
  refine lv_iload_n hx hb dX11_isClimate_0 rfl (lv_at hl 1 rfl) ?_
  refine lv_iconst (v := (0 : Int32)) hx hb dX11_isClimate_1 (by decide) ?_
  refine lv_aload_n hx hb dX11_isClimate_2 rfl (lv_at hl 0 rfl) ?_
  refine va_get (D := D) (ci := 11) (v := .ref (a0 3)) (C := RX11) (T := TX11) (N := 13) hx hb hts hinX11 hown hK hP 0 rfl rfl 1 (by decide) (hts (.fieldLink RX11 19 "WheelBook" "told" "LWheelBook$House;") (List.mem_of_getElem? (i := 1) rfl)) (fun _ h9 => h9) rfl dX11_isClimate_3 ?_
  refine va_get (D := D) (ci := 5) (v := .ref (a0 8)) (C := RX5) (T := TX5) (N := 6) hx hb hts hinX5 hown hK hP 3 rfl rfl 4 (by decide) (hts (.fieldLink RX11 131 "WheelBook$House" "climates" "LWheelBook$Climates;") (List.mem_of_getElem? (i := 2) rfl)) (fun _ h9 => h9) rfl dX11_isClimate_6 ?_
  refine va_get (D := D) (ci := 2) (v := .int (I0 9)) (C := RX2) (T := TX2) (N := 2) hx hb hts hinX2 hown hK hP 8 rfl rfl 1 (by decide) (hts (.fieldLink RX11 135 "WheelBook$Climates" "many" "I") (List.mem_of_getElem? (i := 3) rfl)) (fun _ h9 => h9) rfl dX11_isClimate_9 ?_
  refine lv_iconst (v := (1 : Int32)) hx hb dX11_isClimate_12 (by decide) ?_
  refine lv_isub hx hb dX11_isClimate_13 ?_
  obtain ⟨r1, hr1, hf⟩ := wb_b hf
  refine vp_callSi (W.runS (As := [.int x1, .int (0 : Int32), .int ((I0 9) - (1 : Int32))]) (rest := []) ⟨hx, hb, hml, hown, hts⟩ (cn_X11_within l D cB cI cZ N x1 (0 : Int32) ((I0 9) - (1 : Int32)) r1 hr1) (va_cwS 3 hts gX11_isClimate_X11_within rfl rfl rfl csX11_within ⟨Nat.le_of_ble_eq_true rfl, Nat.le_of_ble_eq_true rfl⟩) (wb_preS (hP.sub (ws' := ([] : va_W)) [] rfl) hK) rfl rfl hl.1 rfl (lv_room (Nat.le_of_ble_eq_true rfl)) dX11_isClimate_14 ⟨Nat.le_of_ble_eq_true rfl, Nat.le_of_ble_eq_true rfl⟩) (fun r9 e9 => ?_)
  rw [e9]
  obtain ⟨hz, hf⟩ := wb_y hf
  exact W.zret (v := r1) hx hb hr (congrArg Value.int hz) (fun t ht hW => ⟨_, rfl, Option.some.inj hf, ht⟩) (fun _ h => nomatch h) dX11_isClimate_17

set_option maxHeartbeats 4000000 in
set_option maxRecDepth 100000 in
theorem cn_X11_climb (l : Launch) (D : va_G) (cB cI cZ : ClassId) (N : Nat) (a0 : Nat → Nat) (I0 : Nat → Int32) (M0 : Nat → Nat → Int32) (x1 : Int32) (x2 : Int32) (R : Int32) (hf : fX11_climb N I0 M0 x1 x2 = some (.inr R)) : Met l yX11_climb wyX11_climb ({ frames := 7, cells := 0, slots := 0, locals := 140 }) (va_Pc [.ref (a0 0), .int x1, .int x2] (wb_pre D [(cB, .byte), (cI, .int), (cZ, .boolean)] (wWX11 cB cI cZ a0 I0 M0))) (vp_Si (fun r => r = R)) 0 0 (fun _ => False) := by
  refine Met.ofW (cc := cX11_climb) (maxL := 3) (ret := (some .int)) pn_X11 rfl ?_
  intro p e s m args below meth c s₁ B hml hv
  obtain ⟨rfl, hP, hK⟩ := hv
  have hx := B.exec
  have hb := B.bytes
  have hr := B.returns
  have hts := atoms_spec (ws := wyX11_climb) B.pre
  have hown : s.vm.findClass RX11 = some m.cls := (findClass_of_methodNamed B.named :)
  have hlocks := B.notSynchronized
  have hinX11 : ∀ w ∈ u_ws RX11 TX11 13, w ∈ wyX11_climb := fun w h => List.mem_cons_of_mem _ (List.mem_append_left _ (List.mem_append_left _ (List.mem_append_left _ (List.mem_append_right _ h))))
  have hinX5 : ∀ w ∈ u_ws RX5 TX5 6, w ∈ wyX11_climb := fun w h => List.mem_cons_of_mem _ (List.mem_append_left _ (List.mem_append_left _ (List.mem_append_right _ h)))
  have hl := lv_entry ([.ref (a0 0), .int x1, .int x2]) (n := 3) (Nat.le_of_ble_eq_true rfl)
  rw [lg_entry_eq]
  generalize (lg_sl ([.ref (a0 0), .int x1, .int x2]) ++ List.replicate (3 - (lg_sl ([.ref (a0 0), .int x1, .int x2])).length) Slot.unset).toArray = ls at hl ⊢
  have hl : lv_has ls 3 [(0, .ref (a0 0)), (1, .int x1), (2, .int x2)] := hl
  unfold fX11_climb at hf
  have J24 : ∀ (z24_0 : Int32), ∀ (ls : Array Slot), lv_has ls 3 [(0, .ref (a0 0)), (1, .int x1), (2, .int x2)] → fX11_climb_J24 N I0 M0 x1 x2 z24_0 = some (.inr R) → W p l e (headSpec wyX11_climb { frames := 7, cells := 0, slots := 0, locals := 140 }).room s m [.ref (a0 0), .int x1, .int x2].toArray below meth c s.heap [] 0 0 (MQ below (vp_Si (fun r => r = R)) [.ref (a0 0), .int x1, .int x2].toArray s 0 0 (fun _ => False)) (F0 m 24 ls [.int z24_0]) := by
    intro z24_0 ls hl hf
    unfold fX11_climb_J24 at hf
    obtain ⟨r1, hr1, hf⟩ := wb_xr hf
    refine va_csv (W.runS (As := [.int z24_0]) (rest := []) ⟨hx, hb, hml, hown, hts⟩ (cn_X11_need l D cB cI cZ N z24_0 r1 hr1) (va_cwS 1 hts gyX11_climb_X11_need rfl rfl rfl csX11_need ⟨Nat.le_of_ble_eq_true rfl, Nat.le_of_ble_eq_true rfl⟩) (wb_preS (hP.sub (ws' := ([] : va_W)) [] rfl) hK) rfl rfl hl.1 rfl (lv_room (Nat.le_of_ble_eq_true rfl)) dX11_climb_24 ⟨Nat.le_of_ble_eq_true rfl, Nat.le_of_ble_eq_true rfl⟩) (fun _ => ?_)
    replace hf := wb_okr hf
    refine lv_aload_n hx hb dX11_climb_27 rfl (lv_at hl 0 rfl) ?_
    refine va_get (D := D) (ci := 11) (v := .ref (a0 3)) (C := RX11) (T := TX11) (N := 13) hx hb hts hinX11 hown hK hP 0 rfl rfl 1 (by decide) (hts (.fieldLink RX11 19 "WheelBook" "told" "LWheelBook$House;") (List.mem_of_getElem? (i := 1) rfl)) (fun _ h9 => h9) rfl dX11_climb_28 ?_
    refine va_get (D := D) (ci := 5) (v := .ref (a0 8)) (C := RX5) (T := TX5) (N := 6) hx hb hts hinX5 hown hK hP 3 rfl rfl 4 (by decide) (hts (.fieldLink RX11 131 "WheelBook$House" "climates" "LWheelBook$Climates;") (List.mem_of_getElem? (i := 2) rfl)) (fun _ h9 => h9) rfl dX11_climb_31 ?_
    refine lv_iload_n hx hb dX11_climb_34 rfl (lv_at hl 1 rfl) ?_
    refine lv_iload_n hx hb dX11_climb_35 rfl (lv_at hl 2 rfl) ?_
    obtain ⟨r2, hr2, hf⟩ := wb_b hf
    refine vp_callSi (W.runV (As := [.int x1, .int x2]) (rest := []) ⟨hx, hb, hml, hown, hts⟩ (cn_X2_climbOf l D cB cI cZ N (wb_sh a0 8) (wb_sh I0 9) (wb_sh M0 5) x1 x2 r2 hr2) (cwV 2 hts gyX11_climb_X2_climbOf rfl rfl rfl cdX2_climbOf ⟨Nat.le_of_ble_eq_true rfl, Nat.le_of_ble_eq_true rfl⟩) (wb_preV (hP.sub (ws' := (wWX2 cB cI cZ (wb_sh a0 8) (wb_sh I0 9) (wb_sh M0 5))) [8, 9] rfl) hK (wr_2 hK hP (q0 := 8) rfl)) rfl rfl hl.1 rfl (lv_room (Nat.le_of_ble_eq_true rfl)) dX11_climb_36 ⟨Nat.le_of_ble_eq_true rfl, Nat.le_of_ble_eq_true rfl⟩) (fun r9 e9 => ?_)
    rw [e9]
    exact W.iret (v := r2) hx hb hr (fun t ht hW => ⟨_, rfl, Option.some.inj hf, ht⟩) (fun _ h => nomatch h) dX11_climb_39
  have J23 : ∀ (ls : Array Slot), lv_has ls 3 [(0, .ref (a0 0)), (1, .int x1), (2, .int x2)] → fX11_climb_J23 N I0 M0 x1 x2 = some (.inr R) → W p l e (headSpec wyX11_climb { frames := 7, cells := 0, slots := 0, locals := 140 }).room s m [.ref (a0 0), .int x1, .int x2].toArray below meth c s.heap [] 0 0 (MQ below (vp_Si (fun r => r = R)) [.ref (a0 0), .int x1, .int x2].toArray s 0 0 (fun _ => False)) (F0 m 23 ls []) := by
    intro ls hl hf
    unfold fX11_climb_J23 at hf
    refine lv_iconst (v := (0 : Int32)) hx hb dX11_climb_23 (by decide) ?_
    exact J24 (0 : Int32) ls (lv_sub hl [0, 1, 2] rfl) hf
  refine lv_aload_n hx hb dX11_climb_0 rfl (lv_at hl 0 rfl) ?_
  refine lv_iload_n hx hb dX11_climb_1 rfl (lv_at hl 1 rfl) ?_
  obtain ⟨r3, hr3, hf⟩ := wb_b hf
  refine vp_callSi (W.runV (As := [.int x1]) (rest := []) ⟨hx, hb, hml, hown, hts⟩ (cn_X11_isClimate l D cB cI cZ N a0 I0 M0 x1 r3 hr3) (cwV 1 hts gyX11_climb_X11_isClimate rfl rfl rfl cdX11_isClimate ⟨Nat.le_of_ble_eq_true rfl, Nat.le_of_ble_eq_true rfl⟩) (wb_preV hP hK (wr_11 hK hP (q0 := 0) rfl)) rfl rfl hl.1 rfl (lv_room (Nat.le_of_ble_eq_true rfl)) dX11_climb_2 ⟨Nat.le_of_ble_eq_true rfl, Nat.le_of_ble_eq_true rfl⟩) (fun r9 e9 => ?_)
  rw [e9]
  refine lv_if_eq (tgt := 23) hx hb dX11_climb_5 (by decide) (fun hc => ?_) (fun hc => ?_)
  · replace hf := wb_t hc hf
    exact J23 ls (lv_sub hl [0, 1, 2] rfl) hf
  · replace hf := wb_f hc hf
    refine lv_iload_n hx hb dX11_climb_8 rfl (lv_at hl 2 rfl) ?_
    refine lv_iconst (v := (0 : Int32)) hx hb dX11_climb_9 (by decide) ?_
    refine lv_sipush (v := (21599 : Int32)) hx hb dX11_climb_10 (by decide) ?_
    obtain ⟨r4, hr4, hf⟩ := wb_b hf
    refine vp_callSi (W.runS (As := [.int x2, .int (0 : Int32), .int (21599 : Int32)]) (rest := []) ⟨hx, hb, hml, hown, hts⟩ (cn_X11_within l D cB cI cZ N x2 (0 : Int32) (21599 : Int32) r4 hr4) (va_cwS 3 hts gyX11_climb_X11_within rfl rfl rfl csX11_within ⟨Nat.le_of_ble_eq_true rfl, Nat.le_of_ble_eq_true rfl⟩) (wb_preS (hP.sub (ws' := ([] : va_W)) [] rfl) hK) rfl rfl hl.1 rfl (lv_room (Nat.le_of_ble_eq_true rfl)) dX11_climb_13 ⟨Nat.le_of_ble_eq_true rfl, Nat.le_of_ble_eq_true rfl⟩) (fun r9 e9 => ?_)
    rw [e9]
    refine lv_if_eq (tgt := 23) hx hb dX11_climb_16 (by decide) (fun hc => ?_) (fun hc => ?_)
    · replace hf := wb_t hc hf
      exact J23 ls (lv_sub hl [0, 1, 2] rfl) hf
    · replace hf := wb_f hc hf
      refine lv_iconst (v := (1 : Int32)) hx hb dX11_climb_19 (by decide) ?_
      refine lv_goto (tgt := 24) hx hb dX11_climb_20 (by decide) ?_
      exact J24 (1 : Int32) ls (lv_sub hl [0, 1, 2] rfl) hf
set_option maxHeartbeats 4000000 in
set_option maxRecDepth 100000 in
theorem ct_X11_climb (l : Launch) (hlt : l.stackTraces = false) (D : va_G) (cB cI cZ : ClassId) (N : Nat) (a0 : Nat → Nat) (I0 : Nat → Int32) (M0 : Nat → Nat → Int32) (x1 : Int32) (x2 : Int32) (sz k : Nat) (hf : fX11_climb N I0 M0 x1 x2 = some (.inl k)) : vx_Met l yX11_climb wyX11_climb ({ frames := 7, cells := 1, slots := 6, locals := 140 }) (va_Pc [.ref (a0 0), .int x1, .int x2] (wb_preX D [(cB, .byte), (cI, .int), (cZ, .boolean)] (wWX11 cB cI cZ a0 I0 M0) sz)) (va_Qi (fun _ (_ : Unit) => False) (fun _ _ => True) (fun q => sz ≤ q)) (vx_X (fun _ : Unit => True) (fun E _ _ => E = wb_ex k) (fun q => sz ≤ q)) 1 6 (fun q => sz ≤ q) := by
  refine vx_ofW (cc := cX11_climb) (maxL := 3) (ret := (some .int)) (by decide) rfl ?_
  intro p e s m args below meth c s₁ B hml htab hv
  obtain ⟨rfl, hsz, hP, hK, hX⟩ := hv
  subst hsz
  have hx := B.exec
  have hb := B.bytes
  have hr := B.returns
  have hts := atoms_spec (ws := wyX11_climb) B.pre
  have hown : s.vm.findClass RX11 = some m.cls := (findClass_of_methodNamed B.named :)
  have hlocks := B.notSynchronized
  have hS : va_S (fun q => s.heap.size ≤ q) s.heap s.heap [] := va_S.rf
  have hl := lv_entry ([.ref (a0 0), .int x1, .int x2]) (n := 3) (Nat.le_of_ble_eq_true rfl)
  rw [lg_entry_eq]
  generalize (lg_sl ([.ref (a0 0), .int x1, .int x2]) ++ List.replicate (3 - (lg_sl ([.ref (a0 0), .int x1, .int x2])).length) Slot.unset).toArray = ls at hl ⊢
  have hl : lv_has ls 3 [(0, .ref (a0 0)), (1, .int x1), (2, .int x2)] := hl
  unfold fX11_climb at hf
  have J24 : ∀ (z24_0 : Int32), ∀ (ls : Array Slot), lv_has ls 3 [(0, .ref (a0 0)), (1, .int x1), (2, .int x2)] → fX11_climb_J24 N I0 M0 x1 x2 z24_0 = some (.inl k) → W p l e (headSpec wyX11_climb { frames := 7, cells := 1, slots := 6, locals := 140 }).room s m [.ref (a0 0), .int x1, .int x2].toArray below meth c s.heap [] 0 0 (vx_MQ below (va_Qi (fun _ (_ : Unit) => False) (fun _ _ => True) (fun q => s.heap.size ≤ q)) (vx_X (fun _ : Unit => True) (fun E _ _ => E = wb_ex k) (fun q => s.heap.size ≤ q)) [.ref (a0 0), .int x1, .int x2].toArray s 1 6 (fun q => s.heap.size ≤ q)) (F0 m 24 ls [.int z24_0]) := by
    intro z24_0 ls hl hf
    unfold fX11_climb_J24 at hf
    rcases wb_xt hf with hrx | ⟨r1, hr1, hf⟩
    · refine vx_callv (vx_runS (As := [.int z24_0]) (rest := []) ⟨hx, hb, hml, hown, hts⟩ (ct_X11_need l hlt D cB cI cZ N z24_0 s.heap.size k hrx) (va_cwS 1 hts gyX11_climb_X11_need rfl rfl rfl csX11_need ⟨Nat.le_of_ble_eq_true rfl, Nat.le_of_ble_eq_true rfl⟩) (wb_preXS (hP.sub (ws' := ([] : va_W)) [] rfl) hK hX) rfl rfl hl.1 rfl (lv_room (Nat.le_of_ble_eq_true rfl)) dX11_climb_24 ⟨Nat.le_of_ble_eq_true rfl, Nat.le_of_ble_eq_true rfl⟩) hS (fun q _ h => h) (fun _ h => h) (fun q _ h => h) (fun E ce q9 u t H locs ht hvm hpx hB hz1 hk1 hS hq9 hv9 hc9 => ?_) (fun u t H locs ht hvm hw hB hz1 hk1 hS => hw.elim)
      exact vx_out (fun x hx9 => (htab x hx9).elim) hlocks hq9 hv9 hc9 (fun t9 ht9 hvm9 => ⟨(), trivial, hB, hS.F ht9⟩) hS.2.2 (Nat.le_of_ble_eq_true rfl) (Nat.le_of_ble_eq_true rfl)
    refine va_csv (W.runS (As := [.int z24_0]) (rest := []) ⟨hx, hb, hml, hown, hts⟩ (cn_X11_need l D cB cI cZ N z24_0 r1 hr1) (va_cwS 1 hts gyX11_climb_X11_need rfl rfl rfl csX11_need ⟨Nat.le_of_ble_eq_true rfl, Nat.le_of_ble_eq_true rfl⟩) (wb_preS (hP.sub (ws' := ([] : va_W)) [] rfl) hK) rfl rfl hl.1 rfl (lv_room (Nat.le_of_ble_eq_true rfl)) dX11_climb_24 ⟨Nat.le_of_ble_eq_true rfl, Nat.le_of_ble_eq_true rfl⟩) (fun _ => ?_)
    exact absurd hf wb_okn
  have J23 : ∀ (ls : Array Slot), lv_has ls 3 [(0, .ref (a0 0)), (1, .int x1), (2, .int x2)] → fX11_climb_J23 N I0 M0 x1 x2 = some (.inl k) → W p l e (headSpec wyX11_climb { frames := 7, cells := 1, slots := 6, locals := 140 }).room s m [.ref (a0 0), .int x1, .int x2].toArray below meth c s.heap [] 0 0 (vx_MQ below (va_Qi (fun _ (_ : Unit) => False) (fun _ _ => True) (fun q => s.heap.size ≤ q)) (vx_X (fun _ : Unit => True) (fun E _ _ => E = wb_ex k) (fun q => s.heap.size ≤ q)) [.ref (a0 0), .int x1, .int x2].toArray s 1 6 (fun q => s.heap.size ≤ q)) (F0 m 23 ls []) := by
    intro ls hl hf
    unfold fX11_climb_J23 at hf
    refine lv_iconst (v := (0 : Int32)) hx hb dX11_climb_23 (by decide) ?_
    exact J24 (0 : Int32) ls (lv_sub hl [0, 1, 2] rfl) hf
  refine lv_aload_n hx hb dX11_climb_0 rfl (lv_at hl 0 rfl) ?_
  refine lv_iload_n hx hb dX11_climb_1 rfl (lv_at hl 1 rfl) ?_
  obtain ⟨r2, hr2, hf⟩ := wb_b hf
  refine vp_callSi (W.runV (As := [.int x1]) (rest := []) ⟨hx, hb, hml, hown, hts⟩ (cn_X11_isClimate l D cB cI cZ N a0 I0 M0 x1 r2 hr2) (cwV 1 hts gyX11_climb_X11_isClimate rfl rfl rfl cdX11_isClimate ⟨Nat.le_of_ble_eq_true rfl, Nat.le_of_ble_eq_true rfl⟩) (wb_preV hP hK (wr_11 hK hP (q0 := 0) rfl)) rfl rfl hl.1 rfl (lv_room (Nat.le_of_ble_eq_true rfl)) dX11_climb_2 ⟨Nat.le_of_ble_eq_true rfl, Nat.le_of_ble_eq_true rfl⟩) (fun r9 e9 => ?_)
  rw [e9]
  refine lv_if_eq (tgt := 23) hx hb dX11_climb_5 (by decide) (fun hc => ?_) (fun hc => ?_)
  · replace hf := wb_t hc hf
    exact J23 ls (lv_sub hl [0, 1, 2] rfl) hf
  · replace hf := wb_f hc hf
    refine lv_iload_n hx hb dX11_climb_8 rfl (lv_at hl 2 rfl) ?_
    refine lv_iconst (v := (0 : Int32)) hx hb dX11_climb_9 (by decide) ?_
    refine lv_sipush (v := (21599 : Int32)) hx hb dX11_climb_10 (by decide) ?_
    obtain ⟨r3, hr3, hf⟩ := wb_b hf
    refine vp_callSi (W.runS (As := [.int x2, .int (0 : Int32), .int (21599 : Int32)]) (rest := []) ⟨hx, hb, hml, hown, hts⟩ (cn_X11_within l D cB cI cZ N x2 (0 : Int32) (21599 : Int32) r3 hr3) (va_cwS 3 hts gyX11_climb_X11_within rfl rfl rfl csX11_within ⟨Nat.le_of_ble_eq_true rfl, Nat.le_of_ble_eq_true rfl⟩) (wb_preS (hP.sub (ws' := ([] : va_W)) [] rfl) hK) rfl rfl hl.1 rfl (lv_room (Nat.le_of_ble_eq_true rfl)) dX11_climb_13 ⟨Nat.le_of_ble_eq_true rfl, Nat.le_of_ble_eq_true rfl⟩) (fun r9 e9 => ?_)
    rw [e9]
    refine lv_if_eq (tgt := 23) hx hb dX11_climb_16 (by decide) (fun hc => ?_) (fun hc => ?_)
    · replace hf := wb_t hc hf
      exact J23 ls (lv_sub hl [0, 1, 2] rfl) hf
    · replace hf := wb_f hc hf
      refine lv_iconst (v := (1 : Int32)) hx hb dX11_climb_19 (by decide) ?_
      refine lv_goto (tgt := 24) hx hb dX11_climb_20 (by decide) ?_
      exact J24 (1 : Int32) ls (lv_sub hl [0, 1, 2] rfl) hf
