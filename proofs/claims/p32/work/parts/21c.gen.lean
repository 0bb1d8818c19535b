set_option maxHeartbeats 4000000 in
set_option maxRecDepth 100000 in
theorem cn_X11_rise (l : Launch) (D : va_G) (cB cI cZ : ClassId) (N : Nat) (a0 : Nat → Nat) (I0 : Nat → Int32) (M0 : Nat → Nat → Int32) (x1 : Int32) (x2 : Int32) (x3 : Int32) (R : Int32) (hf : fX11_rise N I0 M0 x1 x2 x3 = some (.inr R)) : Met l yX11_rise wyX11_rise ({ frames := 7, cells := 0, slots := 0, locals := 140 }) (va_Pc [.ref (a0 0), .int x1, .int x2, .int x3] (wb_pre D [(cB, .byte), (cI, .int), (cZ, .boolean)] (wWX11 cB cI cZ a0 I0 M0))) (vp_Si (fun r => r = R)) 0 0 (fun _ => False) := by
  refine Met.ofW (cc := cX11_rise) (maxL := 4) (ret := (some .int)) pn_X11 rfl ?_
  intro p e s m args below meth c s₁ B hml hv
  obtain ⟨rfl, hP, hK⟩ := hv
  have hx := B.exec
  have hb := B.bytes
  have hr := B.returns
  have hts := atoms_spec (ws := wyX11_rise) B.pre
  have hown : s.vm.findClass RX11 = some m.cls := (findClass_of_methodNamed B.named :)
  have hlocks := B.notSynchronized
  have hinX11 : ∀ w ∈ u_ws RX11 TX11 13, w ∈ wyX11_rise := fun w h => List.mem_cons_of_mem _ (List.mem_append_left _ (List.mem_append_left _ (List.mem_append_left _ (List.mem_append_right _ h))))
  have hinX5 : ∀ w ∈ u_ws RX5 TX5 6, w ∈ wyX11_rise := fun w h => List.mem_cons_of_mem _ (List.mem_append_left _ (List.mem_append_left _ (List.mem_append_right _ h)))
  have hl := lv_entry ([.ref (a0 0), .int x1, .int x2, .int x3]) (n := 4) (Nat.le_of_ble_eq_true rfl)
  rw [lg_entry_eq]
  generalize (lg_sl ([.ref (a0 0), .int x1, .int x2, .int x3]) ++ List.replicate (4 - (lg_sl ([.ref (a0 0), .int x1, .int x2, .int x3])).length) Slot.unset).toArray = ls at hl ⊢
  have hl : lv_has ls 4 [(0, .ref (a0 0)), (1, .int x1), (2, .int x2), (3, .int x3)] := hl
  unfold fX11_rise at hf
  have J35 : ∀ (z35_0 : Int32), ∀ (ls : Array Slot), lv_has ls 4 [(0, .ref (a0 0)), (1, .int x1), (2, .int x2), (3, .int x3)] → fX11_rise_J35 N I0 M0 x1 x2 x3 z35_0 = some (.inr R) → W p l e (headSpec wyX11_rise { frames := 7, cells := 0, slots := 0, locals := 140 }).room s m [.ref (a0 0), .int x1, .int x2, .int x3].toArray below meth c s.heap [] 0 0 (MQ below (vp_Si (fun r => r = R)) [.ref (a0 0), .int x1, .int x2, .int x3].toArray s 0 0 (fun _ => False)) (F0 m 35 ls [.int z35_0]) := by
    intro z35_0 ls hl hf
    unfold fX11_rise_J35 at hf
    obtain ⟨r1, hr1, hf⟩ := wb_xr hf
    refine va_csv (W.runS (As := [.int z35_0]) (rest := []) ⟨hx, hb, hml, hown, hts⟩ (cn_X11_need l D cB cI cZ N z35_0 r1 hr1) (va_cwS 1 hts gyX11_rise_X11_need rfl rfl rfl csX11_need ⟨Nat.le_of_ble_eq_true rfl, Nat.le_of_ble_eq_true rfl⟩) (wb_preS (hP.sub (ws' := ([] : va_W)) [] rfl) hK) rfl rfl hl.1 rfl (lv_room (Nat.le_of_ble_eq_true rfl)) dX11_rise_35 ⟨Nat.le_of_ble_eq_true rfl, Nat.le_of_ble_eq_true rfl⟩) (fun _ => ?_)
    replace hf := wb_okr hf
    refine lv_aload_n hx hb dX11_rise_38 rfl (lv_at hl 0 rfl) ?_
    refine va_get (D := D) (ci := 11) (v := .ref (a0 3)) (C := RX11) (T := TX11) (N := 13) hx hb hts hinX11 hown hK hP 0 rfl rfl 1 (by decide) (hts (.fieldLink RX11 19 "WheelBook" "told" "LWheelBook$House;") (List.mem_of_getElem? (i := 1) rfl)) (fun _ h9 => h9) rfl dX11_rise_39 ?_
    refine va_get (D := D) (ci := 5) (v := .ref (a0 8)) (C := RX5) (T := TX5) (N := 6) hx hb hts hinX5 hown hK hP 3 rfl rfl 4 (by decide) (hts (.fieldLink RX11 131 "WheelBook$House" "climates" "LWheelBook$Climates;") (List.mem_of_getElem? (i := 2) rfl)) (fun _ h9 => h9) rfl dX11_rise_42 ?_
    refine lv_iload_n hx hb dX11_rise_45 rfl (lv_at hl 1 rfl) ?_
    refine lv_iload_n hx hb dX11_rise_46 rfl (lv_at hl 2 rfl) ?_
    refine lv_iload_n hx hb dX11_rise_47 rfl (lv_at hl 3 rfl) ?_
    obtain ⟨r2, hr2, hf⟩ := wb_b hf
    refine vp_callSi (W.runV (As := [.int x1, .int x2, .int x3]) (rest := []) ⟨hx, hb, hml, hown, hts⟩ (cn_X2_risingAt l D cB cI cZ N (wb_sh a0 8) (wb_sh I0 9) (wb_sh M0 5) x1 x2 x3 r2 hr2) (cwV 3 hts gyX11_rise_X2_risingAt rfl rfl rfl cdX2_risingAt ⟨Nat.le_of_ble_eq_true rfl, Nat.le_of_ble_eq_true rfl⟩) (wb_preV (hP.sub (ws' := (wWX2 cB cI cZ (wb_sh a0 8) (wb_sh I0 9) (wb_sh M0 5))) [8, 9] rfl) hK (wr_2 hK hP (q0 := 8) rfl)) rfl rfl hl.1 rfl (lv_room (Nat.le_of_ble_eq_true rfl)) dX11_rise_48 ⟨Nat.le_of_ble_eq_true rfl, Nat.le_of_ble_eq_true rfl⟩) (fun r9 e9 => ?_)
    rw [e9]
    exact W.iret (v := r2) hx hb hr (fun t ht hW => ⟨_, rfl, Option.some.inj hf, ht⟩) (fun _ h => nomatch h) dX11_rise_51
  have J34 : ∀ (ls : Array Slot), lv_has ls 4 [(0, .ref (a0 0)), (1, .int x1), (2, .int x2), (3, .int x3)] → fX11_rise_J34 N I0 M0 x1 x2 x3 = some (.inr R) → W p l e (headSpec wyX11_rise { frames := 7, cells := 0, slots := 0, locals := 140 }).room s m [.ref (a0 0), .int x1, .int x2, .int x3].toArray below meth c s.heap [] 0 0 (MQ below (vp_Si (fun r => r = R)) [.ref (a0 0), .int x1, .int x2, .int x3].toArray s 0 0 (fun _ => False)) (F0 m 34 ls []) := by
    intro ls hl hf
    unfold fX11_rise_J34 at hf
    refine lv_iconst (v := (0 : Int32)) hx hb dX11_rise_34 (by decide) ?_
    exact J35 (0 : Int32) ls (lv_sub hl [0, 1, 2, 3] rfl) hf
  refine lv_aload_n hx hb dX11_rise_0 rfl (lv_at hl 0 rfl) ?_
  refine lv_iload_n hx hb dX11_rise_1 rfl (lv_at hl 1 rfl) ?_
  obtain ⟨r3, hr3, hf⟩ := wb_b hf
  refine vp_callSi (W.runV (As := [.int x1]) (rest := []) ⟨hx, hb, hml, hown, hts⟩ (cn_X11_isClimate l D cB cI cZ N a0 I0 M0 x1 r3 hr3) (cwV 1 hts gyX11_rise_X11_isClimate rfl rfl rfl cdX11_isClimate ⟨Nat.le_of_ble_eq_true rfl, Nat.le_of_ble_eq_true rfl⟩) (wb_preV hP hK (wr_11 hK hP (q0 := 0) rfl)) rfl rfl hl.1 rfl (lv_room (Nat.le_of_ble_eq_true rfl)) dX11_rise_2 ⟨Nat.le_of_ble_eq_true rfl, Nat.le_of_ble_eq_true rfl⟩) (fun r9 e9 => ?_)
  rw [e9]
  refine lv_if_eq (tgt := 34) hx hb dX11_rise_5 (by decide) (fun hc => ?_) (fun hc => ?_)
  · replace hf := wb_t hc hf
    exact J34 ls (lv_sub hl [0, 1, 2, 3] rfl) hf
  · replace hf := wb_f hc hf
    refine lv_iload_n hx hb dX11_rise_8 rfl (lv_at hl 2 rfl) ?_
    refine lv_iconst (v := (0 : Int32)) hx hb dX11_rise_9 (by decide) ?_
    refine lv_sipush (v := (21599 : Int32)) hx hb dX11_rise_10 (by decide) ?_
    obtain ⟨r4, hr4, hf⟩ := wb_b hf
    refine vp_callSi (W.runS (As := [.int x2, .int (0 : Int32), .int (21599 : Int32)]) (rest := []) ⟨hx, hb, hml, hown, hts⟩ (cn_X11_within l D cB cI cZ N x2 (0 : Int32) (21599 : Int32) r4 hr4) (va_cwS 3 hts gyX11_rise_X11_within rfl rfl rfl csX11_within ⟨Nat.le_of_ble_eq_true rfl, Nat.le_of_ble_eq_true rfl⟩) (wb_preS (hP.sub (ws' := ([] : va_W)) [] rfl) hK) rfl rfl hl.1 rfl (lv_room (Nat.le_of_ble_eq_true rfl)) dX11_rise_13 ⟨Nat.le_of_ble_eq_true rfl, Nat.le_of_ble_eq_true rfl⟩) (fun r9 e9 => ?_)
    rw [e9]
    refine lv_if_eq (tgt := 34) hx hb dX11_rise_16 (by decide) (fun hc => ?_) (fun hc => ?_)
    · replace hf := wb_t hc hf
      exact J34 ls (lv_sub hl [0, 1, 2, 3] rfl) hf
    · replace hf := wb_f hc hf
      refine lv_iload_n hx hb dX11_rise_19 rfl (lv_at hl 3 rfl) ?_
      refine lv_iconst (v := (0 : Int32)) hx hb dX11_rise_20 (by decide) ?_
      refine lv_sipush (v := (359 : Int32)) hx hb dX11_rise_21 (by decide) ?_
      obtain ⟨r5, hr5, hf⟩ := wb_b hf
      refine vp_callSi (W.runS (As := [.int x3, .int (0 : Int32), .int (359 : Int32)]) (rest := []) ⟨hx, hb, hml, hown, hts⟩ (cn_X11_within l D cB cI cZ N x3 (0 : Int32) (359 : Int32) r5 hr5) (va_cwS 3 hts gyX11_rise_X11_within rfl rfl rfl csX11_within ⟨Nat.le_of_ble_eq_true rfl, Nat.le_of_ble_eq_true rfl⟩) (wb_preS (hP.sub (ws' := ([] : va_W)) [] rfl) hK) rfl rfl hl.1 rfl (lv_room (Nat.le_of_ble_eq_true rfl)) dX11_rise_24 ⟨Nat.le_of_ble_eq_true rfl, Nat.le_of_ble_eq_true rfl⟩) (fun r9 e9 => ?_)
      rw [e9]
      refine lv_if_eq (tgt := 34) hx hb dX11_rise_27 (by decide) (fun hc => ?_) (fun hc => ?_)
      · replace hf := wb_t hc hf
        exact J34 ls (lv_sub hl [0, 1, 2, 3] rfl) hf
      · replace hf := wb_f hc hf
        refine lv_iconst (v := (1 : Int32)) hx hb dX11_rise_30 (by decide) ?_
        refine lv_goto (tgt := 35) hx hb dX11_rise_31 (by decide) ?_
        exact J35 (1 : Int32) ls (lv_sub hl [0, 1, 2, 3] rfl) hf
set_option maxHeartbeats 4000000 in
set_option maxRecDepth 100000 in
theorem ct_X11_rise (l : Launch) (hlt : l.stackTraces = false) (D : va_G) (cB cI cZ : ClassId) (N : Nat) (a0 : Nat → Nat) (I0 : Nat → Int32) (M0 : Nat → Nat → Int32) (x1 : Int32) (x2 : Int32) (x3 : Int32) (sz k : Nat) (hf : fX11_rise N I0 M0 x1 x2 x3 = some (.inl k)) : vx_Met l yX11_rise wyX11_rise ({ frames := 7, cells := 1, slots := 6, locals := 140 }) (va_Pc [.ref (a0 0), .int x1, .int x2, .int x3] (wb_preX D [(cB, .byte), (cI, .int), (cZ, .boolean)] (wWX11 cB cI cZ a0 I0 M0) sz)) (va_Qi (fun _ (_ : Unit) => False) (fun _ _ => True) (fun q => sz ≤ q)) (vx_X (fun _ : Unit => True) (fun E _ _ => E = wb_ex k) (fun q => sz ≤ q)) 1 6 (fun q => sz ≤ q) := by
  refine vx_ofW (cc := cX11_rise) (maxL := 4) (ret := (some .int)) (by decide) rfl ?_
  intro p e s m args below meth c s₁ B hml htab hv
  obtain ⟨rfl, hsz, hP, hK, hX⟩ := hv
  subst hsz
  have hx := B.exec
  have hb := B.bytes
  have hr := B.returns
  have hts := atoms_spec (ws := wyX11_rise) B.pre
  have hown : s.vm.findClass RX11 = some m.cls := (findClass_of_methodNamed B.named :)
  have hlocks := B.notSynchronized
  have hS : va_S (fun q => s.heap.size ≤ q) s.heap s.heap [] := va_S.rf
  have hl := lv_entry ([.ref (a0 0), .int x1, .int x2, .int x3]) (n := 4) (Nat.le_of_ble_eq_true rfl)
  rw [lg_entry_eq]
  generalize (lg_sl ([.ref (a0 0), .int x1, .int x2, .int x3]) ++ List.replicate (4 - (lg_sl ([.ref (a0 0), .int x1, .int x2, .int x3])).length) Slot.unset).toArray = ls at hl ⊢
  have hl : lv_has ls 4 [(0, .ref (a0 0)), (1, .int x1), (2, .int x2), (3, .int x3)] := hl
  unfold fX11_rise at hf
  have J35 : ∀ (z35_0 : Int32), ∀ (ls : Array Slot), lv_has ls 4 [(0, .ref (a0 0)), (1, .int x1), (2, .int x2), (3, .int x3)] → fX11_rise_J35 N I0 M0 x1 x2 x3 z35_0 = some (.inl k) → W p l e (headSpec wyX11_rise { frames := 7, cells := 1, slots := 6, locals := 140 }).room s m [.ref (a0 0), .int x1, .int x2, .int x3].toArray below meth c s.heap [] 0 0 (vx_MQ below (va_Qi (fun _ (_ : Unit) => False) (fun _ _ => True) (fun q => s.heap.size ≤ q)) (vx_X (fun _ : Unit => True) (fun E _ _ => E = wb_ex k) (fun q => s.heap.size ≤ q)) [.ref (a0 0), .int x1, .int x2, .int x3].toArray s 1 6 (fun q => s.heap.size ≤ q)) (F0 m 35 ls [.int z35_0]) := by
    intro z35_0 ls hl hf
    unfold fX11_rise_J35 at hf
    rcases wb_xt hf with hrx | ⟨r1, hr1, hf⟩
    · refine vx_callv (vx_runS (As := [.int z35_0]) (rest := []) ⟨hx, hb, hml, hown, hts⟩ (ct_X11_need l hlt D cB cI cZ N z35_0 s.heap.size k hrx) (va_cwS 1 hts gyX11_rise_X11_need rfl rfl rfl csX11_need ⟨Nat.le_of_ble_eq_true rfl, Nat.le_of_ble_eq_true rfl⟩) (wb_preXS (hP.sub (ws' := ([] : va_W)) [] rfl) hK hX) rfl rfl hl.1 rfl (lv_room (Nat.le_of_ble_eq_true rfl)) dX11_rise_35 ⟨Nat.le_of_ble_eq_true rfl, Nat.le_of_ble_eq_true rfl⟩) hS (fun q _ h => h) (fun _ h => h) (fun q _ h => h) (fun E ce q9 u t H locs ht hvm hpx hB hz1 hk1 hS hq9 hv9 hc9 => ?_) (fun u t H locs ht hvm hw hB hz1 hk1 hS => hw.elim)
      exact vx_out (fun x hx9 => (htab x hx9).elim) hlocks hq9 hv9 hc9 (fun t9 ht9 hvm9 => ⟨(), trivial, hB, hS.F ht9⟩) hS.2.2 (Nat.le_of_ble_eq_true rfl) (Nat.le_of_ble_eq_true rfl)
    refine va_csv (W.runS (As := [.int z35_0]) (rest := []) ⟨hx, hb, hml, hown, hts⟩ (cn_X11_need l D cB cI cZ N z35_0 r1 hr1) (va_cwS 1 hts gyX11_rise_X11_need rfl rfl rfl csX11_need ⟨Nat.le_of_ble_eq_true rfl, Nat.le_of_ble_eq_true rfl⟩) (wb_preS (hP.sub (ws' := ([] : va_W)) [] rfl) hK) rfl rfl hl.1 rfl (lv_room (Nat.le_of_ble_eq_true rfl)) dX11_rise_35 ⟨Nat.le_of_ble_eq_true rfl, Nat.le_of_ble_eq_true rfl⟩) (fun _ => ?_)
    exact absurd hf wb_okn
  have J34 : ∀ (ls : Array Slot), lv_has ls 4 [(0, .ref (a0 0)), (1, .int x1), (2, .int x2), (3, .int x3)] → fX11_rise_J34 N I0 M0 x1 x2 x3 = some (.inl k) → W p l e (headSpec wyX11_rise { frames := 7, cells := 1, slots := 6, locals := 140 }).room s m [.ref (a0 0), .int x1, .int x2, .int x3].toArray below meth c s.heap [] 0 0 (vx_MQ below (va_Qi (fun _ (_ : Unit) => False) (fun _ _ => True) (fun q => s.heap.size ≤ q)) (vx_X (fun _ : Unit => True) (fun E _ _ => E = wb_ex k) (fun q => s.heap.size ≤ q)) [.ref (a0 0), .int x1, .int x2, .int x3].toArray s 1 6 (fun q => s.heap.size ≤ q)) (F0 m 34 ls []) := by
    intro ls hl hf
    unfold fX11_rise_J34 at hf
    refine lv_iconst (v := (0 : Int32)) hx hb dX11_rise_34 (by decide) ?_
    exact J35 (0 : Int32) ls (lv_sub hl [0, 1, 2, 3] rfl) hf
  refine lv_aload_n hx hb dX11_rise_0 rfl (lv_at hl 0 rfl) ?_
  refine lv_iload_n hx hb dX11_rise_1 rfl (lv_at hl 1 rfl) ?_
  obtain ⟨r2, hr2, hf⟩ := wb_b hf
  refine vp_callSi (W.runV (As := [.int x1]) (rest := []) ⟨hx, hb, hml, hown, hts⟩ (cn_X11_isClimate l D cB cI cZ N a0 I0 M0 x1 r2 hr2) (cwV 1 hts gyX11_rise_X11_isClimate rfl rfl rfl cdX11_isClimate ⟨Nat.le_of_ble_eq_true rfl, Nat.le_of_ble_eq_true rfl⟩) (wb_preV hP hK (wr_11 hK hP (q0 := 0) rfl)) rfl rfl hl.1 rfl (lv_room (Nat.le_of_ble_eq_true rfl)) dX11_rise_2 ⟨Nat.le_of_ble_eq_true rfl, Nat.le_of_ble_eq_true rfl⟩) (fun r9 e9 => ?_)
  rw [e9]
  refine lv_if_eq (tgt := 34) hx hb dX11_rise_5 (by decide) (fun hc => ?_) (fun hc => ?_)
  · replace hf := wb_t hc hf
    exact J34 ls (lv_sub hl [0, 1, 2, 3] rfl) hf
  · replace hf := wb_f hc hf
    refine lv_iload_n hx hb dX11_rise_8 rfl (lv_at hl 2 rfl) ?_
    refine lv_iconst (v := (0 : Int32)) hx hb dX11_rise_9 (by decide) ?_
    refine lv_sipush (v := (21599 : Int32)) hx hb dX11_rise_10 (by decide) ?_
    obtain ⟨r3, hr3, hf⟩ := wb_b hf
    refine vp_callSi (W.runS (As := [.int x2, .int (0 : Int32), .int (21599 : Int32)]) (rest := []) ⟨hx, hb, hml, hown, hts⟩ (cn_X11_within l D cB cI cZ N x2 (0 : Int32) (21599 : Int32) r3 hr3) (va_cwS 3 hts gyX11_rise_X11_within rfl rfl rfl csX11_within ⟨Nat.le_of_ble_eq_true rfl, Nat.le_of_ble_eq_true rfl⟩) (wb_preS (hP.sub (ws' := ([] : va_W)) [] rfl) hK) rfl rfl hl.1 rfl (lv_room (Nat.le_of_ble_eq_true rfl)) dX11_rise_13 ⟨Nat.le_of_ble_eq_true rfl, Nat.le_of_ble_eq_true rfl⟩) (fun r9 e9 => ?_)
    rw [e9]
    refine lv_if_eq (tgt := 34) hx hb dX11_rise_16 (by decide) (fun hc => ?_) (fun hc => ?_)
    · replace hf := wb_t hc hf
      exact J34 ls (lv_sub hl [0, 1, 2, 3] rfl) hf
    · replace hf := wb_f hc hf
      refine lv_iload_n hx hb dX11_rise_19 rfl (lv_at hl 3 rfl) ?_
      refine lv_iconst (v := (0 : Int32)) hx hb dX11_rise_20 (by decide) ?_
      refine lv_sipush (v := (359 : Int32)) hx hb dX11_rise_21 (by decide) ?_
      obtain ⟨r4, hr4, hf⟩ := wb_b hf
      refine vp_callSi (W.runS (As := [.int x3, .int (0 : Int32), .int (359 : Int32)]) (rest := []) ⟨hx, hb, hml, hown, hts⟩ (cn_X11_within l D cB cI cZ N x3 (0 : Int32) (359 : Int32) r4 hr4) (va_cwS 3 hts gyX11_rise_X11_within rfl rfl rfl csX11_within ⟨Nat.le_of_ble_eq_true rfl, Nat.le_of_ble_eq_true rfl⟩) (wb_preS (hP.sub (ws' := ([] : va_W)) [] rfl) hK) rfl rfl hl.1 rfl (lv_room (Nat.le_of_ble_eq_true rfl)) dX11_rise_24 ⟨Nat.le_of_ble_eq_true rfl, Nat.le_of_ble_eq_true rfl⟩) (fun r9 e9 => ?_)
      rw [e9]
      refine lv_if_eq (tgt := 34) hx hb dX11_rise_27 (by decide) (fun hc => ?_) (fun hc => ?_)
      · replace hf := wb_t hc hf
        exact J34 ls (lv_sub hl [0, 1, 2, 3] rfl) hf
      · replace hf := wb_f hc hf
        refine lv_iconst (v := (1 : Int32)) hx hb dX11_rise_30 (by decide) ?_
        refine lv_goto (tgt := 35) hx hb dX11_rise_31 (by decide) ?_
        exact J35 (1 : Int32) ls (lv_sub hl [0, 1, 2, 3] rfl) hf

set_option maxHeartbeats 4000000 in
set_option maxRecDepth 100000 in
theorem cn_X11_middle (l : Launch) (D : va_G) (cB cI cZ : ClassId) (N : Nat) (a0 : Nat → Nat) (I0 : Nat → Int32) (M0 : Nat → Nat → Int32) (x1 : Int32) (x2 : Int32) (R : Int32) (hf : fX11_middle N I0 M0 x1 x2 = some (.inr R)) : Met l yX11_middle wyX11_middle ({ frames := 7, cells := 0, slots := 0, locals := 140 }) (va_Pc [.ref (a0 0), .int x1, .int x2] (wb_pre D [(cB, .byte), (cI, .int), (cZ, .boolean)] (wWX11 cB cI cZ a0 I0 M0))) (vp_Si (fun r => r = R)) 0 0 (fun _ => False) := by
  refine Met.ofW (cc := cX11_middle) (maxL := 3) (ret := (some .int)) pn_X11 rfl ?_
  intro p e s m args below meth c s₁ B hml hv
  obtain ⟨rfl, hP, hK⟩ := hv
  have hx := B.exec
  have hb := B.bytes
  have hr := B.returns
  have hts := atoms_spec (ws := wyX11_middle) B.pre
  have hown : s.vm.findClass RX11 = some m.cls := (findClass_of_methodNamed B.named :)
  have hlocks := B.notSynchronized
  have hinX11 : ∀ w ∈ u_ws RX11 TX11 13, w ∈ wyX11_middle := fun w h => List.mem_cons_of_mem _ (List.mem_append_left _ (List.mem_append_left _ (List.mem_append_left _ (List.mem_append_right _ h))))
  have hinX5 : ∀ w ∈ u_ws RX5 TX5 6, w ∈ wyX11_middle := fun w h => List.mem_cons_of_mem _ (List.mem_append_left _ (List.mem_append_left _ (List.mem_append_right _ h)))
  have hl := lv_entry ([.ref (a0 0), .int x1, .int x2]) (n := 3) (Nat.le_of_ble_eq_true rfl)
  rw [lg_entry_eq]
  generalize (lg_sl ([.ref (a0 0), .int x1, .int x2]) ++ List.replicate (3 - (lg_sl ([.ref (a0 0), .int x1, .int x2])).length) Slot.unset).toArray = ls at hl ⊢
  have hl : lv_has ls 3 [(0, .ref (a0 0)), (1, .int x1), (2, .int x2)] := hl
  unfold fX11_middle at hf
  have J24 : ∀ (z24_0 : Int32), ∀ (ls : Array Slot), lv_has ls 3 [(0, .ref (a0 0)), (1, .int x1), (2, .int x2)] → fX11_middle_J24 N I0 M0 x1 x2 z24_0 = some (.inr R) → W p l e (headSpec wyX11_middle { frames := 7, cells := 0, slots := 0, locals := 140 }).room s m [.ref (a0 0), .int x1, .int x2].toArray below meth c s.heap [] 0 0 (MQ below (vp_Si (fun r => r = R)) [.ref (a0 0), .int x1, .int x2].toArray s 0 0 (fun _ => False)) (F0 m 24 ls [.int z24_0]) := by
    intro z24_0 ls hl hf
    unfold fX11_middle_J24 at hf
    obtain ⟨r1, hr1, hf⟩ := wb_xr hf
    refine va_csv (W.runS (As := [.int z24_0]) (rest := []) ⟨hx, hb, hml, hown, hts⟩ (cn_X11_need l D cB cI cZ N z24_0 r1 hr1) (va_cwS 1 hts gyX11_middle_X11_need rfl rfl rfl csX11_need ⟨Nat.le_of_ble_eq_true rfl, Nat.le_of_ble_eq_true rfl⟩) (wb_preS (hP.sub (ws' := ([] : va_W)) [] rfl) hK) rfl rfl hl.1 rfl (lv_room (Nat.le_of_ble_eq_true rfl)) dX11_middle_24 ⟨Nat.le_of_ble_eq_true rfl, Nat.le_of_ble_eq_true rfl⟩) (fun _ => ?_)
    replace hf := wb_okr hf
    refine lv_aload_n hx hb dX11_middle_27 rfl (lv_at hl 0 rfl) ?_
    refine va_get (D := D) (ci := 11) (v := .ref (a0 3)) (C := RX11) (T := TX11) (N := 13) hx hb hts hinX11 hown hK hP 0 rfl rfl 1 (by decide) (hts (.fieldLink RX11 19 "WheelBook" "told" "LWheelBook$House;") (List.mem_of_getElem? (i := 1) rfl)) (fun _ h9 => h9) rfl dX11_middle_28 ?_
    refine va_get (D := D) (ci := 5) (v := .ref (a0 8)) (C := RX5) (T := TX5) (N := 6) hx hb hts hinX5 hown hK hP 3 rfl rfl 4 (by decide) (hts (.fieldLink RX11 131 "WheelBook$House" "climates" "LWheelBook$Climates;") (List.mem_of_getElem? (i := 2) rfl)) (fun _ h9 => h9) rfl dX11_middle_31 ?_
    refine lv_iload_n hx hb dX11_middle_34 rfl (lv_at hl 1 rfl) ?_
    refine lv_iload_n hx hb dX11_middle_35 rfl (lv_at hl 2 rfl) ?_
    obtain ⟨r2, hr2, hf⟩ := wb_b hf
    refine vp_callSi (W.runV (As := [.int x1, .int x2]) (rest := []) ⟨hx, hb, hml, hown, hts⟩ (cn_X2_middleOf l D cB cI cZ N (wb_sh a0 8) (wb_sh I0 9) (wb_sh M0 5) x1 x2 r2 hr2) (cwV 2 hts gyX11_middle_X2_middleOf rfl rfl rfl cdX2_middleOf ⟨Nat.le_of_ble_eq_true rfl, Nat.le_of_ble_eq_true rfl⟩) (wb_preV (hP.sub (ws' := (wWX2 cB cI cZ (wb_sh a0 8) (wb_sh I0 9) (wb_sh M0 5))) [8, 9] rfl) hK (wr_2 hK hP (q0 := 8) rfl)) rfl rfl hl.1 rfl (lv_room (Nat.le_of_ble_eq_true rfl)) dX11_middle_36 ⟨Nat.le_of_ble_eq_true rfl, Nat.le_of_ble_eq_true rfl⟩) (fun r9 e9 => ?_)
    rw [e9]
    exact W.iret (v := r2) hx hb hr (fun t ht hW => ⟨_, rfl, Option.some.inj hf, ht⟩) (fun _ h => nomatch h) dX11_middle_39
  have J23 : ∀ (ls : Array Slot), lv_has ls 3 [(0, .ref (a0 0)), (1, .int x1), (2, .int x2)] → fX11_middle_J23 N I0 M0 x1 x2 = some (.inr R) → W p l e (headSpec wyX11_middle { frames := 7, cells := 0, slots := 0, locals := 140 }).room s m [.ref (a0 0), .int x1, .int x2].toArray below meth c s.heap [] 0 0 (MQ below (vp_Si (fun r => r = R)) [.ref (a0 0), .int x1, .int x2].toArray s 0 0 (fun _ => False)) (F0 m 23 ls []) := by
    intro ls hl hf
    unfold fX11_middle_J23 at hf
    refine lv_iconst (v := (0 : Int32)) hx hb dX11_middle_23 (by decide) ?_
    exact J24 (0 : Int32) ls (lv_sub hl [0, 1, 2] rfl) hf
  refine lv_aload_n hx hb dX11_middle_0 rfl (lv_at hl 0 rfl) ?_
  refine lv_iload_n hx hb dX11_middle_1 rfl (lv_at hl 1 rfl) ?_
  obtain ⟨r3, hr3, hf⟩ := wb_b hf
  refine vp_callSi (W.runV (As := [.int x1]) (rest := []) ⟨hx, hb, hml, hown, hts⟩ (cn_X11_isClimate l D cB cI cZ N a0 I0 M0 x1 r3 hr3) (cwV 1 hts gyX11_middle_X11_isClimate rfl rfl rfl cdX11_isClimate ⟨Nat.le_of_ble_eq_true rfl, Nat.le_of_ble_eq_true rfl⟩) (wb_preV hP hK (wr_11 hK hP (q0 := 0) rfl)) rfl rfl hl.1 rfl (lv_room (Nat.le_of_ble_eq_true rfl)) dX11_middle_2 ⟨Nat.le_of_ble_eq_true rfl, Nat.le_of_ble_eq_true rfl⟩) (fun r9 e9 => ?_)
  rw [e9]
  refine lv_if_eq (tgt := 23) hx hb dX11_middle_5 (by decide) (fun hc => ?_) (fun hc => ?_)
  · replace hf := wb_t hc hf
    exact J23 ls (lv_sub hl [0, 1, 2] rfl) hf
  · replace hf := wb_f hc hf
    refine lv_iload_n hx hb dX11_middle_8 rfl (lv_at hl 2 rfl) ?_
    refine lv_iconst (v := (0 : Int32)) hx hb dX11_middle_9 (by decide) ?_
    refine lv_sipush (v := (21599 : Int32)) hx hb dX11_middle_10 (by decide) ?_
    obtain ⟨r4, hr4, hf⟩ := wb_b hf
    refine vp_callSi (W.runS (As := [.int x2, .int (0 : Int32), .int (21599 : Int32)]) (rest := []) ⟨hx, hb, hml, hown, hts⟩ (cn_X11_within l D cB cI cZ N x2 (0 : Int32) (21599 : Int32) r4 hr4) (va_cwS 3 hts gyX11_middle_X11_within rfl rfl rfl csX11_within ⟨Nat.le_of_ble_eq_true rfl, Nat.le_of_ble_eq_true rfl⟩) (wb_preS (hP.sub (ws' := ([] : va_W)) [] rfl) hK) rfl rfl hl.1 rfl (lv_room (Nat.le_of_ble_eq_true rfl)) dX11_middle_13 ⟨Nat.le_of_ble_eq_true rfl, Nat.le_of_ble_eq_true rfl⟩) (fun r9 e9 => ?_)
    rw [e9]
    refine lv_if_eq (tgt := 23) hx hb dX11_middle_16 (by decide) (fun hc => ?_) (fun hc => ?_)
    · replace hf := wb_t hc hf
      exact J23 ls (lv_sub hl [0, 1, 2] rfl) hf
    · replace hf := wb_f hc hf
      refine lv_iconst (v := (1 : Int32)) hx hb dX11_middle_19 (by decide) ?_
      refine lv_goto (tgt := 24) hx hb dX11_middle_20 (by decide) ?_
      exact J24 (1 : Int32) ls (lv_sub hl [0, 1, 2] rfl) hf
set_option maxHeartbeats 4000000 in
set_option maxRecDepth 100000 in
theorem ct_X11_middle (l : Launch) (hlt : l.stackTraces = false) (D : va_G) (cB cI cZ : ClassId) (N : Nat) (a0 : Nat → Nat) (I0 : Nat → Int32) (M0 : Nat → Nat → Int32) (x1 : Int32) (x2 : Int32) (sz k : Nat) (hf : fX11_middle N I0 M0 x1 x2 = some (.inl k)) : vx_Met l yX11_middle wyX11_middle ({ frames := 7, cells := 1, slots := 6, locals := 140 }) (va_Pc [.ref (a0 0), .int x1, .int x2] (wb_preX D [(cB, .byte), (cI, .int), (cZ, .boolean)] (wWX11 cB cI cZ a0 I0 M0) sz)) (va_Qi (fun _ (_ : Unit) => False) (fun _ _ => True) (fun q => sz ≤ q)) (vx_X (fun _ : Unit => True) (fun E _ _ => E = wb_ex k) (fun q => sz ≤ q)) 1 6 (fun q => sz ≤ q) := by
  refine vx_ofW (cc := cX11_middle) (maxL := 3) (ret := (some .int)) (by decide) rfl ?_
  intro p e s m args below meth c s₁ B hml htab hv
  obtain ⟨rfl, hsz, hP, hK, hX⟩ := hv
  subst hsz
  have hx := B.exec
  have hb := B.bytes
  have hr := B.returns
  have hts := atoms_spec (ws := wyX11_middle) B.pre
  have hown : s.vm.findClass RX11 = some m.cls := (findClass_of_methodNamed B.named :)
  have hlocks := B.notSynchronized
  have hS : va_S (fun q => s.heap.size ≤ q) s.heap s.heap [] := va_S.rf
  have hl := lv_entry ([.ref (a0 0), .int x1, .int x2]) (n := 3) (Nat.le_of_ble_eq_true rfl)
  rw [lg_entry_eq]
  generalize (lg_sl ([.ref (a0 0), .int x1, .int x2]) ++ List.replicate (3 - (lg_sl ([.ref (a0 0), .int x1, .int x2])).length) Slot.unset).toArray = ls at hl ⊢
  have hl : lv_has ls 3 [(0, .ref (a0 0)), (1, .int x1), (2, .int x2)] := hl
  unfold fX11_middle at hf
  have J24 : ∀ (z24_0 : Int32), ∀ (ls : Array Slot), lv_has ls 3 [(0, .ref (a0 0)), (1, .int x1), (2, .int x2)] → fX11_middle_J24 N I0 M0 x1 x2 z24_0 = some (.inl k) → W p l e (headSpec wyX11_middle { frames := 7, cells := 1, slots := 6, locals := 140 }).room s m [.ref (a0 0), .int x1, .int x2].toArray below meth c s.heap [] 0 0 (vx_MQ below (va_Qi (fun _ (_ : Unit) => False) (fun _ _ => True) (fun q => s.heap.size ≤ q)) (vx_X (fun _ : Unit => True) (fun E _ _ => E = wb_ex k) (fun q => s.heap.size ≤ q)) [.ref (a0 0), .int x1, .int x2].toArray s 1 6 (fun q => s.heap.size ≤ q)) (F0 m 24 ls [.int z24_0]) := by
    intro z24_0 ls hl hf
    unfold fX11_middle_J24 at hf
    rcases wb_xt hf with hrx | ⟨r1, hr1, hf⟩
    · refine vx_callv (vx_runS (As := [.int z24_0]) (rest := []) ⟨hx, hb, hml, hown, hts⟩ (ct_X11_need l hlt D cB cI cZ N z24_0 s.heap.size k hrx) (va_cwS 1 hts gyX11_middle_X11_need rfl rfl rfl csX11_need ⟨Nat.le_of_ble_eq_true rfl, Nat.le_of_ble_eq_true rfl⟩) (wb_preXS (hP.sub (ws' := ([] : va_W)) [] rfl) hK hX) rfl rfl hl.1 rfl (lv_room (Nat.le_of_ble_eq_true rfl)) dX11_middle_24 ⟨Nat.le_of_ble_eq_true rfl, Nat.le_of_ble_eq_true rfl⟩) hS (fun q _ h => h) (fun _ h => h) (fun q _ h => h) (fun E ce q9 u t H locs ht hvm hpx hB hz1 hk1 hS hq9 hv9 hc9 => ?_) (fun u t H locs ht hvm hw hB hz1 hk1 hS => hw.elim)
      exact vx_out (fun x hx9 => (htab x hx9).elim) hlocks hq9 hv9 hc9 (fun t9 ht9 hvm9 => ⟨(), trivial, hB, hS.F ht9⟩) hS.2.2 (Nat.le_of_ble_eq_true rfl) (Nat.le_of_ble_eq_true rfl)
    refine va_csv (W.runS (As := [.int z24_0]) (rest := []) ⟨hx, hb, hml, hown, hts⟩ (cn_X11_need l D cB cI cZ N z24_0 r1 hr1) (va_cwS 1 hts gyX11_middle_X11_need rfl rfl rfl csX11_need ⟨Nat.le_of_ble_eq_true rfl, Nat.le_of_ble_eq_true rfl⟩) (wb_preS (hP.sub (ws' := ([] : va_W)) [] rfl) hK) rfl rfl hl.1 rfl (lv_room (Nat.le_of_ble_eq_true rfl)) dX11_middle_24 ⟨Nat.le_of_ble_eq_true rfl, Nat.le_of_ble_eq_true rfl⟩) (fun _ => ?_)
    exact absurd hf wb_okn
  have J23 : ∀ (ls : Array Slot), lv_has ls 3 [(0, .ref (a0 0)), (1, .int x1), (2, .int x2)] → fX11_middle_J23 N I0 M0 x1 x2 = some (.inl k) → W p l e (headSpec wyX11_middle { frames := 7, cells := 1, slots := 6, locals := 140 }).room s m [.ref (a0 0), .int x1, .int x2].toArray below meth c s.heap [] 0 0 (vx_MQ below (va_Qi (fun _ (_ : Unit) => False) (fun _ _ => True) (fun q => s.heap.size ≤ q)) (vx_X (fun _ : Unit => True) (fun E _ _ => E = wb_ex k) (fun q => s.heap.size ≤ q)) [.ref (a0 0), .int x1, .int x2].toArray s 1 6 (fun q => s.heap.size ≤ q)) (F0 m 23 ls []) := by
    intro ls hl hf
    unfold fX11_middle_J23 at hf
    refine lv_iconst (v := (0 : Int32)) hx hb dX11_middle_23 (by decide) ?_
    exact J24 (0 : Int32) ls (lv_sub hl [0, 1, 2] rfl) hf
  refine lv_aload_n hx hb dX11_middle_0 rfl (lv_at hl 0 rfl) ?_
  refine lv_iload_n hx hb dX11_middle_1 rfl (lv_at hl 1 rfl) ?_
  obtain ⟨r2, hr2, hf⟩ := wb_b hf
  refine vp_callSi (W.runV (As := [.int x1]) (rest := []) ⟨hx, hb, hml, hown, hts⟩ (cn_X11_isClimate l D cB cI cZ N a0 I0 M0 x1 r2 hr2) (cwV 1 hts gyX11_middle_X11_isClimate rfl rfl rfl cdX11_isClimate ⟨Nat.le_of_ble_eq_true rfl, Nat.le_of_ble_eq_true rfl⟩) (wb_preV hP hK (wr_11 hK hP (q0 := 0) rfl)) rfl rfl hl.1 rfl (lv_room (Nat.le_of_ble_eq_true rfl)) dX11_middle_2 ⟨Nat.le_of_ble_eq_true rfl, Nat.le_of_ble_eq_true rfl⟩) (fun r9 e9 => ?_)
  rw [e9]
  refine lv_if_eq (tgt := 23) hx hb dX11_middle_5 (by decide) (fun hc => ?_) (fun hc => ?_)
  · replace hf := wb_t hc hf
    exact J23 ls (lv_sub hl [0, 1, 2] rfl) hf
  · replace hf := wb_f hc hf
    refine lv_iload_n hx hb dX11_middle_8 rfl (lv_at hl 2 rfl) ?_
    refine lv_iconst (v := (0 : Int32)) hx hb dX11_middle_9 (by decide) ?_
    refine lv_sipush (v := (21599 : Int32)) hx hb dX11_middle_10 (by decide) ?_
    obtain ⟨r3, hr3, hf⟩ := wb_b hf
    refine vp_callSi (W.runS (As := [.int x2, .int (0 : Int32), .int (21599 : Int32)]) (rest := []) ⟨hx, hb, hml, hown, hts⟩ (cn_X11_within l D cB cI cZ N x2 (0 : Int32) (21599 : Int32) r3 hr3) (va_cwS 3 hts gyX11_middle_X11_within rfl rfl rfl csX11_within ⟨Nat.le_of_ble_eq_true rfl, Nat.le_of_ble_eq_true rfl⟩) (wb_preS (hP.sub (ws' := ([] : va_W)) [] rfl) hK) rfl rfl hl.1 rfl (lv_room (Nat.le_of_ble_eq_true rfl)) dX11_middle_13 ⟨Nat.le_of_ble_eq_true rfl, Nat.le_of_ble_eq_true rfl⟩) (fun r9 e9 => ?_)
    rw [e9]
    refine lv_if_eq (tgt := 23) hx hb dX11_middle_16 (by decide) (fun hc => ?_) (fun hc => ?_)
    · replace hf := wb_t hc hf
      exact J23 ls (lv_sub hl [0, 1, 2] rfl) hf
    · replace hf := wb_f hc hf
      refine lv_iconst (v := (1 : Int32)) hx hb dX11_middle_19 (by decide) ?_
      refine lv_goto (tgt := 24) hx hb dX11_middle_20 (by decide) ?_
      exact J24 (1 : Int32) ls (lv_sub hl [0, 1, 2] rfl) hf

set_option maxHeartbeats 4000000 in
set_option maxRecDepth 100000 in
theorem cn_X11_hour (l : Launch) (D : va_G) (cB cI cZ : ClassId) (N : Nat) (a0 : Nat → Nat) (I0 : Nat → Int32) (M0 : Nat → Nat → Int32) (x1 : Int32) (x2 : Int32) (x3 : Int32) (R : Int32) (hf : fX11_hour N I0 M0 x1 x2 x3 = some (.inr R)) : Met l yX11_hour wyX11_hour ({ frames := 8, cells := 0, slots := 0, locals := 161 }) (va_Pc [.ref (a0 0), .int x1, .int x2, .int x3] (wb_pre D [(cB, .byte), (cI, .int), (cZ, .boolean)] (wWX11 cB cI cZ a0 I0 M0))) (vp_Si (fun r => r = R)) 0 0 (fun _ => False) := by
  refine Met.ofW (cc := cX11_hour) (maxL := 9) (ret := (some .int)) pn_X11 rfl ?_
  intro p e s m args below meth c s₁ B hml hv
  obtain ⟨rfl, hP, hK⟩ := hv
  have hx := B.exec
  have hb := B.bytes
  have hr := B.returns
  have hts := atoms_spec (ws := wyX11_hour) B.pre
  have hown : s.vm.findClass RX11 = some m.cls := (findClass_of_methodNamed B.named :)
  have hlocks := B.notSynchronized
  have hinX11 : ∀ w ∈ u_ws RX11 TX11 13, w ∈ wyX11_hour := fun w h => List.mem_cons_of_mem _ (List.mem_append_left _ (List.mem_append_left _ (List.mem_append_left _ (List.mem_append_left _ (List.mem_append_right _ h)))))
  have hinX5 : ∀ w ∈ u_ws RX5 TX5 6, w ∈ wyX11_hour := fun w h => List.mem_cons_of_mem _ (List.mem_append_left _ (List.mem_append_left _ (List.mem_append_left _ (List.mem_append_right _ h))))
  have hl := lv_entry ([.ref (a0 0), .int x1, .int x2, .int x3]) (n := 9) (Nat.le_of_ble_eq_true rfl)
  rw [lg_entry_eq]
  generalize (lg_sl ([.ref (a0 0), .int x1, .int x2, .int x3]) ++ List.replicate (9 - (lg_sl ([.ref (a0 0), .int x1, .int x2, .int x3])).length) Slot.unset).toArray = ls at hl ⊢
  have hl : lv_has ls 9 [(0, .ref (a0 0)), (1, .int x1), (2, .int x2), (3, .int x3)] := hl
  unfold fX11_hour at hf
  have J104 : ∀ (z104_0 : Int32), ∀ (ls : Array Slot), lv_has ls 9 [] → fX11_hour_J104 N I0 M0 x1 x2 x3 z104_0 = some (.inr R) → W p l e (headSpec wyX11_hour { frames := 8, cells := 0, slots := 0, locals := 161 }).room s m [.ref (a0 0), .int x1, .int x2, .int x3].toArray below meth c s.heap [] 0 0 (MQ below (vp_Si (fun r => r = R)) [.ref (a0 0), .int x1, .int x2, .int x3].toArray s 0 0 (fun _ => False)) (F0 m 104 ls [.int z104_0]) := by
    intro z104_0 ls hl hf
    unfold fX11_hour_J104 at hf
    refine lv_istore (lv' := [(8, .int z104_0)]) hx hb dX11_hour_104 hl (by decide) rfl (fun ls hl => ?_)
    refine lv_iload hx hb dX11_hour_106 (lv_at hl 0 rfl) ?_
    refine lv_iconst (v := (-1 : Int32)) hx hb dX11_hour_108 (by decide) ?_
    refine lv_icmp_eq (tgt := 116) hx hb dX11_hour_109 (by decide) (fun hc => ?_) (fun hc => ?_)
    · replace hf := wb_t hc hf
      refine lv_iconst (v := (0 : Int32)) hx hb dX11_hour_116 (by decide) ?_
      obtain ⟨r1, hr1, hf⟩ := wb_xr hf
      refine va_csv (W.runS (As := [.int (0 : Int32)]) (rest := []) ⟨hx, hb, hml, hown, hts⟩ (cn_X11_need l D cB cI cZ N (0 : Int32) r1 hr1) (va_cwS 1 hts gyX11_hour_X11_need rfl rfl rfl csX11_need ⟨Nat.le_of_ble_eq_true rfl, Nat.le_of_ble_eq_true rfl⟩) (wb_preS (hP.sub (ws' := ([] : va_W)) [] rfl) hK) rfl rfl hl.1 rfl (lv_room (Nat.le_of_ble_eq_true rfl)) dX11_hour_117 ⟨Nat.le_of_ble_eq_true rfl, Nat.le_of_ble_eq_true rfl⟩) (fun _ => ?_)
      replace hf := wb_okr hf
      refine lv_iload hx hb dX11_hour_120 (lv_at hl 0 rfl) ?_
      exact W.iret (v := z104_0) hx hb hr (fun t ht hW => ⟨_, rfl, Option.some.inj hf, ht⟩) (fun _ h => nomatch h) dX11_hour_122
    · replace hf := wb_f hc hf
      refine lv_iconst (v := (1 : Int32)) hx hb dX11_hour_112 (by decide) ?_
      refine lv_goto (tgt := 117) hx hb dX11_hour_113 (by decide) ?_
      obtain ⟨r2, hr2, hf⟩ := wb_xr hf
      refine va_csv (W.runS (As := [.int (1 : Int32)]) (rest := []) ⟨hx, hb, hml, hown, hts⟩ (cn_X11_need l D cB cI cZ N (1 : Int32) r2 hr2) (va_cwS 1 hts gyX11_hour_X11_need rfl rfl rfl csX11_need ⟨Nat.le_of_ble_eq_true rfl, Nat.le_of_ble_eq_true rfl⟩) (wb_preS (hP.sub (ws' := ([] : va_W)) [] rfl) hK) rfl rfl hl.1 rfl (lv_room (Nat.le_of_ble_eq_true rfl)) dX11_hour_117 ⟨Nat.le_of_ble_eq_true rfl, Nat.le_of_ble_eq_true rfl⟩) (fun _ => ?_)
      replace hf := wb_okr hf
      refine lv_iload hx hb dX11_hour_120 (lv_at hl 0 rfl) ?_
      exact W.iret (v := z104_0) hx hb hr (fun t ht hW => ⟨_, rfl, Option.some.inj hf, ht⟩) (fun _ h => nomatch h) dX11_hour_122
  have J49 : ∀ (y49_5 : Int32) (y49_6 : Int32) (z49_0 : Int32), ∀ (ls : Array Slot), lv_has ls 9 [(0, .ref (a0 0)), (3, .int x3), (5, .int y49_5), (6, .int y49_6)] → fX11_hour_J49 N I0 M0 x1 x2 x3 y49_5 y49_6 z49_0 = some (.inr R) → W p l e (headSpec wyX11_hour { frames := 8, cells := 0, slots := 0, locals := 161 }).room s m [.ref (a0 0), .int x1, .int x2, .int x3].toArray below meth c s.heap [] 0 0 (MQ below (vp_Si (fun r => r = R)) [.ref (a0 0), .int x1, .int x2, .int x3].toArray s 0 0 (fun _ => False)) (F0 m 49 ls [.int z49_0]) := by
    intro y49_5 y49_6 z49_0 ls hl hf
    unfold fX11_hour_J49 at hf
    refine lv_istore (lv' := [(7, .int z49_0), (0, .ref (a0 0)), (3, .int x3), (5, .int y49_5), (6, .int y49_6)]) hx hb dX11_hour_49 hl (by decide) rfl (fun ls hl => ?_)
    refine lv_iload_n hx hb dX11_hour_51 rfl (lv_at hl 2 rfl) ?_
    refine lv_iconst (v := (-1 : Int32)) hx hb dX11_hour_52 (by decide) ?_
    refine lv_icmp_ne (tgt := 80) hx hb dX11_hour_53 (by decide) (fun hc => ?_) (fun hc => ?_)
    · replace hf := wb_f hc hf
      refine lv_iload hx hb dX11_hour_80 (lv_at hl 0 rfl) ?_
      refine lv_if_eq (tgt := 103) hx hb dX11_hour_82 (by decide) (fun hc => ?_) (fun hc => ?_)
      · replace hf := wb_t hc hf
        refine lv_iconst (v := (-1 : Int32)) hx hb dX11_hour_103 (by decide) ?_
        exact J104 (-1 : Int32) ls (lv_sub hl [] rfl) hf
      · replace hf := wb_f hc hf
        refine lv_aload_n hx hb dX11_hour_85 rfl (lv_at hl 1 rfl) ?_
        refine va_get (D := D) (ci := 11) (v := .ref (a0 3)) (C := RX11) (T := TX11) (N := 13) hx hb hts hinX11 hown hK hP 0 rfl rfl 1 (by decide) (hts (.fieldLink RX11 19 "WheelBook" "told" "LWheelBook$House;") (List.mem_of_getElem? (i := 2) rfl)) (fun _ h9 => h9) rfl dX11_hour_86 ?_
        refine va_get (D := D) (ci := 5) (v := .ref (a0 8)) (C := RX5) (T := TX5) (N := 6) hx hb hts hinX5 hown hK hP 3 rfl rfl 4 (by decide) (hts (.fieldLink RX11 131 "WheelBook$House" "climates" "LWheelBook$Climates;") (List.mem_of_getElem? (i := 3) rfl)) (fun _ h9 => h9) rfl dX11_hour_89 ?_
        refine lv_iload hx hb dX11_hour_92 (lv_at hl 3 rfl) ?_
        refine lv_iload hx hb dX11_hour_94 (lv_at hl 4 rfl) ?_
        refine lv_iload_n hx hb dX11_hour_96 rfl (lv_at hl 2 rfl) ?_
        obtain ⟨r3, hr3, hf⟩ := wb_b hf
        refine vp_callSi (W.runV (As := [.int y49_5, .int y49_6, .int x3]) (rest := []) ⟨hx, hb, hml, hown, hts⟩ (cn_X2_nthHour l D cB cI cZ N (wb_sh a0 8) (wb_sh I0 9) (wb_sh M0 5) y49_5 y49_6 x3 r3 hr3) (cwV 3 hts gyX11_hour_X2_nthHour rfl rfl rfl cdX2_nthHour ⟨Nat.le_of_ble_eq_true rfl, Nat.le_of_ble_eq_true rfl⟩) (wb_preV (hP.sub (ws' := (wWX2 cB cI cZ (wb_sh a0 8) (wb_sh I0 9) (wb_sh M0 5))) [8, 9] rfl) hK (wr_2 hK hP (q0 := 8) rfl)) rfl rfl hl.1 rfl (lv_room (Nat.le_of_ble_eq_true rfl)) dX11_hour_97 ⟨Nat.le_of_ble_eq_true rfl, Nat.le_of_ble_eq_true rfl⟩) (fun r9 e9 => ?_)
        rw [e9]
        refine lv_goto (tgt := 104) hx hb dX11_hour_100 (by decide) ?_
        exact J104 r3 ls (lv_sub hl [] rfl) hf
    · replace hf := wb_t hc hf
      replace hf := wb_okr hf
      refine lv_iload hx hb dX11_hour_56 (lv_at hl 0 rfl) ?_
      refine lv_if_eq (tgt := 78) hx hb dX11_hour_58 (by decide) (fun hc => ?_) (fun hc => ?_)
      · replace hf := wb_t hc hf
        refine lv_iconst (v := (-1 : Int32)) hx hb dX11_hour_78 (by decide) ?_
        exact W.iret (v := (-1 : Int32)) hx hb hr (fun t ht hW => ⟨_, rfl, Option.some.inj hf, ht⟩) (fun _ h => nomatch h) dX11_hour_79
      · replace hf := wb_f hc hf
        refine lv_aload_n hx hb dX11_hour_61 rfl (lv_at hl 1 rfl) ?_
        refine va_get (D := D) (ci := 11) (v := .ref (a0 3)) (C := RX11) (T := TX11) (N := 13) hx hb hts hinX11 hown hK hP 0 rfl rfl 1 (by decide) (hts (.fieldLink RX11 19 "WheelBook" "told" "LWheelBook$House;") (List.mem_of_getElem? (i := 2) rfl)) (fun _ h9 => h9) rfl dX11_hour_62 ?_
        refine va_get (D := D) (ci := 5) (v := .ref (a0 8)) (C := RX5) (T := TX5) (N := 6) hx hb hts hinX5 hown hK hP 3 rfl rfl 4 (by decide) (hts (.fieldLink RX11 131 "WheelBook$House" "climates" "LWheelBook$Climates;") (List.mem_of_getElem? (i := 3) rfl)) (fun _ h9 => h9) rfl dX11_hour_65 ?_
        refine lv_iload hx hb dX11_hour_68 (lv_at hl 3 rfl) ?_
        refine lv_iload hx hb dX11_hour_70 (lv_at hl 4 rfl) ?_
        obtain ⟨r4, hr4, hf⟩ := wb_b hf
        refine vp_callSi (W.runV (As := [.int y49_5, .int y49_6]) (rest := []) ⟨hx, hb, hml, hown, hts⟩ (cn_X2_howManyHours l D cB cI cZ N (wb_sh a0 8) (wb_sh I0 9) (wb_sh M0 5) y49_5 y49_6 r4 hr4) (cwV 2 hts gyX11_hour_X2_howManyHours rfl rfl rfl cdX2_howManyHours ⟨Nat.le_of_ble_eq_true rfl, Nat.le_of_ble_eq_true rfl⟩) (wb_preV (hP.sub (ws' := (wWX2 cB cI cZ (wb_sh a0 8) (wb_sh I0 9) (wb_sh M0 5))) [8, 9] rfl) hK (wr_2 hK hP (q0 := 8) rfl)) rfl rfl hl.1 rfl (lv_room (Nat.le_of_ble_eq_true rfl)) dX11_hour_72 ⟨Nat.le_of_ble_eq_true rfl, Nat.le_of_ble_eq_true rfl⟩) (fun r9 e9 => ?_)
        rw [e9]
        refine lv_goto (tgt := 79) hx hb dX11_hour_75 (by decide) ?_
        exact W.iret (v := r4) hx hb hr (fun t ht hW => ⟨_, rfl, Option.some.inj hf, ht⟩) (fun _ h => nomatch h) dX11_hour_79
  have J48 : ∀ (y48_5 : Int32) (y48_6 : Int32), ∀ (ls : Array Slot), lv_has ls 9 [(0, .ref (a0 0)), (3, .int x3), (5, .int y48_5), (6, .int y48_6)] → fX11_hour_J48 N I0 M0 x1 x2 x3 y48_5 y48_6 = some (.inr R) → W p l e (headSpec wyX11_hour { frames := 8, cells := 0, slots := 0, locals := 161 }).room s m [.ref (a0 0), .int x1, .int x2, .int x3].toArray below meth c s.heap [] 0 0 (MQ below (vp_Si (fun r => r = R)) [.ref (a0 0), .int x1, .int x2, .int x3].toArray s 0 0 (fun _ => False)) (F0 m 48 ls []) := by
    intro y48_5 y48_6 ls hl hf
    unfold fX11_hour_J48 at hf
    refine lv_iconst (v := (0 : Int32)) hx hb dX11_hour_48 (by decide) ?_
    exact J49 y48_5 y48_6 (0 : Int32) ls (lv_sub hl [0, 1, 2, 3] rfl) hf
  refine lv_iload_n hx hb dX11_hour_0 rfl (lv_at hl 1 rfl) ?_
  refine lv_iload_n hx hb dX11_hour_1 rfl (lv_at hl 2 rfl) ?_
  obtain ⟨r5, hr5, hf⟩ := wb_xr hf
  refine vp_callSi (W.runS (As := [.int x1, .int x2]) (rest := []) ⟨hx, hb, hml, hown, hts⟩ (cn_X11_numberOf l D cB cI cZ N x1 x2 r5 hr5) (va_cwS 2 hts gyX11_hour_X11_numberOf rfl rfl rfl csX11_numberOf ⟨Nat.le_of_ble_eq_true rfl, Nat.le_of_ble_eq_true rfl⟩) (wb_preS (hP.sub (ws' := ([] : va_W)) [] rfl) hK) rfl rfl hl.1 rfl (lv_room (Nat.le_of_ble_eq_true rfl)) dX11_hour_2 ⟨Nat.le_of_ble_eq_true rfl, Nat.le_of_ble_eq_true rfl⟩) (fun r9 e9 => ?_)
  rw [e9]
  refine lv_istore (lv' := [(4, .int r5), (0, .ref (a0 0)), (1, .int x1), (2, .int x2), (3, .int x3)]) hx hb dX11_hour_5 hl (by decide) rfl (fun ls hl => ?_)
  refine lv_aload_n hx hb dX11_hour_7 rfl (lv_at hl 1 rfl) ?_
  refine va_get (D := D) (ci := 11) (v := .ref (a0 21)) (C := RX11) (T := TX11) (N := 13) hx hb hts hinX11 hown hK hP 0 rfl rfl 3 (by decide) (hts (.fieldLink RX11 29 "WheelBook" "books" "LWheelBook$Books;") (List.mem_of_getElem? (i := 1) rfl)) (fun _ h9 => h9) rfl dX11_hour_8 ?_
  refine lv_iload hx hb dX11_hour_11 (lv_at hl 0 rfl) ?_
  refine lv_iconst (v := (0 : Int32)) hx hb dX11_hour_13 (by decide) ?_
  obtain ⟨r6, hr6, hf⟩ := wb_b hf
  refine vp_callSi (W.runV (As := [.int r5, .int (0 : Int32)]) (rest := []) ⟨hx, hb, hml, hown, hts⟩ (cn_X1_degreeOf l D cB cI cZ N (wb_sh a0 21) (wb_sh I0 13) (wb_sh M0 13) r5 (0 : Int32) r6 hr6) (cwV 2 hts gyX11_hour_X1_degreeOf rfl rfl rfl cdX1_degreeOf ⟨Nat.le_of_ble_eq_true rfl, Nat.le_of_ble_eq_true rfl⟩) (wb_preV (hP.sub (ws' := (wWX1 cB cI cZ (wb_sh a0 21) (wb_sh I0 13) (wb_sh M0 13))) [21, 22, 23] rfl) hK (wr_1 hK hP (q0 := 21) rfl)) rfl rfl hl.1 rfl (lv_room (Nat.le_of_ble_eq_true rfl)) dX11_hour_14 ⟨Nat.le_of_ble_eq_true rfl, Nat.le_of_ble_eq_true rfl⟩) (fun r9 e9 => ?_)
  rw [e9]
  refine lv_istore (lv' := [(5, .int r6), (4, .int r5), (0, .ref (a0 0)), (1, .int x1), (2, .int x2), (3, .int x3)]) hx hb dX11_hour_17 hl (by decide) rfl (fun ls hl => ?_)
  refine lv_aload_n hx hb dX11_hour_19 rfl (lv_at hl 2 rfl) ?_
  refine va_get (D := D) (ci := 11) (v := .ref (a0 21)) (C := RX11) (T := TX11) (N := 13) hx hb hts hinX11 hown hK hP 0 rfl rfl 3 (by decide) (hts (.fieldLink RX11 29 "WheelBook" "books" "LWheelBook$Books;") (List.mem_of_getElem? (i := 1) rfl)) (fun _ h9 => h9) rfl dX11_hour_20 ?_
  refine lv_iload hx hb dX11_hour_23 (lv_at hl 1 rfl) ?_
  refine lv_bipush (v := (7 : Int32)) hx hb dX11_hour_25 (by decide) ?_
  obtain ⟨r7, hr7, hf⟩ := wb_b hf
  refine vp_callSi (W.runV (As := [.int r5, .int (7 : Int32)]) (rest := []) ⟨hx, hb, hml, hown, hts⟩ (cn_X1_degreeOf l D cB cI cZ N (wb_sh a0 21) (wb_sh I0 13) (wb_sh M0 13) r5 (7 : Int32) r7 hr7) (cwV 2 hts gyX11_hour_X1_degreeOf rfl rfl rfl cdX1_degreeOf ⟨Nat.le_of_ble_eq_true rfl, Nat.le_of_ble_eq_true rfl⟩) (wb_preV (hP.sub (ws' := (wWX1 cB cI cZ (wb_sh a0 21) (wb_sh I0 13) (wb_sh M0 13))) [21, 22, 23] rfl) hK (wr_1 hK hP (q0 := 21) rfl)) rfl rfl hl.1 rfl (lv_room (Nat.le_of_ble_eq_true rfl)) dX11_hour_27 ⟨Nat.le_of_ble_eq_true rfl, Nat.le_of_ble_eq_true rfl⟩) (fun r9 e9 => ?_)
  rw [e9]
  refine lv_istore (lv' := [(6, .int r7), (5, .int r6), (4, .int r5), (0, .ref (a0 0)), (1, .int x1), (2, .int x2), (3, .int x3)]) hx hb dX11_hour_30 hl (by decide) rfl (fun ls hl => ?_)
  refine lv_iload hx hb dX11_hour_32 (lv_at hl 1 rfl) ?_
  refine lv_iconst (v := (-1 : Int32)) hx hb dX11_hour_34 (by decide) ?_
  refine lv_icmp_eq (tgt := 48) hx hb dX11_hour_35 (by decide) (fun hc => ?_) (fun hc => ?_)
  · replace hf := wb_t hc hf
    exact J48 r6 r7 ls (lv_sub hl [3, 6, 1, 0] rfl) hf
  · replace hf := wb_f hc hf
    refine lv_iload hx hb dX11_hour_38 (lv_at hl 0 rfl) ?_
    refine lv_iconst (v := (-1 : Int32)) hx hb dX11_hour_40 (by decide) ?_
    refine lv_icmp_eq (tgt := 48) hx hb dX11_hour_41 (by decide) (fun hc => ?_) (fun hc => ?_)
    · replace hf := wb_t hc hf
      exact J48 r6 r7 ls (lv_sub hl [3, 6, 1, 0] rfl) hf
    · replace hf := wb_f hc hf
      refine lv_iconst (v := (1 : Int32)) hx hb dX11_hour_44 (by decide) ?_
      refine lv_goto (tgt := 49) hx hb dX11_hour_45 (by decide) ?_
      exact J49 r6 r7 (1 : Int32) ls (lv_sub hl [3, 6, 1, 0] rfl) hf
set_option maxHeartbeats 4000000 in
set_option maxRecDepth 100000 in
theorem ct_X11_hour (l : Launch) (hlt : l.stackTraces = false) (D : va_G) (cB cI cZ : ClassId) (N : Nat) (a0 : Nat → Nat) (I0 : Nat → Int32) (M0 : Nat → Nat → Int32) (x1 : Int32) (x2 : Int32) (x3 : Int32) (sz k : Nat) (hf : fX11_hour N I0 M0 x1 x2 x3 = some (.inl k)) : vx_Met l yX11_hour wyX11_hour ({ frames := 8, cells := 1, slots := 6, locals := 161 }) (va_Pc [.ref (a0 0), .int x1, .int x2, .int x3] (wb_preX D [(cB, .byte), (cI, .int), (cZ, .boolean)] (wWX11 cB cI cZ a0 I0 M0) sz)) (va_Qi (fun _ (_ : Unit) => False) (fun _ _ => True) (fun q => sz ≤ q)) (vx_X (fun _ : Unit => True) (fun E _ _ => E = wb_ex k) (fun q => sz ≤ q)) 1 6 (fun q => sz ≤ q) := by
  refine vx_ofW (cc := cX11_hour) (maxL := 9) (ret := (some .int)) (by decide) rfl ?_
  intro p e s m args below meth c s₁ B hml htab hv
  obtain ⟨rfl, hsz, hP, hK, hX⟩ := hv
  subst hsz
  have hx := B.exec
  have hb := B.bytes
  have hr := B.returns
  have hts := atoms_spec (ws := wyX11_hour) B.pre
  have hown : s.vm.findClass RX11 = some m.cls := (findClass_of_methodNamed B.named :)
  have hlocks := B.notSynchronized
  have hS : va_S (fun q => s.heap.size ≤ q) s.heap s.heap [] := va_S.rf
  have hinX11 : ∀ w ∈ u_ws RX11 TX11 13, w ∈ wyX11_hour := fun w h => List.mem_cons_of_mem _ (List.mem_append_left _ (List.mem_append_left _ (List.mem_append_left _ (List.mem_append_left _ (List.mem_append_right _ h)))))
  have hinX5 : ∀ w ∈ u_ws RX5 TX5 6, w ∈ wyX11_hour := fun w h => List.mem_cons_of_mem _ (List.mem_append_left _ (List.mem_append_left _ (List.mem_append_left _ (List.mem_append_right _ h))))
  have hl := lv_entry ([.ref (a0 0), .int x1, .int x2, .int x3]) (n := 9) (Nat.le_of_ble_eq_true rfl)
  rw [lg_entry_eq]
  generalize (lg_sl ([.ref (a0 0), .int x1, .int x2, .int x3]) ++ List.replicate (9 - (lg_sl ([.ref (a0 0), .int x1, .int x2, .int x3])).length) Slot.unset).toArray = ls at hl ⊢
  have hl : lv_has ls 9 [(0, .ref (a0 0)), (1, .int x1), (2, .int x2), (3, .int x3)] := hl
  unfold fX11_hour at hf
  have J104 : ∀ (z104_0 : Int32), ∀ (ls : Array Slot), lv_has ls 9 [] → fX11_hour_J104 N I0 M0 x1 x2 x3 z104_0 = some (.inl k) → W p l e (headSpec wyX11_hour { frames := 8, cells := 1, slots := 6, locals := 161 }).room s m [.ref (a0 0), .int x1, .int x2, .int x3].toArray below meth c s.heap [] 0 0 (vx_MQ below (va_Qi (fun _ (_ : Unit) => False) (fun _ _ => True) (fun q => s.heap.size ≤ q)) (vx_X (fun _ : Unit => True) (fun E _ _ => E = wb_ex k) (fun q => s.heap.size ≤ q)) [.ref (a0 0), .int x1, .int x2, .int x3].toArray s 1 6 (fun q => s.heap.size ≤ q)) (F0 m 104 ls [.int z104_0]) := by
    intro z104_0 ls hl hf
    unfold fX11_hour_J104 at hf
    refine lv_istore (lv' := [(8, .int z104_0)]) hx hb dX11_hour_104 hl (by decide) rfl (fun ls hl => ?_)
    refine lv_iload hx hb dX11_hour_106 (lv_at hl 0 rfl) ?_
    refine lv_iconst (v := (-1 : Int32)) hx hb dX11_hour_108 (by decide) ?_
    refine lv_icmp_eq (tgt := 116) hx hb dX11_hour_109 (by decide) (fun hc => ?_) (fun hc => ?_)
    · replace hf := wb_t hc hf
      refine lv_iconst (v := (0 : Int32)) hx hb dX11_hour_116 (by decide) ?_
      rcases wb_xt hf with hrx | ⟨r1, hr1, hf⟩
      · refine vx_callv (vx_runS (As := [.int (0 : Int32)]) (rest := []) ⟨hx, hb, hml, hown, hts⟩ (ct_X11_need l hlt D cB cI cZ N (0 : Int32) s.heap.size k hrx) (va_cwS 1 hts gyX11_hour_X11_need rfl rfl rfl csX11_need ⟨Nat.le_of_ble_eq_true rfl, Nat.le_of_ble_eq_true rfl⟩) (wb_preXS (hP.sub (ws' := ([] : va_W)) [] rfl) hK hX) rfl rfl hl.1 rfl (lv_room (Nat.le_of_ble_eq_true rfl)) dX11_hour_117 ⟨Nat.le_of_ble_eq_true rfl, Nat.le_of_ble_eq_true rfl⟩) hS (fun q _ h => h) (fun _ h => h) (fun q _ h => h) (fun E ce q9 u t H locs ht hvm hpx hB hz1 hk1 hS hq9 hv9 hc9 => ?_) (fun u t H locs ht hvm hw hB hz1 hk1 hS => hw.elim)
        exact vx_out (fun x hx9 => (htab x hx9).elim) hlocks hq9 hv9 hc9 (fun t9 ht9 hvm9 => ⟨(), trivial, hB, hS.F ht9⟩) hS.2.2 (Nat.le_of_ble_eq_true rfl) (Nat.le_of_ble_eq_true rfl)
      refine va_csv (W.runS (As := [.int (0 : Int32)]) (rest := []) ⟨hx, hb, hml, hown, hts⟩ (cn_X11_need l D cB cI cZ N (0 : Int32) r1 hr1) (va_cwS 1 hts gyX11_hour_X11_need rfl rfl rfl csX11_need ⟨Nat.le_of_ble_eq_true rfl, Nat.le_of_ble_eq_true rfl⟩) (wb_preS (hP.sub (ws' := ([] : va_W)) [] rfl) hK) rfl rfl hl.1 rfl (lv_room (Nat.le_of_ble_eq_true rfl)) dX11_hour_117 ⟨Nat.le_of_ble_eq_true rfl, Nat.le_of_ble_eq_true rfl⟩) (fun _ => ?_)
      exact absurd hf wb_okn
    · replace hf := wb_f hc hf
      refine lv_iconst (v := (1 : Int32)) hx hb dX11_hour_112 (by decide) ?_
      refine lv_goto (tgt := 117) hx hb dX11_hour_113 (by decide) ?_
      rcases wb_xt hf with hrx | ⟨r2, hr2, hf⟩
      · refine vx_callv (vx_runS (As := [.int (1 : Int32)]) (rest := []) ⟨hx, hb, hml, hown, hts⟩ (ct_X11_need l hlt D cB cI cZ N (1 : Int32) s.heap.size k hrx) (va_cwS 1 hts gyX11_hour_X11_need rfl rfl rfl csX11_need ⟨Nat.le_of_ble_eq_true rfl, Nat.le_of_ble_eq_true rfl⟩) (wb_preXS (hP.sub (ws' := ([] : va_W)) [] rfl) hK hX) rfl rfl hl.1 rfl (lv_room (Nat.le_of_ble_eq_true rfl)) dX11_hour_117 ⟨Nat.le_of_ble_eq_true rfl, Nat.le_of_ble_eq_true rfl⟩) hS (fun q _ h => h) (fun _ h => h) (fun q _ h => h) (fun E ce q9 u t H locs ht hvm hpx hB hz1 hk1 hS hq9 hv9 hc9 => ?_) (fun u t H locs ht hvm hw hB hz1 hk1 hS => hw.elim)
        exact vx_out (fun x hx9 => (htab x hx9).elim) hlocks hq9 hv9 hc9 (fun t9 ht9 hvm9 => ⟨(), trivial, hB, hS.F ht9⟩) hS.2.2 (Nat.le_of_ble_eq_true rfl) (Nat.le_of_ble_eq_true rfl)
      refine va_csv (W.runS (As := [.int (1 : Int32)]) (rest := []) ⟨hx, hb, hml, hown, hts⟩ (cn_X11_need l D cB cI cZ N (1 : Int32) r2 hr2) (va_cwS 1 hts gyX11_hour_X11_need rfl rfl rfl csX11_need ⟨Nat.le_of_ble_eq_true rfl, Nat.le_of_ble_eq_true rfl⟩) (wb_preS (hP.sub (ws' := ([] : va_W)) [] rfl) hK) rfl rfl hl.1 rfl (lv_room (Nat.le_of_ble_eq_true rfl)) dX11_hour_117 ⟨Nat.le_of_ble_eq_true rfl, Nat.le_of_ble_eq_true rfl⟩) (fun _ => ?_)
      exact absurd hf wb_okn
  have J49 : ∀ (y49_5 : Int32) (y49_6 : Int32) (z49_0 : Int32), ∀ (ls : Array Slot), lv_has ls 9 [(0, .ref (a0 0)), (3, .int x3), (5, .int y49_5), (6, .int y49_6)] → fX11_hour_J49 N I0 M0 x1 x2 x3 y49_5 y49_6 z49_0 = some (.inl k) → W p l e (headSpec wyX11_hour { frames := 8, cells := 1, slots := 6, locals := 161 }).room s m [.ref (a0 0), .int x1, .int x2, .int x3].toArray below meth c s.heap [] 0 0 (vx_MQ below (va_Qi (fun _ (_ : Unit) => False) (fun _ _ => True) (fun q => s.heap.size ≤ q)) (vx_X (fun _ : Unit => True) (fun E _ _ => E = wb_ex k) (fun q => s.heap.size ≤ q)) [.ref (a0 0), .int x1, .int x2, .int x3].toArray s 1 6 (fun q => s.heap.size ≤ q)) (F0 m 49 ls [.int z49_0]) := by
    intro y49_5 y49_6 z49_0 ls hl hf
    unfold fX11_hour_J49 at hf
    refine lv_istore (lv' := [(7, .int z49_0), (0, .ref (a0 0)), (3, .int x3), (5, .int y49_5), (6, .int y49_6)]) hx hb dX11_hour_49 hl (by decide) rfl (fun ls hl => ?_)
    refine lv_iload_n hx hb dX11_hour_51 rfl (lv_at hl 2 rfl) ?_
    refine lv_iconst (v := (-1 : Int32)) hx hb dX11_hour_52 (by decide) ?_
    refine lv_icmp_ne (tgt := 80) hx hb dX11_hour_53 (by decide) (fun hc => ?_) (fun hc => ?_)
    · replace hf := wb_f hc hf
      refine lv_iload hx hb dX11_hour_80 (lv_at hl 0 rfl) ?_
      refine lv_if_eq (tgt := 103) hx hb dX11_hour_82 (by decide) (fun hc => ?_) (fun hc => ?_)
      · replace hf := wb_t hc hf
        refine lv_iconst (v := (-1 : Int32)) hx hb dX11_hour_103 (by decide) ?_
        exact J104 (-1 : Int32) ls (lv_sub hl [] rfl) hf
      · replace hf := wb_f hc hf
        refine lv_aload_n hx hb dX11_hour_85 rfl (lv_at hl 1 rfl) ?_
        refine va_get (D := D) (ci := 11) (v := .ref (a0 3)) (C := RX11) (T := TX11) (N := 13) hx hb hts hinX11 hown hK hP 0 rfl rfl 1 (by decide) (hts (.fieldLink RX11 19 "WheelBook" "told" "LWheelBook$House;") (List.mem_of_getElem? (i := 2) rfl)) (fun _ h9 => h9) rfl dX11_hour_86 ?_
        refine va_get (D := D) (ci := 5) (v := .ref (a0 8)) (C := RX5) (T := TX5) (N := 6) hx hb hts hinX5 hown hK hP 3 rfl rfl 4 (by decide) (hts (.fieldLink RX11 131 "WheelBook$House" "climates" "LWheelBook$Climates;") (List.mem_of_getElem? (i := 3) rfl)) (fun _ h9 => h9) rfl dX11_hour_89 ?_
        refine lv_iload hx hb dX11_hour_92 (lv_at hl 3 rfl) ?_
        refine lv_iload hx hb dX11_hour_94 (lv_at hl 4 rfl) ?_
        refine lv_iload_n hx hb dX11_hour_96 rfl (lv_at hl 2 rfl) ?_
        obtain ⟨r3, hr3, hf⟩ := wb_b hf
        refine vp_callSi (W.runV (As := [.int y49_5, .int y49_6, .int x3]) (rest := []) ⟨hx, hb, hml, hown, hts⟩ (cn_X2_nthHour l D cB cI cZ N (wb_sh a0 8) (wb_sh I0 9) (wb_sh M0 5) y49_5 y49_6 x3 r3 hr3) (cwV 3 hts gyX11_hour_X2_nthHour rfl rfl rfl cdX2_nthHour ⟨Nat.le_of_ble_eq_true rfl, Nat.le_of_ble_eq_true rfl⟩) (wb_preV (hP.sub (ws' := (wWX2 cB cI cZ (wb_sh a0 8) (wb_sh I0 9) (wb_sh M0 5))) [8, 9] rfl) hK (wr_2 hK hP (q0 := 8) rfl)) rfl rfl hl.1 rfl (lv_room (Nat.le_of_ble_eq_true rfl)) dX11_hour_97 ⟨Nat.le_of_ble_eq_true rfl, Nat.le_of_ble_eq_true rfl⟩) (fun r9 e9 => ?_)
        rw [e9]
        refine lv_goto (tgt := 104) hx hb dX11_hour_100 (by decide) ?_
        exact J104 r3 ls (lv_sub hl [] rfl) hf
    · replace hf := wb_t hc hf
      exact absurd hf wb_okn
  have J48 : ∀ (y48_5 : Int32) (y48_6 : Int32), ∀ (ls : Array Slot), lv_has ls 9 [(0, .ref (a0 0)), (3, .int x3), (5, .int y48_5), (6, .int y48_6)] → fX11_hour_J48 N I0 M0 x1 x2 x3 y48_5 y48_6 = some (.inl k) → W p l e (headSpec wyX11_hour { frames := 8, cells := 1, slots := 6, locals := 161 }).room s m [.ref (a0 0), .int x1, .int x2, .int x3].toArray below meth c s.heap [] 0 0 (vx_MQ below (va_Qi (fun _ (_ : Unit) => False) (fun _ _ => True) (fun q => s.heap.size ≤ q)) (vx_X (fun _ : Unit => True) (fun E _ _ => E = wb_ex k) (fun q => s.heap.size ≤ q)) [.ref (a0 0), .int x1, .int x2, .int x3].toArray s 1 6 (fun q => s.heap.size ≤ q)) (F0 m 48 ls []) := by
    intro y48_5 y48_6 ls hl hf
    unfold fX11_hour_J48 at hf
    refine lv_iconst (v := (0 : Int32)) hx hb dX11_hour_48 (by decide) ?_
    exact J49 y48_5 y48_6 (0 : Int32) ls (lv_sub hl [0, 1, 2, 3] rfl) hf
  refine lv_iload_n hx hb dX11_hour_0 rfl (lv_at hl 1 rfl) ?_
  refine lv_iload_n hx hb dX11_hour_1 rfl (lv_at hl 2 rfl) ?_
  rcases wb_xt hf with hrx | ⟨r4, hr4, hf⟩
  · refine vx_calli (vx_runS (As := [.int x1, .int x2]) (rest := []) ⟨hx, hb, hml, hown, hts⟩ (ct_X11_numberOf l hlt D cB cI cZ N x1 x2 s.heap.size k hrx) (va_cwS 2 hts gyX11_hour_X11_numberOf rfl rfl rfl csX11_numberOf ⟨Nat.le_of_ble_eq_true rfl, Nat.le_of_ble_eq_true rfl⟩) (wb_preXS (hP.sub (ws' := ([] : va_W)) [] rfl) hK hX) rfl rfl hl.1 rfl (lv_room (Nat.le_of_ble_eq_true rfl)) dX11_hour_2 ⟨Nat.le_of_ble_eq_true rfl, Nat.le_of_ble_eq_true rfl⟩) hS (fun q _ h => h) (fun _ h => h) (fun q _ h => h) (fun E ce q9 u t H locs ht hvm hpx hB hz1 hk1 hS hq9 hv9 hc9 => ?_) (fun r9 u t H locs ht hvm hw hB hz1 hk1 hS => hw.elim)
    exact vx_out (fun x hx9 => (htab x hx9).elim) hlocks hq9 hv9 hc9 (fun t9 ht9 hvm9 => ⟨(), trivial, hB, hS.F ht9⟩) hS.2.2 (Nat.le_of_ble_eq_true rfl) (Nat.le_of_ble_eq_true rfl)
  refine vp_callSi (W.runS (As := [.int x1, .int x2]) (rest := []) ⟨hx, hb, hml, hown, hts⟩ (cn_X11_numberOf l D cB cI cZ N x1 x2 r4 hr4) (va_cwS 2 hts gyX11_hour_X11_numberOf rfl rfl rfl csX11_numberOf ⟨Nat.le_of_ble_eq_true rfl, Nat.le_of_ble_eq_true rfl⟩) (wb_preS (hP.sub (ws' := ([] : va_W)) [] rfl) hK) rfl rfl hl.1 rfl (lv_room (Nat.le_of_ble_eq_true rfl)) dX11_hour_2 ⟨Nat.le_of_ble_eq_true rfl, Nat.le_of_ble_eq_true rfl⟩) (fun r9 e9 => ?_)
  rw [e9]
  refine lv_istore (lv' := [(4, .int r4), (0, .ref (a0 0)), (1, .int x1), (2, .int x2), (3, .int x3)]) hx hb dX11_hour_5 hl (by decide) rfl (fun ls hl => ?_)
  refine lv_aload_n hx hb dX11_hour_7 rfl (lv_at hl 1 rfl) ?_
  refine va_get (D := D) (ci := 11) (v := .ref (a0 21)) (C := RX11) (T := TX11) (N := 13) hx hb hts hinX11 hown hK hP 0 rfl rfl 3 (by decide) (hts (.fieldLink RX11 29 "WheelBook" "books" "LWheelBook$Books;") (List.mem_of_getElem? (i := 1) rfl)) (fun _ h9 => h9) rfl dX11_hour_8 ?_
  refine lv_iload hx hb dX11_hour_11 (lv_at hl 0 rfl) ?_
  refine lv_iconst (v := (0 : Int32)) hx hb dX11_hour_13 (by decide) ?_
  obtain ⟨r5, hr5, hf⟩ := wb_b hf
  refine vp_callSi (W.runV (As := [.int r4, .int (0 : Int32)]) (rest := []) ⟨hx, hb, hml, hown, hts⟩ (cn_X1_degreeOf l D cB cI cZ N (wb_sh a0 21) (wb_sh I0 13) (wb_sh M0 13) r4 (0 : Int32) r5 hr5) (cwV 2 hts gyX11_hour_X1_degreeOf rfl rfl rfl cdX1_degreeOf ⟨Nat.le_of_ble_eq_true rfl, Nat.le_of_ble_eq_true rfl⟩) (wb_preV (hP.sub (ws' := (wWX1 cB cI cZ (wb_sh a0 21) (wb_sh I0 13) (wb_sh M0 13))) [21, 22, 23] rfl) hK (wr_1 hK hP (q0 := 21) rfl)) rfl rfl hl.1 rfl (lv_room (Nat.le_of_ble_eq_true rfl)) dX11_hour_14 ⟨Nat.le_of_ble_eq_true rfl, Nat.le_of_ble_eq_true rfl⟩) (fun r9 e9 => ?_)
  rw [e9]
  refine lv_istore (lv' := [(5, .int r5), (4, .int r4), (0, .ref (a0 0)), (1, .int x1), (2, .int x2), (3, .int x3)]) hx hb dX11_hour_17 hl (by decide) rfl (fun ls hl => ?_)
  refine lv_aload_n hx hb dX11_hour_19 rfl (lv_at hl 2 rfl) ?_
  refine va_get (D := D) (ci := 11) (v := .ref (a0 21)) (C := RX11) (T := TX11) (N := 13) hx hb hts hinX11 hown hK hP 0 rfl rfl 3 (by decide) (hts (.fieldLink RX11 29 "WheelBook" "books" "LWheelBook$Books;") (List.mem_of_getElem? (i := 1) rfl)) (fun _ h9 => h9) rfl dX11_hour_20 ?_
  refine lv_iload hx hb dX11_hour_23 (lv_at hl 1 rfl) ?_
  refine lv_bipush (v := (7 : Int32)) hx hb dX11_hour_25 (by decide) ?_
  obtain ⟨r6, hr6, hf⟩ := wb_b hf
  refine vp_callSi (W.runV (As := [.int r4, .int (7 : Int32)]) (rest := []) ⟨hx, hb, hml, hown, hts⟩ (cn_X1_degreeOf l D cB cI cZ N (wb_sh a0 21) (wb_sh I0 13) (wb_sh M0 13) r4 (7 : Int32) r6 hr6) (cwV 2 hts gyX11_hour_X1_degreeOf rfl rfl rfl cdX1_degreeOf ⟨Nat.le_of_ble_eq_true rfl, Nat.le_of_ble_eq_true rfl⟩) (wb_preV (hP.sub (ws' := (wWX1 cB cI cZ (wb_sh a0 21) (wb_sh I0 13) (wb_sh M0 13))) [21, 22, 23] rfl) hK (wr_1 hK hP (q0 := 21) rfl)) rfl rfl hl.1 rfl (lv_room (Nat.le_of_ble_eq_true rfl)) dX11_hour_27 ⟨Nat.le_of_ble_eq_true rfl, Nat.le_of_ble_eq_true rfl⟩) (fun r9 e9 => ?_)
  rw [e9]
  refine lv_istore (lv' := [(6, .int r6), (5, .int r5), (4, .int r4), (0, .ref (a0 0)), (1, .int x1), (2, .int x2), (3, .int x3)]) hx hb dX11_hour_30 hl (by decide) rfl (fun ls hl => ?_)
  refine lv_iload hx hb dX11_hour_32 (lv_at hl 1 rfl) ?_
  refine lv_iconst (v := (-1 : Int32)) hx hb dX11_hour_34 (by decide) ?_
  refine lv_icmp_eq (tgt := 48) hx hb dX11_hour_35 (by decide) (fun hc => ?_) (fun hc => ?_)
  · replace hf := wb_t hc hf
    exact J48 r5 r6 ls (lv_sub hl [3, 6, 1, 0] rfl) hf
  · replace hf := wb_f hc hf
    refine lv_iload hx hb dX11_hour_38 (lv_at hl 0 rfl) ?_
    refine lv_iconst (v := (-1 : Int32)) hx hb dX11_hour_40 (by decide) ?_
    refine lv_icmp_eq (tgt := 48) hx hb dX11_hour_41 (by decide) (fun hc => ?_) (fun hc => ?_)
    · replace hf := wb_t hc hf
      exact J48 r5 r6 ls (lv_sub hl [3, 6, 1, 0] rfl) hf
    · replace hf := wb_f hc hf
      refine lv_iconst (v := (1 : Int32)) hx hb dX11_hour_44 (by decide) ?_
      refine lv_goto (tgt := 49) hx hb dX11_hour_45 (by decide) ?_
      exact J49 r5 r6 (1 : Int32) ls (lv_sub hl [3, 6, 1, 0] rfl) hf

set_option maxHeartbeats 4000000 in
set_option maxRecDepth 100000 in
theorem cn_X11_isWay (l : Launch) (D : va_G) (cB cI cZ : ClassId) (N : Nat) (a0 : Nat → Nat) (I0 : Nat → Int32) (M0 : Nat → Nat → Int32) (x1 : Int32) (x2 : Int32) (R : Int32) (hf : fX11_isWay N I0 M0 x1 x2 = some R) : Met l yX11_isWay wsX11_isWay ({ frames := 2, cells := 0, slots := 0, locals := 43 }) (va_Pc [.ref (a0 0), .int x1, .int x2] (wb_pre D [(cB, .byte), (cI, .int), (cZ, .boolean)] (wWX11 cB cI cZ a0 I0 M0))) (vp_Si (fun r => r = R)) 0 0 (fun _ => False) := by
  refine Met.ofW (cc := cX11_isWay) (maxL := 3) (ret := (some .boolean)) pn_X11 rfl ?_
  intro p e s m args below meth c s₁ B hml hv
  obtain ⟨rfl, hP, hK⟩ := hv
  have hx := B.exec
  have hb := B.bytes
  have hr := B.returns
  have hts := atoms_spec (ws := wsX11_isWay) B.pre
  have hown : s.vm.findClass RX11 = some m.cls := (findClass_of_methodNamed B.named :)
  have hlocks := B.notSynchronized
  have hl := lv_entry ([.ref (a0 0), .int x1, .int x2]) (n := 3) (Nat.le_of_ble_eq_true rfl)
  rw [lg_entry_eq]
  generalize (lg_sl ([.ref (a0 0), .int x1, .int x2]) ++ List.replicate (3 - (lg_sl ([.ref (a0 0), .int x1, .int x2])).length) Slot.unset).toArray = ls at hl ⊢
  have hl : lv_has ls 3 [(0, .ref (a0 0)), (1, .int x1), (2, .int x2)] := hl
  unfold fX11_isWay at hf
  refine lv_iload_n hx hb dX11_isWay_0 rfl (lv_at hl 1 rfl) ?_
  refine lv_iconst (v := (0 : Int32)) hx hb dX11_isWay_1 (by decide) ?_
  refine lv_iconst (v := (1 : Int32)) hx hb dX11_isWay_2 (by decide) ?_
  obtain ⟨r1, hr1, hf⟩ := wb_b hf
  refine vp_callSi (W.runS (As := [.int x1, .int (0 : Int32), .int (1 : Int32)]) (rest := []) ⟨hx, hb, hml, hown, hts⟩ (cn_X11_within l D cB cI cZ N x1 (0 : Int32) (1 : Int32) r1 hr1) (va_cwS 3 hts gX11_isWay_X11_within rfl rfl rfl csX11_within ⟨Nat.le_of_ble_eq_true rfl, Nat.le_of_ble_eq_true rfl⟩) (wb_preS (hP.sub (ws' := ([] : va_W)) [] rfl) hK) rfl rfl hl.1 rfl (lv_room (Nat.le_of_ble_eq_true rfl)) dX11_isWay_3 ⟨Nat.le_of_ble_eq_true rfl, Nat.le_of_ble_eq_true rfl⟩) (fun r9 e9 => ?_)
  rw [e9]
  refine lv_if_ne (tgt := 22) hx hb dX11_isWay_6 (by decide) (fun hc => ?_) (fun hc => ?_)
  · replace hf := wb_f hc hf
    refine lv_iconst (v := (1 : Int32)) hx hb dX11_isWay_22 (by decide) ?_
    refine lv_goto (tgt := 27) hx hb dX11_isWay_23 (by decide) ?_
    exact W.zret (v := (1 : Int32)) hx hb hr (by decide) (fun t ht hW => ⟨_, rfl, Option.some.inj hf, ht⟩) (fun _ h => nomatch h) dX11_isWay_27
  · replace hf := wb_t hc hf
    refine lv_iload_n hx hb dX11_isWay_9 rfl (lv_at hl 1 rfl) ?_
    refine lv_iconst (v := (2 : Int32)) hx hb dX11_isWay_10 (by decide) ?_
    refine lv_icmp_ne (tgt := 26) hx hb dX11_isWay_11 (by decide) (fun hc => ?_) (fun hc => ?_)
    · replace hf := wb_f hc hf
      refine lv_iconst (v := (0 : Int32)) hx hb dX11_isWay_26 (by decide) ?_
      exact W.zret (v := (0 : Int32)) hx hb hr (by decide) (fun t ht hW => ⟨_, rfl, Option.some.inj hf, ht⟩) (fun _ h => nomatch h) dX11_isWay_27
    · replace hf := wb_t hc hf
      refine lv_aload_n hx hb dX11_isWay_14 rfl (lv_at hl 0 rfl) ?_
      refine lv_iload_n hx hb dX11_isWay_15 rfl (lv_at hl 2 rfl) ?_
      obtain ⟨r2, hr2, hf⟩ := wb_b hf
      refine vp_callSi (W.runV (As := [.int x2]) (rest := []) ⟨hx, hb, hml, hown, hts⟩ (cn_X11_isClimate l D cB cI cZ N a0 I0 M0 x2 r2 hr2) (cwV 1 hts gX11_isWay_X11_isClimate rfl rfl rfl cdX11_isClimate ⟨Nat.le_of_ble_eq_true rfl, Nat.le_of_ble_eq_true rfl⟩) (wb_preV hP hK (wr_11 hK hP (q0 := 0) rfl)) rfl rfl hl.1 rfl (lv_room (Nat.le_of_ble_eq_true rfl)) dX11_isWay_16 ⟨Nat.le_of_ble_eq_true rfl, Nat.le_of_ble_eq_true rfl⟩) (fun r9 e9 => ?_)
      rw [e9]
      refine lv_if_eq (tgt := 26) hx hb dX11_isWay_19 (by decide) (fun hc => ?_) (fun hc => ?_)
      · replace hf := wb_t hc hf
        refine lv_iconst (v := (0 : Int32)) hx hb dX11_isWay_26 (by decide) ?_
        exact W.zret (v := (0 : Int32)) hx hb hr (by decide) (fun t ht hW => ⟨_, rfl, Option.some.inj hf, ht⟩) (fun _ h => nomatch h) dX11_isWay_27
      · replace hf := wb_f hc hf
        refine lv_iconst (v := (1 : Int32)) hx hb dX11_isWay_22 (by decide) ?_
        refine lv_goto (tgt := 27) hx hb dX11_isWay_23 (by decide) ?_
        exact W.zret (v := (1 : Int32)) hx hb hr (by decide) (fun t ht hW => ⟨_, rfl, Option.some.inj hf, ht⟩) (fun _ h => nomatch h) dX11_isWay_27

set_option maxHeartbeats 4000000 in
set_option maxRecDepth 100000 in
theorem cn_X11_houseOf (l : Launch) (D : va_G) (cB cI cZ : ClassId) (N : Nat) (a0 : Nat → Nat) (I0 : Nat → Int32) (M0 : Nat → Nat → Int32) (x1 : Int32) (x2 : Int32) (x3 : Int32) (x4 : Int32) (R : Int32) (hf : fX11_houseOf N I0 M0 x1 x2 x3 x4 = some (.inr R)) : Met l yX11_houseOf wyX11_houseOf ({ frames := 7, cells := 0, slots := 0, locals := 140 }) (va_Pc [.ref (a0 0), .int x1, .int x2, .int x3, .int x4] (wb_pre D [(cB, .byte), (cI, .int), (cZ, .boolean)] (wWX11 cB cI cZ a0 I0 M0))) (vp_Si (fun r => r = R)) 0 0 (fun _ => False) := by
  refine Met.ofW (cc := cX11_houseOf) (maxL := 5) (ret := (some .int)) pn_X11 rfl ?_
  intro p e s m args below meth c s₁ B hml hv
  obtain ⟨rfl, hP, hK⟩ := hv
  have hx := B.exec
  have hb := B.bytes
  have hr := B.returns
  have hts := atoms_spec (ws := wyX11_houseOf) B.pre
  have hown : s.vm.findClass RX11 = some m.cls := (findClass_of_methodNamed B.named :)
  have hlocks := B.notSynchronized
  have hinX11 : ∀ w ∈ u_ws RX11 TX11 13, w ∈ wyX11_houseOf := fun w h => List.mem_cons_of_mem _ (List.mem_append_left _ (List.mem_append_left _ (List.mem_append_left _ (List.mem_append_right _ h))))
  have hinX5 : ∀ w ∈ u_ws RX5 TX5 6, w ∈ wyX11_houseOf := fun w h => List.mem_cons_of_mem _ (List.mem_append_left _ (List.mem_append_left _ (List.mem_append_right _ h)))
  have hl := lv_entry ([.ref (a0 0), .int x1, .int x2, .int x3, .int x4]) (n := 5) (Nat.le_of_ble_eq_true rfl)
  rw [lg_entry_eq]
  generalize (lg_sl ([.ref (a0 0), .int x1, .int x2, .int x3, .int x4]) ++ List.replicate (5 - (lg_sl ([.ref (a0 0), .int x1, .int x2, .int x3, .int x4])).length) Slot.unset).toArray = ls at hl ⊢
  have hl : lv_has ls 5 [(0, .ref (a0 0)), (1, .int x1), (2, .int x2), (3, .int x3), (4, .int x4)] := hl
  unfold fX11_houseOf at hf
  have J36 : ∀ (z36_0 : Int32), ∀ (ls : Array Slot), lv_has ls 5 [(0, .ref (a0 0)), (1, .int x1), (2, .int x2), (3, .int x3), (4, .int x4)] → fX11_houseOf_J36 N I0 M0 x1 x2 x3 x4 z36_0 = some (.inr R) → W p l e (headSpec wyX11_houseOf { frames := 7, cells := 0, slots := 0, locals := 140 }).room s m [.ref (a0 0), .int x1, .int x2, .int x3, .int x4].toArray below meth c s.heap [] 0 0 (MQ below (vp_Si (fun r => r = R)) [.ref (a0 0), .int x1, .int x2, .int x3, .int x4].toArray s 0 0 (fun _ => False)) (F0 m 36 ls [.int z36_0]) := by
    intro z36_0 ls hl hf
    unfold fX11_houseOf_J36 at hf
    obtain ⟨r1, hr1, hf⟩ := wb_xr hf
    refine va_csv (W.runS (As := [.int z36_0]) (rest := []) ⟨hx, hb, hml, hown, hts⟩ (cn_X11_need l D cB cI cZ N z36_0 r1 hr1) (va_cwS 1 hts gyX11_houseOf_X11_need rfl rfl rfl csX11_need ⟨Nat.le_of_ble_eq_true rfl, Nat.le_of_ble_eq_true rfl⟩) (wb_preS (hP.sub (ws' := ([] : va_W)) [] rfl) hK) rfl rfl hl.1 rfl (lv_room (Nat.le_of_ble_eq_true rfl)) dX11_houseOf_36 ⟨Nat.le_of_ble_eq_true rfl, Nat.le_of_ble_eq_true rfl⟩) (fun _ => ?_)
    replace hf := wb_okr hf
    refine lv_aload_n hx hb dX11_houseOf_39 rfl (lv_at hl 0 rfl) ?_
    refine va_get (D := D) (ci := 11) (v := .ref (a0 3)) (C := RX11) (T := TX11) (N := 13) hx hb hts hinX11 hown hK hP 0 rfl rfl 1 (by decide) (hts (.fieldLink RX11 19 "WheelBook" "told" "LWheelBook$House;") (List.mem_of_getElem? (i := 1) rfl)) (fun _ h9 => h9) rfl dX11_houseOf_40 ?_
    refine va_get (D := D) (ci := 5) (v := .ref (a0 8)) (C := RX5) (T := TX5) (N := 6) hx hb hts hinX5 hown hK hP 3 rfl rfl 4 (by decide) (hts (.fieldLink RX11 131 "WheelBook$House" "climates" "LWheelBook$Climates;") (List.mem_of_getElem? (i := 2) rfl)) (fun _ h9 => h9) rfl dX11_houseOf_43 ?_
    refine lv_iload_n hx hb dX11_houseOf_46 rfl (lv_at hl 1 rfl) ?_
    refine lv_iload_n hx hb dX11_houseOf_47 rfl (lv_at hl 2 rfl) ?_
    refine lv_iload_n hx hb dX11_houseOf_48 rfl (lv_at hl 3 rfl) ?_
    refine lv_iload hx hb dX11_houseOf_49 (lv_at hl 4 rfl) ?_
    obtain ⟨r2, hr2, hf⟩ := wb_b hf
    refine vp_callSi (W.runV (As := [.int x1, .int x2, .int x3, .int x4]) (rest := []) ⟨hx, hb, hml, hown, hts⟩ (cn_X2_houseDegree l D cB cI cZ N (wb_sh a0 8) (wb_sh I0 9) (wb_sh M0 5) x1 x2 x3 x4 r2 hr2) (cwV 4 hts gyX11_houseOf_X2_houseDegree rfl rfl rfl cdX2_houseDegree ⟨Nat.le_of_ble_eq_true rfl, Nat.le_of_ble_eq_true rfl⟩) (wb_preV (hP.sub (ws' := (wWX2 cB cI cZ (wb_sh a0 8) (wb_sh I0 9) (wb_sh M0 5))) [8, 9] rfl) hK (wr_2 hK hP (q0 := 8) rfl)) rfl rfl hl.1 rfl (lv_room (Nat.le_of_ble_eq_true rfl)) dX11_houseOf_51 ⟨Nat.le_of_ble_eq_true rfl, Nat.le_of_ble_eq_true rfl⟩) (fun r9 e9 => ?_)
    rw [e9]
    exact W.iret (v := r2) hx hb hr (fun t ht hW => ⟨_, rfl, Option.some.inj hf, ht⟩) (fun _ h => nomatch h) dX11_houseOf_54
  have J35 : ∀ (ls : Array Slot), lv_has ls 5 [(0, .ref (a0 0)), (1, .int x1), (2, .int x2), (3, .int x3), (4, .int x4)] → fX11_houseOf_J35 N I0 M0 x1 x2 x3 x4 = some (.inr R) → W p l e (headSpec wyX11_houseOf { frames := 7, cells := 0, slots := 0, locals := 140 }).room s m [.ref (a0 0), .int x1, .int x2, .int x3, .int x4].toArray below meth c s.heap [] 0 0 (MQ below (vp_Si (fun r => r = R)) [.ref (a0 0), .int x1, .int x2, .int x3, .int x4].toArray s 0 0 (fun _ => False)) (F0 m 35 ls []) := by
    intro ls hl hf
    unfold fX11_houseOf_J35 at hf
    refine lv_iconst (v := (0 : Int32)) hx hb dX11_houseOf_35 (by decide) ?_
    exact J36 (0 : Int32) ls (lv_sub hl [0, 1, 2, 3, 4] rfl) hf
  refine lv_iload_n hx hb dX11_houseOf_0 rfl (lv_at hl 1 rfl) ?_
  refine lv_iconst (v := (0 : Int32)) hx hb dX11_houseOf_1 (by decide) ?_
  refine lv_sipush (v := (359 : Int32)) hx hb dX11_houseOf_2 (by decide) ?_
  obtain ⟨r3, hr3, hf⟩ := wb_b hf
  refine vp_callSi (W.runS (As := [.int x1, .int (0 : Int32), .int (359 : Int32)]) (rest := []) ⟨hx, hb, hml, hown, hts⟩ (cn_X11_within l D cB cI cZ N x1 (0 : Int32) (359 : Int32) r3 hr3) (va_cwS 3 hts gyX11_houseOf_X11_within rfl rfl rfl csX11_within ⟨Nat.le_of_ble_eq_true rfl, Nat.le_of_ble_eq_true rfl⟩) (wb_preS (hP.sub (ws' := ([] : va_W)) [] rfl) hK) rfl rfl hl.1 rfl (lv_room (Nat.le_of_ble_eq_true rfl)) dX11_houseOf_5 ⟨Nat.le_of_ble_eq_true rfl, Nat.le_of_ble_eq_true rfl⟩) (fun r9 e9 => ?_)
  rw [e9]
  refine lv_if_eq (tgt := 35) hx hb dX11_houseOf_8 (by decide) (fun hc => ?_) (fun hc => ?_)
  · replace hf := wb_t hc hf
    exact J35 ls (lv_sub hl [0, 1, 2, 3, 4] rfl) hf
  · replace hf := wb_f hc hf
    refine lv_aload_n hx hb dX11_houseOf_11 rfl (lv_at hl 0 rfl) ?_
    refine lv_iload_n hx hb dX11_houseOf_12 rfl (lv_at hl 2 rfl) ?_
    refine lv_iload_n hx hb dX11_houseOf_13 rfl (lv_at hl 3 rfl) ?_
    obtain ⟨r4, hr4, hf⟩ := wb_b hf
    refine vp_callSi (W.runV (As := [.int x2, .int x3]) (rest := []) ⟨hx, hb, hml, hown, hts⟩ (cn_X11_isWay l D cB cI cZ N a0 I0 M0 x2 x3 r4 hr4) (cwV 2 hts gyX11_houseOf_X11_isWay rfl rfl rfl cdX11_isWay ⟨Nat.le_of_ble_eq_true rfl, Nat.le_of_ble_eq_true rfl⟩) (wb_preV hP hK (wr_11 hK hP (q0 := 0) rfl)) rfl rfl hl.1 rfl (lv_room (Nat.le_of_ble_eq_true rfl)) dX11_houseOf_14 ⟨Nat.le_of_ble_eq_true rfl, Nat.le_of_ble_eq_true rfl⟩) (fun r9 e9 => ?_)
    rw [e9]
    refine lv_if_eq (tgt := 35) hx hb dX11_houseOf_17 (by decide) (fun hc => ?_) (fun hc => ?_)
    · replace hf := wb_t hc hf
      exact J35 ls (lv_sub hl [0, 1, 2, 3, 4] rfl) hf
    · replace hf := wb_f hc hf
      refine lv_iload hx hb dX11_houseOf_20 (lv_at hl 4 rfl) ?_
      refine lv_iconst (v := (1 : Int32)) hx hb dX11_houseOf_22 (by decide) ?_
      refine lv_bipush (v := (12 : Int32)) hx hb dX11_houseOf_23 (by decide) ?_
      obtain ⟨r5, hr5, hf⟩ := wb_b hf
      refine vp_callSi (W.runS (As := [.int x4, .int (1 : Int32), .int (12 : Int32)]) (rest := []) ⟨hx, hb, hml, hown, hts⟩ (cn_X11_within l D cB cI cZ N x4 (1 : Int32) (12 : Int32) r5 hr5) (va_cwS 3 hts gyX11_houseOf_X11_within rfl rfl rfl csX11_within ⟨Nat.le_of_ble_eq_true rfl, Nat.le_of_ble_eq_true rfl⟩) (wb_preS (hP.sub (ws' := ([] : va_W)) [] rfl) hK) rfl rfl hl.1 rfl (lv_room (Nat.le_of_ble_eq_true rfl)) dX11_houseOf_25 ⟨Nat.le_of_ble_eq_true rfl, Nat.le_of_ble_eq_true rfl⟩) (fun r9 e9 => ?_)
      rw [e9]
      refine lv_if_eq (tgt := 35) hx hb dX11_houseOf_28 (by decide) (fun hc => ?_) (fun hc => ?_)
      · replace hf := wb_t hc hf
        exact J35 ls (lv_sub hl [0, 1, 2, 3, 4] rfl) hf
      · replace hf := wb_f hc hf
        refine lv_iconst (v := (1 : Int32)) hx hb dX11_houseOf_31 (by decide) ?_
        refine lv_goto (tgt := 36) hx hb dX11_houseOf_32 (by decide) ?_
        exact J36 (1 : Int32) ls (lv_sub hl [0, 1, 2, 3, 4] rfl) hf
set_option maxHeartbeats 4000000 in
set_option maxRecDepth 100000 in
theorem ct_X11_houseOf (l : Launch) (hlt : l.stackTraces = false) (D : va_G) (cB cI cZ : ClassId) (N : Nat) (a0 : Nat → Nat) (I0 : Nat → Int32) (M0 : Nat → Nat → Int32) (x1 : Int32) (x2 : Int32) (x3 : Int32) (x4 : Int32) (sz k : Nat) (hf : fX11_houseOf N I0 M0 x1 x2 x3 x4 = some (.inl k)) : vx_Met l yX11_houseOf wyX11_houseOf ({ frames := 7, cells := 1, slots := 6, locals := 140 }) (va_Pc [.ref (a0 0), .int x1, .int x2, .int x3, .int x4] (wb_preX D [(cB, .byte), (cI, .int), (cZ, .boolean)] (wWX11 cB cI cZ a0 I0 M0) sz)) (va_Qi (fun _ (_ : Unit) => False) (fun _ _ => True) (fun q => sz ≤ q)) (vx_X (fun _ : Unit => True) (fun E _ _ => E = wb_ex k) (fun q => sz ≤ q)) 1 6 (fun q => sz ≤ q) := by
  refine vx_ofW (cc := cX11_houseOf) (maxL := 5) (ret := (some .int)) (by decide) rfl ?_
  intro p e s m args below meth c s₁ B hml htab hv
  obtain ⟨rfl, hsz, hP, hK, hX⟩ := hv
  subst hsz
  have hx := B.exec
  have hb := B.bytes
  have hr := B.returns
  have hts := atoms_spec (ws := wyX11_houseOf) B.pre
  have hown : s.vm.findClass RX11 = some m.cls := (findClass_of_methodNamed B.named :)
  have hlocks := B.notSynchronized
  have hS : va_S (fun q => s.heap.size ≤ q) s.heap s.heap [] := va_S.rf
  have hl := lv_entry ([.ref (a0 0), .int x1, .int x2, .int x3, .int x4]) (n := 5) (Nat.le_of_ble_eq_true rfl)
  rw [lg_entry_eq]
  generalize (lg_sl ([.ref (a0 0), .int x1, .int x2, .int x3, .int x4]) ++ List.replicate (5 - (lg_sl ([.ref (a0 0), .int x1, .int x2, .int x3, .int x4])).length) Slot.unset).toArray = ls at hl ⊢
  have hl : lv_has ls 5 [(0, .ref (a0 0)), (1, .int x1), (2, .int x2), (3, .int x3), (4, .int x4)] := hl
  unfold fX11_houseOf at hf
  have J36 : ∀ (z36_0 : Int32), ∀ (ls : Array Slot), lv_has ls 5 [(0, .ref (a0 0)), (1, .int x1), (2, .int x2), (3, .int x3), (4, .int x4)] → fX11_houseOf_J36 N I0 M0 x1 x2 x3 x4 z36_0 = some (.inl k) → W p l e (headSpec wyX11_houseOf { frames := 7, cells := 1, slots := 6, locals := 140 }).room s m [.ref (a0 0), .int x1, .int x2, .int x3, .int x4].toArray below meth c s.heap [] 0 0 (vx_MQ below (va_Qi (fun _ (_ : Unit) => False) (fun _ _ => True) (fun q => s.heap.size ≤ q)) (vx_X (fun _ : Unit => True) (fun E _ _ => E = wb_ex k) (fun q => s.heap.size ≤ q)) [.ref (a0 0), .int x1, .int x2, .int x3, .int x4].toArray s 1 6 (fun q => s.heap.size ≤ q)) (F0 m 36 ls [.int z36_0]) := by
    intro z36_0 ls hl hf
    unfold fX11_houseOf_J36 at hf
    rcases wb_xt hf with hrx | ⟨r1, hr1, hf⟩
    · refine vx_callv (vx_runS (As := [.int z36_0]) (rest := []) ⟨hx, hb, hml, hown, hts⟩ (ct_X11_need l hlt D cB cI cZ N z36_0 s.heap.size k hrx) (va_cwS 1 hts gyX11_houseOf_X11_need rfl rfl rfl csX11_need ⟨Nat.le_of_ble_eq_true rfl, Nat.le_of_ble_eq_true rfl⟩) (wb_preXS (hP.sub (ws' := ([] : va_W)) [] rfl) hK hX) rfl rfl hl.1 rfl (lv_room (Nat.le_of_ble_eq_true rfl)) dX11_houseOf_36 ⟨Nat.le_of_ble_eq_true rfl, Nat.le_of_ble_eq_true rfl⟩) hS (fun q _ h => h) (fun _ h => h) (fun q _ h => h) (fun E ce q9 u t H locs ht hvm hpx hB hz1 hk1 hS hq9 hv9 hc9 => ?_) (fun u t H locs ht hvm hw hB hz1 hk1 hS => hw.elim)
      exact vx_out (fun x hx9 => (htab x hx9).elim) hlocks hq9 hv9 hc9 (fun t9 ht9 hvm9 => ⟨(), trivial, hB, hS.F ht9⟩) hS.2.2 (Nat.le_of_ble_eq_true rfl) (Nat.le_of_ble_eq_true rfl)
    refine va_csv (W.runS (As := [.int z36_0]) (rest := []) ⟨hx, hb, hml, hown, hts⟩ (cn_X11_need l D cB cI cZ N z36_0 r1 hr1) (va_cwS 1 hts gyX11_houseOf_X11_need rfl rfl rfl csX11_need ⟨Nat.le_of_ble_eq_true rfl, Nat.le_of_ble_eq_true rfl⟩) (wb_preS (hP.sub (ws' := ([] : va_W)) [] rfl) hK) rfl rfl hl.1 rfl (lv_room (Nat.le_of_ble_eq_true rfl)) dX11_houseOf_36 ⟨Nat.le_of_ble_eq_true rfl, Nat.le_of_ble_eq_true rfl⟩) (fun _ => ?_)
    exact absurd hf wb_okn
  have J35 : ∀ (ls : Array Slot), lv_has ls 5 [(0, .ref (a0 0)), (1, .int x1), (2, .int x2), (3, .int x3), (4, .int x4)] → fX11_houseOf_J35 N I0 M0 x1 x2 x3 x4 = some (.inl k) → W p l e (headSpec wyX11_houseOf { frames := 7, cells := 1, slots := 6, locals := 140 }).room s m [.ref (a0 0), .int x1, .int x2, .int x3, .int x4].toArray below meth c s.heap [] 0 0 (vx_MQ below (va_Qi (fun _ (_ : Unit) => False) (fun _ _ => True) (fun q => s.heap.size ≤ q)) (vx_X (fun _ : Unit => True) (fun E _ _ => E = wb_ex k) (fun q => s.heap.size ≤ q)) [.ref (a0 0), .int x1, .int x2, .int x3, .int x4].toArray s 1 6 (fun q => s.heap.size ≤ q)) (F0 m 35 ls []) := by
    intro ls hl hf
    unfold fX11_houseOf_J35 at hf
    refine lv_iconst (v := (0 : Int32)) hx hb dX11_houseOf_35 (by decide) ?_
    exact J36 (0 : Int32) ls (lv_sub hl [0, 1, 2, 3, 4] rfl) hf
  refine lv_iload_n hx hb dX11_houseOf_0 rfl (lv_at hl 1 rfl) ?_
  refine lv_iconst (v := (0 : Int32)) hx hb dX11_houseOf_1 (by decide) ?_
  refine lv_sipush (v := (359 : Int32)) hx hb dX11_houseOf_2 (by decide) ?_
  obtain ⟨r2, hr2, hf⟩ := wb_b hf
  refine vp_callSi (W.runS (As := [.int x1, .int (0 : Int32), .int (359 : Int32)]) (rest := []) ⟨hx, hb, hml, hown, hts⟩ (cn_X11_within l D cB cI cZ N x1 (0 : Int32) (359 : Int32) r2 hr2) (va_cwS 3 hts gyX11_houseOf_X11_within rfl rfl rfl csX11_within ⟨Nat.le_of_ble_eq_true rfl, Nat.le_of_ble_eq_true rfl⟩) (wb_preS (hP.sub (ws' := ([] : va_W)) [] rfl) hK) rfl rfl hl.1 rfl (lv_room (Nat.le_of_ble_eq_true rfl)) dX11_houseOf_5 ⟨Nat.le_of_ble_eq_true rfl, Nat.le_of_ble_eq_true rfl⟩) (fun r9 e9 => ?_)
  rw [e9]
  refine lv_if_eq (tgt := 35) hx hb dX11_houseOf_8 (by decide) (fun hc => ?_) (fun hc => ?_)
  · replace hf := wb_t hc hf
    exact J35 ls (lv_sub hl [0, 1, 2, 3, 4] rfl) hf
  · replace hf := wb_f hc hf
    refine lv_aload_n hx hb dX11_houseOf_11 rfl (lv_at hl 0 rfl) ?_
    refine lv_iload_n hx hb dX11_houseOf_12 rfl (lv_at hl 2 rfl) ?_
    refine lv_iload_n hx hb dX11_houseOf_13 rfl (lv_at hl 3 rfl) ?_
    obtain ⟨r3, hr3, hf⟩ := wb_b hf
    refine vp_callSi (W.runV (As := [.int x2, .int x3]) (rest := []) ⟨hx, hb, hml, hown, hts⟩ (cn_X11_isWay l D cB cI cZ N a0 I0 M0 x2 x3 r3 hr3) (cwV 2 hts gyX11_houseOf_X11_isWay rfl rfl rfl cdX11_isWay ⟨Nat.le_of_ble_eq_true rfl, Nat.le_of_ble_eq_true rfl⟩) (wb_preV hP hK (wr_11 hK hP (q0 := 0) rfl)) rfl rfl hl.1 rfl (lv_room (Nat.le_of_ble_eq_true rfl)) dX11_houseOf_14 ⟨Nat.le_of_ble_eq_true rfl, Nat.le_of_ble_eq_true rfl⟩) (fun r9 e9 => ?_)
    rw [e9]
    refine lv_if_eq (tgt := 35) hx hb dX11_houseOf_17 (by decide) (fun hc => ?_) (fun hc => ?_)
    · replace hf := wb_t hc hf
      exact J35 ls (lv_sub hl [0, 1, 2, 3, 4] rfl) hf
    · replace hf := wb_f hc hf
      refine lv_iload hx hb dX11_houseOf_20 (lv_at hl 4 rfl) ?_
      refine lv_iconst (v := (1 : Int32)) hx hb dX11_houseOf_22 (by decide) ?_
      refine lv_bipush (v := (12 : Int32)) hx hb dX11_houseOf_23 (by decide) ?_
      obtain ⟨r4, hr4, hf⟩ := wb_b hf
      refine vp_callSi (W.runS (As := [.int x4, .int (1 : Int32), .int (12 : Int32)]) (rest := []) ⟨hx, hb, hml, hown, hts⟩ (cn_X11_within l D cB cI cZ N x4 (1 : Int32) (12 : Int32) r4 hr4) (va_cwS 3 hts gyX11_houseOf_X11_within rfl rfl rfl csX11_within ⟨Nat.le_of_ble_eq_true rfl, Nat.le_of_ble_eq_true rfl⟩) (wb_preS (hP.sub (ws' := ([] : va_W)) [] rfl) hK) rfl rfl hl.1 rfl (lv_room (Nat.le_of_ble_eq_true rfl)) dX11_houseOf_25 ⟨Nat.le_of_ble_eq_true rfl, Nat.le_of_ble_eq_true rfl⟩) (fun r9 e9 => ?_)
      rw [e9]
      refine lv_if_eq (tgt := 35) hx hb dX11_houseOf_28 (by decide) (fun hc => ?_) (fun hc => ?_)
      · replace hf := wb_t hc hf
        exact J35 ls (lv_sub hl [0, 1, 2, 3, 4] rfl) hf
      · replace hf := wb_f hc hf
        refine lv_iconst (v := (1 : Int32)) hx hb dX11_houseOf_31 (by decide) ?_
        refine lv_goto (tgt := 36) hx hb dX11_houseOf_32 (by decide) ?_
        exact J36 (1 : Int32) ls (lv_sub hl [0, 1, 2, 3, 4] rfl) hf

set_option maxHeartbeats 4000000 in
set_option maxRecDepth 100000 in
theorem cn_X11_agree (l : Launch) (D : va_G) (cB cI cZ : ClassId) (N : Nat) (a0 : Nat → Nat) (I0 : Nat → Int32) (M0 : Nat → Nat → Int32) (x1 : Int32) (x2 : Int32) (x3 : Int32) (x4 : Int32) (R : Int32) (hf : fX11_agree N I0 M0 x1 x2 x3 x4 = some (.inr R)) : Met l yX11_agree wyX11_agree ({ frames := 8, cells := 0, slots := 0, locals := 161 }) (va_Pc [.ref (a0 0), .int x1, .int x2, .int x3, .int x4] (wb_pre D [(cB, .byte), (cI, .int), (cZ, .boolean)] (wWX11 cB cI cZ a0 I0 M0))) (vp_Si (fun r => r = R)) 0 0 (fun _ => False) := by
  refine Met.ofW (cc := cX11_agree) (maxL := 6) (ret := (some .int)) pn_X11 rfl ?_
  intro p e s m args below meth c s₁ B hml hv
  obtain ⟨rfl, hP, hK⟩ := hv
  have hx := B.exec
  have hb := B.bytes
  have hr := B.returns
  have hts := atoms_spec (ws := wyX11_agree) B.pre
  have hown : s.vm.findClass RX11 = some m.cls := (findClass_of_methodNamed B.named :)
  have hlocks := B.notSynchronized
  have hinX11 : ∀ w ∈ u_ws RX11 TX11 13, w ∈ wyX11_agree := fun w h => List.mem_cons_of_mem _ (List.mem_append_left _ (List.mem_append_left _ (List.mem_append_left _ (List.mem_append_left _ (List.mem_append_right _ h)))))
  have hinX5 : ∀ w ∈ u_ws RX5 TX5 6, w ∈ wyX11_agree := fun w h => List.mem_cons_of_mem _ (List.mem_append_left _ (List.mem_append_left _ (List.mem_append_left _ (List.mem_append_right _ h))))
  have hl := lv_entry ([.ref (a0 0), .int x1, .int x2, .int x3, .int x4]) (n := 6) (Nat.le_of_ble_eq_true rfl)
  rw [lg_entry_eq]
  generalize (lg_sl ([.ref (a0 0), .int x1, .int x2, .int x3, .int x4]) ++ List.replicate (6 - (lg_sl ([.ref (a0 0), .int x1, .int x2, .int x3, .int x4])).length) Slot.unset).toArray = ls at hl ⊢
  have hl : lv_has ls 6 [(0, .ref (a0 0)), (1, .int x1), (2, .int x2), (3, .int x3), (4, .int x4)] := hl
  unfold fX11_agree at hf
  refine lv_iload_n hx hb dX11_agree_0 rfl (lv_at hl 1 rfl) ?_
  refine lv_iload_n hx hb dX11_agree_1 rfl (lv_at hl 2 rfl) ?_
  obtain ⟨r1, hr1, hf⟩ := wb_xr hf
  refine vp_callSi (W.runS (As := [.int x1, .int x2]) (rest := []) ⟨hx, hb, hml, hown, hts⟩ (cn_X11_numberOf l D cB cI cZ N x1 x2 r1 hr1) (va_cwS 2 hts gyX11_agree_X11_numberOf rfl rfl rfl csX11_numberOf ⟨Nat.le_of_ble_eq_true rfl, Nat.le_of_ble_eq_true rfl⟩) (wb_preS (hP.sub (ws' := ([] : va_W)) [] rfl) hK) rfl rfl hl.1 rfl (lv_room (Nat.le_of_ble_eq_true rfl)) dX11_agree_2 ⟨Nat.le_of_ble_eq_true rfl, Nat.le_of_ble_eq_true rfl⟩) (fun r9 e9 => ?_)
  rw [e9]
  refine lv_istore (lv' := [(5, .int r1), (0, .ref (a0 0)), (1, .int x1), (2, .int x2), (3, .int x3), (4, .int x4)]) hx hb dX11_agree_5 hl (by decide) rfl (fun ls hl => ?_)
  refine lv_aload_n hx hb dX11_agree_7 rfl (lv_at hl 1 rfl) ?_
  refine lv_iload_n hx hb dX11_agree_8 rfl (lv_at hl 4 rfl) ?_
  refine lv_iload hx hb dX11_agree_9 (lv_at hl 5 rfl) ?_
  obtain ⟨r2, hr2, hf⟩ := wb_b hf
  refine vp_callSi (W.runV (As := [.int x3, .int x4]) (rest := []) ⟨hx, hb, hml, hown, hts⟩ (cn_X11_isWay l D cB cI cZ N a0 I0 M0 x3 x4 r2 hr2) (cwV 2 hts gyX11_agree_X11_isWay rfl rfl rfl cdX11_isWay ⟨Nat.le_of_ble_eq_true rfl, Nat.le_of_ble_eq_true rfl⟩) (wb_preV hP hK (wr_11 hK hP (q0 := 0) rfl)) rfl rfl hl.1 rfl (lv_room (Nat.le_of_ble_eq_true rfl)) dX11_agree_11 ⟨Nat.le_of_ble_eq_true rfl, Nat.le_of_ble_eq_true rfl⟩) (fun r9 e9 => ?_)
  rw [e9]
  obtain ⟨r3, hr3, hf⟩ := wb_xr hf
  refine va_csv (W.runS (As := [.int r2]) (rest := []) ⟨hx, hb, hml, hown, hts⟩ (cn_X11_need l D cB cI cZ N r2 r3 hr3) (va_cwS 1 hts gyX11_agree_X11_need rfl rfl rfl csX11_need ⟨Nat.le_of_ble_eq_true rfl, Nat.le_of_ble_eq_true rfl⟩) (wb_preS (hP.sub (ws' := ([] : va_W)) [] rfl) hK) rfl rfl hl.1 rfl (lv_room (Nat.le_of_ble_eq_true rfl)) dX11_agree_14 ⟨Nat.le_of_ble_eq_true rfl, Nat.le_of_ble_eq_true rfl⟩) (fun _ => ?_)
  replace hf := wb_okr hf
  refine lv_aload_n hx hb dX11_agree_17 rfl (lv_at hl 1 rfl) ?_
  refine va_get (D := D) (ci := 11) (v := .ref (a0 21)) (C := RX11) (T := TX11) (N := 13) hx hb hts hinX11 hown hK hP 0 rfl rfl 3 (by decide) (hts (.fieldLink RX11 29 "WheelBook" "books" "LWheelBook$Books;") (List.mem_of_getElem? (i := 1) rfl)) (fun _ h9 => h9) rfl dX11_agree_18 ?_
  refine lv_iload hx hb dX11_agree_21 (lv_at hl 0 rfl) ?_
  refine lv_bipush (v := (7 : Int32)) hx hb dX11_agree_23 (by decide) ?_
  obtain ⟨r4, hr4, hf⟩ := wb_b hf
  refine vp_callSi (W.runV (As := [.int r1, .int (7 : Int32)]) (rest := []) ⟨hx, hb, hml, hown, hts⟩ (cn_X1_degreeOf l D cB cI cZ N (wb_sh a0 21) (wb_sh I0 13) (wb_sh M0 13) r1 (7 : Int32) r4 hr4) (cwV 2 hts gyX11_agree_X1_degreeOf rfl rfl rfl cdX1_degreeOf ⟨Nat.le_of_ble_eq_true rfl, Nat.le_of_ble_eq_true rfl⟩) (wb_preV (hP.sub (ws' := (wWX1 cB cI cZ (wb_sh a0 21) (wb_sh I0 13) (wb_sh M0 13))) [21, 22, 23] rfl) hK (wr_1 hK hP (q0 := 21) rfl)) rfl rfl hl.1 rfl (lv_room (Nat.le_of_ble_eq_true rfl)) dX11_agree_25 ⟨Nat.le_of_ble_eq_true rfl, Nat.le_of_ble_eq_true rfl⟩) (fun r9 e9 => ?_)
  rw [e9]
  refine lv_iconst (v := (-1 : Int32)) hx hb dX11_agree_28 (by decide) ?_
  refine lv_icmp_ne (tgt := 34) hx hb dX11_agree_29 (by decide) (fun hc => ?_) (fun hc => ?_)
  · replace hf := wb_f hc hf
    refine lv_aload_n hx hb dX11_agree_34 rfl (lv_at hl 1 rfl) ?_
    refine va_get (D := D) (ci := 11) (v := .ref (a0 21)) (C := RX11) (T := TX11) (N := 13) hx hb hts hinX11 hown hK hP 0 rfl rfl 3 (by decide) (hts (.fieldLink RX11 29 "WheelBook" "books" "LWheelBook$Books;") (List.mem_of_getElem? (i := 1) rfl)) (fun _ h9 => h9) rfl dX11_agree_35 ?_
    refine lv_iload hx hb dX11_agree_38 (lv_at hl 0 rfl) ?_
    obtain ⟨r5, hr5, hf⟩ := wb_b hf
    refine vp_callSi (W.runV (As := [.int r1]) (rest := []) ⟨hx, hb, hml, hown, hts⟩ (cn_X1_howManyHouses l D cB cI cZ N (wb_sh a0 21) (wb_sh I0 13) (wb_sh M0 13) r1 r5 hr5) (cwV 1 hts gyX11_agree_X1_howManyHouses rfl rfl rfl cdX1_howManyHouses ⟨Nat.le_of_ble_eq_true rfl, Nat.le_of_ble_eq_true rfl⟩) (wb_preV (hP.sub (ws' := (wWX1 cB cI cZ (wb_sh a0 21) (wb_sh I0 13) (wb_sh M0 13))) [21, 22, 23] rfl) hK (wr_1 hK hP (q0 := 21) rfl)) rfl rfl hl.1 rfl (lv_room (Nat.le_of_ble_eq_true rfl)) dX11_agree_40 ⟨Nat.le_of_ble_eq_true rfl, Nat.le_of_ble_eq_true rfl⟩) (fun r9 e9 => ?_)
    rw [e9]
    refine lv_aload_n hx hb dX11_agree_43 rfl (lv_at hl 1 rfl) ?_
    refine va_get (D := D) (ci := 11) (v := .ref (a0 21)) (C := RX11) (T := TX11) (N := 13) hx hb hts hinX11 hown hK hP 0 rfl rfl 3 (by decide) (hts (.fieldLink RX11 29 "WheelBook" "books" "LWheelBook$Books;") (List.mem_of_getElem? (i := 1) rfl)) (fun _ h9 => h9) rfl dX11_agree_44 ?_
    refine lv_aload_n hx hb dX11_agree_47 rfl (lv_at hl 1 rfl) ?_
    refine va_get (D := D) (ci := 11) (v := .ref (a0 3)) (C := RX11) (T := TX11) (N := 13) hx hb hts hinX11 hown hK hP 0 rfl rfl 1 (by decide) (hts (.fieldLink RX11 19 "WheelBook" "told" "LWheelBook$House;") (List.mem_of_getElem? (i := 2) rfl)) (fun _ h9 => h9) rfl dX11_agree_48 ?_
    refine va_get (D := D) (ci := 5) (v := .ref (a0 8)) (C := RX5) (T := TX5) (N := 6) hx hb hts hinX5 hown hK hP 3 rfl rfl 4 (by decide) (hts (.fieldLink RX11 131 "WheelBook$House" "climates" "LWheelBook$Climates;") (List.mem_of_getElem? (i := 3) rfl)) (fun _ h9 => h9) rfl dX11_agree_51 ?_
    refine lv_iload hx hb dX11_agree_54 (lv_at hl 0 rfl) ?_
    refine lv_iload_n hx hb dX11_agree_56 rfl (lv_at hl 4 rfl) ?_
    refine lv_iload hx hb dX11_agree_57 (lv_at hl 5 rfl) ?_
    obtain ⟨r6, hr6, hf⟩ := wb_b hf
    refine vp_callSi (W.runV (As := [.ref (a0 8), .int r1, .int x3, .int x4]) (rest := [.int r5]) ⟨hx, hb, hml, hown, hts⟩ (cn_X1_howManyDiffer l D cB cI cZ N (wb_sh a0 21) (wb_sh I0 13) (wb_sh M0 13) (wb_sh a0 8) (wb_sh I0 9) (wb_sh M0 5) r1 x3 x4 r6 hr6) (cwV 4 hts gyX11_agree_X1_howManyDiffer rfl rfl rfl cdX1_howManyDiffer ⟨Nat.le_of_ble_eq_true rfl, Nat.le_of_ble_eq_true rfl⟩) (wb_preV (hP.sub (ws' := ((wWX1 cB cI cZ (wb_sh a0 21) (wb_sh I0 13) (wb_sh M0 13)) ++ (wWX2 cB cI cZ (wb_sh a0 8) (wb_sh I0 9) (wb_sh M0 5)))) [21, 22, 23, 8, 9] rfl) hK (wr_1 hK hP (q0 := 21) rfl)) rfl rfl hl.1 rfl (lv_room (Nat.le_of_ble_eq_true rfl)) dX11_agree_59 ⟨Nat.le_of_ble_eq_true rfl, Nat.le_of_ble_eq_true rfl⟩) (fun r9 e9 => ?_)
    rw [e9]
    refine lv_isub hx hb dX11_agree_62 ?_
    exact W.iret (v := (r5 - r6)) hx hb hr (fun t ht hW => ⟨_, rfl, Option.some.inj hf, ht⟩) (fun _ h => nomatch h) dX11_agree_63
  · replace hf := wb_t hc hf
    refine lv_iconst (v := (-1 : Int32)) hx hb dX11_agree_32 (by decide) ?_
    exact W.iret (v := (-1 : Int32)) hx hb hr (fun t ht hW => ⟨_, rfl, Option.some.inj hf, ht⟩) (fun _ h => nomatch h) dX11_agree_33
set_option maxHeartbeats 4000000 in
set_option maxRecDepth 100000 in
theorem ct_X11_agree (l : Launch) (hlt : l.stackTraces = false) (D : va_G) (cB cI cZ : ClassId) (N : Nat) (a0 : Nat → Nat) (I0 : Nat → Int32) (M0 : Nat → Nat → Int32) (x1 : Int32) (x2 : Int32) (x3 : Int32) (x4 : Int32) (sz k : Nat) (hf : fX11_agree N I0 M0 x1 x2 x3 x4 = some (.inl k)) : vx_Met l yX11_agree wyX11_agree ({ frames := 8, cells := 1, slots := 6, locals := 161 }) (va_Pc [.ref (a0 0), .int x1, .int x2, .int x3, .int x4] (wb_preX D [(cB, .byte), (cI, .int), (cZ, .boolean)] (wWX11 cB cI cZ a0 I0 M0) sz)) (va_Qi (fun _ (_ : Unit) => False) (fun _ _ => True) (fun q => sz ≤ q)) (vx_X (fun _ : Unit => True) (fun E _ _ => E = wb_ex k) (fun q => sz ≤ q)) 1 6 (fun q => sz ≤ q) := by
  refine vx_ofW (cc := cX11_agree) (maxL := 6) (ret := (some .int)) (by decide) rfl ?_
  intro p e s m args below meth c s₁ B hml htab hv
  obtain ⟨rfl, hsz, hP, hK, hX⟩ := hv
  subst hsz
  have hx := B.exec
  have hb := B.bytes
  have hr := B.returns
  have hts := atoms_spec (ws := wyX11_agree) B.pre
  have hown : s.vm.findClass RX11 = some m.cls := (findClass_of_methodNamed B.named :)
  have hlocks := B.notSynchronized
  have hS : va_S (fun q => s.heap.size ≤ q) s.heap s.heap [] := va_S.rf
  have hl := lv_entry ([.ref (a0 0), .int x1, .int x2, .int x3, .int x4]) (n := 6) (Nat.le_of_ble_eq_true rfl)
  rw [lg_entry_eq]
  generalize (lg_sl ([.ref (a0 0), .int x1, .int x2, .int x3, .int x4]) ++ List.replicate (6 - (lg_sl ([.ref (a0 0), .int x1, .int x2, .int x3, .int x4])).length) Slot.unset).toArray = ls at hl ⊢
  have hl : lv_has ls 6 [(0, .ref (a0 0)), (1, .int x1), (2, .int x2), (3, .int x3), (4, .int x4)] := hl
  unfold fX11_agree at hf
  refine lv_iload_n hx hb dX11_agree_0 rfl (lv_at hl 1 rfl) ?_
  refine lv_iload_n hx hb dX11_agree_1 rfl (lv_at hl 2 rfl) ?_
  rcases wb_xt hf with hrx | ⟨r1, hr1, hf⟩
  · refine vx_calli (vx_runS (As := [.int x1, .int x2]) (rest := []) ⟨hx, hb, hml, hown, hts⟩ (ct_X11_numberOf l hlt D cB cI cZ N x1 x2 s.heap.size k hrx) (va_cwS 2 hts gyX11_agree_X11_numberOf rfl rfl rfl csX11_numberOf ⟨Nat.le_of_ble_eq_true rfl, Nat.le_of_ble_eq_true rfl⟩) (wb_preXS (hP.sub (ws' := ([] : va_W)) [] rfl) hK hX) rfl rfl hl.1 rfl (lv_room (Nat.le_of_ble_eq_true rfl)) dX11_agree_2 ⟨Nat.le_of_ble_eq_true rfl, Nat.le_of_ble_eq_true rfl⟩) hS (fun q _ h => h) (fun _ h => h) (fun q _ h => h) (fun E ce q9 u t H locs ht hvm hpx hB hz1 hk1 hS hq9 hv9 hc9 => ?_) (fun r9 u t H locs ht hvm hw hB hz1 hk1 hS => hw.elim)
    exact vx_out (fun x hx9 => (htab x hx9).elim) hlocks hq9 hv9 hc9 (fun t9 ht9 hvm9 => ⟨(), trivial, hB, hS.F ht9⟩) hS.2.2 (Nat.le_of_ble_eq_true rfl) (Nat.le_of_ble_eq_true rfl)
  refine vp_callSi (W.runS (As := [.int x1, .int x2]) (rest := []) ⟨hx, hb, hml, hown, hts⟩ (cn_X11_numberOf l D cB cI cZ N x1 x2 r1 hr1) (va_cwS 2 hts gyX11_agree_X11_numberOf rfl rfl rfl csX11_numberOf ⟨Nat.le_of_ble_eq_true rfl, Nat.le_of_ble_eq_true rfl⟩) (wb_preS (hP.sub (ws' := ([] : va_W)) [] rfl) hK) rfl rfl hl.1 rfl (lv_room (Nat.le_of_ble_eq_true rfl)) dX11_agree_2 ⟨Nat.le_of_ble_eq_true rfl, Nat.le_of_ble_eq_true rfl⟩) (fun r9 e9 => ?_)
  rw [e9]
  refine lv_istore (lv' := [(5, .int r1), (0, .ref (a0 0)), (1, .int x1), (2, .int x2), (3, .int x3), (4, .int x4)]) hx hb dX11_agree_5 hl (by decide) rfl (fun ls hl => ?_)
  refine lv_aload_n hx hb dX11_agree_7 rfl (lv_at hl 1 rfl) ?_
  refine lv_iload_n hx hb dX11_agree_8 rfl (lv_at hl 4 rfl) ?_
  refine lv_iload hx hb dX11_agree_9 (lv_at hl 5 rfl) ?_
  obtain ⟨r2, hr2, hf⟩ := wb_b hf
  refine vp_callSi (W.runV (As := [.int x3, .int x4]) (rest := []) ⟨hx, hb, hml, hown, hts⟩ (cn_X11_isWay l D cB cI cZ N a0 I0 M0 x3 x4 r2 hr2) (cwV 2 hts gyX11_agree_X11_isWay rfl rfl rfl cdX11_isWay ⟨Nat.le_of_ble_eq_true rfl, Nat.le_of_ble_eq_true rfl⟩) (wb_preV hP hK (wr_11 hK hP (q0 := 0) rfl)) rfl rfl hl.1 rfl (lv_room (Nat.le_of_ble_eq_true rfl)) dX11_agree_11 ⟨Nat.le_of_ble_eq_true rfl, Nat.le_of_ble_eq_true rfl⟩) (fun r9 e9 => ?_)
  rw [e9]
  rcases wb_xt hf with hrx | ⟨r3, hr3, hf⟩
  · refine vx_callv (vx_runS (As := [.int r2]) (rest := []) ⟨hx, hb, hml, hown, hts⟩ (ct_X11_need l hlt D cB cI cZ N r2 s.heap.size k hrx) (va_cwS 1 hts gyX11_agree_X11_need rfl rfl rfl csX11_need ⟨Nat.le_of_ble_eq_true rfl, Nat.le_of_ble_eq_true rfl⟩) (wb_preXS (hP.sub (ws' := ([] : va_W)) [] rfl) hK hX) rfl rfl hl.1 rfl (lv_room (Nat.le_of_ble_eq_true rfl)) dX11_agree_14 ⟨Nat.le_of_ble_eq_true rfl, Nat.le_of_ble_eq_true rfl⟩) hS (fun q _ h => h) (fun _ h => h) (fun q _ h => h) (fun E ce q9 u t H locs ht hvm hpx hB hz1 hk1 hS hq9 hv9 hc9 => ?_) (fun u t H locs ht hvm hw hB hz1 hk1 hS => hw.elim)
    exact vx_out (fun x hx9 => (htab x hx9).elim) hlocks hq9 hv9 hc9 (fun t9 ht9 hvm9 => ⟨(), trivial, hB, hS.F ht9⟩) hS.2.2 (Nat.le_of_ble_eq_true rfl) (Nat.le_of_ble_eq_true rfl)
  refine va_csv (W.runS (As := [.int r2]) (rest := []) ⟨hx, hb, hml, hown, hts⟩ (cn_X11_need l D cB cI cZ N r2 r3 hr3) (va_cwS 1 hts gyX11_agree_X11_need rfl rfl rfl csX11_need ⟨Nat.le_of_ble_eq_true rfl, Nat.le_of_ble_eq_true rfl⟩) (wb_preS (hP.sub (ws' := ([] : va_W)) [] rfl) hK) rfl rfl hl.1 rfl (lv_room (Nat.le_of_ble_eq_true rfl)) dX11_agree_14 ⟨Nat.le_of_ble_eq_true rfl, Nat.le_of_ble_eq_true rfl⟩) (fun _ => ?_)
  exact absurd hf wb_okn

set_option maxHeartbeats 4000000 in
set_option maxRecDepth 100000 in
theorem cn_X11_lot (l : Launch) (D : va_G) (cB cI cZ : ClassId) (N : Nat) (a0 : Nat → Nat) (I0 : Nat → Int32) (M0 : Nat → Nat → Int32) (x1 : Int32) (x2 : Int32) (x3 : Int32) (R : Int32) (hf : fX11_lot N I0 M0 x1 x2 x3 = some (.inr R)) : Met l yX11_lot wyX11_lot ({ frames := 8, cells := 0, slots := 0, locals := 161 }) (va_Pc [.ref (a0 0), .int x1, .int x2, .int x3] (wb_pre D [(cB, .byte), (cI, .int), (cZ, .boolean)] (wWX11 cB cI cZ a0 I0 M0))) (vp_Si (fun r => r = R)) 0 0 (fun _ => False) := by
  refine Met.ofW (cc := cX11_lot) (maxL := 7) (ret := (some .int)) pn_X11 rfl ?_
  intro p e s m args below meth c s₁ B hml hv
  obtain ⟨rfl, hP, hK⟩ := hv
  have hx := B.exec
  have hb := B.bytes
  have hr := B.returns
  have hts := atoms_spec (ws := wyX11_lot) B.pre
  have hown : s.vm.findClass RX11 = some m.cls := (findClass_of_methodNamed B.named :)
  have hlocks := B.notSynchronized
  have hinX11 : ∀ w ∈ u_ws RX11 TX11 13, w ∈ wyX11_lot := fun w h => List.mem_cons_of_mem _ (List.mem_append_left _ (List.mem_append_left _ (List.mem_append_left _ (List.mem_append_left _ (List.mem_append_right _ h)))))
  have hinX5 : ∀ w ∈ u_ws RX5 TX5 6, w ∈ wyX11_lot := fun w h => List.mem_cons_of_mem _ (List.mem_append_left _ (List.mem_append_left _ (List.mem_append_left _ (List.mem_append_right _ h))))
  have hl := lv_entry ([.ref (a0 0), .int x1, .int x2, .int x3]) (n := 7) (Nat.le_of_ble_eq_true rfl)
  rw [lg_entry_eq]
  generalize (lg_sl ([.ref (a0 0), .int x1, .int x2, .int x3]) ++ List.replicate (7 - (lg_sl ([.ref (a0 0), .int x1, .int x2, .int x3])).length) Slot.unset).toArray = ls at hl ⊢
  have hl : lv_has ls 7 [(0, .ref (a0 0)), (1, .int x1), (2, .int x2), (3, .int x3)] := hl
  unfold fX11_lot at hf
  refine lv_iload_n hx hb dX11_lot_0 rfl (lv_at hl 1 rfl) ?_
  refine lv_iload_n hx hb dX11_lot_1 rfl (lv_at hl 2 rfl) ?_
  obtain ⟨r1, hr1, hf⟩ := wb_xr hf
  refine vp_callSi (W.runS (As := [.int x1, .int x2]) (rest := []) ⟨hx, hb, hml, hown, hts⟩ (cn_X11_numberOf l D cB cI cZ N x1 x2 r1 hr1) (va_cwS 2 hts gyX11_lot_X11_numberOf rfl rfl rfl csX11_numberOf ⟨Nat.le_of_ble_eq_true rfl, Nat.le_of_ble_eq_true rfl⟩) (wb_preS (hP.sub (ws' := ([] : va_W)) [] rfl) hK) rfl rfl hl.1 rfl (lv_room (Nat.le_of_ble_eq_true rfl)) dX11_lot_2 ⟨Nat.le_of_ble_eq_true rfl, Nat.le_of_ble_eq_true rfl⟩) (fun r9 e9 => ?_)
  rw [e9]
  refine lv_istore (lv' := [(4, .int r1), (0, .ref (a0 0)), (1, .int x1), (2, .int x2), (3, .int x3)]) hx hb dX11_lot_5 hl (by decide) rfl (fun ls hl => ?_)
  refine lv_iload_n hx hb dX11_lot_7 rfl (lv_at hl 4 rfl) ?_
  refine lv_iconst (v := (0 : Int32)) hx hb dX11_lot_8 (by decide) ?_
  refine lv_iconst (v := (1 : Int32)) hx hb dX11_lot_9 (by decide) ?_
  obtain ⟨r2, hr2, hf⟩ := wb_b hf
  refine vp_callSi (W.runS (As := [.int x3, .int (0 : Int32), .int (1 : Int32)]) (rest := []) ⟨hx, hb, hml, hown, hts⟩ (cn_X11_within l D cB cI cZ N x3 (0 : Int32) (1 : Int32) r2 hr2) (va_cwS 3 hts gyX11_lot_X11_within rfl rfl rfl csX11_within ⟨Nat.le_of_ble_eq_true rfl, Nat.le_of_ble_eq_true rfl⟩) (wb_preS (hP.sub (ws' := ([] : va_W)) [] rfl) hK) rfl rfl hl.1 rfl (lv_room (Nat.le_of_ble_eq_true rfl)) dX11_lot_10 ⟨Nat.le_of_ble_eq_true rfl, Nat.le_of_ble_eq_true rfl⟩) (fun r9 e9 => ?_)
  rw [e9]
  obtain ⟨r3, hr3, hf⟩ := wb_xr hf
  refine va_csv (W.runS (As := [.int r2]) (rest := []) ⟨hx, hb, hml, hown, hts⟩ (cn_X11_need l D cB cI cZ N r2 r3 hr3) (va_cwS 1 hts gyX11_lot_X11_need rfl rfl rfl csX11_need ⟨Nat.le_of_ble_eq_true rfl, Nat.le_of_ble_eq_true rfl⟩) (wb_preS (hP.sub (ws' := ([] : va_W)) [] rfl) hK) rfl rfl hl.1 rfl (lv_room (Nat.le_of_ble_eq_true rfl)) dX11_lot_13 ⟨Nat.le_of_ble_eq_true rfl, Nat.le_of_ble_eq_true rfl⟩) (fun _ => ?_)
  replace hf := wb_okr hf
  refine lv_aload_n hx hb dX11_lot_16 rfl (lv_at hl 1 rfl) ?_
  refine va_get (D := D) (ci := 11) (v := .ref (a0 21)) (C := RX11) (T := TX11) (N := 13) hx hb hts hinX11 hown hK hP 0 rfl rfl 3 (by decide) (hts (.fieldLink RX11 29 "WheelBook" "books" "LWheelBook$Books;") (List.mem_of_getElem? (i := 1) rfl)) (fun _ h9 => h9) rfl dX11_lot_17 ?_
  refine lv_iload hx hb dX11_lot_20 (lv_at hl 0 rfl) ?_
  obtain ⟨r4, hr4, hf⟩ := wb_b hf
  refine vp_callSi (W.runV (As := [.int r1]) (rest := []) ⟨hx, hb, hml, hown, hts⟩ (cn_X1_lotOf l D cB cI cZ N (wb_sh a0 21) (wb_sh I0 13) (wb_sh M0 13) r1 r4 hr4) (cwV 1 hts gyX11_lot_X1_lotOf rfl rfl rfl cdX1_lotOf ⟨Nat.le_of_ble_eq_true rfl, Nat.le_of_ble_eq_true rfl⟩) (wb_preV (hP.sub (ws' := (wWX1 cB cI cZ (wb_sh a0 21) (wb_sh I0 13) (wb_sh M0 13))) [21, 22, 23] rfl) hK (wr_1 hK hP (q0 := 21) rfl)) rfl rfl hl.1 rfl (lv_room (Nat.le_of_ble_eq_true rfl)) dX11_lot_22 ⟨Nat.le_of_ble_eq_true rfl, Nat.le_of_ble_eq_true rfl⟩) (fun r9 e9 => ?_)
  rw [e9]
  refine lv_istore (lv' := [(5, .int r4), (4, .int r1), (0, .ref (a0 0)), (1, .int x1), (2, .int x2), (3, .int x3)]) hx hb dX11_lot_25 hl (by decide) rfl (fun ls hl => ?_)
  refine lv_iload_n hx hb dX11_lot_27 rfl (lv_at hl 5 rfl) ?_
  refine lv_if_eq (tgt := 37) hx hb dX11_lot_28 (by decide) (fun hc => ?_) (fun hc => ?_)
  · replace hf := wb_t hc hf
    refine lv_iload hx hb dX11_lot_37 (lv_at hl 0 rfl) ?_
    exact W.iret (v := r4) hx hb hr (fun t ht hW => ⟨_, rfl, Option.some.inj hf, ht⟩) (fun _ h => nomatch h) dX11_lot_39
  · replace hf := wb_f hc hf
    refine lv_iload hx hb dX11_lot_31 (lv_at hl 0 rfl) ?_
    refine lv_iconst (v := (-1 : Int32)) hx hb dX11_lot_33 (by decide) ?_
    refine lv_icmp_ne (tgt := 40) hx hb dX11_lot_34 (by decide) (fun hc => ?_) (fun hc => ?_)
    · replace hf := wb_f hc hf
      refine lv_aload_n hx hb dX11_lot_40 rfl (lv_at hl 2 rfl) ?_
      refine va_get (D := D) (ci := 11) (v := .ref (a0 21)) (C := RX11) (T := TX11) (N := 13) hx hb hts hinX11 hown hK hP 0 rfl rfl 3 (by decide) (hts (.fieldLink RX11 29 "WheelBook" "books" "LWheelBook$Books;") (List.mem_of_getElem? (i := 1) rfl)) (fun _ h9 => h9) rfl dX11_lot_41 ?_
      refine lv_iload hx hb dX11_lot_44 (lv_at hl 1 rfl) ?_
      refine lv_bipush (v := (8 : Int32)) hx hb dX11_lot_46 (by decide) ?_
      obtain ⟨r5, hr5, hf⟩ := wb_b hf
      refine vp_callSi (W.runV (As := [.int r1, .int (8 : Int32)]) (rest := []) ⟨hx, hb, hml, hown, hts⟩ (cn_X1_degreeOf l D cB cI cZ N (wb_sh a0 21) (wb_sh I0 13) (wb_sh M0 13) r1 (8 : Int32) r5 hr5) (cwV 2 hts gyX11_lot_X1_degreeOf rfl rfl rfl cdX1_degreeOf ⟨Nat.le_of_ble_eq_true rfl, Nat.le_of_ble_eq_true rfl⟩) (wb_preV (hP.sub (ws' := (wWX1 cB cI cZ (wb_sh a0 21) (wb_sh I0 13) (wb_sh M0 13))) [21, 22, 23] rfl) hK (wr_1 hK hP (q0 := 21) rfl)) rfl rfl hl.1 rfl (lv_room (Nat.le_of_ble_eq_true rfl)) dX11_lot_48 ⟨Nat.le_of_ble_eq_true rfl, Nat.le_of_ble_eq_true rfl⟩) (fun r9 e9 => ?_)
      rw [e9]
      refine lv_istore (lv' := [(6, .int r5), (5, .int r4), (4, .int r1), (0, .ref (a0 0)), (1, .int x1), (2, .int x2), (3, .int x3)]) hx hb dX11_lot_51 hl (by decide) rfl (fun ls hl => ?_)
      refine lv_iload hx hb dX11_lot_53 (lv_at hl 0 rfl) ?_
      refine lv_iconst (v := (-1 : Int32)) hx hb dX11_lot_55 (by decide) ?_
      refine lv_icmp_ne (tgt := 63) hx hb dX11_lot_56 (by decide) (fun hc => ?_) (fun hc => ?_)
      · replace hf := wb_f hc hf
        refine lv_aload_n hx hb dX11_lot_63 rfl (lv_at hl 3 rfl) ?_
        refine va_get (D := D) (ci := 11) (v := .ref (a0 3)) (C := RX11) (T := TX11) (N := 13) hx hb hts hinX11 hown hK hP 0 rfl rfl 1 (by decide) (hts (.fieldLink RX11 19 "WheelBook" "told" "LWheelBook$House;") (List.mem_of_getElem? (i := 2) rfl)) (fun _ h9 => h9) rfl dX11_lot_64 ?_
        refine va_get (D := D) (ci := 5) (v := .ref (a0 10)) (C := RX5) (T := TX5) (N := 6) hx hb hts hinX5 hown hK hP 3 rfl rfl 5 (by decide) (hts (.fieldLink RX11 140 "WheelBook$House" "hands" "LWheelBook$Hands;") (List.mem_of_getElem? (i := 3) rfl)) (fun _ h9 => h9) rfl dX11_lot_67 ?_
        refine lv_iload hx hb dX11_lot_70 (lv_at hl 0 rfl) ?_
        refine lv_iload hx hb dX11_lot_72 (lv_at hl 1 rfl) ?_
        obtain ⟨r6, hr6, hf⟩ := wb_b hf
        refine vp_callSi (W.runV (As := [.int r5, .int r4]) (rest := []) ⟨hx, hb, hml, hown, hts⟩ (cn_X4_costBeside l D cB cI cZ N (wb_sh a0 10) (wb_sh I0 10) (wb_sh M0 6) r5 r4 r6 hr6) (cwV 2 hts gyX11_lot_X4_costBeside rfl rfl rfl cdX4_costBeside ⟨Nat.le_of_ble_eq_true rfl, Nat.le_of_ble_eq_true rfl⟩) (wb_preV (hP.sub (ws' := (wWX4 cB cI cZ (wb_sh a0 10) (wb_sh I0 10) (wb_sh M0 6))) [10, 11] rfl) hK (wr_4 hK hP (q0 := 10) rfl)) rfl rfl hl.1 rfl (lv_room (Nat.le_of_ble_eq_true rfl)) dX11_lot_74 ⟨Nat.le_of_ble_eq_true rfl, Nat.le_of_ble_eq_true rfl⟩) (fun r9 e9 => ?_)
        rw [e9]
        exact W.iret (v := r6) hx hb hr (fun t ht hW => ⟨_, rfl, Option.some.inj hf, ht⟩) (fun _ h => nomatch h) dX11_lot_77
      · replace hf := wb_t hc hf
        refine lv_iconst (v := (-1 : Int32)) hx hb dX11_lot_59 (by decide) ?_
        refine lv_goto (tgt := 77) hx hb dX11_lot_60 (by decide) ?_
        exact W.iret (v := (-1 : Int32)) hx hb hr (fun t ht hW => ⟨_, rfl, Option.some.inj hf, ht⟩) (fun _ h => nomatch h) dX11_lot_77
    · replace hf := wb_t hc hf
      refine lv_iload hx hb dX11_lot_37 (lv_at hl 0 rfl) ?_
      exact W.iret (v := r4) hx hb hr (fun t ht hW => ⟨_, rfl, Option.some.inj hf, ht⟩) (fun _ h => nomatch h) dX11_lot_39
set_option maxHeartbeats 4000000 in
set_option maxRecDepth 100000 in
theorem ct_X11_lot (l : Launch) (hlt : l.stackTraces = false) (D : va_G) (cB cI cZ : ClassId) (N : Nat) (a0 : Nat → Nat) (I0 : Nat → Int32) (M0 : Nat → Nat → Int32) (x1 : Int32) (x2 : Int32) (x3 : Int32) (sz k : Nat) (hf : fX11_lot N I0 M0 x1 x2 x3 = some (.inl k)) : vx_Met l yX11_lot wyX11_lot ({ frames := 8, cells := 1, slots := 6, locals := 161 }) (va_Pc [.ref (a0 0), .int x1, .int x2, .int x3] (wb_preX D [(cB, .byte), (cI, .int), (cZ, .boolean)] (wWX11 cB cI cZ a0 I0 M0) sz)) (va_Qi (fun _ (_ : Unit) => False) (fun _ _ => True) (fun q => sz ≤ q)) (vx_X (fun _ : Unit => True) (fun E _ _ => E = wb_ex k) (fun q => sz ≤ q)) 1 6 (fun q => sz ≤ q) := by
  refine vx_ofW (cc := cX11_lot) (maxL := 7) (ret := (some .int)) (by decide) rfl ?_
  intro p e s m args below meth c s₁ B hml htab hv
  obtain ⟨rfl, hsz, hP, hK, hX⟩ := hv
  subst hsz
  have hx := B.exec
  have hb := B.bytes
  have hr := B.returns
  have hts := atoms_spec (ws := wyX11_lot) B.pre
  have hown : s.vm.findClass RX11 = some m.cls := (findClass_of_methodNamed B.named :)
  have hlocks := B.notSynchronized
  have hS : va_S (fun q => s.heap.size ≤ q) s.heap s.heap [] := va_S.rf
  have hl := lv_entry ([.ref (a0 0), .int x1, .int x2, .int x3]) (n := 7) (Nat.le_of_ble_eq_true rfl)
  rw [lg_entry_eq]
  generalize (lg_sl ([.ref (a0 0), .int x1, .int x2, .int x3]) ++ List.replicate (7 - (lg_sl ([.ref (a0 0), .int x1, .int x2, .int x3])).length) Slot.unset).toArray = ls at hl ⊢
  have hl : lv_has ls 7 [(0, .ref (a0 0)), (1, .int x1), (2, .int x2), (3, .int x3)] := hl
  unfold fX11_lot at hf
  refine lv_iload_n hx hb dX11_lot_0 rfl (lv_at hl 1 rfl) ?_
  refine lv_iload_n hx hb dX11_lot_1 rfl (lv_at hl 2 rfl) ?_
  rcases wb_xt hf with hrx | ⟨r1, hr1, hf⟩
  · refine vx_calli (vx_runS (As := [.int x1, .int x2]) (rest := []) ⟨hx, hb, hml, hown, hts⟩ (ct_X11_numberOf l hlt D cB cI cZ N x1 x2 s.heap.size k hrx) (va_cwS 2 hts gyX11_lot_X11_numberOf rfl rfl rfl csX11_numberOf ⟨Nat.le_of_ble_eq_true rfl, Nat.le_of_ble_eq_true rfl⟩) (wb_preXS (hP.sub (ws' := ([] : va_W)) [] rfl) hK hX) rfl rfl hl.1 rfl (lv_room (Nat.le_of_ble_eq_true rfl)) dX11_lot_2 ⟨Nat.le_of_ble_eq_true rfl, Nat.le_of_ble_eq_true rfl⟩) hS (fun q _ h => h) (fun _ h => h) (fun q _ h => h) (fun E ce q9 u t H locs ht hvm hpx hB hz1 hk1 hS hq9 hv9 hc9 => ?_) (fun r9 u t H locs ht hvm hw hB hz1 hk1 hS => hw.elim)
    exact vx_out (fun x hx9 => (htab x hx9).elim) hlocks hq9 hv9 hc9 (fun t9 ht9 hvm9 => ⟨(), trivial, hB, hS.F ht9⟩) hS.2.2 (Nat.le_of_ble_eq_true rfl) (Nat.le_of_ble_eq_true rfl)
  refine vp_callSi (W.runS (As := [.int x1, .int x2]) (rest := []) ⟨hx, hb, hml, hown, hts⟩ (cn_X11_numberOf l D cB cI cZ N x1 x2 r1 hr1) (va_cwS 2 hts gyX11_lot_X11_numberOf rfl rfl rfl csX11_numberOf ⟨Nat.le_of_ble_eq_true rfl, Nat.le_of_ble_eq_true rfl⟩) (wb_preS (hP.sub (ws' := ([] : va_W)) [] rfl) hK) rfl rfl hl.1 rfl (lv_room (Nat.le_of_ble_eq_true rfl)) dX11_lot_2 ⟨Nat.le_of_ble_eq_true rfl, Nat.le_of_ble_eq_true rfl⟩) (fun r9 e9 => ?_)
  rw [e9]
  refine lv_istore (lv' := [(4, .int r1), (0, .ref (a0 0)), (1, .int x1), (2, .int x2), (3, .int x3)]) hx hb dX11_lot_5 hl (by decide) rfl (fun ls hl => ?_)
  refine lv_iload_n hx hb dX11_lot_7 rfl (lv_at hl 4 rfl) ?_
  refine lv_iconst (v := (0 : Int32)) hx hb dX11_lot_8 (by decide) ?_
  refine lv_iconst (v := (1 : Int32)) hx hb dX11_lot_9 (by decide) ?_
  obtain ⟨r2, hr2, hf⟩ := wb_b hf
  refine vp_callSi (W.runS (As := [.int x3, .int (0 : Int32), .int (1 : Int32)]) (rest := []) ⟨hx, hb, hml, hown, hts⟩ (cn_X11_within l D cB cI cZ N x3 (0 : Int32) (1 : Int32) r2 hr2) (va_cwS 3 hts gyX11_lot_X11_within rfl rfl rfl csX11_within ⟨Nat.le_of_ble_eq_true rfl, Nat.le_of_ble_eq_true rfl⟩) (wb_preS (hP.sub (ws' := ([] : va_W)) [] rfl) hK) rfl rfl hl.1 rfl (lv_room (Nat.le_of_ble_eq_true rfl)) dX11_lot_10 ⟨Nat.le_of_ble_eq_true rfl, Nat.le_of_ble_eq_true rfl⟩) (fun r9 e9 => ?_)
  rw [e9]
  rcases wb_xt hf with hrx | ⟨r3, hr3, hf⟩
  · refine vx_callv (vx_runS (As := [.int r2]) (rest := []) ⟨hx, hb, hml, hown, hts⟩ (ct_X11_need l hlt D cB cI cZ N r2 s.heap.size k hrx) (va_cwS 1 hts gyX11_lot_X11_need rfl rfl rfl csX11_need ⟨Nat.le_of_ble_eq_true rfl, Nat.le_of_ble_eq_true rfl⟩) (wb_preXS (hP.sub (ws' := ([] : va_W)) [] rfl) hK hX) rfl rfl hl.1 rfl (lv_room (Nat.le_of_ble_eq_true rfl)) dX11_lot_13 ⟨Nat.le_of_ble_eq_true rfl, Nat.le_of_ble_eq_true rfl⟩) hS (fun q _ h => h) (fun _ h => h) (fun q _ h => h) (fun E ce q9 u t H locs ht hvm hpx hB hz1 hk1 hS hq9 hv9 hc9 => ?_) (fun u t H locs ht hvm hw hB hz1 hk1 hS => hw.elim)
    exact vx_out (fun x hx9 => (htab x hx9).elim) hlocks hq9 hv9 hc9 (fun t9 ht9 hvm9 => ⟨(), trivial, hB, hS.F ht9⟩) hS.2.2 (Nat.le_of_ble_eq_true rfl) (Nat.le_of_ble_eq_true rfl)
  refine va_csv (W.runS (As := [.int r2]) (rest := []) ⟨hx, hb, hml, hown, hts⟩ (cn_X11_need l D cB cI cZ N r2 r3 hr3) (va_cwS 1 hts gyX11_lot_X11_need rfl rfl rfl csX11_need ⟨Nat.le_of_ble_eq_true rfl, Nat.le_of_ble_eq_true rfl⟩) (wb_preS (hP.sub (ws' := ([] : va_W)) [] rfl) hK) rfl rfl hl.1 rfl (lv_room (Nat.le_of_ble_eq_true rfl)) dX11_lot_13 ⟨Nat.le_of_ble_eq_true rfl, Nat.le_of_ble_eq_true rfl⟩) (fun _ => ?_)
  exact absurd hf wb_okn

set_option maxHeartbeats 4000000 in
set_option maxRecDepth 100000 in
theorem cn_X11_price (l : Launch) (D : va_G) (cB cI cZ : ClassId) (N : Nat) (a0 : Nat → Nat) (I0 : Nat → Int32) (M0 : Nat → Nat → Int32) (x1 : Int32) (x2 : Int32) (R : Int32) (hf : fX11_price N I0 M0 x1 x2 = some (.inr R)) : Met l yX11_price wyX11_price ({ frames := 7, cells := 0, slots := 0, locals := 140 }) (va_Pc [.ref (a0 0), .int x1, .int x2] (wb_pre D [(cB, .byte), (cI, .int), (cZ, .boolean)] (wWX11 cB cI cZ a0 I0 M0))) (vp_Si (fun r => r = R)) 0 0 (fun _ => False) := by
  refine Met.ofW (cc := cX11_price) (maxL := 3) (ret := (some .int)) pn_X11 rfl ?_
  intro p e s m args below meth c s₁ B hml hv
  obtain ⟨rfl, hP, hK⟩ := hv
  have hx := B.exec
  have hb := B.bytes
  have hr := B.returns
  have hts := atoms_spec (ws := wyX11_price) B.pre
  have hown : s.vm.findClass RX11 = some m.cls := (findClass_of_methodNamed B.named :)
  have hlocks := B.notSynchronized
  have hinX11 : ∀ w ∈ u_ws RX11 TX11 13, w ∈ wyX11_price := fun w h => List.mem_cons_of_mem _ (List.mem_append_left _ (List.mem_append_left _ (List.mem_append_left _ (List.mem_append_left _ (List.mem_append_right _ h)))))
  have hinX5 : ∀ w ∈ u_ws RX5 TX5 6, w ∈ wyX11_price := fun w h => List.mem_cons_of_mem _ (List.mem_append_left _ (List.mem_append_left _ (List.mem_append_left _ (List.mem_append_right _ h))))
  have hl := lv_entry ([.ref (a0 0), .int x1, .int x2]) (n := 3) (Nat.le_of_ble_eq_true rfl)
  rw [lg_entry_eq]
  generalize (lg_sl ([.ref (a0 0), .int x1, .int x2]) ++ List.replicate (3 - (lg_sl ([.ref (a0 0), .int x1, .int x2])).length) Slot.unset).toArray = ls at hl ⊢
  have hl : lv_has ls 3 [(0, .ref (a0 0)), (1, .int x1), (2, .int x2)] := hl
  unfold fX11_price at hf
  have J19 : ∀ (z19_0 : Int32), ∀ (ls : Array Slot), lv_has ls 3 [(0, .ref (a0 0)), (1, .int x1), (2, .int x2)] → fX11_price_J19 N I0 M0 x1 x2 z19_0 = some (.inr R) → W p l e (headSpec wyX11_price { frames := 7, cells := 0, slots := 0, locals := 140 }).room s m [.ref (a0 0), .int x1, .int x2].toArray below meth c s.heap [] 0 0 (MQ below (vp_Si (fun r => r = R)) [.ref (a0 0), .int x1, .int x2].toArray s 0 0 (fun _ => False)) (F0 m 19 ls [.int z19_0]) := by
    intro z19_0 ls hl hf
    unfold fX11_price_J19 at hf
    obtain ⟨r1, hr1, hf⟩ := wb_xr hf
    refine va_csv (W.runS (As := [.int z19_0]) (rest := []) ⟨hx, hb, hml, hown, hts⟩ (cn_X11_need l D cB cI cZ N z19_0 r1 hr1) (va_cwS 1 hts gyX11_price_X11_need rfl rfl rfl csX11_need ⟨Nat.le_of_ble_eq_true rfl, Nat.le_of_ble_eq_true rfl⟩) (wb_preS (hP.sub (ws' := ([] : va_W)) [] rfl) hK) rfl rfl hl.1 rfl (lv_room (Nat.le_of_ble_eq_true rfl)) dX11_price_19 ⟨Nat.le_of_ble_eq_true rfl, Nat.le_of_ble_eq_true rfl⟩) (fun _ => ?_)
    replace hf := wb_okr hf
    refine lv_aload_n hx hb dX11_price_22 rfl (lv_at hl 0 rfl) ?_
    refine va_get (D := D) (ci := 11) (v := .ref (a0 3)) (C := RX11) (T := TX11) (N := 13) hx hb hts hinX11 hown hK hP 0 rfl rfl 1 (by decide) (hts (.fieldLink RX11 19 "WheelBook" "told" "LWheelBook$House;") (List.mem_of_getElem? (i := 1) rfl)) (fun _ h9 => h9) rfl dX11_price_23 ?_
    refine va_get (D := D) (ci := 5) (v := .ref (a0 10)) (C := RX5) (T := TX5) (N := 6) hx hb hts hinX5 hown hK hP 3 rfl rfl 5 (by decide) (hts (.fieldLink RX11 140 "WheelBook$House" "hands" "LWheelBook$Hands;") (List.mem_of_getElem? (i := 2) rfl)) (fun _ h9 => h9) rfl dX11_price_26 ?_
    refine lv_aload_n hx hb dX11_price_29 rfl (lv_at hl 0 rfl) ?_
    refine va_get (D := D) (ci := 11) (v := .ref (a0 21)) (C := RX11) (T := TX11) (N := 13) hx hb hts hinX11 hown hK hP 0 rfl rfl 3 (by decide) (hts (.fieldLink RX11 29 "WheelBook" "books" "LWheelBook$Books;") (List.mem_of_getElem? (i := 3) rfl)) (fun _ h9 => h9) rfl dX11_price_30 ?_
    refine lv_iload_n hx hb dX11_price_33 rfl (lv_at hl 1 rfl) ?_
    refine lv_iload_n hx hb dX11_price_34 rfl (lv_at hl 2 rfl) ?_
    obtain ⟨r2, hr2, hf⟩ := wb_b hf
    refine vp_callSi (W.runS (As := [.ref (a0 10), .ref (a0 21), .int x1, .int x2]) (rest := []) ⟨hx, hb, hml, hown, hts⟩ (cn_X10_priceOf l D cB cI cZ N (wb_sh a0 10) (wb_sh I0 10) (wb_sh M0 6) (wb_sh a0 21) (wb_sh I0 13) (wb_sh M0 13) x1 x2 r2 hr2) (va_cwS 4 hts gyX11_price_X10_priceOf rfl rfl rfl csX10_priceOf ⟨Nat.le_of_ble_eq_true rfl, Nat.le_of_ble_eq_true rfl⟩) (wb_preS (hP.sub (ws' := ((wWX4 cB cI cZ (wb_sh a0 10) (wb_sh I0 10) (wb_sh M0 6)) ++ (wWX1 cB cI cZ (wb_sh a0 21) (wb_sh I0 13) (wb_sh M0 13)))) [10, 11, 21, 22, 23] rfl) hK) rfl rfl hl.1 rfl (lv_room (Nat.le_of_ble_eq_true rfl)) dX11_price_35 ⟨Nat.le_of_ble_eq_true rfl, Nat.le_of_ble_eq_true rfl⟩) (fun r9 e9 => ?_)
    rw [e9]
    exact W.iret (v := r2) hx hb hr (fun t ht hW => ⟨_, rfl, Option.some.inj hf, ht⟩) (fun _ h => nomatch h) dX11_price_38
  have J18 : ∀ (ls : Array Slot), lv_has ls 3 [(0, .ref (a0 0)), (1, .int x1), (2, .int x2)] → fX11_price_J18 N I0 M0 x1 x2 = some (.inr R) → W p l e (headSpec wyX11_price { frames := 7, cells := 0, slots := 0, locals := 140 }).room s m [.ref (a0 0), .int x1, .int x2].toArray below meth c s.heap [] 0 0 (MQ below (vp_Si (fun r => r = R)) [.ref (a0 0), .int x1, .int x2].toArray s 0 0 (fun _ => False)) (F0 m 18 ls []) := by
    intro ls hl hf
    unfold fX11_price_J18 at hf
    refine lv_iconst (v := (0 : Int32)) hx hb dX11_price_18 (by decide) ?_
    exact J19 (0 : Int32) ls (lv_sub hl [0, 1, 2] rfl) hf
  refine lv_iload_n hx hb dX11_price_0 rfl (lv_at hl 1 rfl) ?_
  obtain ⟨r3, hr3, hf⟩ := wb_b hf
  refine vp_callSi (W.runS (As := [.int x1]) (rest := []) ⟨hx, hb, hml, hown, hts⟩ (cn_X11_isBook l D cB cI cZ N x1 r3 hr3) (va_cwS 1 hts gyX11_price_X11_isBook rfl rfl rfl csX11_isBook ⟨Nat.le_of_ble_eq_true rfl, Nat.le_of_ble_eq_true rfl⟩) (wb_preS (hP.sub (ws' := ([] : va_W)) [] rfl) hK) rfl rfl hl.1 rfl (lv_room (Nat.le_of_ble_eq_true rfl)) dX11_price_1 ⟨Nat.le_of_ble_eq_true rfl, Nat.le_of_ble_eq_true rfl⟩) (fun r9 e9 => ?_)
  rw [e9]
  refine lv_if_eq (tgt := 18) hx hb dX11_price_4 (by decide) (fun hc => ?_) (fun hc => ?_)
  · replace hf := wb_t hc hf
    exact J18 ls (lv_sub hl [0, 1, 2] rfl) hf
  · replace hf := wb_f hc hf
    refine lv_iload_n hx hb dX11_price_7 rfl (lv_at hl 2 rfl) ?_
    obtain ⟨r4, hr4, hf⟩ := wb_b hf
    refine vp_callSi (W.runS (As := [.int x2]) (rest := []) ⟨hx, hb, hml, hown, hts⟩ (cn_X11_isBook l D cB cI cZ N x2 r4 hr4) (va_cwS 1 hts gyX11_price_X11_isBook rfl rfl rfl csX11_isBook ⟨Nat.le_of_ble_eq_true rfl, Nat.le_of_ble_eq_true rfl⟩) (wb_preS (hP.sub (ws' := ([] : va_W)) [] rfl) hK) rfl rfl hl.1 rfl (lv_room (Nat.le_of_ble_eq_true rfl)) dX11_price_8 ⟨Nat.le_of_ble_eq_true rfl, Nat.le_of_ble_eq_true rfl⟩) (fun r9 e9 => ?_)
    rw [e9]
    refine lv_if_eq (tgt := 18) hx hb dX11_price_11 (by decide) (fun hc => ?_) (fun hc => ?_)
    · replace hf := wb_t hc hf
      exact J18 ls (lv_sub hl [0, 1, 2] rfl) hf
    · replace hf := wb_f hc hf
      refine lv_iconst (v := (1 : Int32)) hx hb dX11_price_14 (by decide) ?_
      refine lv_goto (tgt := 19) hx hb dX11_price_15 (by decide) ?_
      exact J19 (1 : Int32) ls (lv_sub hl [0, 1, 2] rfl) hf
set_option maxHeartbeats 4000000 in
set_option maxRecDepth 100000 in
theorem ct_X11_price (l : Launch) (hlt : l.stackTraces = false) (D : va_G) (cB cI cZ : ClassId) (N : Nat) (a0 : Nat → Nat) (I0 : Nat → Int32) (M0 : Nat → Nat → Int32) (x1 : Int32) (x2 : Int32) (sz k : Nat) (hf : fX11_price N I0 M0 x1 x2 = some (.inl k)) : vx_Met l yX11_price wyX11_price ({ frames := 7, cells := 1, slots := 6, locals := 140 }) (va_Pc [.ref (a0 0), .int x1, .int x2] (wb_preX D [(cB, .byte), (cI, .int), (cZ, .boolean)] (wWX11 cB cI cZ a0 I0 M0) sz)) (va_Qi (fun _ (_ : Unit) => False) (fun _ _ => True) (fun q => sz ≤ q)) (vx_X (fun _ : Unit => True) (fun E _ _ => E = wb_ex k) (fun q => sz ≤ q)) 1 6 (fun q => sz ≤ q) := by
  refine vx_ofW (cc := cX11_price) (maxL := 3) (ret := (some .int)) (by decide) rfl ?_
  intro p e s m args below meth c s₁ B hml htab hv
  obtain ⟨rfl, hsz, hP, hK, hX⟩ := hv
  subst hsz
  have hx := B.exec
  have hb := B.bytes
  have hr := B.returns
  have hts := atoms_spec (ws := wyX11_price) B.pre
  have hown : s.vm.findClass RX11 = some m.cls := (findClass_of_methodNamed B.named :)
  have hlocks := B.notSynchronized
  have hS : va_S (fun q => s.heap.size ≤ q) s.heap s.heap [] := va_S.rf
  have hl := lv_entry ([.ref (a0 0), .int x1, .int x2]) (n := 3) (Nat.le_of_ble_eq_true rfl)
  rw [lg_entry_eq]
  generalize (lg_sl ([.ref (a0 0), .int x1, .int x2]) ++ List.replicate (3 - (lg_sl ([.ref (a0 0), .int x1, .int x2])).length) Slot.unset).toArray = ls at hl ⊢
  have hl : lv_has ls 3 [(0, .ref (a0 0)), (1, .int x1), (2, .int x2)] := hl
  unfold fX11_price at hf
  have J19 : ∀ (z19_0 : Int32), ∀ (ls : Array Slot), lv_has ls 3 [(0, .ref (a0 0)), (1, .int x1), (2, .int x2)] → fX11_price_J19 N I0 M0 x1 x2 z19_0 = some (.inl k) → W p l e (headSpec wyX11_price { frames := 7, cells := 1, slots := 6, locals := 140 }).room s m [.ref (a0 0), .int x1, .int x2].toArray below meth c s.heap [] 0 0 (vx_MQ below (va_Qi (fun _ (_ : Unit) => False) (fun _ _ => True) (fun q => s.heap.size ≤ q)) (vx_X (fun _ : Unit => True) (fun E _ _ => E = wb_ex k) (fun q => s.heap.size ≤ q)) [.ref (a0 0), .int x1, .int x2].toArray s 1 6 (fun q => s.heap.size ≤ q)) (F0 m 19 ls [.int z19_0]) := by
    intro z19_0 ls hl hf
    unfold fX11_price_J19 at hf
    rcases wb_xt hf with hrx | ⟨r1, hr1, hf⟩
    · refine vx_callv (vx_runS (As := [.int z19_0]) (rest := []) ⟨hx, hb, hml, hown, hts⟩ (ct_X11_need l hlt D cB cI cZ N z19_0 s.heap.size k hrx) (va_cwS 1 hts gyX11_price_X11_need rfl rfl rfl csX11_need ⟨Nat.le_of_ble_eq_true rfl, Nat.le_of_ble_eq_true rfl⟩) (wb_preXS (hP.sub (ws' := ([] : va_W)) [] rfl) hK hX) rfl rfl hl.1 rfl (lv_room (Nat.le_of_ble_eq_true rfl)) dX11_price_19 ⟨Nat.le_of_ble_eq_true rfl, Nat.le_of_ble_eq_true rfl⟩) hS (fun q _ h => h) (fun _ h => h) (fun q _ h => h) (fun E ce q9 u t H locs ht hvm hpx hB hz1 hk1 hS hq9 hv9 hc9 => ?_) (fun u t H locs ht hvm hw hB hz1 hk1 hS => hw.elim)
      exact vx_out (fun x hx9 => (htab x hx9).elim) hlocks hq9 hv9 hc9 (fun t9 ht9 hvm9 => ⟨(), trivial, hB, hS.F ht9⟩) hS.2.2 (Nat.le_of_ble_eq_true rfl) (Nat.le_of_ble_eq_true rfl)
    refine va_csv (W.runS (As := [.int z19_0]) (rest := []) ⟨hx, hb, hml, hown, hts⟩ (cn_X11_need l D cB cI cZ N z19_0 r1 hr1) (va_cwS 1 hts gyX11_price_X11_need rfl rfl rfl csX11_need ⟨Nat.le_of_ble_eq_true rfl, Nat.le_of_ble_eq_true rfl⟩) (wb_preS (hP.sub (ws' := ([] : va_W)) [] rfl) hK) rfl rfl hl.1 rfl (lv_room (Nat.le_of_ble_eq_true rfl)) dX11_price_19 ⟨Nat.le_of_ble_eq_true rfl, Nat.le_of_ble_eq_true rfl⟩) (fun _ => ?_)
    exact absurd hf wb_okn
  have J18 : ∀ (ls : Array Slot), lv_has ls 3 [(0, .ref (a0 0)), (1, .int x1), (2, .int x2)] → fX11_price_J18 N I0 M0 x1 x2 = some (.inl k) → W p l e (headSpec wyX11_price { frames := 7, cells := 1, slots := 6, locals := 140 }).room s m [.ref (a0 0), .int x1, .int x2].toArray below meth c s.heap [] 0 0 (vx_MQ below (va_Qi (fun _ (_ : Unit) => False) (fun _ _ => True) (fun q => s.heap.size ≤ q)) (vx_X (fun _ : Unit => True) (fun E _ _ => E = wb_ex k) (fun q => s.heap.size ≤ q)) [.ref (a0 0), .int x1, .int x2].toArray s 1 6 (fun q => s.heap.size ≤ q)) (F0 m 18 ls []) := by
    intro ls hl hf
    unfold fX11_price_J18 at hf
    refine lv_iconst (v := (0 : Int32)) hx hb dX11_price_18 (by decide) ?_
    exact J19 (0 : Int32) ls (lv_sub hl [0, 1, 2] rfl) hf
  refine lv_iload_n hx hb dX11_price_0 rfl (lv_at hl 1 rfl) ?_
  obtain ⟨r2, hr2, hf⟩ := wb_b hf
  refine vp_callSi (W.runS (As := [.int x1]) (rest := []) ⟨hx, hb, hml, hown, hts⟩ (cn_X11_isBook l D cB cI cZ N x1 r2 hr2) (va_cwS 1 hts gyX11_price_X11_isBook rfl rfl rfl csX11_isBook ⟨Nat.le_of_ble_eq_true rfl, Nat.le_of_ble_eq_true rfl⟩) (wb_preS (hP.sub (ws' := ([] : va_W)) [] rfl) hK) rfl rfl hl.1 rfl (lv_room (Nat.le_of_ble_eq_true rfl)) dX11_price_1 ⟨Nat.le_of_ble_eq_true rfl, Nat.le_of_ble_eq_true rfl⟩) (fun r9 e9 => ?_)
  rw [e9]
  refine lv_if_eq (tgt := 18) hx hb dX11_price_4 (by decide) (fun hc => ?_) (fun hc => ?_)
  · replace hf := wb_t hc hf
    exact J18 ls (lv_sub hl [0, 1, 2] rfl) hf
  · replace hf := wb_f hc hf
    refine lv_iload_n hx hb dX11_price_7 rfl (lv_at hl 2 rfl) ?_
    obtain ⟨r3, hr3, hf⟩ := wb_b hf
    refine vp_callSi (W.runS (As := [.int x2]) (rest := []) ⟨hx, hb, hml, hown, hts⟩ (cn_X11_isBook l D cB cI cZ N x2 r3 hr3) (va_cwS 1 hts gyX11_price_X11_isBook rfl rfl rfl csX11_isBook ⟨Nat.le_of_ble_eq_true rfl, Nat.le_of_ble_eq_true rfl⟩) (wb_preS (hP.sub (ws' := ([] : va_W)) [] rfl) hK) rfl rfl hl.1 rfl (lv_room (Nat.le_of_ble_eq_true rfl)) dX11_price_8 ⟨Nat.le_of_ble_eq_true rfl, Nat.le_of_ble_eq_true rfl⟩) (fun r9 e9 => ?_)
    rw [e9]
    refine lv_if_eq (tgt := 18) hx hb dX11_price_11 (by decide) (fun hc => ?_) (fun hc => ?_)
    · replace hf := wb_t hc hf
      exact J18 ls (lv_sub hl [0, 1, 2] rfl) hf
    · replace hf := wb_f hc hf
      refine lv_iconst (v := (1 : Int32)) hx hb dX11_price_14 (by decide) ?_
      refine lv_goto (tgt := 19) hx hb dX11_price_15 (by decide) ?_
      exact J19 (1 : Int32) ls (lv_sub hl [0, 1, 2] rfl) hf
