set_option maxHeartbeats 4000000 in
set_option maxRecDepth 100000 in
theorem cn_X11_seek (l : Launch) (D : va_G) (cB cI cZ : ClassId) (N : Nat) (a0 : Nat → Nat) (I0 : Nat → Int32) (M0 : Nat → Nat → Int32) (x1 : Int32) (x2 : Int32) (x3 : Int32) (x4 : Int32) (sz : Nat) (R : (Nat → Int32) × (Nat → Nat → Int32)) (hf : fX11_seek N I0 M0 x1 x2 x3 x4 = some (.inr R)) : Met l yX11_seek wyX11_seek ({ frames := 8, cells := 0, slots := 0, locals := 161 }) (va_Pc [.ref (a0 0), .int x1, .int x2, .int x3, .int x4] (wb_preD D [(cB, .byte), (cI, .int), (cZ, .boolean)] (wWX11 cB cI cZ a0 I0 M0) sz)) (va_Qv (fun _ : Unit => True) (fun _ t => wb_post D [(cB, .byte), (cI, .int), (cZ, .boolean)] (va_A (wWX11 cB cI cZ a0 I0 M0) sz) (wWX11 cB cI cZ a0 R.1 R.2) t) (va_A (wWX11 cB cI cZ a0 I0 M0) sz)) 0 0 (va_A (wWX11 cB cI cZ a0 I0 M0) sz) := by
  refine Met.ofW (cc := cX11_seek) (maxL := 6) (ret := none) pn_X11 rfl ?_
  intro p e s m args below meth c s₁ B hml hv
  obtain ⟨rfl, hsz, hP, hK, hD0⟩ := hv
  have hx := B.exec
  have hb := B.bytes
  have hr := B.returns
  have hts := atoms_spec (ws := wyX11_seek) B.pre
  have hown : s.vm.findClass RX11 = some m.cls := (findClass_of_methodNamed B.named :)
  have hlocks := B.notSynchronized
  have hinX11 : ∀ w ∈ u_ws RX11 TX11 13, w ∈ wyX11_seek := fun w h => List.mem_cons_of_mem _ (List.mem_append_left _ (List.mem_append_left _ (List.mem_append_right _ h)))
  subst hsz
  have hD := hD0.self (sz := s.heap.size)
  generalize hAe : va_A (wWX11 cB cI cZ a0 I0 M0) s.heap.size = A at hD ⊢
  have hA : ∀ q : Nat, s.heap.size ≤ q → A q := fun q h => by rw [← hAe]; exact Or.inr h
  have hS : va_S A s.heap s.heap [] := va_S.rf
  have hl := lv_entry ([.ref (a0 0), .int x1, .int x2, .int x3, .int x4]) (n := 6) (Nat.le_of_ble_eq_true rfl)
  rw [lg_entry_eq]
  generalize (lg_sl ([.ref (a0 0), .int x1, .int x2, .int x3, .int x4]) ++ List.replicate (6 - (lg_sl ([.ref (a0 0), .int x1, .int x2, .int x3, .int x4])).length) Slot.unset).toArray = ls at hl ⊢
  have hl : lv_has ls 6 [(0, .ref (a0 0)), (1, .int x1), (2, .int x2), (3, .int x3), (4, .int x4)] := hl
  unfold fX11_seek at hf
  obtain ⟨H, hHe⟩ : ∃ H : Heap, H = s.heap := ⟨_, rfl⟩
  obtain ⟨locs, hle⟩ : ∃ locs : List Loc, locs = [] := ⟨_, rfl⟩
  refine wb_start (H := H) (locs := locs) hHe hle ?_
  rw [← hHe] at hP
  have hS : va_S A s.heap H locs := by rw [hHe, hle]; exact va_S.rf
  have J29 : ∀ (I0_j29 : Nat → Int32) (M0_j29 : Nat → Nat → Int32) (y29_5 : Int32) (z29_0 : Int32) (H : Heap) (locs : List Loc), va_P D vwCl (wWX11 cB cI cZ a0 I0_j29 M0_j29) H → va_D A (wWX11 cB cI cZ a0 I0_j29 M0_j29) → va_S A s.heap H locs → ∀ (ls : Array Slot), lv_has ls 6 [(0, .ref (a0 0)), (3, .int x3), (4, .int x4), (5, .int y29_5)] → fX11_seek_J29 N x1 x2 x3 x4 I0_j29 M0_j29 y29_5 z29_0 = some (.inr R) → W p l e (headSpec wyX11_seek { frames := 8, cells := 0, slots := 0, locals := 161 }).room s m [.ref (a0 0), .int x1, .int x2, .int x3, .int x4].toArray below meth c H locs 0 0 (MQ below (va_Qv (fun _ : Unit => True) (fun _ t => wb_post D [(cB, .byte), (cI, .int), (cZ, .boolean)] A (wWX11 cB cI cZ a0 R.1 R.2) t) A) [.ref (a0 0), .int x1, .int x2, .int x3, .int x4].toArray s 0 0 A) (F0 m 29 ls [.int z29_0]) := by
    intro I0_j29 M0_j29 y29_5 z29_0 H locs hP hD hS ls hl hf
    unfold fX11_seek_J29 at hf
    obtain ⟨r1, hr1, hf⟩ := wb_xr hf
    refine va_csv (W.runS (As := [.int z29_0]) (rest := []) ⟨hx, hb, hml, hown, hts⟩ (cn_X11_need l D cB cI cZ N z29_0 r1 hr1) (va_cwS 1 hts gyX11_seek_X11_need rfl rfl rfl csX11_need ⟨Nat.le_of_ble_eq_true rfl, Nat.le_of_ble_eq_true rfl⟩) (wb_preS (hP.sub (ws' := ([] : va_W)) [] rfl) hK) rfl rfl hl.1 rfl (lv_room (Nat.le_of_ble_eq_true rfl)) dX11_seek_29 ⟨Nat.le_of_ble_eq_true rfl, Nat.le_of_ble_eq_true rfl⟩) (fun _ => ?_)
    replace hf := wb_okr hf
    refine lv_aload_n hx hb dX11_seek_32 rfl (lv_at hl 0 rfl) ?_
    refine va_get (D := D) (ci := 11) (v := .ref (a0 30)) (C := RX11) (T := TX11) (N := 13) hx hb hts hinX11 hown hK hP 0 rfl rfl 7 (by decide) (hts (.fieldLink RX11 50 "WheelBook" "search" "LWheelBook$Search;") (List.mem_of_getElem? (i := 1) rfl)) (fun _ h9 => h9) rfl dX11_seek_33 ?_
    refine lv_iload hx hb dX11_seek_36 (lv_at hl 3 rfl) ?_
    refine lv_iload_n hx hb dX11_seek_38 rfl (lv_at hl 1 rfl) ?_
    refine lv_iload hx hb dX11_seek_39 (lv_at hl 2 rfl) ?_
    obtain ⟨r2, hr2, hf⟩ := wb_b hf
    have hPc := hP.sub (ws' := (wWX8 cB cI cZ (wb_sh a0 30) (wb_sh I0_j29 27) (wb_sh M0_j29 18))) [30, 31] rfl
    have hDc := hD.sub (ws' := (wWX8 cB cI cZ (wb_sh a0 30) (wb_sh I0_j29 27) (wb_sh M0_j29 18))) [30, 31] (by decide) rfl
    have hFc := va_free (wc := (wWX8 cB cI cZ (wb_sh a0 30) (wb_sh I0_j29 27) (wb_sh M0_j29 18))) hD hS hA [30, 31] rfl
    refine va_callv (va_runV (As := [.int y29_5, .int x3, .int x4]) (rest := []) ⟨hx, hb, hml, hown, hts⟩ (cn_X8_begin l D cB cI cZ N (wb_sh a0 30) (wb_sh I0_j29 27) (wb_sh M0_j29 18) y29_5 x3 x4 H.size r2 hr2) (cwV 3 hts gyX11_seek_X8_begin rfl rfl rfl cdX8_begin ⟨Nat.le_of_ble_eq_true rfl, Nat.le_of_ble_eq_true rfl⟩) (wb_preDV hPc hK hDc (wr_8 hK hP (q0 := 30) rfl)) rfl rfl hl.1 rfl (lv_room (Nat.le_of_ble_eq_true rfl)) dX11_seek_41 ⟨Nat.le_of_ble_eq_true rfl, Nat.le_of_ble_eq_true rfl⟩) hS (fun q _ h => hFc q h) hFc (fun u t H locs ht hvm hw hB hz1 hk1 hS => ?_)
    obtain ⟨hP, hD⟩ := wj_s (wc := (wWX8 cB cI cZ (wb_sh a0 30) (wb_sh I0_j29 27) (wb_sh M0_j29 18))) (w1 := (wWX8 cB cI cZ (wb_sh a0 30) r2.1 r2.2)) (wf := (wWX11 cB cI cZ a0 (wb_in I0_j29 27 7 r2.1) (wb_in M0_j29 18 1 r2.2))) 30 32 hP hD rfl rfl hk1 hFc ht hB
    obtain ⟨I0_3, eI0_3, hf⟩ := wb_v hf
    rw [← eI0_3] at hP hD
    obtain ⟨M0_4, eM0_4, hf⟩ := wb_v hf
    rw [← eM0_4] at hP hD
    exact W.vret hx hb hr (fun t ht hW => by rw [← Option.some.inj hf]; exact ⟨⟨(), rfl, trivial, by rw [ht]; exact hP, va_K.moved hW.alike hK, hD⟩, hS.F ht⟩) hS.2.2 dX11_seek_44
  have J28 : ∀ (I0_j28 : Nat → Int32) (M0_j28 : Nat → Nat → Int32) (y28_5 : Int32) (H : Heap) (locs : List Loc), va_P D vwCl (wWX11 cB cI cZ a0 I0_j28 M0_j28) H → va_D A (wWX11 cB cI cZ a0 I0_j28 M0_j28) → va_S A s.heap H locs → ∀ (ls : Array Slot), lv_has ls 6 [(0, .ref (a0 0)), (3, .int x3), (4, .int x4), (5, .int y28_5)] → fX11_seek_J28 N x1 x2 x3 x4 I0_j28 M0_j28 y28_5 = some (.inr R) → W p l e (headSpec wyX11_seek { frames := 8, cells := 0, slots := 0, locals := 161 }).room s m [.ref (a0 0), .int x1, .int x2, .int x3, .int x4].toArray below meth c H locs 0 0 (MQ below (va_Qv (fun _ : Unit => True) (fun _ t => wb_post D [(cB, .byte), (cI, .int), (cZ, .boolean)] A (wWX11 cB cI cZ a0 R.1 R.2) t) A) [.ref (a0 0), .int x1, .int x2, .int x3, .int x4].toArray s 0 0 A) (F0 m 28 ls []) := by
    intro I0_j28 M0_j28 y28_5 H locs hP hD hS ls hl hf
    unfold fX11_seek_J28 at hf
    refine lv_iconst (v := (0 : Int32)) hx hb dX11_seek_28 (by decide) ?_
    exact J29 I0_j28 M0_j28 y28_5 (0 : Int32) H locs hP hD hS ls (lv_sub hl [0, 1, 2, 3] rfl) hf
  refine lv_iload_n hx hb dX11_seek_0 rfl (lv_at hl 1 rfl) ?_
  refine lv_iload_n hx hb dX11_seek_1 rfl (lv_at hl 2 rfl) ?_
  obtain ⟨r5, hr5, hf⟩ := wb_xr hf
  refine vp_callSi (W.runS (As := [.int x1, .int x2]) (rest := []) ⟨hx, hb, hml, hown, hts⟩ (cn_X11_numberOf l D cB cI cZ N x1 x2 r5 hr5) (va_cwS 2 hts gyX11_seek_X11_numberOf rfl rfl rfl csX11_numberOf ⟨Nat.le_of_ble_eq_true rfl, Nat.le_of_ble_eq_true rfl⟩) (wb_preS (hP.sub (ws' := ([] : va_W)) [] rfl) hK) rfl rfl hl.1 rfl (lv_room (Nat.le_of_ble_eq_true rfl)) dX11_seek_2 ⟨Nat.le_of_ble_eq_true rfl, Nat.le_of_ble_eq_true rfl⟩) (fun r9 e9 => ?_)
  rw [e9]
  refine lv_istore (lv' := [(5, .int r5), (0, .ref (a0 0)), (1, .int x1), (2, .int x2), (3, .int x3), (4, .int x4)]) hx hb dX11_seek_5 hl (by decide) rfl (fun ls hl => ?_)
  refine lv_iload_n hx hb dX11_seek_7 rfl (lv_at hl 4 rfl) ?_
  refine lv_iconst (v := (0 : Int32)) hx hb dX11_seek_8 (by decide) ?_
  refine lv_iconst (v := (3 : Int32)) hx hb dX11_seek_9 (by decide) ?_
  obtain ⟨r6, hr6, hf⟩ := wb_b hf
  refine vp_callSi (W.runS (As := [.int x3, .int (0 : Int32), .int (3 : Int32)]) (rest := []) ⟨hx, hb, hml, hown, hts⟩ (cn_X11_within l D cB cI cZ N x3 (0 : Int32) (3 : Int32) r6 hr6) (va_cwS 3 hts gyX11_seek_X11_within rfl rfl rfl csX11_within ⟨Nat.le_of_ble_eq_true rfl, Nat.le_of_ble_eq_true rfl⟩) (wb_preS (hP.sub (ws' := ([] : va_W)) [] rfl) hK) rfl rfl hl.1 rfl (lv_room (Nat.le_of_ble_eq_true rfl)) dX11_seek_10 ⟨Nat.le_of_ble_eq_true rfl, Nat.le_of_ble_eq_true rfl⟩) (fun r9 e9 => ?_)
  rw [e9]
  refine lv_if_eq (tgt := 28) hx hb dX11_seek_13 (by decide) (fun hc => ?_) (fun hc => ?_)
  · replace hf := wb_t hc hf
    exact J28 I0 M0 r5 H locs hP hD hS ls (lv_sub hl [1, 4, 5, 0] rfl) hf
  · replace hf := wb_f hc hf
    refine lv_iload hx hb dX11_seek_16 (lv_at hl 5 rfl) ?_
    obtain ⟨r7, hr7, hf⟩ := wb_b hf
    refine vp_callSi (W.runS (As := [.int x4]) (rest := []) ⟨hx, hb, hml, hown, hts⟩ (cn_X11_isDay l D cB cI cZ N x4 r7 hr7) (va_cwS 1 hts gyX11_seek_X11_isDay rfl rfl rfl csX11_isDay ⟨Nat.le_of_ble_eq_true rfl, Nat.le_of_ble_eq_true rfl⟩) (wb_preS (hP.sub (ws' := ([] : va_W)) [] rfl) hK) rfl rfl hl.1 rfl (lv_room (Nat.le_of_ble_eq_true rfl)) dX11_seek_18 ⟨Nat.le_of_ble_eq_true rfl, Nat.le_of_ble_eq_true rfl⟩) (fun r9 e9 => ?_)
    rw [e9]
    refine lv_if_eq (tgt := 28) hx hb dX11_seek_21 (by decide) (fun hc => ?_) (fun hc => ?_)
    · replace hf := wb_t hc hf
      exact J28 I0 M0 r5 H locs hP hD hS ls (lv_sub hl [1, 4, 5, 0] rfl) hf
    · replace hf := wb_f hc hf
      refine lv_iconst (v := (1 : Int32)) hx hb dX11_seek_24 (by decide) ?_
      refine lv_goto (tgt := 29) hx hb dX11_seek_25 (by decide) ?_
      exact J29 I0 M0 r5 (1 : Int32) H locs hP hD hS ls (lv_sub hl [1, 4, 5, 0] rfl) hf
set_option maxHeartbeats 4000000 in
set_option maxRecDepth 100000 in
theorem ct_X11_seek (l : Launch) (hlt : l.stackTraces = false) (D : va_G) (cB cI cZ : ClassId) (N : Nat) (a0 : Nat → Nat) (I0 : Nat → Int32) (M0 : Nat → Nat → Int32) (x1 : Int32) (x2 : Int32) (x3 : Int32) (x4 : Int32) (sz k : Nat) (hf : fX11_seek N I0 M0 x1 x2 x3 x4 = some (.inl k)) : vx_Met l yX11_seek wyX11_seek ({ frames := 8, cells := 1, slots := 6, locals := 161 }) (va_Pc [.ref (a0 0), .int x1, .int x2, .int x3, .int x4] (wb_preX D [(cB, .byte), (cI, .int), (cZ, .boolean)] (wWX11 cB cI cZ a0 I0 M0) sz)) (va_Qv (fun _ : Unit => False) (fun _ _ => True) (fun q => sz ≤ q)) (vx_X (fun _ : Unit => True) (fun E _ _ => E = wb_ex k) (fun q => sz ≤ q)) 1 6 (fun q => sz ≤ q) := by
  refine vx_ofW (cc := cX11_seek) (maxL := 6) (ret := none) (by decide) rfl ?_
  intro p e s m args below meth c s₁ B hml htab hv
  obtain ⟨rfl, hsz, hP, hK, hX⟩ := hv
  subst hsz
  have hx := B.exec
  have hb := B.bytes
  have hr := B.returns
  have hts := atoms_spec (ws := wyX11_seek) B.pre
  have hown : s.vm.findClass RX11 = some m.cls := (findClass_of_methodNamed B.named :)
  have hlocks := B.notSynchronized
  have hS : va_S (fun q => s.heap.size ≤ q) s.heap s.heap [] := va_S.rf
  have hl := lv_entry ([.ref (a0 0), .int x1, .int x2, .int x3, .int x4]) (n := 6) (Nat.le_of_ble_eq_true rfl)
  rw [lg_entry_eq]
  generalize (lg_sl ([.ref (a0 0), .int x1, .int x2, .int x3, .int x4]) ++ List.replicate (6 - (lg_sl ([.ref (a0 0), .int x1, .int x2, .int x3, .int x4])).length) Slot.unset).toArray = ls at hl ⊢
  have hl : lv_has ls 6 [(0, .ref (a0 0)), (1, .int x1), (2, .int x2), (3, .int x3), (4, .int x4)] := hl
  unfold fX11_seek at hf
  have J29 : ∀ (y29_5 : Int32) (z29_0 : Int32), ∀ (ls : Array Slot), lv_has ls 6 [(0, .ref (a0 0)), (3, .int x3), (4, .int x4), (5, .int y29_5)] → fX11_seek_J29 N x1 x2 x3 x4 I0 M0 y29_5 z29_0 = some (.inl k) → W p l e (headSpec wyX11_seek { frames := 8, cells := 1, slots := 6, locals := 161 }).room s m [.ref (a0 0), .int x1, .int x2, .int x3, .int x4].toArray below meth c s.heap [] 0 0 (vx_MQ below (va_Qv (fun _ : Unit => False) (fun _ _ => True) (fun q => s.heap.size ≤ q)) (vx_X (fun _ : Unit => True) (fun E _ _ => E = wb_ex k) (fun q => s.heap.size ≤ q)) [.ref (a0 0), .int x1, .int x2, .int x3, .int x4].toArray s 1 6 (fun q => s.heap.size ≤ q)) (F0 m 29 ls [.int z29_0]) := by
    intro y29_5 z29_0 ls hl hf
    unfold fX11_seek_J29 at hf
    rcases wb_xt hf with hrx | ⟨r1, hr1, hf⟩
    · refine vx_callv (vx_runS (As := [.int z29_0]) (rest := []) ⟨hx, hb, hml, hown, hts⟩ (ct_X11_need l hlt D cB cI cZ N z29_0 s.heap.size k hrx) (va_cwS 1 hts gyX11_seek_X11_need rfl rfl rfl csX11_need ⟨Nat.le_of_ble_eq_true rfl, Nat.le_of_ble_eq_true rfl⟩) (wb_preXS (hP.sub (ws' := ([] : va_W)) [] rfl) hK hX) rfl rfl hl.1 rfl (lv_room (Nat.le_of_ble_eq_true rfl)) dX11_seek_29 ⟨Nat.le_of_ble_eq_true rfl, Nat.le_of_ble_eq_true rfl⟩) hS (fun q _ h => h) (fun _ h => h) (fun q _ h => h) (fun E ce q9 u t H locs ht hvm hpx hB hz1 hk1 hS hq9 hv9 hc9 => ?_) (fun u t H locs ht hvm hw hB hz1 hk1 hS => hw.elim)
      exact vx_out (fun x hx9 => (htab x hx9).elim) hlocks hq9 hv9 hc9 (fun t9 ht9 hvm9 => ⟨(), trivial, hB, hS.F ht9⟩) hS.2.2 (Nat.le_of_ble_eq_true rfl) (Nat.le_of_ble_eq_true rfl)
    refine va_csv (W.runS (As := [.int z29_0]) (rest := []) ⟨hx, hb, hml, hown, hts⟩ (cn_X11_need l D cB cI cZ N z29_0 r1 hr1) (va_cwS 1 hts gyX11_seek_X11_need rfl rfl rfl csX11_need ⟨Nat.le_of_ble_eq_true rfl, Nat.le_of_ble_eq_true rfl⟩) (wb_preS (hP.sub (ws' := ([] : va_W)) [] rfl) hK) rfl rfl hl.1 rfl (lv_room (Nat.le_of_ble_eq_true rfl)) dX11_seek_29 ⟨Nat.le_of_ble_eq_true rfl, Nat.le_of_ble_eq_true rfl⟩) (fun _ => ?_)
    exact absurd hf wb_okn
  have J28 : ∀ (y28_5 : Int32), ∀ (ls : Array Slot), lv_has ls 6 [(0, .ref (a0 0)), (3, .int x3), (4, .int x4), (5, .int y28_5)] → fX11_seek_J28 N x1 x2 x3 x4 I0 M0 y28_5 = some (.inl k) → W p l e (headSpec wyX11_seek { frames := 8, cells := 1, slots := 6, locals := 161 }).room s m [.ref (a0 0), .int x1, .int x2, .int x3, .int x4].toArray below meth c s.heap [] 0 0 (vx_MQ below (va_Qv (fun _ : Unit => False) (fun _ _ => True) (fun q => s.heap.size ≤ q)) (vx_X (fun _ : Unit => True) (fun E _ _ => E = wb_ex k) (fun q => s.heap.size ≤ q)) [.ref (a0 0), .int x1, .int x2, .int x3, .int x4].toArray s 1 6 (fun q => s.heap.size ≤ q)) (F0 m 28 ls []) := by
    intro y28_5 ls hl hf
    unfold fX11_seek_J28 at hf
    refine lv_iconst (v := (0 : Int32)) hx hb dX11_seek_28 (by decide) ?_
    exact J29 y28_5 (0 : Int32) ls (lv_sub hl [0, 1, 2, 3] rfl) hf
  refine lv_iload_n hx hb dX11_seek_0 rfl (lv_at hl 1 rfl) ?_
  refine lv_iload_n hx hb dX11_seek_1 rfl (lv_at hl 2 rfl) ?_
  rcases wb_xt hf with hrx | ⟨r2, hr2, hf⟩
  · refine vx_calli (vx_runS (As := [.int x1, .int x2]) (rest := []) ⟨hx, hb, hml, hown, hts⟩ (ct_X11_numberOf l hlt D cB cI cZ N x1 x2 s.heap.size k hrx) (va_cwS 2 hts gyX11_seek_X11_numberOf rfl rfl rfl csX11_numberOf ⟨Nat.le_of_ble_eq_true rfl, Nat.le_of_ble_eq_true rfl⟩) (wb_preXS (hP.sub (ws' := ([] : va_W)) [] rfl) hK hX) rfl rfl hl.1 rfl (lv_room (Nat.le_of_ble_eq_true rfl)) dX11_seek_2 ⟨Nat.le_of_ble_eq_true rfl, Nat.le_of_ble_eq_true rfl⟩) hS (fun q _ h => h) (fun _ h => h) (fun q _ h => h) (fun E ce q9 u t H locs ht hvm hpx hB hz1 hk1 hS hq9 hv9 hc9 => ?_) (fun r9 u t H locs ht hvm hw hB hz1 hk1 hS => hw.elim)
    exact vx_out (fun x hx9 => (htab x hx9).elim) hlocks hq9 hv9 hc9 (fun t9 ht9 hvm9 => ⟨(), trivial, hB, hS.F ht9⟩) hS.2.2 (Nat.le_of_ble_eq_true rfl) (Nat.le_of_ble_eq_true rfl)
  refine vp_callSi (W.runS (As := [.int x1, .int x2]) (rest := []) ⟨hx, hb, hml, hown, hts⟩ (cn_X11_numberOf l D cB cI cZ N x1 x2 r2 hr2) (va_cwS 2 hts gyX11_seek_X11_numberOf rfl rfl rfl csX11_numberOf ⟨Nat.le_of_ble_eq_true rfl, Nat.le_of_ble_eq_true rfl⟩) (wb_preS (hP.sub (ws' := ([] : va_W)) [] rfl) hK) rfl rfl hl.1 rfl (lv_room (Nat.le_of_ble_eq_true rfl)) dX11_seek_2 ⟨Nat.le_of_ble_eq_true rfl, Nat.le_of_ble_eq_true rfl⟩) (fun r9 e9 => ?_)
  rw [e9]
  refine lv_istore (lv' := [(5, .int r2), (0, .ref (a0 0)), (1, .int x1), (2, .int x2), (3, .int x3), (4, .int x4)]) hx hb dX11_seek_5 hl (by decide) rfl (fun ls hl => ?_)
  refine lv_iload_n hx hb dX11_seek_7 rfl (lv_at hl 4 rfl) ?_
  refine lv_iconst (v := (0 : Int32)) hx hb dX11_seek_8 (by decide) ?_
  refine lv_iconst (v := (3 : Int32)) hx hb dX11_seek_9 (by decide) ?_
  obtain ⟨r3, hr3, hf⟩ := wb_b hf
  refine vp_callSi (W.runS (As := [.int x3, .int (0 : Int32), .int (3 : Int32)]) (rest := []) ⟨hx, hb, hml, hown, hts⟩ (cn_X11_within l D cB cI cZ N x3 (0 : Int32) (3 : Int32) r3 hr3) (va_cwS 3 hts gyX11_seek_X11_within rfl rfl rfl csX11_within ⟨Nat.le_of_ble_eq_true rfl, Nat.le_of_ble_eq_true rfl⟩) (wb_preS (hP.sub (ws' := ([] : va_W)) [] rfl) hK) rfl rfl hl.1 rfl (lv_room (Nat.le_of_ble_eq_true rfl)) dX11_seek_10 ⟨Nat.le_of_ble_eq_true rfl, Nat.le_of_ble_eq_true rfl⟩) (fun r9 e9 => ?_)
  rw [e9]
  refine lv_if_eq (tgt := 28) hx hb dX11_seek_13 (by decide) (fun hc => ?_) (fun hc => ?_)
  · replace hf := wb_t hc hf
    exact J28 r2 ls (lv_sub hl [1, 4, 5, 0] rfl) hf
  · replace hf := wb_f hc hf
    refine lv_iload hx hb dX11_seek_16 (lv_at hl 5 rfl) ?_
    obtain ⟨r4, hr4, hf⟩ := wb_b hf
    refine vp_callSi (W.runS (As := [.int x4]) (rest := []) ⟨hx, hb, hml, hown, hts⟩ (cn_X11_isDay l D cB cI cZ N x4 r4 hr4) (va_cwS 1 hts gyX11_seek_X11_isDay rfl rfl rfl csX11_isDay ⟨Nat.le_of_ble_eq_true rfl, Nat.le_of_ble_eq_true rfl⟩) (wb_preS (hP.sub (ws' := ([] : va_W)) [] rfl) hK) rfl rfl hl.1 rfl (lv_room (Nat.le_of_ble_eq_true rfl)) dX11_seek_18 ⟨Nat.le_of_ble_eq_true rfl, Nat.le_of_ble_eq_true rfl⟩) (fun r9 e9 => ?_)
    rw [e9]
    refine lv_if_eq (tgt := 28) hx hb dX11_seek_21 (by decide) (fun hc => ?_) (fun hc => ?_)
    · replace hf := wb_t hc hf
      exact J28 r2 ls (lv_sub hl [1, 4, 5, 0] rfl) hf
    · replace hf := wb_f hc hf
      refine lv_iconst (v := (1 : Int32)) hx hb dX11_seek_24 (by decide) ?_
      refine lv_goto (tgt := 29) hx hb dX11_seek_25 (by decide) ?_
      exact J29 r2 (1 : Int32) ls (lv_sub hl [1, 4, 5, 0] rfl) hf

set_option maxHeartbeats 4000000 in
set_option maxRecDepth 100000 in
theorem cn_X11_on (l : Launch) (D : va_G) (cB cI cZ : ClassId) (N : Nat) (a0 : Nat → Nat) (I0 : Nat → Int32) (M0 : Nat → Nat → Int32) (x1 : Int32) (sz : Nat) (R : Int32 × (Nat → Int32) × (Nat → Nat → Int32)) (hf : fX11_on N I0 M0 x1 = some (.inr R)) : Met l yX11_on wyX11_on ({ frames := 7, cells := 0, slots := 0, locals := 168 }) (va_Pc [.ref (a0 0), .int x1] (wb_preD D [(cB, .byte), (cI, .int), (cZ, .boolean)] (wWX11 cB cI cZ a0 I0 M0) sz)) (va_Qi (fun r (_ : Unit) => r = R.1) (fun _ t => wb_post D [(cB, .byte), (cI, .int), (cZ, .boolean)] (va_A (wWX11 cB cI cZ a0 I0 M0) sz) (wWX11 cB cI cZ a0 R.2.1 R.2.2) t) (va_A (wWX11 cB cI cZ a0 I0 M0) sz)) 0 0 (va_A (wWX11 cB cI cZ a0 I0 M0) sz) := by
  refine Met.ofW (cc := cX11_on) (maxL := 2) (ret := (some .int)) pn_X11 rfl ?_
  intro p e s m args below meth c s₁ B hml hv
  obtain ⟨rfl, hsz, hP, hK, hD0⟩ := hv
  have hx := B.exec
  have hb := B.bytes
  have hr := B.returns
  have hts := atoms_spec (ws := wyX11_on) B.pre
  have hown : s.vm.findClass RX11 = some m.cls := (findClass_of_methodNamed B.named :)
  have hlocks := B.notSynchronized
  have hinX11 : ∀ w ∈ u_ws RX11 TX11 13, w ∈ wyX11_on := fun w h => List.mem_cons_of_mem _ (List.mem_append_left _ (List.mem_append_left _ (List.mem_append_left _ (List.mem_append_left _ (List.mem_append_left _ (List.mem_append_left _ (List.mem_append_right _ h)))))))
  have hinX8 : ∀ w ∈ u_ws RX8 TX8 8, w ∈ wyX11_on := fun w h => List.mem_cons_of_mem _ (List.mem_append_left _ (List.mem_append_left _ (List.mem_append_left _ (List.mem_append_left _ (List.mem_append_left _ (List.mem_append_right _ h))))))
  subst hsz
  have hD := hD0.self (sz := s.heap.size)
  generalize hAe : va_A (wWX11 cB cI cZ a0 I0 M0) s.heap.size = A at hD ⊢
  have hA : ∀ q : Nat, s.heap.size ≤ q → A q := fun q h => by rw [← hAe]; exact Or.inr h
  have hS : va_S A s.heap s.heap [] := va_S.rf
  have hl := lv_entry ([.ref (a0 0), .int x1]) (n := 2) (Nat.le_of_ble_eq_true rfl)
  rw [lg_entry_eq]
  generalize (lg_sl ([.ref (a0 0), .int x1]) ++ List.replicate (2 - (lg_sl ([.ref (a0 0), .int x1])).length) Slot.unset).toArray = ls at hl ⊢
  have hl : lv_has ls 2 [(0, .ref (a0 0)), (1, .int x1)] := hl
  unfold fX11_on at hf
  obtain ⟨H, hHe⟩ : ∃ H : Heap, H = s.heap := ⟨_, rfl⟩
  obtain ⟨locs, hle⟩ : ∃ locs : List Loc, locs = [] := ⟨_, rfl⟩
  refine wb_start (H := H) (locs := locs) hHe hle ?_
  rw [← hHe] at hP
  have hS : va_S A s.heap H locs := by rw [hHe, hle]; exact va_S.rf
  refine lv_aload_n hx hb dX11_on_0 rfl (lv_at hl 0 rfl) ?_
  refine va_get (D := D) (ci := 11) (v := .ref (a0 30)) (C := RX11) (T := TX11) (N := 13) hx hb hts hinX11 hown hK hP 0 rfl rfl 7 (by decide) (hts (.fieldLink RX11 50 "WheelBook" "search" "LWheelBook$Search;") (List.mem_of_getElem? (i := 1) rfl)) (fun _ h9 => h9) rfl dX11_on_1 ?_
  refine va_get (D := D) (ci := 8) (v := .int (I0 27)) (C := RX8) (T := TX8) (N := 8) hx hb hts hinX8 hown hK hP 30 rfl rfl 0 (by decide) (hts (.fieldLink RX11 196 "WheelBook$Search" "begun" "Z") (List.mem_of_getElem? (i := 2) rfl)) (fun _ h9 => h9) rfl dX11_on_4 ?_
  obtain ⟨r1, hr1, hf⟩ := wb_xr hf
  refine va_csv (W.runS (As := [.int (I0 27)]) (rest := []) ⟨hx, hb, hml, hown, hts⟩ (cn_X11_need l D cB cI cZ N (I0 27) r1 hr1) (va_cwS 1 hts gyX11_on_X11_need rfl rfl rfl csX11_need ⟨Nat.le_of_ble_eq_true rfl, Nat.le_of_ble_eq_true rfl⟩) (wb_preS (hP.sub (ws' := ([] : va_W)) [] rfl) hK) rfl rfl hl.1 rfl (lv_room (Nat.le_of_ble_eq_true rfl)) dX11_on_7 ⟨Nat.le_of_ble_eq_true rfl, Nat.le_of_ble_eq_true rfl⟩) (fun _ => ?_)
  refine lv_iload_n hx hb dX11_on_10 rfl (lv_at hl 1 rfl) ?_
  refine lv_iconst (v := (0 : Int32)) hx hb dX11_on_11 (by decide) ?_
  refine lv_ldcw (v := (50000 : Int32)) hx hb hown (hts (.constant RX11 257 (50000)) (List.mem_of_getElem? (i := 3) rfl)) dX11_on_12 ?_
  obtain ⟨r2, hr2, hf⟩ := wb_b hf
  refine vp_callSi (W.runS (As := [.int x1, .int (0 : Int32), .int (50000 : Int32)]) (rest := []) ⟨hx, hb, hml, hown, hts⟩ (cn_X11_within l D cB cI cZ N x1 (0 : Int32) (50000 : Int32) r2 hr2) (va_cwS 3 hts gyX11_on_X11_within rfl rfl rfl csX11_within ⟨Nat.le_of_ble_eq_true rfl, Nat.le_of_ble_eq_true rfl⟩) (wb_preS (hP.sub (ws' := ([] : va_W)) [] rfl) hK) rfl rfl hl.1 rfl (lv_room (Nat.le_of_ble_eq_true rfl)) dX11_on_15 ⟨Nat.le_of_ble_eq_true rfl, Nat.le_of_ble_eq_true rfl⟩) (fun r9 e9 => ?_)
  rw [e9]
  obtain ⟨r3, hr3, hf⟩ := wb_xr hf
  refine va_csv (W.runS (As := [.int r2]) (rest := []) ⟨hx, hb, hml, hown, hts⟩ (cn_X11_allow l D cB cI cZ N r2 r3 hr3) (va_cwS 1 hts gyX11_on_X11_allow rfl rfl rfl csX11_allow ⟨Nat.le_of_ble_eq_true rfl, Nat.le_of_ble_eq_true rfl⟩) (wb_preS (hP.sub (ws' := ([] : va_W)) [] rfl) hK) rfl rfl hl.1 rfl (lv_room (Nat.le_of_ble_eq_true rfl)) dX11_on_18 ⟨Nat.le_of_ble_eq_true rfl, Nat.le_of_ble_eq_true rfl⟩) (fun _ => ?_)
  replace hf := wb_okr hf
  refine lv_aload_n hx hb dX11_on_21 rfl (lv_at hl 0 rfl) ?_
  refine va_get (D := D) (ci := 11) (v := .ref (a0 30)) (C := RX11) (T := TX11) (N := 13) hx hb hts hinX11 hown hK hP 0 rfl rfl 7 (by decide) (hts (.fieldLink RX11 50 "WheelBook" "search" "LWheelBook$Search;") (List.mem_of_getElem? (i := 1) rfl)) (fun _ h9 => h9) rfl dX11_on_22 ?_
  refine lv_aload_n hx hb dX11_on_25 rfl (lv_at hl 0 rfl) ?_
  refine va_get (D := D) (ci := 11) (v := .ref (a0 3)) (C := RX11) (T := TX11) (N := 13) hx hb hts hinX11 hown hK hP 0 rfl rfl 1 (by decide) (hts (.fieldLink RX11 19 "WheelBook" "told" "LWheelBook$House;") (List.mem_of_getElem? (i := 4) rfl)) (fun _ h9 => h9) rfl dX11_on_26 ?_
  refine lv_aload_n hx hb dX11_on_29 rfl (lv_at hl 0 rfl) ?_
  refine va_get (D := D) (ci := 11) (v := .ref (a0 21)) (C := RX11) (T := TX11) (N := 13) hx hb hts hinX11 hown hK hP 0 rfl rfl 3 (by decide) (hts (.fieldLink RX11 29 "WheelBook" "books" "LWheelBook$Books;") (List.mem_of_getElem? (i := 5) rfl)) (fun _ h9 => h9) rfl dX11_on_30 ?_
  refine lv_iload_n hx hb dX11_on_33 rfl (lv_at hl 1 rfl) ?_
  obtain ⟨r4, hr4, hf⟩ := wb_b hf
  have hPc := hP.sub (ws' := ((wWX8 cB cI cZ (wb_sh a0 30) (wb_sh I0 27) (wb_sh M0 18)) ++ ((wWX5 cB cI cZ (wb_sh a0 3) (wb_sh I0 9) (wb_sh M0 1)) ++ (wWX1 cB cI cZ (wb_sh a0 21) (wb_sh I0 13) (wb_sh M0 13))))) [30, 31, 3, 4, 5, 6, 7, 8, 9, 10, 11, 21, 22, 23] rfl
  have hDc := hD.sub (ws' := ((wWX8 cB cI cZ (wb_sh a0 30) (wb_sh I0 27) (wb_sh M0 18)) ++ ((wWX5 cB cI cZ (wb_sh a0 3) (wb_sh I0 9) (wb_sh M0 1)) ++ (wWX1 cB cI cZ (wb_sh a0 21) (wb_sh I0 13) (wb_sh M0 13))))) [30, 31, 3, 4, 5, 6, 7, 8, 9, 10, 11, 21, 22, 23] (by decide) rfl
  have hFc := va_free (wc := ((wWX8 cB cI cZ (wb_sh a0 30) (wb_sh I0 27) (wb_sh M0 18)) ++ ((wWX5 cB cI cZ (wb_sh a0 3) (wb_sh I0 9) (wb_sh M0 1)) ++ (wWX1 cB cI cZ (wb_sh a0 21) (wb_sh I0 13) (wb_sh M0 13))))) hD hS hA [30, 31, 3, 4, 5, 6, 7, 8, 9, 10, 11, 21, 22, 23] rfl
  refine va_calli (va_runV (As := [.ref (a0 3), .ref (a0 21), .int x1]) (rest := []) ⟨hx, hb, hml, hown, hts⟩ (cn_X8_goOn l D cB cI cZ N (wb_sh a0 30) (wb_sh I0 27) (wb_sh M0 18) (wb_sh a0 3) (wb_sh I0 9) (wb_sh M0 1) (wb_sh a0 21) (wb_sh I0 13) (wb_sh M0 13) x1 H.size r4 hr4) (cwV 3 hts gyX11_on_X8_goOn rfl rfl rfl cdX8_goOn ⟨Nat.le_of_ble_eq_true rfl, Nat.le_of_ble_eq_true rfl⟩) (wb_preDV hPc hK hDc (wr_8 hK hP (q0 := 30) rfl)) rfl rfl hl.1 rfl (lv_room (Nat.le_of_ble_eq_true rfl)) dX11_on_34 ⟨Nat.le_of_ble_eq_true rfl, Nat.le_of_ble_eq_true rfl⟩) hS (fun q _ h => hFc q h) hFc (fun r9 u t H locs ht hvm hw hB hz1 hk1 hS => ?_)
  obtain ⟨hP, hD⟩ := wj_bca (a := (wWX8 cB cI cZ (wb_sh a0 30) (wb_sh I0 27) (wb_sh M0 18))) (b := (wWX5 cB cI cZ (wb_sh a0 3) (wb_sh I0 9) (wb_sh M0 1))) (c := (wWX1 cB cI cZ (wb_sh a0 21) (wb_sh I0 13) (wb_sh M0 13))) (a' := (wWX8 cB cI cZ (wb_sh a0 30) r4.2.1 r4.2.2)) (b' := (wWX5 cB cI cZ (wb_sh a0 3) (wb_sh I0 9) (wb_sh M0 1))) (c' := (wWX1 cB cI cZ (wb_sh a0 21) (wb_sh I0 13) (wb_sh M0 13))) (wf := (wWX11 cB cI cZ a0 (wb_in I0 27 7 r4.2.1) (wb_in M0 18 1 r4.2.2))) 3 12 9 24 6 32 hP hD rfl rfl hk1 hFc ht hB
  rw [hw]
  obtain ⟨I0_5, eI0_5, hf⟩ := wb_v hf
  rw [← eI0_5] at hP hD
  obtain ⟨M0_6, eM0_6, hf⟩ := wb_v hf
  rw [← eM0_6] at hP hD
  exact W.iret (v := r4.1) hx hb hr (fun t ht hW => by rw [← Option.some.inj hf]; exact ⟨⟨r4.1, (), rfl, rfl, by rw [ht]; exact hP, va_K.moved hW.alike hK, hD⟩, hS.F ht⟩) hS.2.2 dX11_on_37
set_option maxHeartbeats 4000000 in
set_option maxRecDepth 100000 in
theorem ct_X11_on (l : Launch) (hlt : l.stackTraces = false) (D : va_G) (cB cI cZ : ClassId) (N : Nat) (a0 : Nat → Nat) (I0 : Nat → Int32) (M0 : Nat → Nat → Int32) (x1 : Int32) (sz k : Nat) (hf : fX11_on N I0 M0 x1 = some (.inl k)) : vx_Met l yX11_on wyX11_on ({ frames := 7, cells := 1, slots := 6, locals := 168 }) (va_Pc [.ref (a0 0), .int x1] (wb_preX D [(cB, .byte), (cI, .int), (cZ, .boolean)] (wWX11 cB cI cZ a0 I0 M0) sz)) (va_Qi (fun _ (_ : Unit) => False) (fun _ _ => True) (fun q => sz ≤ q)) (vx_X (fun _ : Unit => True) (fun E _ _ => E = wb_ex k) (fun q => sz ≤ q)) 1 6 (fun q => sz ≤ q) := by
  refine vx_ofW (cc := cX11_on) (maxL := 2) (ret := (some .int)) (by decide) rfl ?_
  intro p e s m args below meth c s₁ B hml htab hv
  obtain ⟨rfl, hsz, hP, hK, hX⟩ := hv
  subst hsz
  have hx := B.exec
  have hb := B.bytes
  have hr := B.returns
  have hts := atoms_spec (ws := wyX11_on) B.pre
  have hown : s.vm.findClass RX11 = some m.cls := (findClass_of_methodNamed B.named :)
  have hlocks := B.notSynchronized
  have hS : va_S (fun q => s.heap.size ≤ q) s.heap s.heap [] := va_S.rf
  have hinX11 : ∀ w ∈ u_ws RX11 TX11 13, w ∈ wyX11_on := fun w h => List.mem_cons_of_mem _ (List.mem_append_left _ (List.mem_append_left _ (List.mem_append_left _ (List.mem_append_left _ (List.mem_append_left _ (List.mem_append_left _ (List.mem_append_right _ h)))))))
  have hinX8 : ∀ w ∈ u_ws RX8 TX8 8, w ∈ wyX11_on := fun w h => List.mem_cons_of_mem _ (List.mem_append_left _ (List.mem_append_left _ (List.mem_append_left _ (List.mem_append_left _ (List.mem_append_left _ (List.mem_append_right _ h))))))
  have hl := lv_entry ([.ref (a0 0), .int x1]) (n := 2) (Nat.le_of_ble_eq_true rfl)
  rw [lg_entry_eq]
  generalize (lg_sl ([.ref (a0 0), .int x1]) ++ List.replicate (2 - (lg_sl ([.ref (a0 0), .int x1])).length) Slot.unset).toArray = ls at hl ⊢
  have hl : lv_has ls 2 [(0, .ref (a0 0)), (1, .int x1)] := hl
  unfold fX11_on at hf
  refine lv_aload_n hx hb dX11_on_0 rfl (lv_at hl 0 rfl) ?_
  refine va_get (D := D) (ci := 11) (v := .ref (a0 30)) (C := RX11) (T := TX11) (N := 13) hx hb hts hinX11 hown hK hP 0 rfl rfl 7 (by decide) (hts (.fieldLink RX11 50 "WheelBook" "search" "LWheelBook$Search;") (List.mem_of_getElem? (i := 1) rfl)) (fun _ h9 => h9) rfl dX11_on_1 ?_
  refine va_get (D := D) (ci := 8) (v := .int (I0 27)) (C := RX8) (T := TX8) (N := 8) hx hb hts hinX8 hown hK hP 30 rfl rfl 0 (by decide) (hts (.fieldLink RX11 196 "WheelBook$Search" "begun" "Z") (List.mem_of_getElem? (i := 2) rfl)) (fun _ h9 => h9) rfl dX11_on_4 ?_
  rcases wb_xt hf with hrx | ⟨r1, hr1, hf⟩
  · refine vx_callv (vx_runS (As := [.int (I0 27)]) (rest := []) ⟨hx, hb, hml, hown, hts⟩ (ct_X11_need l hlt D cB cI cZ N (I0 27) s.heap.size k hrx) (va_cwS 1 hts gyX11_on_X11_need rfl rfl rfl csX11_need ⟨Nat.le_of_ble_eq_true rfl, Nat.le_of_ble_eq_true rfl⟩) (wb_preXS (hP.sub (ws' := ([] : va_W)) [] rfl) hK hX) rfl rfl hl.1 rfl (lv_room (Nat.le_of_ble_eq_true rfl)) dX11_on_7 ⟨Nat.le_of_ble_eq_true rfl, Nat.le_of_ble_eq_true rfl⟩) hS (fun q _ h => h) (fun _ h => h) (fun q _ h => h) (fun E ce q9 u t H locs ht hvm hpx hB hz1 hk1 hS hq9 hv9 hc9 => ?_) (fun u t H locs ht hvm hw hB hz1 hk1 hS => hw.elim)
    exact vx_out (fun x hx9 => (htab x hx9).elim) hlocks hq9 hv9 hc9 (fun t9 ht9 hvm9 => ⟨(), trivial, hB, hS.F ht9⟩) hS.2.2 (Nat.le_of_ble_eq_true rfl) (Nat.le_of_ble_eq_true rfl)
  refine va_csv (W.runS (As := [.int (I0 27)]) (rest := []) ⟨hx, hb, hml, hown, hts⟩ (cn_X11_need l D cB cI cZ N (I0 27) r1 hr1) (va_cwS 1 hts gyX11_on_X11_need rfl rfl rfl csX11_need ⟨Nat.le_of_ble_eq_true rfl, Nat.le_of_ble_eq_true rfl⟩) (wb_preS (hP.sub (ws' := ([] : va_W)) [] rfl) hK) rfl rfl hl.1 rfl (lv_room (Nat.le_of_ble_eq_true rfl)) dX11_on_7 ⟨Nat.le_of_ble_eq_true rfl, Nat.le_of_ble_eq_true rfl⟩) (fun _ => ?_)
  refine lv_iload_n hx hb dX11_on_10 rfl (lv_at hl 1 rfl) ?_
  refine lv_iconst (v := (0 : Int32)) hx hb dX11_on_11 (by decide) ?_
  refine lv_ldcw (v := (50000 : Int32)) hx hb hown (hts (.constant RX11 257 (50000)) (List.mem_of_getElem? (i := 3) rfl)) dX11_on_12 ?_
  obtain ⟨r2, hr2, hf⟩ := wb_b hf
  refine vp_callSi (W.runS (As := [.int x1, .int (0 : Int32), .int (50000 : Int32)]) (rest := []) ⟨hx, hb, hml, hown, hts⟩ (cn_X11_within l D cB cI cZ N x1 (0 : Int32) (50000 : Int32) r2 hr2) (va_cwS 3 hts gyX11_on_X11_within rfl rfl rfl csX11_within ⟨Nat.le_of_ble_eq_true rfl, Nat.le_of_ble_eq_true rfl⟩) (wb_preS (hP.sub (ws' := ([] : va_W)) [] rfl) hK) rfl rfl hl.1 rfl (lv_room (Nat.le_of_ble_eq_true rfl)) dX11_on_15 ⟨Nat.le_of_ble_eq_true rfl, Nat.le_of_ble_eq_true rfl⟩) (fun r9 e9 => ?_)
  rw [e9]
  rcases wb_xt hf with hrx | ⟨r3, hr3, hf⟩
  · refine vx_callv (vx_runS (As := [.int r2]) (rest := []) ⟨hx, hb, hml, hown, hts⟩ (ct_X11_allow l hlt D cB cI cZ N r2 s.heap.size k hrx) (va_cwS 1 hts gyX11_on_X11_allow rfl rfl rfl csX11_allow ⟨Nat.le_of_ble_eq_true rfl, Nat.le_of_ble_eq_true rfl⟩) (wb_preXS (hP.sub (ws' := ([] : va_W)) [] rfl) hK hX) rfl rfl hl.1 rfl (lv_room (Nat.le_of_ble_eq_true rfl)) dX11_on_18 ⟨Nat.le_of_ble_eq_true rfl, Nat.le_of_ble_eq_true rfl⟩) hS (fun q _ h => h) (fun _ h => h) (fun q _ h => h) (fun E ce q9 u t H locs ht hvm hpx hB hz1 hk1 hS hq9 hv9 hc9 => ?_) (fun u t H locs ht hvm hw hB hz1 hk1 hS => hw.elim)
    exact vx_out (fun x hx9 => (htab x hx9).elim) hlocks hq9 hv9 hc9 (fun t9 ht9 hvm9 => ⟨(), trivial, hB, hS.F ht9⟩) hS.2.2 (Nat.le_of_ble_eq_true rfl) (Nat.le_of_ble_eq_true rfl)
  refine va_csv (W.runS (As := [.int r2]) (rest := []) ⟨hx, hb, hml, hown, hts⟩ (cn_X11_allow l D cB cI cZ N r2 r3 hr3) (va_cwS 1 hts gyX11_on_X11_allow rfl rfl rfl csX11_allow ⟨Nat.le_of_ble_eq_true rfl, Nat.le_of_ble_eq_true rfl⟩) (wb_preS (hP.sub (ws' := ([] : va_W)) [] rfl) hK) rfl rfl hl.1 rfl (lv_room (Nat.le_of_ble_eq_true rfl)) dX11_on_18 ⟨Nat.le_of_ble_eq_true rfl, Nat.le_of_ble_eq_true rfl⟩) (fun _ => ?_)
  exact absurd hf wb_okn

set_option maxHeartbeats 4000000 in
set_option maxRecDepth 100000 in
theorem cn_X11_held (l : Launch) (D : va_G) (cB cI cZ : ClassId) (N : Nat) (a0 : Nat → Nat) (I0 : Nat → Int32) (M0 : Nat → Nat → Int32) (x1 : Int32) (R : Int32) (hf : fX11_held N I0 M0 x1 = some (.inr R)) : Met l yX11_held wyX11_held ({ frames := 7, cells := 0, slots := 0, locals := 140 }) (va_Pc [.ref (a0 0), .int x1] (wb_pre D [(cB, .byte), (cI, .int), (cZ, .boolean)] (wWX11 cB cI cZ a0 I0 M0))) (vp_Si (fun r => r = R)) 0 0 (fun _ => False) := by
  refine Met.ofW (cc := cX11_held) (maxL := 3) (ret := (some .int)) pn_X11 rfl ?_
  intro p e s m args below meth c s₁ B hml hv
  obtain ⟨rfl, hP, hK⟩ := hv
  have hx := B.exec
  have hb := B.bytes
  have hr := B.returns
  have hts := atoms_spec (ws := wyX11_held) B.pre
  have hown : s.vm.findClass RX11 = some m.cls := (findClass_of_methodNamed B.named :)
  have hlocks := B.notSynchronized
  have hinX11 : ∀ w ∈ u_ws RX11 TX11 13, w ∈ wyX11_held := fun w h => List.mem_cons_of_mem _ (List.mem_append_left _ (List.mem_append_left _ (List.mem_append_right _ h)))
  have hinX8 : ∀ w ∈ u_ws RX8 TX8 8, w ∈ wyX11_held := fun w h => List.mem_cons_of_mem _ (List.mem_append_left _ (List.mem_append_right _ h))
  have hl := lv_entry ([.ref (a0 0), .int x1]) (n := 3) (Nat.le_of_ble_eq_true rfl)
  rw [lg_entry_eq]
  generalize (lg_sl ([.ref (a0 0), .int x1]) ++ List.replicate (3 - (lg_sl ([.ref (a0 0), .int x1])).length) Slot.unset).toArray = ls at hl ⊢
  have hl : lv_has ls 3 [(0, .ref (a0 0)), (1, .int x1)] := hl
  unfold fX11_held at hf
  have J42 : ∀ (z42_0 : Int32), ∀ (ls : Array Slot), lv_has ls 3 [(0, .ref (a0 0)), (1, .int x1)] → fX11_held_J42 N I0 M0 x1 z42_0 = some R → W p l e (headSpec wyX11_held { frames := 7, cells := 0, slots := 0, locals := 140 }).room s m [.ref (a0 0), .int x1].toArray below meth c s.heap [] 0 0 (MQ below (vp_Si (fun r => r = R)) [.ref (a0 0), .int x1].toArray s 0 0 (fun _ => False)) (F0 m 42 ls [.int z42_0]) := by
    intro z42_0 ls hl hf
    unfold fX11_held_J42 at hf
    refine lv_istore_n (lv' := [(2, .int z42_0), (0, .ref (a0 0)), (1, .int x1)]) hx hb dX11_held_42 rfl hl (by decide) rfl (fun ls hl => ?_)
    refine lv_iload_n hx hb dX11_held_43 rfl (lv_at hl 2 rfl) ?_
    by_cases hc0 : x1 = (0 : Int32)
    · replace hf := wb_t hc0 hf
      refine lv_tableIn (off := 32) (tgt := 76) hx hb dX11_held_44 (by rw [hc0]; decide) (by rw [hc0]; decide) (by rw [hc0]; rfl) (by decide) ?_
      refine lv_aload_n hx hb dX11_held_76 rfl (lv_at hl 1 rfl) ?_
      refine va_get (D := D) (ci := 11) (v := .ref (a0 30)) (C := RX11) (T := TX11) (N := 13) hx hb hts hinX11 hown hK hP 0 rfl rfl 7 (by decide) (hts (.fieldLink RX11 50 "WheelBook" "search" "LWheelBook$Search;") (List.mem_of_getElem? (i := 1) rfl)) (fun _ h9 => h9) rfl dX11_held_77 ?_
      refine va_get (D := D) (ci := 8) (v := .int (I0 30)) (C := RX8) (T := TX8) (N := 8) hx hb hts hinX8 hown hK hP 30 rfl rfl 3 (by decide) (hts (.fieldLink RX11 258 "WheelBook$Search" "next" "I") (List.mem_of_getElem? (i := 4) rfl)) (fun _ h9 => h9) rfl dX11_held_80 ?_
      exact W.iret (v := (I0 30)) hx hb hr (fun t ht hW => ⟨_, rfl, Option.some.inj hf, ht⟩) (fun _ h => nomatch h) dX11_held_83
    replace hf := wb_f hc0 hf
    by_cases hc1 : x1 = (1 : Int32)
    · replace hf := wb_t hc1 hf
      refine lv_tableIn (off := 40) (tgt := 84) hx hb dX11_held_44 (by rw [hc1]; decide) (by rw [hc1]; decide) (by rw [hc1]; rfl) (by decide) ?_
      refine lv_iload_n hx hb dX11_held_84 rfl (lv_at hl 0 rfl) ?_
      refine lv_if_eq (tgt := 92) hx hb dX11_held_85 (by decide) (fun hc => ?_) (fun hc => ?_)
      · replace hf := wb_t hc hf
        refine lv_aload_n hx hb dX11_held_92 rfl (lv_at hl 1 rfl) ?_
        refine va_get (D := D) (ci := 11) (v := .ref (a0 30)) (C := RX11) (T := TX11) (N := 13) hx hb hts hinX11 hown hK hP 0 rfl rfl 7 (by decide) (hts (.fieldLink RX11 50 "WheelBook" "search" "LWheelBook$Search;") (List.mem_of_getElem? (i := 1) rfl)) (fun _ h9 => h9) rfl dX11_held_93 ?_
        refine va_get (D := D) (ci := 8) (v := .int (I0 31)) (C := RX8) (T := TX8) (N := 8) hx hb hts hinX8 hown hK hP 30 rfl rfl 4 (by decide) (hts (.fieldLink RX11 193 "WheelBook$Search" "least" "I") (List.mem_of_getElem? (i := 5) rfl)) (fun _ h9 => h9) rfl dX11_held_96 ?_
        exact W.iret (v := (I0 31)) hx hb hr (fun t ht hW => ⟨_, rfl, Option.some.inj hf, ht⟩) (fun _ h => nomatch h) dX11_held_99
      · replace hf := wb_f hc hf
        refine lv_iconst (v := (-1 : Int32)) hx hb dX11_held_88 (by decide) ?_
        refine lv_goto (tgt := 99) hx hb dX11_held_89 (by decide) ?_
        exact W.iret (v := (-1 : Int32)) hx hb hr (fun t ht hW => ⟨_, rfl, Option.some.inj hf, ht⟩) (fun _ h => nomatch h) dX11_held_99
    replace hf := wb_f hc1 hf
    by_cases hc2 : x1 = (2 : Int32)
    · replace hf := wb_t hc2 hf
      refine lv_tableIn (off := 56) (tgt := 100) hx hb dX11_held_44 (by rw [hc2]; decide) (by rw [hc2]; decide) (by rw [hc2]; rfl) (by decide) ?_
      refine lv_aload_n hx hb dX11_held_100 rfl (lv_at hl 1 rfl) ?_
      refine va_get (D := D) (ci := 11) (v := .ref (a0 30)) (C := RX11) (T := TX11) (N := 13) hx hb hts hinX11 hown hK hP 0 rfl rfl 7 (by decide) (hts (.fieldLink RX11 50 "WheelBook" "search" "LWheelBook$Search;") (List.mem_of_getElem? (i := 1) rfl)) (fun _ h9 => h9) rfl dX11_held_101 ?_
      refine va_get (D := D) (ci := 8) (v := .int (I0 32)) (C := RX8) (T := TX8) (N := 8) hx hb hts hinX8 hown hK hP 30 rfl rfl 5 (by decide) (hts (.fieldLink RX11 200 "WheelBook$Search" "many" "I") (List.mem_of_getElem? (i := 3) rfl)) (fun _ h9 => h9) rfl dX11_held_104 ?_
      exact W.iret (v := (I0 32)) hx hb hr (fun t ht hW => ⟨_, rfl, Option.some.inj hf, ht⟩) (fun _ h => nomatch h) dX11_held_107
    replace hf := wb_f hc2 hf
    by_cases hc3 : x1 = (3 : Int32)
    · replace hf := wb_t hc3 hf
      refine lv_tableIn (off := 64) (tgt := 108) hx hb dX11_held_44 (by rw [hc3]; decide) (by rw [hc3]; decide) (by rw [hc3]; rfl) (by decide) ?_
      refine lv_iload_n hx hb dX11_held_108 rfl (lv_at hl 0 rfl) ?_
      refine lv_if_eq (tgt := 116) hx hb dX11_held_109 (by decide) (fun hc => ?_) (fun hc => ?_)
      · replace hf := wb_t hc hf
        refine lv_aload_n hx hb dX11_held_116 rfl (lv_at hl 1 rfl) ?_
        refine va_get (D := D) (ci := 11) (v := .ref (a0 30)) (C := RX11) (T := TX11) (N := 13) hx hb hts hinX11 hown hK hP 0 rfl rfl 7 (by decide) (hts (.fieldLink RX11 50 "WheelBook" "search" "LWheelBook$Search;") (List.mem_of_getElem? (i := 1) rfl)) (fun _ h9 => h9) rfl dX11_held_117 ?_
        refine lv_iconst (v := (0 : Int32)) hx hb dX11_held_120 (by decide) ?_
        obtain ⟨r1, hr1, hf⟩ := wb_b hf
        refine vp_callSi (W.runV (As := [.int (0 : Int32)]) (rest := []) ⟨hx, hb, hml, hown, hts⟩ (cn_X8_keptDay l D cB cI cZ N (wb_sh a0 30) (wb_sh I0 27) (wb_sh M0 18) (0 : Int32) r1 hr1) (cwV 1 hts gyX11_held_X8_keptDay rfl rfl rfl cdX8_keptDay ⟨Nat.le_of_ble_eq_true rfl, Nat.le_of_ble_eq_true rfl⟩) (wb_preV (hP.sub (ws' := (wWX8 cB cI cZ (wb_sh a0 30) (wb_sh I0 27) (wb_sh M0 18))) [30, 31] rfl) hK (wr_8 hK hP (q0 := 30) rfl)) rfl rfl hl.1 rfl (lv_room (Nat.le_of_ble_eq_true rfl)) dX11_held_121 ⟨Nat.le_of_ble_eq_true rfl, Nat.le_of_ble_eq_true rfl⟩) (fun r9 e9 => ?_)
        rw [e9]
        exact W.iret (v := r1) hx hb hr (fun t ht hW => ⟨_, rfl, Option.some.inj hf, ht⟩) (fun _ h => nomatch h) dX11_held_124
      · replace hf := wb_f hc hf
        refine lv_iconst (v := (-1 : Int32)) hx hb dX11_held_112 (by decide) ?_
        refine lv_goto (tgt := 124) hx hb dX11_held_113 (by decide) ?_
        exact W.iret (v := (-1 : Int32)) hx hb hr (fun t ht hW => ⟨_, rfl, Option.some.inj hf, ht⟩) (fun _ h => nomatch h) dX11_held_124
    replace hf := wb_f hc3 hf
    refine lv_tableOut (tgt := 125) hx hb dX11_held_44 (wb_sw4 hc0 hc1 hc2 hc3) (by decide) ?_
    refine lv_iload_n hx hb dX11_held_125 rfl (lv_at hl 0 rfl) ?_
    refine lv_if_eq (tgt := 133) hx hb dX11_held_126 (by decide) (fun hc => ?_) (fun hc => ?_)
    · replace hf := wb_t hc hf
      refine lv_aload_n hx hb dX11_held_133 rfl (lv_at hl 1 rfl) ?_
      refine va_get (D := D) (ci := 11) (v := .ref (a0 30)) (C := RX11) (T := TX11) (N := 13) hx hb hts hinX11 hown hK hP 0 rfl rfl 7 (by decide) (hts (.fieldLink RX11 50 "WheelBook" "search" "LWheelBook$Search;") (List.mem_of_getElem? (i := 1) rfl)) (fun _ h9 => h9) rfl dX11_held_134 ?_
      refine va_get (D := D) (ci := 8) (v := .int (I0 33)) (C := RX8) (T := TX8) (N := 8) hx hb hts hinX8 hown hK hP 30 rfl rfl 6 (by decide) (hts (.fieldLink RX11 261 "WheelBook$Search" "latest" "I") (List.mem_of_getElem? (i := 6) rfl)) (fun _ h9 => h9) rfl dX11_held_137 ?_
      exact W.iret (v := (I0 33)) hx hb hr (fun t ht hW => ⟨_, rfl, Option.some.inj hf, ht⟩) (fun _ h => nomatch h) dX11_held_140
    · replace hf := wb_f hc hf
      refine lv_iconst (v := (-1 : Int32)) hx hb dX11_held_129 (by decide) ?_
      refine lv_goto (tgt := 140) hx hb dX11_held_130 (by decide) ?_
      exact W.iret (v := (-1 : Int32)) hx hb hr (fun t ht hW => ⟨_, rfl, Option.some.inj hf, ht⟩) (fun _ h => nomatch h) dX11_held_140
  have J24 : ∀ (z24_0 : Int32), ∀ (ls : Array Slot), lv_has ls 3 [(0, .ref (a0 0)), (1, .int x1)] → fX11_held_J24 N I0 M0 x1 z24_0 = some (.inr R) → W p l e (headSpec wyX11_held { frames := 7, cells := 0, slots := 0, locals := 140 }).room s m [.ref (a0 0), .int x1].toArray below meth c s.heap [] 0 0 (MQ below (vp_Si (fun r => r = R)) [.ref (a0 0), .int x1].toArray s 0 0 (fun _ => False)) (F0 m 24 ls [.int z24_0]) := by
    intro z24_0 ls hl hf
    unfold fX11_held_J24 at hf
    obtain ⟨r2, hr2, hf⟩ := wb_xr hf
    refine va_csv (W.runS (As := [.int z24_0]) (rest := []) ⟨hx, hb, hml, hown, hts⟩ (cn_X11_need l D cB cI cZ N z24_0 r2 hr2) (va_cwS 1 hts gyX11_held_X11_need rfl rfl rfl csX11_need ⟨Nat.le_of_ble_eq_true rfl, Nat.le_of_ble_eq_true rfl⟩) (wb_preS (hP.sub (ws' := ([] : va_W)) [] rfl) hK) rfl rfl hl.1 rfl (lv_room (Nat.le_of_ble_eq_true rfl)) dX11_held_24 ⟨Nat.le_of_ble_eq_true rfl, Nat.le_of_ble_eq_true rfl⟩) (fun _ => ?_)
    replace hf := wb_okr hf
    refine lv_aload_n hx hb dX11_held_27 rfl (lv_at hl 0 rfl) ?_
    refine va_get (D := D) (ci := 11) (v := .ref (a0 30)) (C := RX11) (T := TX11) (N := 13) hx hb hts hinX11 hown hK hP 0 rfl rfl 7 (by decide) (hts (.fieldLink RX11 50 "WheelBook" "search" "LWheelBook$Search;") (List.mem_of_getElem? (i := 1) rfl)) (fun _ h9 => h9) rfl dX11_held_28 ?_
    refine va_get (D := D) (ci := 8) (v := .int (I0 32)) (C := RX8) (T := TX8) (N := 8) hx hb hts hinX8 hown hK hP 30 rfl rfl 5 (by decide) (hts (.fieldLink RX11 200 "WheelBook$Search" "many" "I") (List.mem_of_getElem? (i := 3) rfl)) (fun _ h9 => h9) rfl dX11_held_31 ?_
    refine lv_if_ne (tgt := 41) hx hb dX11_held_34 (by decide) (fun hc => ?_) (fun hc => ?_)
    · replace hf := wb_f hc hf
      refine lv_iconst (v := (0 : Int32)) hx hb dX11_held_41 (by decide) ?_
      exact J42 (0 : Int32) ls (lv_sub hl [0, 1] rfl) hf
    · replace hf := wb_t hc hf
      refine lv_iconst (v := (1 : Int32)) hx hb dX11_held_37 (by decide) ?_
      refine lv_goto (tgt := 42) hx hb dX11_held_38 (by decide) ?_
      exact J42 (1 : Int32) ls (lv_sub hl [0, 1] rfl) hf
  have J23 : ∀ (ls : Array Slot), lv_has ls 3 [(0, .ref (a0 0)), (1, .int x1)] → fX11_held_J23 N I0 M0 x1 = some (.inr R) → W p l e (headSpec wyX11_held { frames := 7, cells := 0, slots := 0, locals := 140 }).room s m [.ref (a0 0), .int x1].toArray below meth c s.heap [] 0 0 (MQ below (vp_Si (fun r => r = R)) [.ref (a0 0), .int x1].toArray s 0 0 (fun _ => False)) (F0 m 23 ls []) := by
    intro ls hl hf
    unfold fX11_held_J23 at hf
    refine lv_iconst (v := (0 : Int32)) hx hb dX11_held_23 (by decide) ?_
    exact J24 (0 : Int32) ls (lv_sub hl [0, 1] rfl) hf
  refine lv_aload_n hx hb dX11_held_0 rfl (lv_at hl 0 rfl) ?_
  refine va_get (D := D) (ci := 11) (v := .ref (a0 30)) (C := RX11) (T := TX11) (N := 13) hx hb hts hinX11 hown hK hP 0 rfl rfl 7 (by decide) (hts (.fieldLink RX11 50 "WheelBook" "search" "LWheelBook$Search;") (List.mem_of_getElem? (i := 1) rfl)) (fun _ h9 => h9) rfl dX11_held_1 ?_
  refine va_get (D := D) (ci := 8) (v := .int (I0 27)) (C := RX8) (T := TX8) (N := 8) hx hb hts hinX8 hown hK hP 30 rfl rfl 0 (by decide) (hts (.fieldLink RX11 196 "WheelBook$Search" "begun" "Z") (List.mem_of_getElem? (i := 2) rfl)) (fun _ h9 => h9) rfl dX11_held_4 ?_
  refine lv_if_eq (tgt := 23) hx hb dX11_held_7 (by decide) (fun hc => ?_) (fun hc => ?_)
  · replace hf := wb_t hc hf
    exact J23 ls (lv_sub hl [0, 1] rfl) hf
  · replace hf := wb_f hc hf
    refine lv_iload_n hx hb dX11_held_10 rfl (lv_at hl 1 rfl) ?_
    refine lv_iconst (v := (0 : Int32)) hx hb dX11_held_11 (by decide) ?_
    refine lv_iconst (v := (4 : Int32)) hx hb dX11_held_12 (by decide) ?_
    obtain ⟨r3, hr3, hf⟩ := wb_b hf
    refine vp_callSi (W.runS (As := [.int x1, .int (0 : Int32), .int (4 : Int32)]) (rest := []) ⟨hx, hb, hml, hown, hts⟩ (cn_X11_within l D cB cI cZ N x1 (0 : Int32) (4 : Int32) r3 hr3) (va_cwS 3 hts gyX11_held_X11_within rfl rfl rfl csX11_within ⟨Nat.le_of_ble_eq_true rfl, Nat.le_of_ble_eq_true rfl⟩) (wb_preS (hP.sub (ws' := ([] : va_W)) [] rfl) hK) rfl rfl hl.1 rfl (lv_room (Nat.le_of_ble_eq_true rfl)) dX11_held_13 ⟨Nat.le_of_ble_eq_true rfl, Nat.le_of_ble_eq_true rfl⟩) (fun r9 e9 => ?_)
    rw [e9]
    refine lv_if_eq (tgt := 23) hx hb dX11_held_16 (by decide) (fun hc => ?_) (fun hc => ?_)
    · replace hf := wb_t hc hf
      exact J23 ls (lv_sub hl [0, 1] rfl) hf
    · replace hf := wb_f hc hf
      refine lv_iconst (v := (1 : Int32)) hx hb dX11_held_19 (by decide) ?_
      refine lv_goto (tgt := 24) hx hb dX11_held_20 (by decide) ?_
      exact J24 (1 : Int32) ls (lv_sub hl [0, 1] rfl) hf
set_option maxHeartbeats 4000000 in
set_option maxRecDepth 100000 in
theorem ct_X11_held (l : Launch) (hlt : l.stackTraces = false) (D : va_G) (cB cI cZ : ClassId) (N : Nat) (a0 : Nat → Nat) (I0 : Nat → Int32) (M0 : Nat → Nat → Int32) (x1 : Int32) (sz k : Nat) (hf : fX11_held N I0 M0 x1 = some (.inl k)) : vx_Met l yX11_held wyX11_held ({ frames := 7, cells := 1, slots := 6, locals := 140 }) (va_Pc [.ref (a0 0), .int x1] (wb_preX D [(cB, .byte), (cI, .int), (cZ, .boolean)] (wWX11 cB cI cZ a0 I0 M0) sz)) (va_Qi (fun _ (_ : Unit) => False) (fun _ _ => True) (fun q => sz ≤ q)) (vx_X (fun _ : Unit => True) (fun E _ _ => E = wb_ex k) (fun q => sz ≤ q)) 1 6 (fun q => sz ≤ q) := by
  refine vx_ofW (cc := cX11_held) (maxL := 3) (ret := (some .int)) (by decide) rfl ?_
  intro p e s m args below meth c s₁ B hml htab hv
  obtain ⟨rfl, hsz, hP, hK, hX⟩ := hv
  subst hsz
  have hx := B.exec
  have hb := B.bytes
  have hr := B.returns
  have hts := atoms_spec (ws := wyX11_held) B.pre
  have hown : s.vm.findClass RX11 = some m.cls := (findClass_of_methodNamed B.named :)
  have hlocks := B.notSynchronized
  have hS : va_S (fun q => s.heap.size ≤ q) s.heap s.heap [] := va_S.rf
  have hinX11 : ∀ w ∈ u_ws RX11 TX11 13, w ∈ wyX11_held := fun w h => List.mem_cons_of_mem _ (List.mem_append_left _ (List.mem_append_left _ (List.mem_append_right _ h)))
  have hinX8 : ∀ w ∈ u_ws RX8 TX8 8, w ∈ wyX11_held := fun w h => List.mem_cons_of_mem _ (List.mem_append_left _ (List.mem_append_right _ h))
  have hl := lv_entry ([.ref (a0 0), .int x1]) (n := 3) (Nat.le_of_ble_eq_true rfl)
  rw [lg_entry_eq]
  generalize (lg_sl ([.ref (a0 0), .int x1]) ++ List.replicate (3 - (lg_sl ([.ref (a0 0), .int x1])).length) Slot.unset).toArray = ls at hl ⊢
  have hl : lv_has ls 3 [(0, .ref (a0 0)), (1, .int x1)] := hl
  unfold fX11_held at hf
  have J24 : ∀ (z24_0 : Int32), ∀ (ls : Array Slot), lv_has ls 3 [(0, .ref (a0 0)), (1, .int x1)] → fX11_held_J24 N I0 M0 x1 z24_0 = some (.inl k) → W p l e (headSpec wyX11_held { frames := 7, cells := 1, slots := 6, locals := 140 }).room s m [.ref (a0 0), .int x1].toArray below meth c s.heap [] 0 0 (vx_MQ below (va_Qi (fun _ (_ : Unit) => False) (fun _ _ => True) (fun q => s.heap.size ≤ q)) (vx_X (fun _ : Unit => True) (fun E _ _ => E = wb_ex k) (fun q => s.heap.size ≤ q)) [.ref (a0 0), .int x1].toArray s 1 6 (fun q => s.heap.size ≤ q)) (F0 m 24 ls [.int z24_0]) := by
    intro z24_0 ls hl hf
    unfold fX11_held_J24 at hf
    rcases wb_xt hf with hrx | ⟨r1, hr1, hf⟩
    · refine vx_callv (vx_runS (As := [.int z24_0]) (rest := []) ⟨hx, hb, hml, hown, hts⟩ (ct_X11_need l hlt D cB cI cZ N z24_0 s.heap.size k hrx) (va_cwS 1 hts gyX11_held_X11_need rfl rfl rfl csX11_need ⟨Nat.le_of_ble_eq_true rfl, Nat.le_of_ble_eq_true rfl⟩) (wb_preXS (hP.sub (ws' := ([] : va_W)) [] rfl) hK hX) rfl rfl hl.1 rfl (lv_room (Nat.le_of_ble_eq_true rfl)) dX11_held_24 ⟨Nat.le_of_ble_eq_true rfl, Nat.le_of_ble_eq_true rfl⟩) hS (fun q _ h => h) (fun _ h => h) (fun q _ h => h) (fun E ce q9 u t H locs ht hvm hpx hB hz1 hk1 hS hq9 hv9 hc9 => ?_) (fun u t H locs ht hvm hw hB hz1 hk1 hS => hw.elim)
      exact vx_out (fun x hx9 => (htab x hx9).elim) hlocks hq9 hv9 hc9 (fun t9 ht9 hvm9 => ⟨(), trivial, hB, hS.F ht9⟩) hS.2.2 (Nat.le_of_ble_eq_true rfl) (Nat.le_of_ble_eq_true rfl)
    refine va_csv (W.runS (As := [.int z24_0]) (rest := []) ⟨hx, hb, hml, hown, hts⟩ (cn_X11_need l D cB cI cZ N z24_0 r1 hr1) (va_cwS 1 hts gyX11_held_X11_need rfl rfl rfl csX11_need ⟨Nat.le_of_ble_eq_true rfl, Nat.le_of_ble_eq_true rfl⟩) (wb_preS (hP.sub (ws' := ([] : va_W)) [] rfl) hK) rfl rfl hl.1 rfl (lv_room (Nat.le_of_ble_eq_true rfl)) dX11_held_24 ⟨Nat.le_of_ble_eq_true rfl, Nat.le_of_ble_eq_true rfl⟩) (fun _ => ?_)
    exact absurd hf wb_okn
  have J23 : ∀ (ls : Array Slot), lv_has ls 3 [(0, .ref (a0 0)), (1, .int x1)] → fX11_held_J23 N I0 M0 x1 = some (.inl k) → W p l e (headSpec wyX11_held { frames := 7, cells := 1, slots := 6, locals := 140 }).room s m [.ref (a0 0), .int x1].toArray below meth c s.heap [] 0 0 (vx_MQ below (va_Qi (fun _ (_ : Unit) => False) (fun _ _ => True) (fun q => s.heap.size ≤ q)) (vx_X (fun _ : Unit => True) (fun E _ _ => E = wb_ex k) (fun q => s.heap.size ≤ q)) [.ref (a0 0), .int x1].toArray s 1 6 (fun q => s.heap.size ≤ q)) (F0 m 23 ls []) := by
    intro ls hl hf
    unfold fX11_held_J23 at hf
    refine lv_iconst (v := (0 : Int32)) hx hb dX11_held_23 (by decide) ?_
    exact J24 (0 : Int32) ls (lv_sub hl [0, 1] rfl) hf
  refine lv_aload_n hx hb dX11_held_0 rfl (lv_at hl 0 rfl) ?_
  refine va_get (D := D) (ci := 11) (v := .ref (a0 30)) (C := RX11) (T := TX11) (N := 13) hx hb hts hinX11 hown hK hP 0 rfl rfl 7 (by decide) (hts (.fieldLink RX11 50 "WheelBook" "search" "LWheelBook$Search;") (List.mem_of_getElem? (i := 1) rfl)) (fun _ h9 => h9) rfl dX11_held_1 ?_
  refine va_get (D := D) (ci := 8) (v := .int (I0 27)) (C := RX8) (T := TX8) (N := 8) hx hb hts hinX8 hown hK hP 30 rfl rfl 0 (by decide) (hts (.fieldLink RX11 196 "WheelBook$Search" "begun" "Z") (List.mem_of_getElem? (i := 2) rfl)) (fun _ h9 => h9) rfl dX11_held_4 ?_
  refine lv_if_eq (tgt := 23) hx hb dX11_held_7 (by decide) (fun hc => ?_) (fun hc => ?_)
  · replace hf := wb_t hc hf
    exact J23 ls (lv_sub hl [0, 1] rfl) hf
  · replace hf := wb_f hc hf
    refine lv_iload_n hx hb dX11_held_10 rfl (lv_at hl 1 rfl) ?_
    refine lv_iconst (v := (0 : Int32)) hx hb dX11_held_11 (by decide) ?_
    refine lv_iconst (v := (4 : Int32)) hx hb dX11_held_12 (by decide) ?_
    obtain ⟨r2, hr2, hf⟩ := wb_b hf
    refine vp_callSi (W.runS (As := [.int x1, .int (0 : Int32), .int (4 : Int32)]) (rest := []) ⟨hx, hb, hml, hown, hts⟩ (cn_X11_within l D cB cI cZ N x1 (0 : Int32) (4 : Int32) r2 hr2) (va_cwS 3 hts gyX11_held_X11_within rfl rfl rfl csX11_within ⟨Nat.le_of_ble_eq_true rfl, Nat.le_of_ble_eq_true rfl⟩) (wb_preS (hP.sub (ws' := ([] : va_W)) [] rfl) hK) rfl rfl hl.1 rfl (lv_room (Nat.le_of_ble_eq_true rfl)) dX11_held_13 ⟨Nat.le_of_ble_eq_true rfl, Nat.le_of_ble_eq_true rfl⟩) (fun r9 e9 => ?_)
    rw [e9]
    refine lv_if_eq (tgt := 23) hx hb dX11_held_16 (by decide) (fun hc => ?_) (fun hc => ?_)
    · replace hf := wb_t hc hf
      exact J23 ls (lv_sub hl [0, 1] rfl) hf
    · replace hf := wb_f hc hf
      refine lv_iconst (v := (1 : Int32)) hx hb dX11_held_19 (by decide) ?_
      refine lv_goto (tgt := 24) hx hb dX11_held_20 (by decide) ?_
      exact J24 (1 : Int32) ls (lv_sub hl [0, 1] rfl) hf

set_option maxHeartbeats 4000000 in
set_option maxRecDepth 100000 in
theorem cn_X11_image (l : Launch) (D : va_G) (cB cI cZ : ClassId) (N : Nat) (a0 : Nat → Nat) (I0 : Nat → Int32) (M0 : Nat → Nat → Int32) (sz : Nat) (R : Int32 × (Nat → Int32) × (Nat → Nat → Int32)) (hf : fX11_image N I0 M0 = some R) : Met l yX11_image wsX11_image ({ frames := 2, cells := 0, slots := 0, locals := 101 }) (va_Pc [.ref (a0 0)] (wb_preD D [(cB, .byte), (cI, .int), (cZ, .boolean)] (wWX11 cB cI cZ a0 I0 M0) sz)) (va_Qi (fun r (_ : Unit) => r = R.1) (fun _ t => wb_post D [(cB, .byte), (cI, .int), (cZ, .boolean)] (va_A (wWX11 cB cI cZ a0 I0 M0) sz) (wWX11 cB cI cZ a0 R.2.1 R.2.2) t) (va_A (wWX11 cB cI cZ a0 I0 M0) sz)) 0 0 (va_A (wWX11 cB cI cZ a0 I0 M0) sz) := by
  refine Met.ofW (cc := cX11_image) (maxL := 1) (ret := (some .boolean)) pn_X11 rfl ?_
  intro p e s m args below meth c s₁ B hml hv
  obtain ⟨rfl, hsz, hP, hK, hD0⟩ := hv
  have hx := B.exec
  have hb := B.bytes
  have hr := B.returns
  have hts := atoms_spec (ws := wsX11_image) B.pre
  have hown : s.vm.findClass RX11 = some m.cls := (findClass_of_methodNamed B.named :)
  have hlocks := B.notSynchronized
  have hinX11 : ∀ w ∈ u_ws RX11 TX11 13, w ∈ wsX11_image := fun w h => List.mem_cons_of_mem _ (List.mem_append_left _ (List.mem_append_right _ h))
  have hinX8 : ∀ w ∈ u_ws RX8 TX8 8, w ∈ wsX11_image := fun w h => List.mem_cons_of_mem _ (List.mem_append_right _ h)
  subst hsz
  have hD := hD0.self (sz := s.heap.size)
  generalize hAe : va_A (wWX11 cB cI cZ a0 I0 M0) s.heap.size = A at hD ⊢
  have hA : ∀ q : Nat, s.heap.size ≤ q → A q := fun q h => by rw [← hAe]; exact Or.inr h
  have hS : va_S A s.heap s.heap [] := va_S.rf
  have hl := lv_entry ([.ref (a0 0)]) (n := 1) (Nat.le_of_ble_eq_true rfl)
  rw [lg_entry_eq]
  generalize (lg_sl ([.ref (a0 0)]) ++ List.replicate (1 - (lg_sl ([.ref (a0 0)])).length) Slot.unset).toArray = ls at hl ⊢
  have hl : lv_has ls 1 [(0, .ref (a0 0))] := hl
  unfold fX11_image at hf
  obtain ⟨H, hHe⟩ : ∃ H : Heap, H = s.heap := ⟨_, rfl⟩
  obtain ⟨locs, hle⟩ : ∃ locs : List Loc, locs = [] := ⟨_, rfl⟩
  refine wb_start (H := H) (locs := locs) hHe hle ?_
  rw [← hHe] at hP
  have hS : va_S A s.heap H locs := by rw [hHe, hle]; exact va_S.rf
  refine lv_aload_n hx hb dX11_image_0 rfl (lv_at hl 0 rfl) ?_
  refine va_get (D := D) (ci := 11) (v := .ref (a0 30)) (C := RX11) (T := TX11) (N := 13) hx hb hts hinX11 hown hK hP 0 rfl rfl 7 (by decide) (hts (.fieldLink RX11 50 "WheelBook" "search" "LWheelBook$Search;") (List.mem_of_getElem? (i := 1) rfl)) (fun _ h9 => h9) rfl dX11_image_1 ?_
  refine va_get (D := D) (ci := 8) (v := .int (I0 27)) (C := RX8) (T := TX8) (N := 8) hx hb hts hinX8 hown hK hP 30 rfl rfl 0 (by decide) (hts (.fieldLink RX11 196 "WheelBook$Search" "begun" "Z") (List.mem_of_getElem? (i := 2) rfl)) (fun _ h9 => h9) rfl dX11_image_4 ?_
  refine lv_if_ne (tgt := 12) hx hb dX11_image_7 (by decide) (fun hc => ?_) (fun hc => ?_)
  · replace hf := wb_f hc hf
    refine lv_aload_n hx hb dX11_image_12 rfl (lv_at hl 0 rfl) ?_
    refine va_get (D := D) (ci := 11) (v := .ref (a0 32)) (C := RX11) (T := TX11) (N := 13) hx hb hts hinX11 hown hK hP 0 rfl rfl 8 (by decide) (hts (.fieldLink RX11 53 "WheelBook" "kept" "LWheelBook$Search;") (List.mem_of_getElem? (i := 3) rfl)) (fun _ h9 => h9) rfl dX11_image_13 ?_
    refine lv_aload_n hx hb dX11_image_16 rfl (lv_at hl 0 rfl) ?_
    refine va_get (D := D) (ci := 11) (v := .ref (a0 30)) (C := RX11) (T := TX11) (N := 13) hx hb hts hinX11 hown hK hP 0 rfl rfl 7 (by decide) (hts (.fieldLink RX11 50 "WheelBook" "search" "LWheelBook$Search;") (List.mem_of_getElem? (i := 1) rfl)) (fun _ h9 => h9) rfl dX11_image_17 ?_
    obtain ⟨r1, hr1, hf⟩ := wb_b hf
    have hPc := hP.sub (ws' := ((wWX8 cB cI cZ (wb_sh a0 32) (wb_sh I0 34) (wb_sh M0 19)) ++ (wWX8 cB cI cZ (wb_sh a0 30) (wb_sh I0 27) (wb_sh M0 18)))) [32, 33, 30, 31] rfl
    have hDc := hD.sub (ws' := ((wWX8 cB cI cZ (wb_sh a0 32) (wb_sh I0 34) (wb_sh M0 19)) ++ (wWX8 cB cI cZ (wb_sh a0 30) (wb_sh I0 27) (wb_sh M0 18)))) [32, 33, 30, 31] (by decide) rfl
    have hFc := va_free (wc := ((wWX8 cB cI cZ (wb_sh a0 32) (wb_sh I0 34) (wb_sh M0 19)) ++ (wWX8 cB cI cZ (wb_sh a0 30) (wb_sh I0 27) (wb_sh M0 18)))) hD hS hA [32, 33, 30, 31] rfl
    refine va_callv (va_runV (As := [.ref (a0 30)]) (rest := []) ⟨hx, hb, hml, hown, hts⟩ (cn_X8_copyFrom l D cB cI cZ N (wb_sh a0 32) (wb_sh I0 34) (wb_sh M0 19) (wb_sh a0 30) (wb_sh I0 27) (wb_sh M0 18) H.size r1 hr1) (cwV 1 hts gX11_image_X8_copyFrom rfl rfl rfl cdX8_copyFrom ⟨Nat.le_of_ble_eq_true rfl, Nat.le_of_ble_eq_true rfl⟩) (wb_preDV hPc hK hDc (wr_8 hK hP (q0 := 32) rfl)) rfl rfl hl.1 rfl (lv_room (Nat.le_of_ble_eq_true rfl)) dX11_image_20 ⟨Nat.le_of_ble_eq_true rfl, Nat.le_of_ble_eq_true rfl⟩) hS (fun q _ h => hFc q h) hFc (fun u t H locs ht hvm hw hB hz1 hk1 hS => ?_)
    obtain ⟨hP, hD⟩ := wj_ba (a := (wWX8 cB cI cZ (wb_sh a0 30) (wb_sh I0 27) (wb_sh M0 18))) (b := (wWX8 cB cI cZ (wb_sh a0 32) (wb_sh I0 34) (wb_sh M0 19))) (a' := (wWX8 cB cI cZ (wb_sh a0 30) (wb_sh I0 27) (wb_sh M0 18))) (b' := (wWX8 cB cI cZ (wb_sh a0 32) r1.1 r1.2)) (wf := (wWX11 cB cI cZ a0 (wb_in I0 34 7 r1.1) (wb_in M0 19 1 r1.2))) 30 32 0 34 hP hD rfl rfl hk1 hFc ht hB
    obtain ⟨I0_2, eI0_2, hf⟩ := wb_v hf
    rw [← eI0_2] at hP hD
    obtain ⟨M0_3, eM0_3, hf⟩ := wb_v hf
    rw [← eM0_3] at hP hD
    refine lv_iconst (v := (1 : Int32)) hx hb dX11_image_23 (by decide) ?_
    exact W.zret (v := (1 : Int32)) hx hb hr (by decide) (fun t ht hW => by rw [← Option.some.inj hf]; exact ⟨⟨(1 : Int32), (), rfl, rfl, by rw [ht]; exact hP, va_K.moved hW.alike hK, hD⟩, hS.F ht⟩) hS.2.2 dX11_image_24
  · replace hf := wb_t hc hf
    refine lv_iconst (v := (0 : Int32)) hx hb dX11_image_10 (by decide) ?_
    exact W.zret (v := (0 : Int32)) hx hb hr (by decide) (fun t ht hW => by rw [← Option.some.inj hf]; exact ⟨⟨(0 : Int32), (), rfl, rfl, by rw [ht]; exact hP, va_K.moved hW.alike hK, hD⟩, hS.F ht⟩) hS.2.2 dX11_image_11

set_option maxHeartbeats 4000000 in
set_option maxRecDepth 100000 in
theorem cn_X11_restore (l : Launch) (D : va_G) (cB cI cZ : ClassId) (N : Nat) (a0 : Nat → Nat) (I0 : Nat → Int32) (M0 : Nat → Nat → Int32) (sz : Nat) (R : Int32 × (Nat → Int32) × (Nat → Nat → Int32)) (hf : fX11_restore N I0 M0 = some R) : Met l yX11_restore wsX11_restore ({ frames := 2, cells := 0, slots := 0, locals := 101 }) (va_Pc [.ref (a0 0)] (wb_preD D [(cB, .byte), (cI, .int), (cZ, .boolean)] (wWX11 cB cI cZ a0 I0 M0) sz)) (va_Qi (fun r (_ : Unit) => r = R.1) (fun _ t => wb_post D [(cB, .byte), (cI, .int), (cZ, .boolean)] (va_A (wWX11 cB cI cZ a0 I0 M0) sz) (wWX11 cB cI cZ a0 R.2.1 R.2.2) t) (va_A (wWX11 cB cI cZ a0 I0 M0) sz)) 0 0 (va_A (wWX11 cB cI cZ a0 I0 M0) sz) := by
  refine Met.ofW (cc := cX11_restore) (maxL := 1) (ret := (some .boolean)) pn_X11 rfl ?_
  intro p e s m args below meth c s₁ B hml hv
  obtain ⟨rfl, hsz, hP, hK, hD0⟩ := hv
  have hx := B.exec
  have hb := B.bytes
  have hr := B.returns
  have hts := atoms_spec (ws := wsX11_restore) B.pre
  have hown : s.vm.findClass RX11 = some m.cls := (findClass_of_methodNamed B.named :)
  have hlocks := B.notSynchronized
  have hinX11 : ∀ w ∈ u_ws RX11 TX11 13, w ∈ wsX11_restore := fun w h => List.mem_cons_of_mem _ (List.mem_append_left _ (List.mem_append_right _ h))
  have hinX8 : ∀ w ∈ u_ws RX8 TX8 8, w ∈ wsX11_restore := fun w h => List.mem_cons_of_mem _ (List.mem_append_right _ h)
  subst hsz
  have hD := hD0.self (sz := s.heap.size)
  generalize hAe : va_A (wWX11 cB cI cZ a0 I0 M0) s.heap.size = A at hD ⊢
  have hA : ∀ q : Nat, s.heap.size ≤ q → A q := fun q h => by rw [← hAe]; exact Or.inr h
  have hS : va_S A s.heap s.heap [] := va_S.rf
  have hl := lv_entry ([.ref (a0 0)]) (n := 1) (Nat.le_of_ble_eq_true rfl)
  rw [lg_entry_eq]
  generalize (lg_sl ([.ref (a0 0)]) ++ List.replicate (1 - (lg_sl ([.ref (a0 0)])).length) Slot.unset).toArray = ls at hl ⊢
  have hl : lv_has ls 1 [(0, .ref (a0 0))] := hl
  unfold fX11_restore at hf
  obtain ⟨H, hHe⟩ : ∃ H : Heap, H = s.heap := ⟨_, rfl⟩
  obtain ⟨locs, hle⟩ : ∃ locs : List Loc, locs = [] := ⟨_, rfl⟩
  refine wb_start (H := H) (locs := locs) hHe hle ?_
  rw [← hHe] at hP
  have hS : va_S A s.heap H locs := by rw [hHe, hle]; exact va_S.rf
  refine lv_aload_n hx hb dX11_restore_0 rfl (lv_at hl 0 rfl) ?_
  refine va_get (D := D) (ci := 11) (v := .ref (a0 32)) (C := RX11) (T := TX11) (N := 13) hx hb hts hinX11 hown hK hP 0 rfl rfl 8 (by decide) (hts (.fieldLink RX11 53 "WheelBook" "kept" "LWheelBook$Search;") (List.mem_of_getElem? (i := 1) rfl)) (fun _ h9 => h9) rfl dX11_restore_1 ?_
  refine va_get (D := D) (ci := 8) (v := .int (I0 34)) (C := RX8) (T := TX8) (N := 8) hx hb hts hinX8 hown hK hP 32 rfl rfl 0 (by decide) (hts (.fieldLink RX11 196 "WheelBook$Search" "begun" "Z") (List.mem_of_getElem? (i := 2) rfl)) (fun _ h9 => h9) rfl dX11_restore_4 ?_
  refine lv_if_ne (tgt := 12) hx hb dX11_restore_7 (by decide) (fun hc => ?_) (fun hc => ?_)
  · replace hf := wb_f hc hf
    refine lv_aload_n hx hb dX11_restore_12 rfl (lv_at hl 0 rfl) ?_
    refine va_get (D := D) (ci := 11) (v := .ref (a0 30)) (C := RX11) (T := TX11) (N := 13) hx hb hts hinX11 hown hK hP 0 rfl rfl 7 (by decide) (hts (.fieldLink RX11 50 "WheelBook" "search" "LWheelBook$Search;") (List.mem_of_getElem? (i := 3) rfl)) (fun _ h9 => h9) rfl dX11_restore_13 ?_
    refine lv_aload_n hx hb dX11_restore_16 rfl (lv_at hl 0 rfl) ?_
    refine va_get (D := D) (ci := 11) (v := .ref (a0 32)) (C := RX11) (T := TX11) (N := 13) hx hb hts hinX11 hown hK hP 0 rfl rfl 8 (by decide) (hts (.fieldLink RX11 53 "WheelBook" "kept" "LWheelBook$Search;") (List.mem_of_getElem? (i := 1) rfl)) (fun _ h9 => h9) rfl dX11_restore_17 ?_
    obtain ⟨r1, hr1, hf⟩ := wb_b hf
    have hPc := hP.sub (ws' := ((wWX8 cB cI cZ (wb_sh a0 30) (wb_sh I0 27) (wb_sh M0 18)) ++ (wWX8 cB cI cZ (wb_sh a0 32) (wb_sh I0 34) (wb_sh M0 19)))) [30, 31, 32, 33] rfl
    have hDc := hD.sub (ws' := ((wWX8 cB cI cZ (wb_sh a0 30) (wb_sh I0 27) (wb_sh M0 18)) ++ (wWX8 cB cI cZ (wb_sh a0 32) (wb_sh I0 34) (wb_sh M0 19)))) [30, 31, 32, 33] (by decide) rfl
    have hFc := va_free (wc := ((wWX8 cB cI cZ (wb_sh a0 30) (wb_sh I0 27) (wb_sh M0 18)) ++ (wWX8 cB cI cZ (wb_sh a0 32) (wb_sh I0 34) (wb_sh M0 19)))) hD hS hA [30, 31, 32, 33] rfl
    refine va_callv (va_runV (As := [.ref (a0 32)]) (rest := []) ⟨hx, hb, hml, hown, hts⟩ (cn_X8_copyFrom l D cB cI cZ N (wb_sh a0 30) (wb_sh I0 27) (wb_sh M0 18) (wb_sh a0 32) (wb_sh I0 34) (wb_sh M0 19) H.size r1 hr1) (cwV 1 hts gX11_restore_X8_copyFrom rfl rfl rfl cdX8_copyFrom ⟨Nat.le_of_ble_eq_true rfl, Nat.le_of_ble_eq_true rfl⟩) (wb_preDV hPc hK hDc (wr_8 hK hP (q0 := 30) rfl)) rfl rfl hl.1 rfl (lv_room (Nat.le_of_ble_eq_true rfl)) dX11_restore_20 ⟨Nat.le_of_ble_eq_true rfl, Nat.le_of_ble_eq_true rfl⟩) hS (fun q _ h => hFc q h) hFc (fun u t H locs ht hvm hw hB hz1 hk1 hS => ?_)
    obtain ⟨hP, hD⟩ := wj_s (wc := ((wWX8 cB cI cZ (wb_sh a0 30) (wb_sh I0 27) (wb_sh M0 18)) ++ (wWX8 cB cI cZ (wb_sh a0 32) (wb_sh I0 34) (wb_sh M0 19)))) (w1 := ((wWX8 cB cI cZ (wb_sh a0 30) r1.1 r1.2) ++ (wWX8 cB cI cZ (wb_sh a0 32) (wb_sh I0 34) (wb_sh M0 19)))) (wf := (wWX11 cB cI cZ a0 (wb_in I0 27 7 r1.1) (wb_in M0 18 1 r1.2))) 30 34 hP hD rfl rfl hk1 hFc ht hB
    obtain ⟨I0_2, eI0_2, hf⟩ := wb_v hf
    rw [← eI0_2] at hP hD
    obtain ⟨M0_3, eM0_3, hf⟩ := wb_v hf
    rw [← eM0_3] at hP hD
    refine lv_iconst (v := (1 : Int32)) hx hb dX11_restore_23 (by decide) ?_
    exact W.zret (v := (1 : Int32)) hx hb hr (by decide) (fun t ht hW => by rw [← Option.some.inj hf]; exact ⟨⟨(1 : Int32), (), rfl, rfl, by rw [ht]; exact hP, va_K.moved hW.alike hK, hD⟩, hS.F ht⟩) hS.2.2 dX11_restore_24
  · replace hf := wb_t hc hf
    refine lv_iconst (v := (0 : Int32)) hx hb dX11_restore_10 (by decide) ?_
    exact W.zret (v := (0 : Int32)) hx hb hr (by decide) (fun t ht hW => by rw [← Option.some.inj hf]; exact ⟨⟨(0 : Int32), (), rfl, rfl, by rw [ht]; exact hP, va_K.moved hW.alike hK, hD⟩, hS.F ht⟩) hS.2.2 dX11_restore_11

set_option maxHeartbeats 4000000 in
set_option maxRecDepth 100000 in
theorem cn_X11_misread (l : Launch) (D : va_G) (cB cI cZ : ClassId) (N : Nat) (a0 : Nat → Nat) (I0 : Nat → Int32) (M0 : Nat → Nat → Int32) (x1 : Int32) (x2 : Int32) (x3 : Int32) (x4 : Int32) (x5 : Int32) (R : Int32) (hf : fX11_misread N I0 M0 x1 x2 x3 x4 x5 = some (.inr R)) : Met l yX11_misread wyX11_misread ({ frames := 8, cells := 0, slots := 0, locals := 161 }) (va_Pc [.ref (a0 0), .int x1, .int x2, .int x3, .int x4, .int x5] (wb_pre D [(cB, .byte), (cI, .int), (cZ, .boolean)] (wWX11 cB cI cZ a0 I0 M0))) (vp_Si (fun r => r = R)) 0 0 (fun _ => False) := by
  refine Met.ofW (cc := cX11_misread) (maxL := 8) (ret := (some .int)) pn_X11 rfl ?_
  intro p e s m args below meth c s₁ B hml hv
  obtain ⟨rfl, hP, hK⟩ := hv
  have hx := B.exec
  have hb := B.bytes
  have hr := B.returns
  have hts := atoms_spec (ws := wyX11_misread) B.pre
  have hown : s.vm.findClass RX11 = some m.cls := (findClass_of_methodNamed B.named :)
  have hlocks := B.notSynchronized
  have hinX11 : ∀ w ∈ u_ws RX11 TX11 13, w ∈ wyX11_misread := fun w h => List.mem_cons_of_mem _ (List.mem_append_left _ (List.mem_append_left _ (List.mem_append_left _ (List.mem_append_left _ (List.mem_append_right _ h)))))
  have hinX5 : ∀ w ∈ u_ws RX5 TX5 6, w ∈ wyX11_misread := fun w h => List.mem_cons_of_mem _ (List.mem_append_left _ (List.mem_append_left _ (List.mem_append_left _ (List.mem_append_right _ h))))
  have hl := lv_entry ([.ref (a0 0), .int x1, .int x2, .int x3, .int x4, .int x5]) (n := 8) (Nat.le_of_ble_eq_true rfl)
  rw [lg_entry_eq]
  generalize (lg_sl ([.ref (a0 0), .int x1, .int x2, .int x3, .int x4, .int x5]) ++ List.replicate (8 - (lg_sl ([.ref (a0 0), .int x1, .int x2, .int x3, .int x4, .int x5])).length) Slot.unset).toArray = ls at hl ⊢
  have hl : lv_has ls 8 [(0, .ref (a0 0)), (1, .int x1), (2, .int x2), (3, .int x3), (4, .int x4), (5, .int x5)] := hl
  unfold fX11_misread at hf
  have J40 : ∀ (y40_6 : Int32) (z40_0 : Int32), ∀ (ls : Array Slot), lv_has ls 8 [(0, .ref (a0 0)), (3, .int x3), (4, .int x4), (5, .int x5), (6, .int y40_6)] → fX11_misread_J40 N I0 M0 x1 x2 x3 x4 x5 y40_6 z40_0 = some (.inr R) → W p l e (headSpec wyX11_misread { frames := 8, cells := 0, slots := 0, locals := 161 }).room s m [.ref (a0 0), .int x1, .int x2, .int x3, .int x4, .int x5].toArray below meth c s.heap [] 0 0 (MQ below (vp_Si (fun r => r = R)) [.ref (a0 0), .int x1, .int x2, .int x3, .int x4, .int x5].toArray s 0 0 (fun _ => False)) (F0 m 40 ls [.int z40_0]) := by
    intro y40_6 z40_0 ls hl hf
    unfold fX11_misread_J40 at hf
    obtain ⟨r1, hr1, hf⟩ := wb_xr hf
    refine va_csv (W.runS (As := [.int z40_0]) (rest := []) ⟨hx, hb, hml, hown, hts⟩ (cn_X11_need l D cB cI cZ N z40_0 r1 hr1) (va_cwS 1 hts gyX11_misread_X11_need rfl rfl rfl csX11_need ⟨Nat.le_of_ble_eq_true rfl, Nat.le_of_ble_eq_true rfl⟩) (wb_preS (hP.sub (ws' := ([] : va_W)) [] rfl) hK) rfl rfl hl.1 rfl (lv_room (Nat.le_of_ble_eq_true rfl)) dX11_misread_40 ⟨Nat.le_of_ble_eq_true rfl, Nat.le_of_ble_eq_true rfl⟩) (fun _ => ?_)
    replace hf := wb_okr hf
    refine lv_aload_n hx hb dX11_misread_43 rfl (lv_at hl 0 rfl) ?_
    refine va_get (D := D) (ci := 11) (v := .ref (a0 21)) (C := RX11) (T := TX11) (N := 13) hx hb hts hinX11 hown hK hP 0 rfl rfl 3 (by decide) (hts (.fieldLink RX11 29 "WheelBook" "books" "LWheelBook$Books;") (List.mem_of_getElem? (i := 1) rfl)) (fun _ h9 => h9) rfl dX11_misread_44 ?_
    refine lv_iload hx hb dX11_misread_47 (lv_at hl 4 rfl) ?_
    refine lv_iload hx hb dX11_misread_49 (lv_at hl 3 rfl) ?_
    obtain ⟨r2, hr2, hf⟩ := wb_b hf
    refine vp_callSi (W.runV (As := [.int y40_6, .int x5]) (rest := []) ⟨hx, hb, hml, hown, hts⟩ (cn_X1_degreeOf l D cB cI cZ N (wb_sh a0 21) (wb_sh I0 13) (wb_sh M0 13) y40_6 x5 r2 hr2) (cwV 2 hts gyX11_misread_X1_degreeOf rfl rfl rfl cdX1_degreeOf ⟨Nat.le_of_ble_eq_true rfl, Nat.le_of_ble_eq_true rfl⟩) (wb_preV (hP.sub (ws' := (wWX1 cB cI cZ (wb_sh a0 21) (wb_sh I0 13) (wb_sh M0 13))) [21, 22, 23] rfl) hK (wr_1 hK hP (q0 := 21) rfl)) rfl rfl hl.1 rfl (lv_room (Nat.le_of_ble_eq_true rfl)) dX11_misread_51 ⟨Nat.le_of_ble_eq_true rfl, Nat.le_of_ble_eq_true rfl⟩) (fun r9 e9 => ?_)
    rw [e9]
    refine lv_istore (lv' := [(7, .int r2), (0, .ref (a0 0)), (3, .int x3), (4, .int x4), (5, .int x5), (6, .int y40_6)]) hx hb dX11_misread_54 hl (by decide) rfl (fun ls hl => ?_)
    refine lv_iload hx hb dX11_misread_56 (lv_at hl 0 rfl) ?_
    refine lv_iconst (v := (-1 : Int32)) hx hb dX11_misread_58 (by decide) ?_
    refine lv_icmp_ne (tgt := 66) hx hb dX11_misread_59 (by decide) (fun hc => ?_) (fun hc => ?_)
    · replace hf := wb_f hc hf
      refine lv_aload_n hx hb dX11_misread_66 rfl (lv_at hl 1 rfl) ?_
      refine va_get (D := D) (ci := 11) (v := .ref (a0 3)) (C := RX11) (T := TX11) (N := 13) hx hb hts hinX11 hown hK hP 0 rfl rfl 1 (by decide) (hts (.fieldLink RX11 19 "WheelBook" "told" "LWheelBook$House;") (List.mem_of_getElem? (i := 2) rfl)) (fun _ h9 => h9) rfl dX11_misread_67 ?_
      refine va_get (D := D) (ci := 5) (v := .ref (a0 10)) (C := RX5) (T := TX5) (N := 6) hx hb hts hinX5 hown hK hP 3 rfl rfl 5 (by decide) (hts (.fieldLink RX11 140 "WheelBook$House" "hands" "LWheelBook$Hands;") (List.mem_of_getElem? (i := 3) rfl)) (fun _ h9 => h9) rfl dX11_misread_70 ?_
      refine lv_iload hx hb dX11_misread_73 (lv_at hl 0 rfl) ?_
      refine lv_aload_n hx hb dX11_misread_75 rfl (lv_at hl 1 rfl) ?_
      refine va_get (D := D) (ci := 11) (v := .ref (a0 3)) (C := RX11) (T := TX11) (N := 13) hx hb hts hinX11 hown hK hP 0 rfl rfl 1 (by decide) (hts (.fieldLink RX11 19 "WheelBook" "told" "LWheelBook$House;") (List.mem_of_getElem? (i := 2) rfl)) (fun _ h9 => h9) rfl dX11_misread_76 ?_
      refine lv_iload_n hx hb dX11_misread_79 rfl (lv_at hl 2 rfl) ?_
      refine lv_iload hx hb dX11_misread_80 (lv_at hl 4 rfl) ?_
      refine lv_iload hx hb dX11_misread_82 (lv_at hl 3 rfl) ?_
      obtain ⟨r3, hr3, hf⟩ := wb_b hf
      refine vp_callSi (W.runV (As := [.int x3, .int x5, .int x4]) (rest := [.int r2, .ref (a0 10)]) ⟨hx, hb, hml, hown, hts⟩ (cn_X5_degreeOn l D cB cI cZ N (wb_sh a0 3) (wb_sh I0 9) (wb_sh M0 1) x3 x5 x4 r3 hr3) (cwV 3 hts gyX11_misread_X5_degreeOn rfl rfl rfl cdX5_degreeOn ⟨Nat.le_of_ble_eq_true rfl, Nat.le_of_ble_eq_true rfl⟩) (wb_preV (hP.sub (ws' := (wWX5 cB cI cZ (wb_sh a0 3) (wb_sh I0 9) (wb_sh M0 1))) [3, 4, 5, 6, 7, 8, 9, 10, 11] rfl) hK (wr_5 hK hP (q0 := 3) rfl)) rfl rfl hl.1 rfl (lv_room (Nat.le_of_ble_eq_true rfl)) dX11_misread_84 ⟨Nat.le_of_ble_eq_true rfl, Nat.le_of_ble_eq_true rfl⟩) (fun r9 e9 => ?_)
      rw [e9]
      obtain ⟨r4, hr4, hf⟩ := wb_b hf
      refine vp_callSi (W.runV (As := [.int r2, .int r3]) (rest := []) ⟨hx, hb, hml, hown, hts⟩ (cn_X4_misreading l D cB cI cZ N (wb_sh a0 10) (wb_sh I0 10) (wb_sh M0 6) r2 r3 r4 hr4) (cwV 2 hts gyX11_misread_X4_misreading rfl rfl rfl cdX4_misreading ⟨Nat.le_of_ble_eq_true rfl, Nat.le_of_ble_eq_true rfl⟩) (wb_preV (hP.sub (ws' := (wWX4 cB cI cZ (wb_sh a0 10) (wb_sh I0 10) (wb_sh M0 6))) [10, 11] rfl) hK (wr_4 hK hP (q0 := 10) rfl)) rfl rfl hl.1 rfl (lv_room (Nat.le_of_ble_eq_true rfl)) dX11_misread_87 ⟨Nat.le_of_ble_eq_true rfl, Nat.le_of_ble_eq_true rfl⟩) (fun r9 e9 => ?_)
      rw [e9]
      exact W.iret (v := r4) hx hb hr (fun t ht hW => ⟨_, rfl, Option.some.inj hf, ht⟩) (fun _ h => nomatch h) dX11_misread_90
    · replace hf := wb_t hc hf
      refine lv_iconst (v := (-1 : Int32)) hx hb dX11_misread_62 (by decide) ?_
      refine lv_goto (tgt := 90) hx hb dX11_misread_63 (by decide) ?_
      exact W.iret (v := (-1 : Int32)) hx hb hr (fun t ht hW => ⟨_, rfl, Option.some.inj hf, ht⟩) (fun _ h => nomatch h) dX11_misread_90
  have J39 : ∀ (y39_6 : Int32), ∀ (ls : Array Slot), lv_has ls 8 [(0, .ref (a0 0)), (3, .int x3), (4, .int x4), (5, .int x5), (6, .int y39_6)] → fX11_misread_J39 N I0 M0 x1 x2 x3 x4 x5 y39_6 = some (.inr R) → W p l e (headSpec wyX11_misread { frames := 8, cells := 0, slots := 0, locals := 161 }).room s m [.ref (a0 0), .int x1, .int x2, .int x3, .int x4, .int x5].toArray below meth c s.heap [] 0 0 (MQ below (vp_Si (fun r => r = R)) [.ref (a0 0), .int x1, .int x2, .int x3, .int x4, .int x5].toArray s 0 0 (fun _ => False)) (F0 m 39 ls []) := by
    intro y39_6 ls hl hf
    unfold fX11_misread_J39 at hf
    refine lv_iconst (v := (0 : Int32)) hx hb dX11_misread_39 (by decide) ?_
    exact J40 y39_6 (0 : Int32) ls (lv_sub hl [0, 1, 2, 3, 4] rfl) hf
  refine lv_iload_n hx hb dX11_misread_0 rfl (lv_at hl 1 rfl) ?_
  refine lv_iload_n hx hb dX11_misread_1 rfl (lv_at hl 2 rfl) ?_
  obtain ⟨r5, hr5, hf⟩ := wb_xr hf
  refine vp_callSi (W.runS (As := [.int x1, .int x2]) (rest := []) ⟨hx, hb, hml, hown, hts⟩ (cn_X11_numberOf l D cB cI cZ N x1 x2 r5 hr5) (va_cwS 2 hts gyX11_misread_X11_numberOf rfl rfl rfl csX11_numberOf ⟨Nat.le_of_ble_eq_true rfl, Nat.le_of_ble_eq_true rfl⟩) (wb_preS (hP.sub (ws' := ([] : va_W)) [] rfl) hK) rfl rfl hl.1 rfl (lv_room (Nat.le_of_ble_eq_true rfl)) dX11_misread_2 ⟨Nat.le_of_ble_eq_true rfl, Nat.le_of_ble_eq_true rfl⟩) (fun r9 e9 => ?_)
  rw [e9]
  refine lv_istore (lv' := [(6, .int r5), (0, .ref (a0 0)), (1, .int x1), (2, .int x2), (3, .int x3), (4, .int x4), (5, .int x5)]) hx hb dX11_misread_5 hl (by decide) rfl (fun ls hl => ?_)
  refine lv_iload_n hx hb dX11_misread_7 rfl (lv_at hl 4 rfl) ?_
  refine lv_iconst (v := (0 : Int32)) hx hb dX11_misread_8 (by decide) ?_
  refine lv_iconst (v := (3 : Int32)) hx hb dX11_misread_9 (by decide) ?_
  obtain ⟨r6, hr6, hf⟩ := wb_b hf
  refine vp_callSi (W.runS (As := [.int x3, .int (0 : Int32), .int (3 : Int32)]) (rest := []) ⟨hx, hb, hml, hown, hts⟩ (cn_X11_within l D cB cI cZ N x3 (0 : Int32) (3 : Int32) r6 hr6) (va_cwS 3 hts gyX11_misread_X11_within rfl rfl rfl csX11_within ⟨Nat.le_of_ble_eq_true rfl, Nat.le_of_ble_eq_true rfl⟩) (wb_preS (hP.sub (ws' := ([] : va_W)) [] rfl) hK) rfl rfl hl.1 rfl (lv_room (Nat.le_of_ble_eq_true rfl)) dX11_misread_10 ⟨Nat.le_of_ble_eq_true rfl, Nat.le_of_ble_eq_true rfl⟩) (fun r9 e9 => ?_)
  rw [e9]
  refine lv_if_eq (tgt := 39) hx hb dX11_misread_13 (by decide) (fun hc => ?_) (fun hc => ?_)
  · replace hf := wb_t hc hf
    exact J39 r5 ls (lv_sub hl [1, 4, 5, 6, 0] rfl) hf
  · replace hf := wb_f hc hf
    refine lv_iload hx hb dX11_misread_16 (lv_at hl 5 rfl) ?_
    obtain ⟨r7, hr7, hf⟩ := wb_b hf
    refine vp_callSi (W.runS (As := [.int x4]) (rest := []) ⟨hx, hb, hml, hown, hts⟩ (cn_X11_isDay l D cB cI cZ N x4 r7 hr7) (va_cwS 1 hts gyX11_misread_X11_isDay rfl rfl rfl csX11_isDay ⟨Nat.le_of_ble_eq_true rfl, Nat.le_of_ble_eq_true rfl⟩) (wb_preS (hP.sub (ws' := ([] : va_W)) [] rfl) hK) rfl rfl hl.1 rfl (lv_room (Nat.le_of_ble_eq_true rfl)) dX11_misread_18 ⟨Nat.le_of_ble_eq_true rfl, Nat.le_of_ble_eq_true rfl⟩) (fun r9 e9 => ?_)
    rw [e9]
    refine lv_if_eq (tgt := 39) hx hb dX11_misread_21 (by decide) (fun hc => ?_) (fun hc => ?_)
    · replace hf := wb_t hc hf
      exact J39 r5 ls (lv_sub hl [1, 4, 5, 6, 0] rfl) hf
    · replace hf := wb_f hc hf
      refine lv_iload hx hb dX11_misread_24 (lv_at hl 6 rfl) ?_
      refine lv_iconst (v := (0 : Int32)) hx hb dX11_misread_26 (by decide) ?_
      refine lv_bipush (v := (6 : Int32)) hx hb dX11_misread_27 (by decide) ?_
      obtain ⟨r8, hr8, hf⟩ := wb_b hf
      refine vp_callSi (W.runS (As := [.int x5, .int (0 : Int32), .int (6 : Int32)]) (rest := []) ⟨hx, hb, hml, hown, hts⟩ (cn_X11_within l D cB cI cZ N x5 (0 : Int32) (6 : Int32) r8 hr8) (va_cwS 3 hts gyX11_misread_X11_within rfl rfl rfl csX11_within ⟨Nat.le_of_ble_eq_true rfl, Nat.le_of_ble_eq_true rfl⟩) (wb_preS (hP.sub (ws' := ([] : va_W)) [] rfl) hK) rfl rfl hl.1 rfl (lv_room (Nat.le_of_ble_eq_true rfl)) dX11_misread_29 ⟨Nat.le_of_ble_eq_true rfl, Nat.le_of_ble_eq_true rfl⟩) (fun r9 e9 => ?_)
      rw [e9]
      refine lv_if_eq (tgt := 39) hx hb dX11_misread_32 (by decide) (fun hc => ?_) (fun hc => ?_)
      · replace hf := wb_t hc hf
        exact J39 r5 ls (lv_sub hl [1, 4, 5, 6, 0] rfl) hf
      · replace hf := wb_f hc hf
        refine lv_iconst (v := (1 : Int32)) hx hb dX11_misread_35 (by decide) ?_
        refine lv_goto (tgt := 40) hx hb dX11_misread_36 (by decide) ?_
        exact J40 r5 (1 : Int32) ls (lv_sub hl [1, 4, 5, 6, 0] rfl) hf
set_option maxHeartbeats 4000000 in
set_option maxRecDepth 100000 in
theorem ct_X11_misread (l : Launch) (hlt : l.stackTraces = false) (D : va_G) (cB cI cZ : ClassId) (N : Nat) (a0 : Nat → Nat) (I0 : Nat → Int32) (M0 : Nat → Nat → Int32) (x1 : Int32) (x2 : Int32) (x3 : Int32) (x4 : Int32) (x5 : Int32) (sz k : Nat) (hf : fX11_misread N I0 M0 x1 x2 x3 x4 x5 = some (.inl k)) : vx_Met l yX11_misread wyX11_misread ({ frames := 8, cells := 1, slots := 6, locals := 161 }) (va_Pc [.ref (a0 0), .int x1, .int x2, .int x3, .int x4, .int x5] (wb_preX D [(cB, .byte), (cI, .int), (cZ, .boolean)] (wWX11 cB cI cZ a0 I0 M0) sz)) (va_Qi (fun _ (_ : Unit) => False) (fun _ _ => True) (fun q => sz ≤ q)) (vx_X (fun _ : Unit => True) (fun E _ _ => E = wb_ex k) (fun q => sz ≤ q)) 1 6 (fun q => sz ≤ q) := by
  refine vx_ofW (cc := cX11_misread) (maxL := 8) (ret := (some .int)) (by decide) rfl ?_
  intro p e s m args below meth c s₁ B hml htab hv
  obtain ⟨rfl, hsz, hP, hK, hX⟩ := hv
  subst hsz
  have hx := B.exec
  have hb := B.bytes
  have hr := B.returns
  have hts := atoms_spec (ws := wyX11_misread) B.pre
  have hown : s.vm.findClass RX11 = some m.cls := (findClass_of_methodNamed B.named :)
  have hlocks := B.notSynchronized
  have hS : va_S (fun q => s.heap.size ≤ q) s.heap s.heap [] := va_S.rf
  have hl := lv_entry ([.ref (a0 0), .int x1, .int x2, .int x3, .int x4, .int x5]) (n := 8) (Nat.le_of_ble_eq_true rfl)
  rw [lg_entry_eq]
  generalize (lg_sl ([.ref (a0 0), .int x1, .int x2, .int x3, .int x4, .int x5]) ++ List.replicate (8 - (lg_sl ([.ref (a0 0), .int x1, .int x2, .int x3, .int x4, .int x5])).length) Slot.unset).toArray = ls at hl ⊢
  have hl : lv_has ls 8 [(0, .ref (a0 0)), (1, .int x1), (2, .int x2), (3, .int x3), (4, .int x4), (5, .int x5)] := hl
  unfold fX11_misread at hf
  have J40 : ∀ (y40_6 : Int32) (z40_0 : Int32), ∀ (ls : Array Slot), lv_has ls 8 [(0, .ref (a0 0)), (3, .int x3), (4, .int x4), (5, .int x5), (6, .int y40_6)] → fX11_misread_J40 N I0 M0 x1 x2 x3 x4 x5 y40_6 z40_0 = some (.inl k) → W p l e (headSpec wyX11_misread { frames := 8, cells := 1, slots := 6, locals := 161 }).room s m [.ref (a0 0), .int x1, .int x2, .int x3, .int x4, .int x5].toArray below meth c s.heap [] 0 0 (vx_MQ below (va_Qi (fun _ (_ : Unit) => False) (fun _ _ => True) (fun q => s.heap.size ≤ q)) (vx_X (fun _ : Unit => True) (fun E _ _ => E = wb_ex k) (fun q => s.heap.size ≤ q)) [.ref (a0 0), .int x1, .int x2, .int x3, .int x4, .int x5].toArray s 1 6 (fun q => s.heap.size ≤ q)) (F0 m 40 ls [.int z40_0]) := by
    intro y40_6 z40_0 ls hl hf
    unfold fX11_misread_J40 at hf
    rcases wb_xt hf with hrx | ⟨r1, hr1, hf⟩
    · refine vx_callv (vx_runS (As := [.int z40_0]) (rest := []) ⟨hx, hb, hml, hown, hts⟩ (ct_X11_need l hlt D cB cI cZ N z40_0 s.heap.size k hrx) (va_cwS 1 hts gyX11_misread_X11_need rfl rfl rfl csX11_need ⟨Nat.le_of_ble_eq_true rfl, Nat.le_of_ble_eq_true rfl⟩) (wb_preXS (hP.sub (ws' := ([] : va_W)) [] rfl) hK hX) rfl rfl hl.1 rfl (lv_room (Nat.le_of_ble_eq_true rfl)) dX11_misread_40 ⟨Nat.le_of_ble_eq_true rfl, Nat.le_of_ble_eq_true rfl⟩) hS (fun q _ h => h) (fun _ h => h) (fun q _ h => h) (fun E ce q9 u t H locs ht hvm hpx hB hz1 hk1 hS hq9 hv9 hc9 => ?_) (fun u t H locs ht hvm hw hB hz1 hk1 hS => hw.elim)
      exact vx_out (fun x hx9 => (htab x hx9).elim) hlocks hq9 hv9 hc9 (fun t9 ht9 hvm9 => ⟨(), trivial, hB, hS.F ht9⟩) hS.2.2 (Nat.le_of_ble_eq_true rfl) (Nat.le_of_ble_eq_true rfl)
    refine va_csv (W.runS (As := [.int z40_0]) (rest := []) ⟨hx, hb, hml, hown, hts⟩ (cn_X11_need l D cB cI cZ N z40_0 r1 hr1) (va_cwS 1 hts gyX11_misread_X11_need rfl rfl rfl csX11_need ⟨Nat.le_of_ble_eq_true rfl, Nat.le_of_ble_eq_true rfl⟩) (wb_preS (hP.sub (ws' := ([] : va_W)) [] rfl) hK) rfl rfl hl.1 rfl (lv_room (Nat.le_of_ble_eq_true rfl)) dX11_misread_40 ⟨Nat.le_of_ble_eq_true rfl, Nat.le_of_ble_eq_true rfl⟩) (fun _ => ?_)
    exact absurd hf wb_okn
  have J39 : ∀ (y39_6 : Int32), ∀ (ls : Array Slot), lv_has ls 8 [(0, .ref (a0 0)), (3, .int x3), (4, .int x4), (5, .int x5), (6, .int y39_6)] → fX11_misread_J39 N I0 M0 x1 x2 x3 x4 x5 y39_6 = some (.inl k) → W p l e (headSpec wyX11_misread { frames := 8, cells := 1, slots := 6, locals := 161 }).room s m [.ref (a0 0), .int x1, .int x2, .int x3, .int x4, .int x5].toArray below meth c s.heap [] 0 0 (vx_MQ below (va_Qi (fun _ (_ : Unit) => False) (fun _ _ => True) (fun q => s.heap.size ≤ q)) (vx_X (fun _ : Unit => True) (fun E _ _ => E = wb_ex k) (fun q => s.heap.size ≤ q)) [.ref (a0 0), .int x1, .int x2, .int x3, .int x4, .int x5].toArray s 1 6 (fun q => s.heap.size ≤ q)) (F0 m 39 ls []) := by
    intro y39_6 ls hl hf
    unfold fX11_misread_J39 at hf
    refine lv_iconst (v := (0 : Int32)) hx hb dX11_misread_39 (by decide) ?_
    exact J40 y39_6 (0 : Int32) ls (lv_sub hl [0, 1, 2, 3, 4] rfl) hf
  refine lv_iload_n hx hb dX11_misread_0 rfl (lv_at hl 1 rfl) ?_
  refine lv_iload_n hx hb dX11_misread_1 rfl (lv_at hl 2 rfl) ?_
  rcases wb_xt hf with hrx | ⟨r2, hr2, hf⟩
  · refine vx_calli (vx_runS (As := [.int x1, .int x2]) (rest := []) ⟨hx, hb, hml, hown, hts⟩ (ct_X11_numberOf l hlt D cB cI cZ N x1 x2 s.heap.size k hrx) (va_cwS 2 hts gyX11_misread_X11_numberOf rfl rfl rfl csX11_numberOf ⟨Nat.le_of_ble_eq_true rfl, Nat.le_of_ble_eq_true rfl⟩) (wb_preXS (hP.sub (ws' := ([] : va_W)) [] rfl) hK hX) rfl rfl hl.1 rfl (lv_room (Nat.le_of_ble_eq_true rfl)) dX11_misread_2 ⟨Nat.le_of_ble_eq_true rfl, Nat.le_of_ble_eq_true rfl⟩) hS (fun q _ h => h) (fun _ h => h) (fun q _ h => h) (fun E ce q9 u t H locs ht hvm hpx hB hz1 hk1 hS hq9 hv9 hc9 => ?_) (fun r9 u t H locs ht hvm hw hB hz1 hk1 hS => hw.elim)
    exact vx_out (fun x hx9 => (htab x hx9).elim) hlocks hq9 hv9 hc9 (fun t9 ht9 hvm9 => ⟨(), trivial, hB, hS.F ht9⟩) hS.2.2 (Nat.le_of_ble_eq_true rfl) (Nat.le_of_ble_eq_true rfl)
  refine vp_callSi (W.runS (As := [.int x1, .int x2]) (rest := []) ⟨hx, hb, hml, hown, hts⟩ (cn_X11_numberOf l D cB cI cZ N x1 x2 r2 hr2) (va_cwS 2 hts gyX11_misread_X11_numberOf rfl rfl rfl csX11_numberOf ⟨Nat.le_of_ble_eq_true rfl, Nat.le_of_ble_eq_true rfl⟩) (wb_preS (hP.sub (ws' := ([] : va_W)) [] rfl) hK) rfl rfl hl.1 rfl (lv_room (Nat.le_of_ble_eq_true rfl)) dX11_misread_2 ⟨Nat.le_of_ble_eq_true rfl, Nat.le_of_ble_eq_true rfl⟩) (fun r9 e9 => ?_)
  rw [e9]
  refine lv_istore (lv' := [(6, .int r2), (0, .ref (a0 0)), (1, .int x1), (2, .int x2), (3, .int x3), (4, .int x4), (5, .int x5)]) hx hb dX11_misread_5 hl (by decide) rfl (fun ls hl => ?_)
  refine lv_iload_n hx hb dX11_misread_7 rfl (lv_at hl 4 rfl) ?_
  refine lv_iconst (v := (0 : Int32)) hx hb dX11_misread_8 (by decide) ?_
  refine lv_iconst (v := (3 : Int32)) hx hb dX11_misread_9 (by decide) ?_
  obtain ⟨r3, hr3, hf⟩ := wb_b hf
  refine vp_callSi (W.runS (As := [.int x3, .int (0 : Int32), .int (3 : Int32)]) (rest := []) ⟨hx, hb, hml, hown, hts⟩ (cn_X11_within l D cB cI cZ N x3 (0 : Int32) (3 : Int32) r3 hr3) (va_cwS 3 hts gyX11_misread_X11_within rfl rfl rfl csX11_within ⟨Nat.le_of_ble_eq_true rfl, Nat.le_of_ble_eq_true rfl⟩) (wb_preS (hP.sub (ws' := ([] : va_W)) [] rfl) hK) rfl rfl hl.1 rfl (lv_room (Nat.le_of_ble_eq_true rfl)) dX11_misread_10 ⟨Nat.le_of_ble_eq_true rfl, Nat.le_of_ble_eq_true rfl⟩) (fun r9 e9 => ?_)
  rw [e9]
  refine lv_if_eq (tgt := 39) hx hb dX11_misread_13 (by decide) (fun hc => ?_) (fun hc => ?_)
  · replace hf := wb_t hc hf
    exact J39 r2 ls (lv_sub hl [1, 4, 5, 6, 0] rfl) hf
  · replace hf := wb_f hc hf
    refine lv_iload hx hb dX11_misread_16 (lv_at hl 5 rfl) ?_
    obtain ⟨r4, hr4, hf⟩ := wb_b hf
    refine vp_callSi (W.runS (As := [.int x4]) (rest := []) ⟨hx, hb, hml, hown, hts⟩ (cn_X11_isDay l D cB cI cZ N x4 r4 hr4) (va_cwS 1 hts gyX11_misread_X11_isDay rfl rfl rfl csX11_isDay ⟨Nat.le_of_ble_eq_true rfl, Nat.le_of_ble_eq_true rfl⟩) (wb_preS (hP.sub (ws' := ([] : va_W)) [] rfl) hK) rfl rfl hl.1 rfl (lv_room (Nat.le_of_ble_eq_true rfl)) dX11_misread_18 ⟨Nat.le_of_ble_eq_true rfl, Nat.le_of_ble_eq_true rfl⟩) (fun r9 e9 => ?_)
    rw [e9]
    refine lv_if_eq (tgt := 39) hx hb dX11_misread_21 (by decide) (fun hc => ?_) (fun hc => ?_)
    · replace hf := wb_t hc hf
      exact J39 r2 ls (lv_sub hl [1, 4, 5, 6, 0] rfl) hf
    · replace hf := wb_f hc hf
      refine lv_iload hx hb dX11_misread_24 (lv_at hl 6 rfl) ?_
      refine lv_iconst (v := (0 : Int32)) hx hb dX11_misread_26 (by decide) ?_
      refine lv_bipush (v := (6 : Int32)) hx hb dX11_misread_27 (by decide) ?_
      obtain ⟨r5, hr5, hf⟩ := wb_b hf
      refine vp_callSi (W.runS (As := [.int x5, .int (0 : Int32), .int (6 : Int32)]) (rest := []) ⟨hx, hb, hml, hown, hts⟩ (cn_X11_within l D cB cI cZ N x5 (0 : Int32) (6 : Int32) r5 hr5) (va_cwS 3 hts gyX11_misread_X11_within rfl rfl rfl csX11_within ⟨Nat.le_of_ble_eq_true rfl, Nat.le_of_ble_eq_true rfl⟩) (wb_preS (hP.sub (ws' := ([] : va_W)) [] rfl) hK) rfl rfl hl.1 rfl (lv_room (Nat.le_of_ble_eq_true rfl)) dX11_misread_29 ⟨Nat.le_of_ble_eq_true rfl, Nat.le_of_ble_eq_true rfl⟩) (fun r9 e9 => ?_)
      rw [e9]
      refine lv_if_eq (tgt := 39) hx hb dX11_misread_32 (by decide) (fun hc => ?_) (fun hc => ?_)
      · replace hf := wb_t hc hf
        exact J39 r2 ls (lv_sub hl [1, 4, 5, 6, 0] rfl) hf
      · replace hf := wb_f hc hf
        refine lv_iconst (v := (1 : Int32)) hx hb dX11_misread_35 (by decide) ?_
        refine lv_goto (tgt := 40) hx hb dX11_misread_36 (by decide) ?_
        exact J40 r2 (1 : Int32) ls (lv_sub hl [1, 4, 5, 6, 0] rfl) hf

set_option maxHeartbeats 4000000 in
set_option maxRecDepth 100000 in
theorem cn_X11_errors (l : Launch) (D : va_G) (cB cI cZ : ClassId) (N : Nat) (a0 : Nat → Nat) (I0 : Nat → Int32) (M0 : Nat → Nat → Int32) (x1 : Int32) (x2 : Int32) (x3 : Int32) (x4 : Int32) (sz : Nat) (R : Int32 × (Nat → Int32) × (Nat → Nat → Int32)) (hf : fX11_errors N I0 M0 x1 x2 x3 x4 = some (.inr R)) : Met l yX11_errors wyX11_errors ({ frames := 8, cells := 0, slots := 0, locals := 167 }) (va_Pc [.ref (a0 0), .int x1, .int x2, .int x3, .int x4] (wb_preD D [(cB, .byte), (cI, .int), (cZ, .boolean)] (wWX11 cB cI cZ a0 I0 M0) sz)) (va_Qi (fun r (_ : Unit) => r = R.1) (fun _ t => wb_post D [(cB, .byte), (cI, .int), (cZ, .boolean)] (va_A (wWX11 cB cI cZ a0 I0 M0) sz) (wWX11 cB cI cZ a0 R.2.1 R.2.2) t) (va_A (wWX11 cB cI cZ a0 I0 M0) sz)) 0 0 (va_A (wWX11 cB cI cZ a0 I0 M0) sz) := by
  refine Met.ofW (cc := cX11_errors) (maxL := 7) (ret := (some .int)) pn_X11 rfl ?_
  intro p e s m args below meth c s₁ B hml hv
  obtain ⟨rfl, hsz, hP, hK, hD0⟩ := hv
  have hx := B.exec
  have hb := B.bytes
  have hr := B.returns
  have hts := atoms_spec (ws := wyX11_errors) B.pre
  have hown : s.vm.findClass RX11 = some m.cls := (findClass_of_methodNamed B.named :)
  have hlocks := B.notSynchronized
  have hinX11 : ∀ w ∈ u_ws RX11 TX11 13, w ∈ wyX11_errors := fun w h => List.mem_cons_of_mem _ (List.mem_append_left _ (List.mem_append_left _ (List.mem_append_left _ (List.mem_append_left _ (List.mem_append_right _ h)))))
  subst hsz
  have hD := hD0.self (sz := s.heap.size)
  generalize hAe : va_A (wWX11 cB cI cZ a0 I0 M0) s.heap.size = A at hD ⊢
  have hA : ∀ q : Nat, s.heap.size ≤ q → A q := fun q h => by rw [← hAe]; exact Or.inr h
  have hS : va_S A s.heap s.heap [] := va_S.rf
  have hl := lv_entry ([.ref (a0 0), .int x1, .int x2, .int x3, .int x4]) (n := 7) (Nat.le_of_ble_eq_true rfl)
  rw [lg_entry_eq]
  generalize (lg_sl ([.ref (a0 0), .int x1, .int x2, .int x3, .int x4]) ++ List.replicate (7 - (lg_sl ([.ref (a0 0), .int x1, .int x2, .int x3, .int x4])).length) Slot.unset).toArray = ls at hl ⊢
  have hl : lv_has ls 7 [(0, .ref (a0 0)), (1, .int x1), (2, .int x2), (3, .int x3), (4, .int x4)] := hl
  unfold fX11_errors at hf
  obtain ⟨H, hHe⟩ : ∃ H : Heap, H = s.heap := ⟨_, rfl⟩
  obtain ⟨locs, hle⟩ : ∃ locs : List Loc, locs = [] := ⟨_, rfl⟩
  refine wb_start (H := H) (locs := locs) hHe hle ?_
  rw [← hHe] at hP
  have hS : va_S A s.heap H locs := by rw [hHe, hle]; exact va_S.rf
  have J30 : ∀ (I0_j30 : Nat → Int32) (M0_j30 : Nat → Nat → Int32) (y30_5 : Int32) (z30_0 : Int32) (H : Heap) (locs : List Loc), va_P D vwCl (wWX11 cB cI cZ a0 I0_j30 M0_j30) H → va_D A (wWX11 cB cI cZ a0 I0_j30 M0_j30) → va_S A s.heap H locs → ∀ (ls : Array Slot), lv_has ls 7 [(0, .ref (a0 0)), (3, .int x3), (4, .int x4), (5, .int y30_5)] → fX11_errors_J30 N x1 x2 x3 x4 I0_j30 M0_j30 y30_5 z30_0 = some (.inr R) → W p l e (headSpec wyX11_errors { frames := 8, cells := 0, slots := 0, locals := 167 }).room s m [.ref (a0 0), .int x1, .int x2, .int x3, .int x4].toArray below meth c H locs 0 0 (MQ below (va_Qi (fun r (_ : Unit) => r = R.1) (fun _ t => wb_post D [(cB, .byte), (cI, .int), (cZ, .boolean)] A (wWX11 cB cI cZ a0 R.2.1 R.2.2) t) A) [.ref (a0 0), .int x1, .int x2, .int x3, .int x4].toArray s 0 0 A) (F0 m 30 ls [.int z30_0]) := by
    intro I0_j30 M0_j30 y30_5 z30_0 H locs hP hD hS ls hl hf
    unfold fX11_errors_J30 at hf
    obtain ⟨r1, hr1, hf⟩ := wb_xr hf
    refine va_csv (W.runS (As := [.int z30_0]) (rest := []) ⟨hx, hb, hml, hown, hts⟩ (cn_X11_need l D cB cI cZ N z30_0 r1 hr1) (va_cwS 1 hts gyX11_errors_X11_need rfl rfl rfl csX11_need ⟨Nat.le_of_ble_eq_true rfl, Nat.le_of_ble_eq_true rfl⟩) (wb_preS (hP.sub (ws' := ([] : va_W)) [] rfl) hK) rfl rfl hl.1 rfl (lv_room (Nat.le_of_ble_eq_true rfl)) dX11_errors_30 ⟨Nat.le_of_ble_eq_true rfl, Nat.le_of_ble_eq_true rfl⟩) (fun _ => ?_)
    replace hf := wb_okr hf
    refine lv_aload_n hx hb dX11_errors_33 rfl (lv_at hl 0 rfl) ?_
    refine va_get (D := D) (ci := 11) (v := .ref (a0 24)) (C := RX11) (T := TX11) (N := 13) hx hb hts hinX11 hown hK hP 0 rfl rfl 4 (by decide) (hts (.fieldLink RX11 36 "WheelBook" "fit" "LWheelBook$Fit;") (List.mem_of_getElem? (i := 1) rfl)) (fun _ h9 => h9) rfl dX11_errors_34 ?_
    refine lv_aload_n hx hb dX11_errors_37 rfl (lv_at hl 0 rfl) ?_
    refine va_get (D := D) (ci := 11) (v := .ref (a0 3)) (C := RX11) (T := TX11) (N := 13) hx hb hts hinX11 hown hK hP 0 rfl rfl 1 (by decide) (hts (.fieldLink RX11 19 "WheelBook" "told" "LWheelBook$House;") (List.mem_of_getElem? (i := 2) rfl)) (fun _ h9 => h9) rfl dX11_errors_38 ?_
    refine lv_aload_n hx hb dX11_errors_41 rfl (lv_at hl 0 rfl) ?_
    refine va_get (D := D) (ci := 11) (v := .ref (a0 21)) (C := RX11) (T := TX11) (N := 13) hx hb hts hinX11 hown hK hP 0 rfl rfl 3 (by decide) (hts (.fieldLink RX11 29 "WheelBook" "books" "LWheelBook$Books;") (List.mem_of_getElem? (i := 3) rfl)) (fun _ h9 => h9) rfl dX11_errors_42 ?_
    refine lv_iload hx hb dX11_errors_45 (lv_at hl 3 rfl) ?_
    refine lv_iload_n hx hb dX11_errors_47 rfl (lv_at hl 1 rfl) ?_
    obtain ⟨r2, hr2, hf⟩ := wb_b hf
    have hPc := hP.sub (ws' := ((wWX3 cB cI cZ (wb_sh a0 24) (wb_sh I0_j30 13) (wb_sh M0_j30 15)) ++ ((wWX5 cB cI cZ (wb_sh a0 3) (wb_sh I0_j30 9) (wb_sh M0_j30 1)) ++ (wWX1 cB cI cZ (wb_sh a0 21) (wb_sh I0_j30 13) (wb_sh M0_j30 13))))) [24, 25, 3, 4, 5, 6, 7, 8, 9, 10, 11, 21, 22, 23] rfl
    have hDc := hD.sub (ws' := ((wWX3 cB cI cZ (wb_sh a0 24) (wb_sh I0_j30 13) (wb_sh M0_j30 15)) ++ ((wWX5 cB cI cZ (wb_sh a0 3) (wb_sh I0_j30 9) (wb_sh M0_j30 1)) ++ (wWX1 cB cI cZ (wb_sh a0 21) (wb_sh I0_j30 13) (wb_sh M0_j30 13))))) [24, 25, 3, 4, 5, 6, 7, 8, 9, 10, 11, 21, 22, 23] (by decide) rfl
    have hFc := va_free (wc := ((wWX3 cB cI cZ (wb_sh a0 24) (wb_sh I0_j30 13) (wb_sh M0_j30 15)) ++ ((wWX5 cB cI cZ (wb_sh a0 3) (wb_sh I0_j30 9) (wb_sh M0_j30 1)) ++ (wWX1 cB cI cZ (wb_sh a0 21) (wb_sh I0_j30 13) (wb_sh M0_j30 13))))) hD hS hA [24, 25, 3, 4, 5, 6, 7, 8, 9, 10, 11, 21, 22, 23] rfl
    refine va_callv (va_runV (As := [.ref (a0 3), .ref (a0 21), .int y30_5, .int x3]) (rest := []) ⟨hx, hb, hml, hown, hts⟩ (cn_X3_setSharers l D cB cI cZ N (wb_sh a0 24) (wb_sh I0_j30 13) (wb_sh M0_j30 15) (wb_sh a0 3) (wb_sh I0_j30 9) (wb_sh M0_j30 1) (wb_sh a0 21) (wb_sh I0_j30 13) (wb_sh M0_j30 13) y30_5 x3 H.size r2 hr2) (cwV 4 hts gyX11_errors_X3_setSharers rfl rfl rfl cdX3_setSharers ⟨Nat.le_of_ble_eq_true rfl, Nat.le_of_ble_eq_true rfl⟩) (wb_preDV hPc hK hDc (wr_3 hK hP (q0 := 24) rfl)) rfl rfl hl.1 rfl (lv_room (Nat.le_of_ble_eq_true rfl)) dX11_errors_48 ⟨Nat.le_of_ble_eq_true rfl, Nat.le_of_ble_eq_true rfl⟩) hS (fun q _ h => hFc q h) hFc (fun u t H locs ht hvm hw hB hz1 hk1 hS => ?_)
    obtain ⟨hP, hD⟩ := wj_bca (a := (wWX3 cB cI cZ (wb_sh a0 24) (wb_sh I0_j30 13) (wb_sh M0_j30 15))) (b := (wWX5 cB cI cZ (wb_sh a0 3) (wb_sh I0_j30 9) (wb_sh M0_j30 1))) (c := (wWX1 cB cI cZ (wb_sh a0 21) (wb_sh I0_j30 13) (wb_sh M0_j30 13))) (a' := (wWX3 cB cI cZ (wb_sh a0 24) r2.1 r2.2)) (b' := (wWX5 cB cI cZ (wb_sh a0 3) (wb_sh I0_j30 9) (wb_sh M0_j30 1))) (c' := (wWX1 cB cI cZ (wb_sh a0 21) (wb_sh I0_j30 13) (wb_sh M0_j30 13))) (wf := (wWX11 cB cI cZ a0 (wb_in I0_j30 13 0 r2.1) (wb_in M0_j30 15 1 r2.2))) 3 12 9 24 0 26 hP hD rfl rfl hk1 hFc ht hB
    obtain ⟨I0_3, eI0_3, hf⟩ := wb_v hf
    rw [← eI0_3] at hP hD
    obtain ⟨M0_4, eM0_4, hf⟩ := wb_v hf
    rw [← eM0_4] at hP hD
    refine lv_iload hx hb dX11_errors_51 (lv_at hl 2 rfl) ?_
    refine lv_if_ne (tgt := 64) hx hb dX11_errors_53 (by decide) (fun hc => ?_) (fun hc => ?_)
    · replace hf := wb_f hc hf
      refine lv_iload hx hb dX11_errors_64 (lv_at hl 2 rfl) ?_
      refine lv_iconst (v := (1 : Int32)) hx hb dX11_errors_66 (by decide) ?_
      refine lv_icmp_ne (tgt := 78) hx hb dX11_errors_67 (by decide) (fun hc => ?_) (fun hc => ?_)
      · replace hf := wb_f hc hf
        refine lv_iload hx hb dX11_errors_78 (lv_at hl 2 rfl) ?_
        refine lv_iconst (v := (2 : Int32)) hx hb dX11_errors_80 (by decide) ?_
        refine lv_isub hx hb dX11_errors_81 ?_
        refine lv_iconst (v := (3 : Int32)) hx hb dX11_errors_82 (by decide) ?_
        refine lv_irem hx hb dX11_errors_83 (by decide) ?_
        refine lv_iconst (v := (1 : Int32)) hx hb dX11_errors_84 (by decide) ?_
        refine lv_iadd hx hb dX11_errors_85 ?_
        obtain ⟨v5, ev5, hf⟩ := wb_v hf
        refine wb_topi ev5 ?_
        refine lv_istore (lv' := [(6, .int v5), (0, .ref (a0 0)), (3, .int x3), (4, .int x4), (5, .int y30_5)]) hx hb dX11_errors_86 hl (by decide) rfl (fun ls hl => ?_)
        refine lv_iload hx hb dX11_errors_88 (lv_at hl 3 rfl) ?_
        refine lv_iconst (v := (5 : Int32)) hx hb dX11_errors_90 (by decide) ?_
        refine lv_icmp_ge (tgt := 104) hx hb dX11_errors_91 (by decide) (fun hc => ?_) (fun hc => ?_)
        · replace hf := wb_t hc hf
          refine lv_iload hx hb dX11_errors_104 (lv_at hl 3 rfl) ?_
          refine lv_bipush (v := (8 : Int32)) hx hb dX11_errors_106 (by decide) ?_
          refine lv_icmp_ge (tgt := 123) hx hb dX11_errors_108 (by decide) (fun hc => ?_) (fun hc => ?_)
          · replace hf := wb_t hc hf
            refine lv_aload_n hx hb dX11_errors_123 rfl (lv_at hl 1 rfl) ?_
            refine va_get (D := D) (ci := 11) (v := .ref (a0 24)) (C := RX11) (T := TX11) (N := 13) hx hb hts hinX11 hown hK hP 0 rfl rfl 4 (by decide) (hts (.fieldLink RX11 36 "WheelBook" "fit" "LWheelBook$Fit;") (List.mem_of_getElem? (i := 1) rfl)) (fun _ h9 => h9) rfl dX11_errors_124 ?_
            refine lv_iload hx hb dX11_errors_127 (lv_at hl 0 rfl) ?_
            obtain ⟨r6, hr6, hf⟩ := wb_b hf
            refine vp_callSi (W.runV (As := [.int v5]) (rest := []) ⟨hx, hb, hml, hown, hts⟩ (cn_X3_weightOf l D cB cI cZ N (wb_sh a0 24) (wb_sh I0_3 13) (wb_sh M0_4 15) v5 r6 hr6) (cwV 1 hts gyX11_errors_X3_weightOf rfl rfl rfl cdX3_weightOf ⟨Nat.le_of_ble_eq_true rfl, Nat.le_of_ble_eq_true rfl⟩) (wb_preV (hP.sub (ws' := (wWX3 cB cI cZ (wb_sh a0 24) (wb_sh I0_3 13) (wb_sh M0_4 15))) [24, 25] rfl) hK (wr_3 hK hP (q0 := 24) rfl)) rfl rfl hl.1 rfl (lv_room (Nat.le_of_ble_eq_true rfl)) dX11_errors_129 ⟨Nat.le_of_ble_eq_true rfl, Nat.le_of_ble_eq_true rfl⟩) (fun r9 e9 => ?_)
            rw [e9]
            exact W.iret (v := r6) hx hb hr (fun t ht hW => by rw [← Option.some.inj hf]; exact ⟨⟨r6, (), rfl, rfl, by rw [ht]; exact hP, va_K.moved hW.alike hK, hD⟩, hS.F ht⟩) hS.2.2 dX11_errors_132
          · replace hf := wb_f hc hf
            refine lv_aload_n hx hb dX11_errors_111 rfl (lv_at hl 1 rfl) ?_
            refine va_get (D := D) (ci := 11) (v := .ref (a0 24)) (C := RX11) (T := TX11) (N := 13) hx hb hts hinX11 hown hK hP 0 rfl rfl 4 (by decide) (hts (.fieldLink RX11 36 "WheelBook" "fit" "LWheelBook$Fit;") (List.mem_of_getElem? (i := 1) rfl)) (fun _ h9 => h9) rfl dX11_errors_112 ?_
            refine lv_iload hx hb dX11_errors_115 (lv_at hl 0 rfl) ?_
            obtain ⟨r7, hr7, hf⟩ := wb_b hf
            refine vp_callSi (W.runV (As := [.int v5]) (rest := []) ⟨hx, hb, hml, hown, hts⟩ (cn_X3_howManyAlone l D cB cI cZ N (wb_sh a0 24) (wb_sh I0_3 13) (wb_sh M0_4 15) v5 r7 hr7) (cwV 1 hts gyX11_errors_X3_howManyAlone rfl rfl rfl cdX3_howManyAlone ⟨Nat.le_of_ble_eq_true rfl, Nat.le_of_ble_eq_true rfl⟩) (wb_preV (hP.sub (ws' := (wWX3 cB cI cZ (wb_sh a0 24) (wb_sh I0_3 13) (wb_sh M0_4 15))) [24, 25] rfl) hK (wr_3 hK hP (q0 := 24) rfl)) rfl rfl hl.1 rfl (lv_room (Nat.le_of_ble_eq_true rfl)) dX11_errors_117 ⟨Nat.le_of_ble_eq_true rfl, Nat.le_of_ble_eq_true rfl⟩) (fun r9 e9 => ?_)
            rw [e9]
            refine lv_goto (tgt := 132) hx hb dX11_errors_120 (by decide) ?_
            exact W.iret (v := r7) hx hb hr (fun t ht hW => by rw [← Option.some.inj hf]; exact ⟨⟨r7, (), rfl, rfl, by rw [ht]; exact hP, va_K.moved hW.alike hK, hD⟩, hS.F ht⟩) hS.2.2 dX11_errors_132
        · replace hf := wb_f hc hf
          refine lv_aload_n hx hb dX11_errors_94 rfl (lv_at hl 1 rfl) ?_
          refine va_get (D := D) (ci := 11) (v := .ref (a0 24)) (C := RX11) (T := TX11) (N := 13) hx hb hts hinX11 hown hK hP 0 rfl rfl 4 (by decide) (hts (.fieldLink RX11 36 "WheelBook" "fit" "LWheelBook$Fit;") (List.mem_of_getElem? (i := 1) rfl)) (fun _ h9 => h9) rfl dX11_errors_95 ?_
          refine lv_iload hx hb dX11_errors_98 (lv_at hl 0 rfl) ?_
          obtain ⟨r8, hr8, hf⟩ := wb_b hf
          refine vp_callSi (W.runV (As := [.int v5]) (rest := []) ⟨hx, hb, hml, hown, hts⟩ (cn_X3_howManyShared l D cB cI cZ N (wb_sh a0 24) (wb_sh I0_3 13) (wb_sh M0_4 15) v5 r8 hr8) (cwV 1 hts gyX11_errors_X3_howManyShared rfl rfl rfl cdX3_howManyShared ⟨Nat.le_of_ble_eq_true rfl, Nat.le_of_ble_eq_true rfl⟩) (wb_preV (hP.sub (ws' := (wWX3 cB cI cZ (wb_sh a0 24) (wb_sh I0_3 13) (wb_sh M0_4 15))) [24, 25] rfl) hK (wr_3 hK hP (q0 := 24) rfl)) rfl rfl hl.1 rfl (lv_room (Nat.le_of_ble_eq_true rfl)) dX11_errors_100 ⟨Nat.le_of_ble_eq_true rfl, Nat.le_of_ble_eq_true rfl⟩) (fun r9 e9 => ?_)
          rw [e9]
          exact W.iret (v := r8) hx hb hr (fun t ht hW => by rw [← Option.some.inj hf]; exact ⟨⟨r8, (), rfl, rfl, by rw [ht]; exact hP, va_K.moved hW.alike hK, hD⟩, hS.F ht⟩) hS.2.2 dX11_errors_103
      · replace hf := wb_t hc hf
        refine lv_aload_n hx hb dX11_errors_70 rfl (lv_at hl 0 rfl) ?_
        refine va_get (D := D) (ci := 11) (v := .ref (a0 24)) (C := RX11) (T := TX11) (N := 13) hx hb hts hinX11 hown hK hP 0 rfl rfl 4 (by decide) (hts (.fieldLink RX11 36 "WheelBook" "fit" "LWheelBook$Fit;") (List.mem_of_getElem? (i := 1) rfl)) (fun _ h9 => h9) rfl dX11_errors_71 ?_
        obtain ⟨r9b, hr9b, hf⟩ := wb_b hf
        refine vp_callSi (W.runV (As := []) (rest := []) ⟨hx, hb, hml, hown, hts⟩ (cn_X3_setFollowed l D cB cI cZ N (wb_sh a0 24) (wb_sh I0_3 13) (wb_sh M0_4 15) r9b hr9b) (cwV 0 hts gyX11_errors_X3_setFollowed rfl rfl rfl cdX3_setFollowed ⟨Nat.le_of_ble_eq_true rfl, Nat.le_of_ble_eq_true rfl⟩) (wb_preV (hP.sub (ws' := (wWX3 cB cI cZ (wb_sh a0 24) (wb_sh I0_3 13) (wb_sh M0_4 15))) [24, 25] rfl) hK (wr_3 hK hP (q0 := 24) rfl)) rfl rfl hl.1 rfl (lv_room (Nat.le_of_ble_eq_true rfl)) dX11_errors_74 ⟨Nat.le_of_ble_eq_true rfl, Nat.le_of_ble_eq_true rfl⟩) (fun r9 e9 => ?_)
        rw [e9]
        exact W.iret (v := r9b) hx hb hr (fun t ht hW => by rw [← Option.some.inj hf]; exact ⟨⟨r9b, (), rfl, rfl, by rw [ht]; exact hP, va_K.moved hW.alike hK, hD⟩, hS.F ht⟩) hS.2.2 dX11_errors_77
    · replace hf := wb_t hc hf
      refine lv_aload_n hx hb dX11_errors_56 rfl (lv_at hl 0 rfl) ?_
      refine va_get (D := D) (ci := 11) (v := .ref (a0 24)) (C := RX11) (T := TX11) (N := 13) hx hb hts hinX11 hown hK hP 0 rfl rfl 4 (by decide) (hts (.fieldLink RX11 36 "WheelBook" "fit" "LWheelBook$Fit;") (List.mem_of_getElem? (i := 1) rfl)) (fun _ h9 => h9) rfl dX11_errors_57 ?_
      obtain ⟨r10, hr10, hf⟩ := wb_b hf
      refine vp_callSi (W.runV (As := []) (rest := []) ⟨hx, hb, hml, hown, hts⟩ (cn_X3_howManyErrors l D cB cI cZ N (wb_sh a0 24) (wb_sh I0_3 13) (wb_sh M0_4 15) r10 hr10) (cwV 0 hts gyX11_errors_X3_howManyErrors rfl rfl rfl cdX3_howManyErrors ⟨Nat.le_of_ble_eq_true rfl, Nat.le_of_ble_eq_true rfl⟩) (wb_preV (hP.sub (ws' := (wWX3 cB cI cZ (wb_sh a0 24) (wb_sh I0_3 13) (wb_sh M0_4 15))) [24, 25] rfl) hK (wr_3 hK hP (q0 := 24) rfl)) rfl rfl hl.1 rfl (lv_room (Nat.le_of_ble_eq_true rfl)) dX11_errors_60 ⟨Nat.le_of_ble_eq_true rfl, Nat.le_of_ble_eq_true rfl⟩) (fun r9 e9 => ?_)
      rw [e9]
      exact W.iret (v := r10) hx hb hr (fun t ht hW => by rw [← Option.some.inj hf]; exact ⟨⟨r10, (), rfl, rfl, by rw [ht]; exact hP, va_K.moved hW.alike hK, hD⟩, hS.F ht⟩) hS.2.2 dX11_errors_63
  have J29 : ∀ (I0_j29 : Nat → Int32) (M0_j29 : Nat → Nat → Int32) (y29_5 : Int32) (H : Heap) (locs : List Loc), va_P D vwCl (wWX11 cB cI cZ a0 I0_j29 M0_j29) H → va_D A (wWX11 cB cI cZ a0 I0_j29 M0_j29) → va_S A s.heap H locs → ∀ (ls : Array Slot), lv_has ls 7 [(0, .ref (a0 0)), (3, .int x3), (4, .int x4), (5, .int y29_5)] → fX11_errors_J29 N x1 x2 x3 x4 I0_j29 M0_j29 y29_5 = some (.inr R) → W p l e (headSpec wyX11_errors { frames := 8, cells := 0, slots := 0, locals := 167 }).room s m [.ref (a0 0), .int x1, .int x2, .int x3, .int x4].toArray below meth c H locs 0 0 (MQ below (va_Qi (fun r (_ : Unit) => r = R.1) (fun _ t => wb_post D [(cB, .byte), (cI, .int), (cZ, .boolean)] A (wWX11 cB cI cZ a0 R.2.1 R.2.2) t) A) [.ref (a0 0), .int x1, .int x2, .int x3, .int x4].toArray s 0 0 A) (F0 m 29 ls []) := by
    intro I0_j29 M0_j29 y29_5 H locs hP hD hS ls hl hf
    unfold fX11_errors_J29 at hf
    refine lv_iconst (v := (0 : Int32)) hx hb dX11_errors_29 (by decide) ?_
    exact J30 I0_j29 M0_j29 y29_5 (0 : Int32) H locs hP hD hS ls (lv_sub hl [0, 1, 2, 3] rfl) hf
  refine lv_iload_n hx hb dX11_errors_0 rfl (lv_at hl 1 rfl) ?_
  refine lv_iload_n hx hb dX11_errors_1 rfl (lv_at hl 2 rfl) ?_
  obtain ⟨r11, hr11, hf⟩ := wb_xr hf
  refine vp_callSi (W.runS (As := [.int x1, .int x2]) (rest := []) ⟨hx, hb, hml, hown, hts⟩ (cn_X11_numberOf l D cB cI cZ N x1 x2 r11 hr11) (va_cwS 2 hts gyX11_errors_X11_numberOf rfl rfl rfl csX11_numberOf ⟨Nat.le_of_ble_eq_true rfl, Nat.le_of_ble_eq_true rfl⟩) (wb_preS (hP.sub (ws' := ([] : va_W)) [] rfl) hK) rfl rfl hl.1 rfl (lv_room (Nat.le_of_ble_eq_true rfl)) dX11_errors_2 ⟨Nat.le_of_ble_eq_true rfl, Nat.le_of_ble_eq_true rfl⟩) (fun r9 e9 => ?_)
  rw [e9]
  refine lv_istore (lv' := [(5, .int r11), (0, .ref (a0 0)), (1, .int x1), (2, .int x2), (3, .int x3), (4, .int x4)]) hx hb dX11_errors_5 hl (by decide) rfl (fun ls hl => ?_)
  refine lv_iload_n hx hb dX11_errors_7 rfl (lv_at hl 4 rfl) ?_
  obtain ⟨r12, hr12, hf⟩ := wb_b hf
  refine vp_callSi (W.runS (As := [.int x3]) (rest := []) ⟨hx, hb, hml, hown, hts⟩ (cn_X11_isDay l D cB cI cZ N x3 r12 hr12) (va_cwS 1 hts gyX11_errors_X11_isDay rfl rfl rfl csX11_isDay ⟨Nat.le_of_ble_eq_true rfl, Nat.le_of_ble_eq_true rfl⟩) (wb_preS (hP.sub (ws' := ([] : va_W)) [] rfl) hK) rfl rfl hl.1 rfl (lv_room (Nat.le_of_ble_eq_true rfl)) dX11_errors_8 ⟨Nat.le_of_ble_eq_true rfl, Nat.le_of_ble_eq_true rfl⟩) (fun r9 e9 => ?_)
  rw [e9]
  refine lv_if_eq (tgt := 29) hx hb dX11_errors_11 (by decide) (fun hc => ?_) (fun hc => ?_)
  · replace hf := wb_t hc hf
    exact J29 I0 M0 r11 H locs hP hD hS ls (lv_sub hl [1, 4, 5, 0] rfl) hf
  · replace hf := wb_f hc hf
    refine lv_iload hx hb dX11_errors_14 (lv_at hl 5 rfl) ?_
    refine lv_iconst (v := (0 : Int32)) hx hb dX11_errors_16 (by decide) ?_
    refine lv_bipush (v := (10 : Int32)) hx hb dX11_errors_17 (by decide) ?_
    obtain ⟨r13, hr13, hf⟩ := wb_b hf
    refine vp_callSi (W.runS (As := [.int x4, .int (0 : Int32), .int (10 : Int32)]) (rest := []) ⟨hx, hb, hml, hown, hts⟩ (cn_X11_within l D cB cI cZ N x4 (0 : Int32) (10 : Int32) r13 hr13) (va_cwS 3 hts gyX11_errors_X11_within rfl rfl rfl csX11_within ⟨Nat.le_of_ble_eq_true rfl, Nat.le_of_ble_eq_true rfl⟩) (wb_preS (hP.sub (ws' := ([] : va_W)) [] rfl) hK) rfl rfl hl.1 rfl (lv_room (Nat.le_of_ble_eq_true rfl)) dX11_errors_19 ⟨Nat.le_of_ble_eq_true rfl, Nat.le_of_ble_eq_true rfl⟩) (fun r9 e9 => ?_)
    rw [e9]
    refine lv_if_eq (tgt := 29) hx hb dX11_errors_22 (by decide) (fun hc => ?_) (fun hc => ?_)
    · replace hf := wb_t hc hf
      exact J29 I0 M0 r11 H locs hP hD hS ls (lv_sub hl [1, 4, 5, 0] rfl) hf
    · replace hf := wb_f hc hf
      refine lv_iconst (v := (1 : Int32)) hx hb dX11_errors_25 (by decide) ?_
      refine lv_goto (tgt := 30) hx hb dX11_errors_26 (by decide) ?_
      exact J30 I0 M0 r11 (1 : Int32) H locs hP hD hS ls (lv_sub hl [1, 4, 5, 0] rfl) hf
set_option maxHeartbeats 4000000 in
set_option maxRecDepth 100000 in
theorem ct_X11_errors (l : Launch) (hlt : l.stackTraces = false) (D : va_G) (cB cI cZ : ClassId) (N : Nat) (a0 : Nat → Nat) (I0 : Nat → Int32) (M0 : Nat → Nat → Int32) (x1 : Int32) (x2 : Int32) (x3 : Int32) (x4 : Int32) (sz k : Nat) (hf : fX11_errors N I0 M0 x1 x2 x3 x4 = some (.inl k)) : vx_Met l yX11_errors wyX11_errors ({ frames := 8, cells := 1, slots := 6, locals := 167 }) (va_Pc [.ref (a0 0), .int x1, .int x2, .int x3, .int x4] (wb_preX D [(cB, .byte), (cI, .int), (cZ, .boolean)] (wWX11 cB cI cZ a0 I0 M0) sz)) (va_Qi (fun _ (_ : Unit) => False) (fun _ _ => True) (fun q => sz ≤ q)) (vx_X (fun _ : Unit => True) (fun E _ _ => E = wb_ex k) (fun q => sz ≤ q)) 1 6 (fun q => sz ≤ q) := by
  refine vx_ofW (cc := cX11_errors) (maxL := 7) (ret := (some .int)) (by decide) rfl ?_
  intro p e s m args below meth c s₁ B hml htab hv
  obtain ⟨rfl, hsz, hP, hK, hX⟩ := hv
  subst hsz
  have hx := B.exec
  have hb := B.bytes
  have hr := B.returns
  have hts := atoms_spec (ws := wyX11_errors) B.pre
  have hown : s.vm.findClass RX11 = some m.cls := (findClass_of_methodNamed B.named :)
  have hlocks := B.notSynchronized
  have hS : va_S (fun q => s.heap.size ≤ q) s.heap s.heap [] := va_S.rf
  have hl := lv_entry ([.ref (a0 0), .int x1, .int x2, .int x3, .int x4]) (n := 7) (Nat.le_of_ble_eq_true rfl)
  rw [lg_entry_eq]
  generalize (lg_sl ([.ref (a0 0), .int x1, .int x2, .int x3, .int x4]) ++ List.replicate (7 - (lg_sl ([.ref (a0 0), .int x1, .int x2, .int x3, .int x4])).length) Slot.unset).toArray = ls at hl ⊢
  have hl : lv_has ls 7 [(0, .ref (a0 0)), (1, .int x1), (2, .int x2), (3, .int x3), (4, .int x4)] := hl
  unfold fX11_errors at hf
  have J30 : ∀ (y30_5 : Int32) (z30_0 : Int32), ∀ (ls : Array Slot), lv_has ls 7 [(0, .ref (a0 0)), (3, .int x3), (4, .int x4), (5, .int y30_5)] → fX11_errors_J30 N x1 x2 x3 x4 I0 M0 y30_5 z30_0 = some (.inl k) → W p l e (headSpec wyX11_errors { frames := 8, cells := 1, slots := 6, locals := 167 }).room s m [.ref (a0 0), .int x1, .int x2, .int x3, .int x4].toArray below meth c s.heap [] 0 0 (vx_MQ below (va_Qi (fun _ (_ : Unit) => False) (fun _ _ => True) (fun q => s.heap.size ≤ q)) (vx_X (fun _ : Unit => True) (fun E _ _ => E = wb_ex k) (fun q => s.heap.size ≤ q)) [.ref (a0 0), .int x1, .int x2, .int x3, .int x4].toArray s 1 6 (fun q => s.heap.size ≤ q)) (F0 m 30 ls [.int z30_0]) := by
    intro y30_5 z30_0 ls hl hf
    unfold fX11_errors_J30 at hf
    rcases wb_xt hf with hrx | ⟨r1, hr1, hf⟩
    · refine vx_callv (vx_runS (As := [.int z30_0]) (rest := []) ⟨hx, hb, hml, hown, hts⟩ (ct_X11_need l hlt D cB cI cZ N z30_0 s.heap.size k hrx) (va_cwS 1 hts gyX11_errors_X11_need rfl rfl rfl csX11_need ⟨Nat.le_of_ble_eq_true rfl, Nat.le_of_ble_eq_true rfl⟩) (wb_preXS (hP.sub (ws' := ([] : va_W)) [] rfl) hK hX) rfl rfl hl.1 rfl (lv_room (Nat.le_of_ble_eq_true rfl)) dX11_errors_30 ⟨Nat.le_of_ble_eq_true rfl, Nat.le_of_ble_eq_true rfl⟩) hS (fun q _ h => h) (fun _ h => h) (fun q _ h => h) (fun E ce q9 u t H locs ht hvm hpx hB hz1 hk1 hS hq9 hv9 hc9 => ?_) (fun u t H locs ht hvm hw hB hz1 hk1 hS => hw.elim)
      exact vx_out (fun x hx9 => (htab x hx9).elim) hlocks hq9 hv9 hc9 (fun t9 ht9 hvm9 => ⟨(), trivial, hB, hS.F ht9⟩) hS.2.2 (Nat.le_of_ble_eq_true rfl) (Nat.le_of_ble_eq_true rfl)
    refine va_csv (W.runS (As := [.int z30_0]) (rest := []) ⟨hx, hb, hml, hown, hts⟩ (cn_X11_need l D cB cI cZ N z30_0 r1 hr1) (va_cwS 1 hts gyX11_errors_X11_need rfl rfl rfl csX11_need ⟨Nat.le_of_ble_eq_true rfl, Nat.le_of_ble_eq_true rfl⟩) (wb_preS (hP.sub (ws' := ([] : va_W)) [] rfl) hK) rfl rfl hl.1 rfl (lv_room (Nat.le_of_ble_eq_true rfl)) dX11_errors_30 ⟨Nat.le_of_ble_eq_true rfl, Nat.le_of_ble_eq_true rfl⟩) (fun _ => ?_)
    exact absurd hf wb_okn
  have J29 : ∀ (y29_5 : Int32), ∀ (ls : Array Slot), lv_has ls 7 [(0, .ref (a0 0)), (3, .int x3), (4, .int x4), (5, .int y29_5)] → fX11_errors_J29 N x1 x2 x3 x4 I0 M0 y29_5 = some (.inl k) → W p l e (headSpec wyX11_errors { frames := 8, cells := 1, slots := 6, locals := 167 }).room s m [.ref (a0 0), .int x1, .int x2, .int x3, .int x4].toArray below meth c s.heap [] 0 0 (vx_MQ below (va_Qi (fun _ (_ : Unit) => False) (fun _ _ => True) (fun q => s.heap.size ≤ q)) (vx_X (fun _ : Unit => True) (fun E _ _ => E = wb_ex k) (fun q => s.heap.size ≤ q)) [.ref (a0 0), .int x1, .int x2, .int x3, .int x4].toArray s 1 6 (fun q => s.heap.size ≤ q)) (F0 m 29 ls []) := by
    intro y29_5 ls hl hf
    unfold fX11_errors_J29 at hf
    refine lv_iconst (v := (0 : Int32)) hx hb dX11_errors_29 (by decide) ?_
    exact J30 y29_5 (0 : Int32) ls (lv_sub hl [0, 1, 2, 3] rfl) hf
  refine lv_iload_n hx hb dX11_errors_0 rfl (lv_at hl 1 rfl) ?_
  refine lv_iload_n hx hb dX11_errors_1 rfl (lv_at hl 2 rfl) ?_
  rcases wb_xt hf with hrx | ⟨r2, hr2, hf⟩
  · refine vx_calli (vx_runS (As := [.int x1, .int x2]) (rest := []) ⟨hx, hb, hml, hown, hts⟩ (ct_X11_numberOf l hlt D cB cI cZ N x1 x2 s.heap.size k hrx) (va_cwS 2 hts gyX11_errors_X11_numberOf rfl rfl rfl csX11_numberOf ⟨Nat.le_of_ble_eq_true rfl, Nat.le_of_ble_eq_true rfl⟩) (wb_preXS (hP.sub (ws' := ([] : va_W)) [] rfl) hK hX) rfl rfl hl.1 rfl (lv_room (Nat.le_of_ble_eq_true rfl)) dX11_errors_2 ⟨Nat.le_of_ble_eq_true rfl, Nat.le_of_ble_eq_true rfl⟩) hS (fun q _ h => h) (fun _ h => h) (fun q _ h => h) (fun E ce q9 u t H locs ht hvm hpx hB hz1 hk1 hS hq9 hv9 hc9 => ?_) (fun r9 u t H locs ht hvm hw hB hz1 hk1 hS => hw.elim)
    exact vx_out (fun x hx9 => (htab x hx9).elim) hlocks hq9 hv9 hc9 (fun t9 ht9 hvm9 => ⟨(), trivial, hB, hS.F ht9⟩) hS.2.2 (Nat.le_of_ble_eq_true rfl) (Nat.le_of_ble_eq_true rfl)
  refine vp_callSi (W.runS (As := [.int x1, .int x2]) (rest := []) ⟨hx, hb, hml, hown, hts⟩ (cn_X11_numberOf l D cB cI cZ N x1 x2 r2 hr2) (va_cwS 2 hts gyX11_errors_X11_numberOf rfl rfl rfl csX11_numberOf ⟨Nat.le_of_ble_eq_true rfl, Nat.le_of_ble_eq_true rfl⟩) (wb_preS (hP.sub (ws' := ([] : va_W)) [] rfl) hK) rfl rfl hl.1 rfl (lv_room (Nat.le_of_ble_eq_true rfl)) dX11_errors_2 ⟨Nat.le_of_ble_eq_true rfl, Nat.le_of_ble_eq_true rfl⟩) (fun r9 e9 => ?_)
  rw [e9]
  refine lv_istore (lv' := [(5, .int r2), (0, .ref (a0 0)), (1, .int x1), (2, .int x2), (3, .int x3), (4, .int x4)]) hx hb dX11_errors_5 hl (by decide) rfl (fun ls hl => ?_)
  refine lv_iload_n hx hb dX11_errors_7 rfl (lv_at hl 4 rfl) ?_
  obtain ⟨r3, hr3, hf⟩ := wb_b hf
  refine vp_callSi (W.runS (As := [.int x3]) (rest := []) ⟨hx, hb, hml, hown, hts⟩ (cn_X11_isDay l D cB cI cZ N x3 r3 hr3) (va_cwS 1 hts gyX11_errors_X11_isDay rfl rfl rfl csX11_isDay ⟨Nat.le_of_ble_eq_true rfl, Nat.le_of_ble_eq_true rfl⟩) (wb_preS (hP.sub (ws' := ([] : va_W)) [] rfl) hK) rfl rfl hl.1 rfl (lv_room (Nat.le_of_ble_eq_true rfl)) dX11_errors_8 ⟨Nat.le_of_ble_eq_true rfl, Nat.le_of_ble_eq_true rfl⟩) (fun r9 e9 => ?_)
  rw [e9]
  refine lv_if_eq (tgt := 29) hx hb dX11_errors_11 (by decide) (fun hc => ?_) (fun hc => ?_)
  · replace hf := wb_t hc hf
    exact J29 r2 ls (lv_sub hl [1, 4, 5, 0] rfl) hf
  · replace hf := wb_f hc hf
    refine lv_iload hx hb dX11_errors_14 (lv_at hl 5 rfl) ?_
    refine lv_iconst (v := (0 : Int32)) hx hb dX11_errors_16 (by decide) ?_
    refine lv_bipush (v := (10 : Int32)) hx hb dX11_errors_17 (by decide) ?_
    obtain ⟨r4, hr4, hf⟩ := wb_b hf
    refine vp_callSi (W.runS (As := [.int x4, .int (0 : Int32), .int (10 : Int32)]) (rest := []) ⟨hx, hb, hml, hown, hts⟩ (cn_X11_within l D cB cI cZ N x4 (0 : Int32) (10 : Int32) r4 hr4) (va_cwS 3 hts gyX11_errors_X11_within rfl rfl rfl csX11_within ⟨Nat.le_of_ble_eq_true rfl, Nat.le_of_ble_eq_true rfl⟩) (wb_preS (hP.sub (ws' := ([] : va_W)) [] rfl) hK) rfl rfl hl.1 rfl (lv_room (Nat.le_of_ble_eq_true rfl)) dX11_errors_19 ⟨Nat.le_of_ble_eq_true rfl, Nat.le_of_ble_eq_true rfl⟩) (fun r9 e9 => ?_)
    rw [e9]
    refine lv_if_eq (tgt := 29) hx hb dX11_errors_22 (by decide) (fun hc => ?_) (fun hc => ?_)
    · replace hf := wb_t hc hf
      exact J29 r2 ls (lv_sub hl [1, 4, 5, 0] rfl) hf
    · replace hf := wb_f hc hf
      refine lv_iconst (v := (1 : Int32)) hx hb dX11_errors_25 (by decide) ?_
      refine lv_goto (tgt := 30) hx hb dX11_errors_26 (by decide) ?_
      exact J30 r2 (1 : Int32) ls (lv_sub hl [1, 4, 5, 0] rfl) hf

set_option maxHeartbeats 4000000 in
set_option maxRecDepth 100000 in
theorem cn_X11_climatesThatCanBe (l : Launch) (D : va_G) (cB cI cZ : ClassId) (N : Nat) (a0 : Nat → Nat) (I0 : Nat → Int32) (M0 : Nat → Nat → Int32) (x1 : Int32) (R : Int32) (hf : fX11_climatesThatCanBe N I0 M0 x1 = some R) : Met l yX11_climatesThatCanBe wsX11_climatesThatCanBe ({ frames := 5, cells := 0, slots := 0, locals := 126 }) (va_Pc [.ref (a0 0), .int x1] (wb_pre D [(cB, .byte), (cI, .int), (cZ, .boolean)] (wWX11 cB cI cZ a0 I0 M0))) (vp_Si (fun r => r = R)) 0 0 (fun _ => False) := by
  refine Met.ofW (cc := cX11_climatesThatCanBe) (maxL := 7) (ret := (some .int)) pn_X11 rfl ?_
  intro p e s m args below meth c s₁ B hml hv
  obtain ⟨rfl, hP, hK⟩ := hv
  have hx := B.exec
  have hb := B.bytes
  have hr := B.returns
  have hts := atoms_spec (ws := wsX11_climatesThatCanBe) B.pre
  have hown : s.vm.findClass RX11 = some m.cls := (findClass_of_methodNamed B.named :)
  have hlocks := B.notSynchronized
  have hinX11 : ∀ w ∈ u_ws RX11 TX11 13, w ∈ wsX11_climatesThatCanBe := fun w h => List.mem_cons_of_mem _ (List.mem_append_left _ (List.mem_append_left _ (List.mem_append_left _ (List.mem_append_right _ h))))
  have hinX2 : ∀ w ∈ u_ws RX2 TX2 2, w ∈ wsX11_climatesThatCanBe := fun w h => List.mem_cons_of_mem _ (List.mem_append_left _ (List.mem_append_right _ h))
  have hinX5 : ∀ w ∈ u_ws RX5 TX5 6, w ∈ wsX11_climatesThatCanBe := fun w h => List.mem_cons_of_mem _ (List.mem_append_left _ (List.mem_append_left _ (List.mem_append_right _ h)))
  have hl := lv_entry ([.ref (a0 0), .int x1]) (n := 7) (Nat.le_of_ble_eq_true rfl)
  rw [lg_entry_eq]
  generalize (lg_sl ([.ref (a0 0), .int x1]) ++ List.replicate (7 - (lg_sl ([.ref (a0 0), .int x1])).length) Slot.unset).toArray = ls at hl ⊢
  have hl : lv_has ls 7 [(0, .ref (a0 0)), (1, .int x1)] := hl
  unfold fX11_climatesThatCanBe at hf
  refine lv_aload_n hx hb dX11_climatesThatCanBe_0 rfl (lv_at hl 0 rfl) ?_
  refine va_get (D := D) (ci := 11) (v := .ref (a0 21)) (C := RX11) (T := TX11) (N := 13) hx hb hts hinX11 hown hK hP 0 rfl rfl 3 (by decide) (hts (.fieldLink RX11 29 "WheelBook" "books" "LWheelBook$Books;") (List.mem_of_getElem? (i := 1) rfl)) (fun _ h9 => h9) rfl dX11_climatesThatCanBe_1 ?_
  refine lv_iload_n hx hb dX11_climatesThatCanBe_4 rfl (lv_at hl 1 rfl) ?_
  refine lv_iconst (v := (0 : Int32)) hx hb dX11_climatesThatCanBe_5 (by decide) ?_
  obtain ⟨r1, hr1, hf⟩ := wb_b hf
  refine vp_callSi (W.runV (As := [.int x1, .int (0 : Int32)]) (rest := []) ⟨hx, hb, hml, hown, hts⟩ (cn_X1_degreeOf l D cB cI cZ N (wb_sh a0 21) (wb_sh I0 13) (wb_sh M0 13) x1 (0 : Int32) r1 hr1) (cwV 2 hts gX11_climatesThatCanBe_X1_degreeOf rfl rfl rfl cdX1_degreeOf ⟨Nat.le_of_ble_eq_true rfl, Nat.le_of_ble_eq_true rfl⟩) (wb_preV (hP.sub (ws' := (wWX1 cB cI cZ (wb_sh a0 21) (wb_sh I0 13) (wb_sh M0 13))) [21, 22, 23] rfl) hK (wr_1 hK hP (q0 := 21) rfl)) rfl rfl hl.1 rfl (lv_room (Nat.le_of_ble_eq_true rfl)) dX11_climatesThatCanBe_6 ⟨Nat.le_of_ble_eq_true rfl, Nat.le_of_ble_eq_true rfl⟩) (fun r9 e9 => ?_)
  rw [e9]
  refine lv_istore_n (lv' := [(2, .int r1), (0, .ref (a0 0)), (1, .int x1)]) hx hb dX11_climatesThatCanBe_9 rfl hl (by decide) rfl (fun ls hl => ?_)
  refine lv_aload_n hx hb dX11_climatesThatCanBe_10 rfl (lv_at hl 1 rfl) ?_
  refine va_get (D := D) (ci := 11) (v := .ref (a0 21)) (C := RX11) (T := TX11) (N := 13) hx hb hts hinX11 hown hK hP 0 rfl rfl 3 (by decide) (hts (.fieldLink RX11 29 "WheelBook" "books" "LWheelBook$Books;") (List.mem_of_getElem? (i := 1) rfl)) (fun _ h9 => h9) rfl dX11_climatesThatCanBe_11 ?_
  refine lv_iload_n hx hb dX11_climatesThatCanBe_14 rfl (lv_at hl 2 rfl) ?_
  refine lv_bipush (v := (7 : Int32)) hx hb dX11_climatesThatCanBe_15 (by decide) ?_
  obtain ⟨r2, hr2, hf⟩ := wb_b hf
  refine vp_callSi (W.runV (As := [.int x1, .int (7 : Int32)]) (rest := []) ⟨hx, hb, hml, hown, hts⟩ (cn_X1_degreeOf l D cB cI cZ N (wb_sh a0 21) (wb_sh I0 13) (wb_sh M0 13) x1 (7 : Int32) r2 hr2) (cwV 2 hts gX11_climatesThatCanBe_X1_degreeOf rfl rfl rfl cdX1_degreeOf ⟨Nat.le_of_ble_eq_true rfl, Nat.le_of_ble_eq_true rfl⟩) (wb_preV (hP.sub (ws' := (wWX1 cB cI cZ (wb_sh a0 21) (wb_sh I0 13) (wb_sh M0 13))) [21, 22, 23] rfl) hK (wr_1 hK hP (q0 := 21) rfl)) rfl rfl hl.1 rfl (lv_room (Nat.le_of_ble_eq_true rfl)) dX11_climatesThatCanBe_17 ⟨Nat.le_of_ble_eq_true rfl, Nat.le_of_ble_eq_true rfl⟩) (fun r9 e9 => ?_)
  rw [e9]
  refine lv_istore_n (lv' := [(3, .int r2), (2, .int r1), (0, .ref (a0 0)), (1, .int x1)]) hx hb dX11_climatesThatCanBe_20 rfl hl (by decide) rfl (fun ls hl => ?_)
  refine lv_iconst (v := (0 : Int32)) hx hb dX11_climatesThatCanBe_21 (by decide) ?_
  refine lv_istore (lv' := [(4, .int (0 : Int32)), (3, .int r2), (2, .int r1), (0, .ref (a0 0)), (1, .int x1)]) hx hb dX11_climatesThatCanBe_22 hl (by decide) rfl (fun ls hl => ?_)
  refine lv_iconst (v := (0 : Int32)) hx hb dX11_climatesThatCanBe_24 (by decide) ?_
  refine lv_istore (lv' := [(5, .int (0 : Int32)), (4, .int (0 : Int32)), (3, .int r2), (2, .int r1), (0, .ref (a0 0)), (1, .int x1)]) hx hb dX11_climatesThatCanBe_25 hl (by decide) rfl (fun ls hl => ?_)
  have L27 : ∀ (fu27 : Nat) (y27_4 : Int32) (y27_5 : Int32), ∀ (ls : Array Slot), lv_has ls 7 [(0, .ref (a0 0)), (1, .int x1), (2, .int r1), (3, .int r2), (4, .int y27_4), (5, .int y27_5)] → fX11_climatesThatCanBe_L27 N I0 M0 x1 r1 r2 fu27 y27_4 y27_5 = some R → W p l e (headSpec wsX11_climatesThatCanBe { frames := 5, cells := 0, slots := 0, locals := 126 }).room s m [.ref (a0 0), .int x1].toArray below meth c s.heap [] 0 0 (MQ below (vp_Si (fun r => r = R)) [.ref (a0 0), .int x1].toArray s 0 0 (fun _ => False)) (F0 m 27 ls []) := by
    intro fu27
    induction fu27 with
    | zero =>
      intro y27_4 y27_5 ls hl hf
      exact absurd hf (by rw [fX11_climatesThatCanBe_L27.eq_1]; exact fun h => nomatch h)
    | succ fu27 ih27 =>
      have J68 : ∀ (y68_4 : Int32) (y68_5 : Int32) (z68_0 : Int32), ∀ (ls : Array Slot), lv_has ls 7 [(0, .ref (a0 0)), (1, .int x1), (2, .int r1), (3, .int r2), (4, .int y68_4), (5, .int y68_5)] → fX11_climatesThatCanBe_J68 N I0 M0 x1 r1 r2 (fX11_climatesThatCanBe_L27 N I0 M0 x1 r1 r2 fu27) y68_4 y68_5 z68_0 = some R → W p l e (headSpec wsX11_climatesThatCanBe { frames := 5, cells := 0, slots := 0, locals := 126 }).room s m [.ref (a0 0), .int x1].toArray below meth c s.heap [] 0 0 (MQ below (vp_Si (fun r => r = R)) [.ref (a0 0), .int x1].toArray s 0 0 (fun _ => False)) (F0 m 68 ls [.int z68_0]) := by
        intro y68_4 y68_5 z68_0 ls hl hf
        unfold fX11_climatesThatCanBe_J68 at hf
        refine lv_istore (lv' := [(6, .int z68_0), (0, .ref (a0 0)), (1, .int x1), (2, .int r1), (3, .int r2), (4, .int y68_4), (5, .int y68_5)]) hx hb dX11_climatesThatCanBe_68 hl (by decide) rfl (fun ls hl => ?_)
        refine lv_iload hx hb dX11_climatesThatCanBe_70 (lv_at hl 0 rfl) ?_
        refine lv_if_eq (tgt := 101) hx hb dX11_climatesThatCanBe_72 (by decide) (fun hc => ?_) (fun hc => ?_)
        · replace hf := wb_t hc hf
          obtain ⟨v3, ev3, hf⟩ := wb_v hf
          refine lv_iinc (v := v3) (lv' := [(5, .int v3), (6, .int z68_0), (0, .ref (a0 0)), (1, .int x1), (2, .int r1), (3, .int r2), (4, .int y68_4)]) hx hb dX11_climatesThatCanBe_101 hl (k := 6) rfl (by rw [ev3]; rfl) (by decide) rfl (fun ls hl => ?_)
          refine lv_goto (tgt := 27) hx hb dX11_climatesThatCanBe_104 (by decide) ?_
          exact ih27 y68_4 v3 ls (lv_sub hl [2, 3, 4, 5, 6, 0] rfl) hf
        · replace hf := wb_f hc hf
          refine lv_aload_n hx hb dX11_climatesThatCanBe_75 rfl (lv_at hl 1 rfl) ?_
          refine va_get (D := D) (ci := 11) (v := .ref (a0 3)) (C := RX11) (T := TX11) (N := 13) hx hb hts hinX11 hown hK hP 0 rfl rfl 1 (by decide) (hts (.fieldLink RX11 19 "WheelBook" "told" "LWheelBook$House;") (List.mem_of_getElem? (i := 2) rfl)) (fun _ h9 => h9) rfl dX11_climatesThatCanBe_76 ?_
          refine va_get (D := D) (ci := 5) (v := .ref (a0 8)) (C := RX5) (T := TX5) (N := 6) hx hb hts hinX5 hown hK hP 3 rfl rfl 4 (by decide) (hts (.fieldLink RX11 131 "WheelBook$House" "climates" "LWheelBook$Climates;") (List.mem_of_getElem? (i := 3) rfl)) (fun _ h9 => h9) rfl dX11_climatesThatCanBe_79 ?_
          refine lv_iload hx hb dX11_climatesThatCanBe_82 (lv_at hl 6 rfl) ?_
          refine lv_iload_n hx hb dX11_climatesThatCanBe_84 rfl (lv_at hl 3 rfl) ?_
          refine lv_iload_n hx hb dX11_climatesThatCanBe_85 rfl (lv_at hl 4 rfl) ?_
          obtain ⟨r4, hr4, hf⟩ := wb_b hf
          refine vp_callSi (W.runV (As := [.int y68_5, .int r1, .int r2]) (rest := []) ⟨hx, hb, hml, hown, hts⟩ (cn_X2_hasHour l D cB cI cZ N (wb_sh a0 8) (wb_sh I0 9) (wb_sh M0 5) y68_5 r1 r2 r4 hr4) (cwV 3 hts gX11_climatesThatCanBe_X2_hasHour rfl rfl rfl cdX2_hasHour ⟨Nat.le_of_ble_eq_true rfl, Nat.le_of_ble_eq_true rfl⟩) (wb_preV (hP.sub (ws' := (wWX2 cB cI cZ (wb_sh a0 8) (wb_sh I0 9) (wb_sh M0 5))) [8, 9] rfl) hK (wr_2 hK hP (q0 := 8) rfl)) rfl rfl hl.1 rfl (lv_room (Nat.le_of_ble_eq_true rfl)) dX11_climatesThatCanBe_86 ⟨Nat.le_of_ble_eq_true rfl, Nat.le_of_ble_eq_true rfl⟩) (fun r9 e9 => ?_)
          rw [e9]
          refine lv_if_eq (tgt := 101) hx hb dX11_climatesThatCanBe_89 (by decide) (fun hc => ?_) (fun hc => ?_)
          · replace hf := wb_t hc hf
            obtain ⟨v5, ev5, hf⟩ := wb_v hf
            refine lv_iinc (v := v5) (lv' := [(5, .int v5), (6, .int z68_0), (0, .ref (a0 0)), (1, .int x1), (2, .int r1), (3, .int r2), (4, .int y68_4)]) hx hb dX11_climatesThatCanBe_101 hl (k := 6) rfl (by rw [ev5]; rfl) (by decide) rfl (fun ls hl => ?_)
            refine lv_goto (tgt := 27) hx hb dX11_climatesThatCanBe_104 (by decide) ?_
            exact ih27 y68_4 v5 ls (lv_sub hl [2, 3, 4, 5, 6, 0] rfl) hf
          · replace hf := wb_f hc hf
            refine lv_iload hx hb dX11_climatesThatCanBe_92 (lv_at hl 5 rfl) ?_
            refine lv_iconst (v := (1 : Int32)) hx hb dX11_climatesThatCanBe_94 (by decide) ?_
            refine lv_iload hx hb dX11_climatesThatCanBe_95 (lv_at hl 6 rfl) ?_
            refine lv_ishl hx hb dX11_climatesThatCanBe_97 ?_
            refine lv_ior hx hb dX11_climatesThatCanBe_98 ?_
            obtain ⟨v6, ev6, hf⟩ := wb_v hf
            refine wb_topi ev6 ?_
            refine lv_istore (lv' := [(4, .int v6), (6, .int z68_0), (0, .ref (a0 0)), (1, .int x1), (2, .int r1), (3, .int r2), (5, .int y68_5)]) hx hb dX11_climatesThatCanBe_99 hl (by decide) rfl (fun ls hl => ?_)
            obtain ⟨v7, ev7, hf⟩ := wb_v hf
            refine lv_iinc (v := v7) (lv' := [(5, .int v7), (4, .int v6), (6, .int z68_0), (0, .ref (a0 0)), (1, .int x1), (2, .int r1), (3, .int r2)]) hx hb dX11_climatesThatCanBe_101 hl (k := 6) rfl (by rw [ev7]; rfl) (by decide) rfl (fun ls hl => ?_)
            refine lv_goto (tgt := 27) hx hb dX11_climatesThatCanBe_104 (by decide) ?_
            exact ih27 v6 v7 ls (lv_sub hl [3, 4, 5, 6, 1, 0] rfl) hf
      intro y27_4 y27_5 ls hl hf
      rw [fX11_climatesThatCanBe_L27.eq_2] at hf
      refine lv_iload hx hb dX11_climatesThatCanBe_27 (lv_at hl 5 rfl) ?_
      refine lv_aload_n hx hb dX11_climatesThatCanBe_29 rfl (lv_at hl 0 rfl) ?_
      refine va_get (D := D) (ci := 11) (v := .ref (a0 3)) (C := RX11) (T := TX11) (N := 13) hx hb hts hinX11 hown hK hP 0 rfl rfl 1 (by decide) (hts (.fieldLink RX11 19 "WheelBook" "told" "LWheelBook$House;") (List.mem_of_getElem? (i := 2) rfl)) (fun _ h9 => h9) rfl dX11_climatesThatCanBe_30 ?_
      refine va_get (D := D) (ci := 5) (v := .ref (a0 8)) (C := RX5) (T := TX5) (N := 6) hx hb hts hinX5 hown hK hP 3 rfl rfl 4 (by decide) (hts (.fieldLink RX11 131 "WheelBook$House" "climates" "LWheelBook$Climates;") (List.mem_of_getElem? (i := 3) rfl)) (fun _ h9 => h9) rfl dX11_climatesThatCanBe_33 ?_
      refine va_get (D := D) (ci := 2) (v := .int (I0 9)) (C := RX2) (T := TX2) (N := 2) hx hb hts hinX2 hown hK hP 8 rfl rfl 1 (by decide) (hts (.fieldLink RX11 135 "WheelBook$Climates" "many" "I") (List.mem_of_getElem? (i := 4) rfl)) (fun _ h9 => h9) rfl dX11_climatesThatCanBe_36 ?_
      refine lv_icmp_ge (tgt := 107) hx hb dX11_climatesThatCanBe_39 (by decide) (fun hc => ?_) (fun hc => ?_)
      · replace hf := wb_t hc hf
        refine lv_iload hx hb dX11_climatesThatCanBe_107 (lv_at hl 4 rfl) ?_
        exact W.iret (v := y27_4) hx hb hr (fun t ht hW => ⟨_, rfl, Option.some.inj hf, ht⟩) (fun _ h => nomatch h) dX11_climatesThatCanBe_109
      · replace hf := wb_f hc hf
        refine lv_aload_n hx hb dX11_climatesThatCanBe_42 rfl (lv_at hl 0 rfl) ?_
        refine va_get (D := D) (ci := 11) (v := .ref (a0 21)) (C := RX11) (T := TX11) (N := 13) hx hb hts hinX11 hown hK hP 0 rfl rfl 3 (by decide) (hts (.fieldLink RX11 29 "WheelBook" "books" "LWheelBook$Books;") (List.mem_of_getElem? (i := 1) rfl)) (fun _ h9 => h9) rfl dX11_climatesThatCanBe_43 ?_
        refine lv_aload_n hx hb dX11_climatesThatCanBe_46 rfl (lv_at hl 0 rfl) ?_
        refine va_get (D := D) (ci := 11) (v := .ref (a0 3)) (C := RX11) (T := TX11) (N := 13) hx hb hts hinX11 hown hK hP 0 rfl rfl 1 (by decide) (hts (.fieldLink RX11 19 "WheelBook" "told" "LWheelBook$House;") (List.mem_of_getElem? (i := 2) rfl)) (fun _ h9 => h9) rfl dX11_climatesThatCanBe_47 ?_
        refine va_get (D := D) (ci := 5) (v := .ref (a0 8)) (C := RX5) (T := TX5) (N := 6) hx hb hts hinX5 hown hK hP 3 rfl rfl 4 (by decide) (hts (.fieldLink RX11 131 "WheelBook$House" "climates" "LWheelBook$Climates;") (List.mem_of_getElem? (i := 3) rfl)) (fun _ h9 => h9) rfl dX11_climatesThatCanBe_50 ?_
        refine lv_iload_n hx hb dX11_climatesThatCanBe_53 rfl (lv_at hl 1 rfl) ?_
        refine lv_iconst (v := (2 : Int32)) hx hb dX11_climatesThatCanBe_54 (by decide) ?_
        refine lv_iload hx hb dX11_climatesThatCanBe_55 (lv_at hl 5 rfl) ?_
        obtain ⟨r8, hr8, hf⟩ := wb_b hf
        refine vp_callSi (W.runV (As := [.ref (a0 8), .int x1, .int (2 : Int32), .int y27_5]) (rest := []) ⟨hx, hb, hml, hown, hts⟩ (cn_X1_howManyDiffer l D cB cI cZ N (wb_sh a0 21) (wb_sh I0 13) (wb_sh M0 13) (wb_sh a0 8) (wb_sh I0 9) (wb_sh M0 5) x1 (2 : Int32) y27_5 r8 hr8) (cwV 4 hts gX11_climatesThatCanBe_X1_howManyDiffer rfl rfl rfl cdX1_howManyDiffer ⟨Nat.le_of_ble_eq_true rfl, Nat.le_of_ble_eq_true rfl⟩) (wb_preV (hP.sub (ws' := ((wWX1 cB cI cZ (wb_sh a0 21) (wb_sh I0 13) (wb_sh M0 13)) ++ (wWX2 cB cI cZ (wb_sh a0 8) (wb_sh I0 9) (wb_sh M0 5)))) [21, 22, 23, 8, 9] rfl) hK (wr_1 hK hP (q0 := 21) rfl)) rfl rfl hl.1 rfl (lv_room (Nat.le_of_ble_eq_true rfl)) dX11_climatesThatCanBe_57 ⟨Nat.le_of_ble_eq_true rfl, Nat.le_of_ble_eq_true rfl⟩) (fun r9 e9 => ?_)
        rw [e9]
        refine lv_if_ne (tgt := 67) hx hb dX11_climatesThatCanBe_60 (by decide) (fun hc => ?_) (fun hc => ?_)
        · replace hf := wb_f hc hf
          refine lv_iconst (v := (0 : Int32)) hx hb dX11_climatesThatCanBe_67 (by decide) ?_
          exact J68 y27_4 y27_5 (0 : Int32) ls (lv_sub hl [0, 1, 2, 3, 4, 5] rfl) hf
        · replace hf := wb_t hc hf
          refine lv_iconst (v := (1 : Int32)) hx hb dX11_climatesThatCanBe_63 (by decide) ?_
          refine lv_goto (tgt := 68) hx hb dX11_climatesThatCanBe_64 (by decide) ?_
          exact J68 y27_4 y27_5 (1 : Int32) ls (lv_sub hl [0, 1, 2, 3, 4, 5] rfl) hf
  exact L27 N (0 : Int32) (0 : Int32) ls (lv_sub hl [4, 5, 3, 2, 1, 0] rfl) hf
