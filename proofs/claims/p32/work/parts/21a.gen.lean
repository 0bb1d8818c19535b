set_option maxHeartbeats 4000000 in
set_option maxRecDepth 100000 in
theorem cn_X11_feed (l : Launch) (D : va_G) (cB cI cZ : ClassId) (N : Nat) (a0 : Nat → Nat) (I0 : Nat → Int32) (M0 : Nat → Nat → Int32) (x1 : Int32) (x2 : Int32) (x3 : Int32) (x4 : Int32) (x5 : Int32) (sz : Nat) (R : Int32 × (Nat → Int32) × (Nat → Nat → Int32)) (hf : fX11_feed N I0 M0 x1 x2 x3 x4 x5 = some R) : Met l yX11_feed wsX11_feed ({ frames := 1, cells := 0, slots := 0, locals := 22 }) (va_Pc [.ref (a0 0), .int x1, .int x2, .int x3, .int x4, .int x5] (wb_preD D [(cB, .byte), (cI, .int), (cZ, .boolean)] (wWX11 cB cI cZ a0 I0 M0) sz)) (va_Qi (fun r (_ : Unit) => r = R.1) (fun _ t => wb_post D [(cB, .byte), (cI, .int), (cZ, .boolean)] (va_A (wWX11 cB cI cZ a0 I0 M0) sz) (wWX11 cB cI cZ a0 R.2.1 R.2.2) t) (va_A (wWX11 cB cI cZ a0 I0 M0) sz)) 0 0 (va_A (wWX11 cB cI cZ a0 I0 M0) sz) := by
  refine Met.ofW (cc := cX11_feed) (maxL := 6) (ret := (some .int)) pn_X11 rfl ?_
  intro p e s m args below meth c s₁ B hml hv
  obtain ⟨rfl, hsz, hP, hK, hD0⟩ := hv
  have hx := B.exec
  have hb := B.bytes
  have hr := B.returns
  have hts := atoms_spec (ws := wsX11_feed) B.pre
  have hown : s.vm.findClass RX11 = some m.cls := (findClass_of_methodNamed B.named :)
  have hlocks := B.notSynchronized
  have hinX11 : ∀ w ∈ u_ws RX11 TX11 13, w ∈ wsX11_feed := fun w h => List.mem_cons_of_mem _ (List.mem_append_left _ (List.mem_append_right _ h))
  have hinX9 : ∀ w ∈ u_ws RX9 TX9 10, w ∈ wsX11_feed := fun w h => List.mem_cons_of_mem _ (List.mem_append_right _ h)
  subst hsz
  have hD := hD0.self (sz := s.heap.size)
  generalize hAe : va_A (wWX11 cB cI cZ a0 I0 M0) s.heap.size = A at hD ⊢
  have hA : ∀ q : Nat, s.heap.size ≤ q → A q := fun q h => by rw [← hAe]; exact Or.inr h
  have hS : va_S A s.heap s.heap [] := va_S.rf
  have hl := lv_entry ([.ref (a0 0), .int x1, .int x2, .int x3, .int x4, .int x5]) (n := 6) (Nat.le_of_ble_eq_true rfl)
  rw [lg_entry_eq]
  generalize (lg_sl ([.ref (a0 0), .int x1, .int x2, .int x3, .int x4, .int x5]) ++ List.replicate (6 - (lg_sl ([.ref (a0 0), .int x1, .int x2, .int x3, .int x4, .int x5])).length) Slot.unset).toArray = ls at hl ⊢
  have hl : lv_has ls 6 [(0, .ref (a0 0)), (1, .int x1), (2, .int x2), (3, .int x3), (4, .int x4), (5, .int x5)] := hl
  unfold fX11_feed at hf
  obtain ⟨H, hHe⟩ : ∃ H : Heap, H = s.heap := ⟨_, rfl⟩
  obtain ⟨locs, hle⟩ : ∃ locs : List Loc, locs = [] := ⟨_, rfl⟩
  refine wb_start (H := H) (locs := locs) hHe hle ?_
  rw [← hHe] at hP
  have hS : va_S A s.heap H locs := by rw [hHe, hle]; exact va_S.rf
  refine lv_aload_n hx hb dX11_feed_0 rfl (lv_at hl 0 rfl) ?_
  refine va_get (D := D) (ci := 11) (v := .ref (a0 1)) (C := RX11) (T := TX11) (N := 13) hx hb hts hinX11 hown hK hP 0 rfl rfl 0 (by decide) (hts (.fieldLink RX11 10 "WheelBook" "text" "LWheelBook$Text;") (List.mem_of_getElem? (i := 1) rfl)) (fun _ h9 => h9) rfl dX11_feed_1 ?_
  obtain ⟨r1, hr1, hf⟩ := wb_b hf
  refine vp_callSi (W.runV (As := []) (rest := []) ⟨hx, hb, hml, hown, hts⟩ (cn_X9_hasRoom l D cB cI cZ N (wb_sh a0 1) I0 M0 r1 hr1) (cwV 0 hts gX11_feed_X9_hasRoom rfl rfl rfl cdX9_hasRoom ⟨Nat.le_of_ble_eq_true rfl, Nat.le_of_ble_eq_true rfl⟩) (wb_preV (hP.sub (ws' := (wWX9 cB cI cZ (wb_sh a0 1) I0 M0)) [1, 2] rfl) hK (wr_9 hK hP (q0 := 1) rfl)) rfl rfl hl.1 rfl (lv_room (Nat.le_of_ble_eq_true rfl)) dX11_feed_4 ⟨Nat.le_of_ble_eq_true rfl, Nat.le_of_ble_eq_true rfl⟩) (fun r9 e9 => ?_)
  rw [e9]
  refine lv_if_ne (tgt := 12) hx hb dX11_feed_7 (by decide) (fun hc => ?_) (fun hc => ?_)
  · replace hf := wb_f hc hf
    refine lv_aload_n hx hb dX11_feed_12 rfl (lv_at hl 0 rfl) ?_
    refine va_get (D := D) (ci := 11) (v := .ref (a0 1)) (C := RX11) (T := TX11) (N := 13) hx hb hts hinX11 hown hK hP 0 rfl rfl 0 (by decide) (hts (.fieldLink RX11 10 "WheelBook" "text" "LWheelBook$Text;") (List.mem_of_getElem? (i := 1) rfl)) (fun _ h9 => h9) rfl dX11_feed_13 ?_
    refine lv_iload_n hx hb dX11_feed_16 rfl (lv_at hl 1 rfl) ?_
    obtain ⟨r2, hr2, hf⟩ := wb_b hf
    have hPc := hP.sub (ws' := (wWX9 cB cI cZ (wb_sh a0 1) I0 M0)) [1, 2] rfl
    have hDc := hD.sub (ws' := (wWX9 cB cI cZ (wb_sh a0 1) I0 M0)) [1, 2] (by decide) rfl
    have hFc := va_free (wc := (wWX9 cB cI cZ (wb_sh a0 1) I0 M0)) hD hS hA [1, 2] rfl
    refine va_callv (va_runV (As := [.int x1]) (rest := []) ⟨hx, hb, hml, hown, hts⟩ (cn_X9_put l D cB cI cZ N (wb_sh a0 1) I0 M0 x1 H.size r2 hr2) (cwV 1 hts gX11_feed_X9_put rfl rfl rfl cdX9_put ⟨Nat.le_of_ble_eq_true rfl, Nat.le_of_ble_eq_true rfl⟩) (wb_preDV hPc hK hDc (wr_9 hK hP (q0 := 1) rfl)) rfl rfl hl.1 rfl (lv_room (Nat.le_of_ble_eq_true rfl)) dX11_feed_17 ⟨Nat.le_of_ble_eq_true rfl, Nat.le_of_ble_eq_true rfl⟩) hS (fun q _ h => hFc q h) hFc (fun u t H locs ht hvm hw hB hz1 hk1 hS => ?_)
    obtain ⟨hP, hD⟩ := wj_s (wc := (wWX9 cB cI cZ (wb_sh a0 1) I0 M0)) (w1 := (wWX9 cB cI cZ (wb_sh a0 1) r2.1 r2.2)) (wf := (wWX11 cB cI cZ a0 (wb_in I0 0 9 r2.1) (wb_in M0 0 1 r2.2))) 1 3 hP hD rfl rfl hk1 hFc ht hB
    obtain ⟨I0_3, eI0_3, hf⟩ := wb_v hf
    rw [← eI0_3] at hP hD
    obtain ⟨M0_4, eM0_4, hf⟩ := wb_v hf
    rw [← eM0_4] at hP hD
    refine lv_aload_n hx hb dX11_feed_20 rfl (lv_at hl 0 rfl) ?_
    refine va_get (D := D) (ci := 11) (v := .ref (a0 1)) (C := RX11) (T := TX11) (N := 13) hx hb hts hinX11 hown hK hP 0 rfl rfl 0 (by decide) (hts (.fieldLink RX11 10 "WheelBook" "text" "LWheelBook$Text;") (List.mem_of_getElem? (i := 1) rfl)) (fun _ h9 => h9) rfl dX11_feed_21 ?_
    refine lv_iload_n hx hb dX11_feed_24 rfl (lv_at hl 2 rfl) ?_
    obtain ⟨r5, hr5, hf⟩ := wb_b hf
    have hPc := hP.sub (ws' := (wWX9 cB cI cZ (wb_sh a0 1) I0_3 M0_4)) [1, 2] rfl
    have hDc := hD.sub (ws' := (wWX9 cB cI cZ (wb_sh a0 1) I0_3 M0_4)) [1, 2] (by decide) rfl
    have hFc := va_free (wc := (wWX9 cB cI cZ (wb_sh a0 1) I0_3 M0_4)) hD hS hA [1, 2] rfl
    refine va_callv (va_runV (As := [.int x2]) (rest := []) ⟨hx, hb, hml, hown, hts⟩ (cn_X9_put l D cB cI cZ N (wb_sh a0 1) I0_3 M0_4 x2 H.size r5 hr5) (cwV 1 hts gX11_feed_X9_put rfl rfl rfl cdX9_put ⟨Nat.le_of_ble_eq_true rfl, Nat.le_of_ble_eq_true rfl⟩) (wb_preDV hPc hK hDc (wr_9 hK hP (q0 := 1) rfl)) rfl rfl hl.1 rfl (lv_room (Nat.le_of_ble_eq_true rfl)) dX11_feed_25 ⟨Nat.le_of_ble_eq_true rfl, Nat.le_of_ble_eq_true rfl⟩) hS (fun q _ h => hFc q h) hFc (fun u t H locs ht hvm hw hB hz1 hk1 hS => ?_)
    obtain ⟨hP, hD⟩ := wj_s (wc := (wWX9 cB cI cZ (wb_sh a0 1) I0_3 M0_4)) (w1 := (wWX9 cB cI cZ (wb_sh a0 1) r5.1 r5.2)) (wf := (wWX11 cB cI cZ a0 (wb_in I0_3 0 9 r5.1) (wb_in M0_4 0 1 r5.2))) 1 3 hP hD rfl rfl hk1 hFc ht hB
    obtain ⟨I0_6, eI0_6, hf⟩ := wb_v hf
    rw [← eI0_6] at hP hD
    obtain ⟨M0_7, eM0_7, hf⟩ := wb_v hf
    rw [← eM0_7] at hP hD
    refine lv_aload_n hx hb dX11_feed_28 rfl (lv_at hl 0 rfl) ?_
    refine va_get (D := D) (ci := 11) (v := .ref (a0 1)) (C := RX11) (T := TX11) (N := 13) hx hb hts hinX11 hown hK hP 0 rfl rfl 0 (by decide) (hts (.fieldLink RX11 10 "WheelBook" "text" "LWheelBook$Text;") (List.mem_of_getElem? (i := 1) rfl)) (fun _ h9 => h9) rfl dX11_feed_29 ?_
    refine lv_iload_n hx hb dX11_feed_32 rfl (lv_at hl 3 rfl) ?_
    obtain ⟨r8, hr8, hf⟩ := wb_b hf
    have hPc := hP.sub (ws' := (wWX9 cB cI cZ (wb_sh a0 1) I0_6 M0_7)) [1, 2] rfl
    have hDc := hD.sub (ws' := (wWX9 cB cI cZ (wb_sh a0 1) I0_6 M0_7)) [1, 2] (by decide) rfl
    have hFc := va_free (wc := (wWX9 cB cI cZ (wb_sh a0 1) I0_6 M0_7)) hD hS hA [1, 2] rfl
    refine va_callv (va_runV (As := [.int x3]) (rest := []) ⟨hx, hb, hml, hown, hts⟩ (cn_X9_put l D cB cI cZ N (wb_sh a0 1) I0_6 M0_7 x3 H.size r8 hr8) (cwV 1 hts gX11_feed_X9_put rfl rfl rfl cdX9_put ⟨Nat.le_of_ble_eq_true rfl, Nat.le_of_ble_eq_true rfl⟩) (wb_preDV hPc hK hDc (wr_9 hK hP (q0 := 1) rfl)) rfl rfl hl.1 rfl (lv_room (Nat.le_of_ble_eq_true rfl)) dX11_feed_33 ⟨Nat.le_of_ble_eq_true rfl, Nat.le_of_ble_eq_true rfl⟩) hS (fun q _ h => hFc q h) hFc (fun u t H locs ht hvm hw hB hz1 hk1 hS => ?_)
    obtain ⟨hP, hD⟩ := wj_s (wc := (wWX9 cB cI cZ (wb_sh a0 1) I0_6 M0_7)) (w1 := (wWX9 cB cI cZ (wb_sh a0 1) r8.1 r8.2)) (wf := (wWX11 cB cI cZ a0 (wb_in I0_6 0 9 r8.1) (wb_in M0_7 0 1 r8.2))) 1 3 hP hD rfl rfl hk1 hFc ht hB
    obtain ⟨I0_9, eI0_9, hf⟩ := wb_v hf
    rw [← eI0_9] at hP hD
    obtain ⟨M0_10, eM0_10, hf⟩ := wb_v hf
    rw [← eM0_10] at hP hD
    refine lv_aload_n hx hb dX11_feed_36 rfl (lv_at hl 0 rfl) ?_
    refine va_get (D := D) (ci := 11) (v := .ref (a0 1)) (C := RX11) (T := TX11) (N := 13) hx hb hts hinX11 hown hK hP 0 rfl rfl 0 (by decide) (hts (.fieldLink RX11 10 "WheelBook" "text" "LWheelBook$Text;") (List.mem_of_getElem? (i := 1) rfl)) (fun _ h9 => h9) rfl dX11_feed_37 ?_
    refine lv_iload hx hb dX11_feed_40 (lv_at hl 4 rfl) ?_
    obtain ⟨r11, hr11, hf⟩ := wb_b hf
    have hPc := hP.sub (ws' := (wWX9 cB cI cZ (wb_sh a0 1) I0_9 M0_10)) [1, 2] rfl
    have hDc := hD.sub (ws' := (wWX9 cB cI cZ (wb_sh a0 1) I0_9 M0_10)) [1, 2] (by decide) rfl
    have hFc := va_free (wc := (wWX9 cB cI cZ (wb_sh a0 1) I0_9 M0_10)) hD hS hA [1, 2] rfl
    refine va_callv (va_runV (As := [.int x4]) (rest := []) ⟨hx, hb, hml, hown, hts⟩ (cn_X9_put l D cB cI cZ N (wb_sh a0 1) I0_9 M0_10 x4 H.size r11 hr11) (cwV 1 hts gX11_feed_X9_put rfl rfl rfl cdX9_put ⟨Nat.le_of_ble_eq_true rfl, Nat.le_of_ble_eq_true rfl⟩) (wb_preDV hPc hK hDc (wr_9 hK hP (q0 := 1) rfl)) rfl rfl hl.1 rfl (lv_room (Nat.le_of_ble_eq_true rfl)) dX11_feed_42 ⟨Nat.le_of_ble_eq_true rfl, Nat.le_of_ble_eq_true rfl⟩) hS (fun q _ h => hFc q h) hFc (fun u t H locs ht hvm hw hB hz1 hk1 hS => ?_)
    obtain ⟨hP, hD⟩ := wj_s (wc := (wWX9 cB cI cZ (wb_sh a0 1) I0_9 M0_10)) (w1 := (wWX9 cB cI cZ (wb_sh a0 1) r11.1 r11.2)) (wf := (wWX11 cB cI cZ a0 (wb_in I0_9 0 9 r11.1) (wb_in M0_10 0 1 r11.2))) 1 3 hP hD rfl rfl hk1 hFc ht hB
    obtain ⟨I0_12, eI0_12, hf⟩ := wb_v hf
    rw [← eI0_12] at hP hD
    obtain ⟨M0_13, eM0_13, hf⟩ := wb_v hf
    rw [← eM0_13] at hP hD
    refine lv_aload_n hx hb dX11_feed_45 rfl (lv_at hl 0 rfl) ?_
    refine va_get (D := D) (ci := 11) (v := .ref (a0 1)) (C := RX11) (T := TX11) (N := 13) hx hb hts hinX11 hown hK hP 0 rfl rfl 0 (by decide) (hts (.fieldLink RX11 10 "WheelBook" "text" "LWheelBook$Text;") (List.mem_of_getElem? (i := 1) rfl)) (fun _ h9 => h9) rfl dX11_feed_46 ?_
    refine lv_iload hx hb dX11_feed_49 (lv_at hl 5 rfl) ?_
    obtain ⟨r14, hr14, hf⟩ := wb_b hf
    have hPc := hP.sub (ws' := (wWX9 cB cI cZ (wb_sh a0 1) I0_12 M0_13)) [1, 2] rfl
    have hDc := hD.sub (ws' := (wWX9 cB cI cZ (wb_sh a0 1) I0_12 M0_13)) [1, 2] (by decide) rfl
    have hFc := va_free (wc := (wWX9 cB cI cZ (wb_sh a0 1) I0_12 M0_13)) hD hS hA [1, 2] rfl
    refine va_callv (va_runV (As := [.int x5]) (rest := []) ⟨hx, hb, hml, hown, hts⟩ (cn_X9_put l D cB cI cZ N (wb_sh a0 1) I0_12 M0_13 x5 H.size r14 hr14) (cwV 1 hts gX11_feed_X9_put rfl rfl rfl cdX9_put ⟨Nat.le_of_ble_eq_true rfl, Nat.le_of_ble_eq_true rfl⟩) (wb_preDV hPc hK hDc (wr_9 hK hP (q0 := 1) rfl)) rfl rfl hl.1 rfl (lv_room (Nat.le_of_ble_eq_true rfl)) dX11_feed_51 ⟨Nat.le_of_ble_eq_true rfl, Nat.le_of_ble_eq_true rfl⟩) hS (fun q _ h => hFc q h) hFc (fun u t H locs ht hvm hw hB hz1 hk1 hS => ?_)
    obtain ⟨hP, hD⟩ := wj_s (wc := (wWX9 cB cI cZ (wb_sh a0 1) I0_12 M0_13)) (w1 := (wWX9 cB cI cZ (wb_sh a0 1) r14.1 r14.2)) (wf := (wWX11 cB cI cZ a0 (wb_in I0_12 0 9 r14.1) (wb_in M0_13 0 1 r14.2))) 1 3 hP hD rfl rfl hk1 hFc ht hB
    obtain ⟨I0_15, eI0_15, hf⟩ := wb_v hf
    rw [← eI0_15] at hP hD
    obtain ⟨M0_16, eM0_16, hf⟩ := wb_v hf
    rw [← eM0_16] at hP hD
    refine lv_aload_n hx hb dX11_feed_54 rfl (lv_at hl 0 rfl) ?_
    refine va_get (D := D) (ci := 11) (v := .ref (a0 1)) (C := RX11) (T := TX11) (N := 13) hx hb hts hinX11 hown hK hP 0 rfl rfl 0 (by decide) (hts (.fieldLink RX11 10 "WheelBook" "text" "LWheelBook$Text;") (List.mem_of_getElem? (i := 1) rfl)) (fun _ h9 => h9) rfl dX11_feed_55 ?_
    refine va_get (D := D) (ci := 9) (v := .int (I0_15 0)) (C := RX9) (T := TX9) (N := 10) hx hb hts hinX9 hown hK hP 1 rfl rfl 1 (by decide) (hts (.fieldLink RX11 92 "WheelBook$Text" "length" "I") (List.mem_of_getElem? (i := 2) rfl)) (fun _ h9 => h9) rfl dX11_feed_58 ?_
    exact W.iret (v := (I0_15 0)) hx hb hr (fun t ht hW => by rw [← Option.some.inj hf]; exact ⟨⟨(I0_15 0), (), rfl, rfl, by rw [ht]; exact hP, va_K.moved hW.alike hK, hD⟩, hS.F ht⟩) hS.2.2 dX11_feed_61
  · replace hf := wb_t hc hf
    refine lv_iconst (v := (-1 : Int32)) hx hb dX11_feed_10 (by decide) ?_
    exact W.iret (v := (-1 : Int32)) hx hb hr (fun t ht hW => by rw [← Option.some.inj hf]; exact ⟨⟨(-1 : Int32), (), rfl, rfl, by rw [ht]; exact hP, va_K.moved hW.alike hK, hD⟩, hS.F ht⟩) hS.2.2 dX11_feed_11

set_option maxHeartbeats 4000000 in
set_option maxRecDepth 100000 in
theorem cn_X11_within (l : Launch) (D : va_G) (cB cI cZ : ClassId) (N : Nat) (x0 : Int32) (x1 : Int32) (x2 : Int32) (R : Int32) (hf : fX11_within N x0 x1 x2 = some R) : Met l yX11_within wsX11_within ({ frames := 0, cells := 0, slots := 0, locals := 0 }) (va_Pc [.int x0, .int x1, .int x2] (wb_pre D [(cB, .byte), (cI, .int), (cZ, .boolean)] ([] : va_W))) (vp_Si (fun r => r = R)) 0 0 (fun _ => False) := by
  refine Met.ofW (cc := cX11_within) (maxL := 3) (ret := (some .boolean)) pn_X11 rfl ?_
  intro p e s m args below meth c s₁ B hml hv
  obtain ⟨rfl, hP, hK⟩ := hv
  have hx := B.exec
  have hb := B.bytes
  have hr := B.returns
  have hts := atoms_spec (ws := wsX11_within) B.pre
  have hown : s.vm.findClass RX11 = some m.cls := (findClass_of_methodNamed B.named :)
  have hlocks := B.notSynchronized
  have hl := lv_entry ([.int x0, .int x1, .int x2]) (n := 3) (Nat.le_of_ble_eq_true rfl)
  rw [lg_entry_eq]
  generalize (lg_sl ([.int x0, .int x1, .int x2]) ++ List.replicate (3 - (lg_sl ([.int x0, .int x1, .int x2])).length) Slot.unset).toArray = ls at hl ⊢
  have hl : lv_has ls 3 [(0, .int x0), (1, .int x1), (2, .int x2)] := hl
  unfold fX11_within at hf
  refine lv_iload_n hx hb dX11_within_0 rfl (lv_at hl 0 rfl) ?_
  refine lv_iload_n hx hb dX11_within_1 rfl (lv_at hl 1 rfl) ?_
  refine lv_icmp_lt (tgt := 14) hx hb dX11_within_2 (by decide) (fun hc => ?_) (fun hc => ?_)
  · replace hf := wb_t hc hf
    refine lv_iconst (v := (0 : Int32)) hx hb dX11_within_14 (by decide) ?_
    exact W.zret (v := (0 : Int32)) hx hb hr (by decide) (fun t ht hW => ⟨_, rfl, Option.some.inj hf, ht⟩) (fun _ h => nomatch h) dX11_within_15
  · replace hf := wb_f hc hf
    refine lv_iload_n hx hb dX11_within_5 rfl (lv_at hl 0 rfl) ?_
    refine lv_iload_n hx hb dX11_within_6 rfl (lv_at hl 2 rfl) ?_
    refine lv_icmp_gt (tgt := 14) hx hb dX11_within_7 (by decide) (fun hc => ?_) (fun hc => ?_)
    · replace hf := wb_t hc hf
      refine lv_iconst (v := (0 : Int32)) hx hb dX11_within_14 (by decide) ?_
      exact W.zret (v := (0 : Int32)) hx hb hr (by decide) (fun t ht hW => ⟨_, rfl, Option.some.inj hf, ht⟩) (fun _ h => nomatch h) dX11_within_15
    · replace hf := wb_f hc hf
      refine lv_iconst (v := (1 : Int32)) hx hb dX11_within_10 (by decide) ?_
      refine lv_goto (tgt := 15) hx hb dX11_within_11 (by decide) ?_
      exact W.zret (v := (1 : Int32)) hx hb hr (by decide) (fun t ht hW => ⟨_, rfl, Option.some.inj hf, ht⟩) (fun _ h => nomatch h) dX11_within_15

set_option maxHeartbeats 4000000 in
set_option maxRecDepth 100000 in
theorem cn_X11_allow (l : Launch) (D : va_G) (cB cI cZ : ClassId) (N : Nat) (x0 : Int32) (R : Unit) (hf : fX11_allow N x0 = some (.inr R)) : Met l yX11_allow wsX11_allow ({ frames := 6, cells := 0, slots := 0, locals := 120 }) (va_Pc [.int x0] (wb_pre D [(cB, .byte), (cI, .int), (cZ, .boolean)] ([] : va_W))) (va_Sv (fun _ => True)) 0 0 (fun _ => False) := by
  refine Met.ofW (cc := cX11_allow) (maxL := 1) (ret := none) pn_X11 rfl ?_
  intro p e s m args below meth c s₁ B hml hv
  obtain ⟨rfl, hP, hK⟩ := hv
  have hx := B.exec
  have hb := B.bytes
  have hr := B.returns
  have hts := atoms_spec (ws := wsX11_allow) B.pre
  have hown : s.vm.findClass RX11 = some m.cls := (findClass_of_methodNamed B.named :)
  have hlocks := B.notSynchronized
  have hl := lv_entry ([.int x0]) (n := 1) (Nat.le_of_ble_eq_true rfl)
  rw [lg_entry_eq]
  generalize (lg_sl ([.int x0]) ++ List.replicate (1 - (lg_sl ([.int x0])).length) Slot.unset).toArray = ls at hl ⊢
  have hl : lv_has ls 1 [(0, .int x0)] := hl
  unfold fX11_allow at hf
  refine lv_iload_n hx hb dX11_allow_0 rfl (lv_at hl 0 rfl) ?_
  refine lv_if_ne (tgt := 15) hx hb dX11_allow_1 (by decide) (fun hc => ?_) (fun hc => ?_)
  · replace hf := wb_f hc hf
    replace hf := wb_okr hf
    exact W.vret hx hb hr (fun t ht hW => ⟨rfl, trivial, ht⟩) (fun _ h => nomatch h) dX11_allow_15
  · replace hf := wb_t hc hf
    exact absurd hf (fun h => nomatch (Option.some.inj h))
set_option maxHeartbeats 4000000 in
set_option maxRecDepth 100000 in
theorem ct_X11_allow (l : Launch) (hlt : l.stackTraces = false) (D : va_G) (cB cI cZ : ClassId) (N : Nat) (x0 : Int32) (sz k : Nat) (hf : fX11_allow N x0 = some (.inl k)) : vx_Met l yX11_allow wsX11_allow ({ frames := 6, cells := 1, slots := 6, locals := 120 }) (va_Pc [.int x0] (wb_preX D [(cB, .byte), (cI, .int), (cZ, .boolean)] ([] : va_W) sz)) (va_Qv (fun _ : Unit => False) (fun _ _ => True) (fun q => sz ≤ q)) (vx_X (fun _ : Unit => True) (fun E _ _ => E = wb_ex k) (fun q => sz ≤ q)) 1 6 (fun q => sz ≤ q) := by
  refine vx_ofW (cc := cX11_allow) (maxL := 1) (ret := none) (by decide) rfl ?_
  intro p e s m args below meth c s₁ B hml htab hv
  obtain ⟨rfl, hsz, hP, hK, hX⟩ := hv
  subst hsz
  have hx := B.exec
  have hb := B.bytes
  have hr := B.returns
  have hts := atoms_spec (ws := wsX11_allow) B.pre
  have hown : s.vm.findClass RX11 = some m.cls := (findClass_of_methodNamed B.named :)
  have hlocks := B.notSynchronized
  have hS : va_S (fun q => s.heap.size ≤ q) s.heap s.heap [] := va_S.rf
  have hts9 : ∀ w ∈ (vx_atS RX11 377 "java/lang/IllegalArgumentException" ["java/lang/RuntimeException", "java/lang/Exception"]).filter goodWord, w.before _ s = true := fun w h => hts w (List.mem_cons_of_mem _ (List.mem_append_right _ h))
  have hl := lv_entry ([.int x0]) (n := 1) (Nat.le_of_ble_eq_true rfl)
  rw [lg_entry_eq]
  generalize (lg_sl ([.int x0]) ++ List.replicate (1 - (lg_sl ([.int x0])).length) Slot.unset).toArray = ls at hl ⊢
  have hl : lv_has ls 1 [(0, .int x0)] := hl
  unfold fX11_allow at hf
  refine lv_iload_n hx hb dX11_allow_0 rfl (lv_at hl 0 rfl) ?_
  refine lv_if_ne (tgt := 15) hx hb dX11_allow_1 (by decide) (fun hc => ?_) (fun hc => ?_)
  · replace hf := wb_f hc hf
    exact absurd hf wb_okn
  · replace hf := wb_t hc hf
    obtain rfl : (2 : Nat) = k := Sum.inl.inj (Option.some.inj hf)
    exact wb_throwW2 hx hb hlt hown (hts (.classLink RX11 373 "java/lang/IllegalArgumentException") (List.mem_of_getElem? (i := 1) rfl)) (hts (.initialized "java/lang/IllegalArgumentException") (List.mem_of_getElem? (i := 2) rfl)) (hts9) hX hS (hl.1.trans hml.symm) dX11_allow_4 dX11_allow_7 dX11_allow_8 dX11_allow_11 dX11_allow_14 (fun x hx9 => (htab x hx9).elim) hlocks (Nat.le_of_ble_eq_true rfl) (Nat.le_of_ble_eq_true rfl) (Nat.le_of_ble_eq_true rfl) (Nat.le_of_ble_eq_true rfl)

set_option maxHeartbeats 4000000 in
set_option maxRecDepth 100000 in
theorem cn_X11_house (l : Launch) (D : va_G) (cB cI cZ : ClassId) (N : Nat) (aK aV : Nat → Nat) (a0 : Nat → Nat) (I0 : Nat → Int32) (M0 : Nat → Nat → Int32) (x1 : Int32) (sz : Nat) (R : Int32 × (Nat → Int32) × (Nat → Nat → Int32)) (hf : fX11_house N I0 M0 x1 = some (.inr R)) : Met l yX11_house wsX11_house ({ frames := 9, cells := 0, slots := 0, locals := 232 }) (va_Pc [.ref (a0 0), .int x1] (wb_preDE D [(cB, .byte), (cI, .int), (cZ, .boolean)] (wWX11 cB cI cZ a0 I0 M0) sz aK aV)) (va_Qi (fun r (_ : Unit) => r = R.1) (fun _ t => wb_post D [(cB, .byte), (cI, .int), (cZ, .boolean)] (va_A (wWX11 cB cI cZ a0 I0 M0) sz) (wWX11 cB cI cZ a0 R.2.1 R.2.2) t) (va_A (wWX11 cB cI cZ a0 I0 M0) sz)) 0 0 (va_A (wWX11 cB cI cZ a0 I0 M0) sz) := by
  refine Met.ofW (cc := cX11_house) (maxL := 2) (ret := (some .int)) pn_X11 rfl ?_
  intro p e s m args below meth c s₁ B hml hv
  obtain ⟨rfl, ⟨hsz, hP, hK, hD0⟩, hZ⟩ := hv
  have hx := B.exec
  have hb := B.bytes
  have hr := B.returns
  have hts := atoms_spec (ws := wsX11_house) B.pre
  have hown : s.vm.findClass RX11 = some m.cls := (findClass_of_methodNamed B.named :)
  have hlocks := B.notSynchronized
  have hinX11 : ∀ w ∈ u_ws RX11 TX11 13, w ∈ wsX11_house := fun w h => List.mem_cons_of_mem _ (List.mem_append_left _ (List.mem_append_left _ (List.mem_append_left _ (List.mem_append_left _ (List.mem_append_left _ (List.mem_append_right _ h))))))
  have hinX9 : ∀ w ∈ u_ws RX9 TX9 10, w ∈ wsX11_house := fun w h => List.mem_cons_of_mem _ (List.mem_append_left _ (List.mem_append_left _ (List.mem_append_left _ (List.mem_append_left _ (List.mem_append_right _ h)))))
  subst hsz
  have hD := hD0.self (sz := s.heap.size)
  generalize hAe : va_A (wWX11 cB cI cZ a0 I0 M0) s.heap.size = A at hD hZ ⊢
  have hA : ∀ q : Nat, s.heap.size ≤ q → A q := fun q h => by rw [← hAe]; exact Or.inr h
  have hS : va_S A s.heap s.heap [] := va_S.rf
  have hl := lv_entry ([.ref (a0 0), .int x1]) (n := 2) (Nat.le_of_ble_eq_true rfl)
  rw [lg_entry_eq]
  generalize (lg_sl ([.ref (a0 0), .int x1]) ++ List.replicate (2 - (lg_sl ([.ref (a0 0), .int x1])).length) Slot.unset).toArray = ls at hl ⊢
  have hl : lv_has ls 2 [(0, .ref (a0 0)), (1, .int x1)] := hl
  unfold fX11_house at hf
  obtain ⟨H, hHe⟩ : ∃ H : Heap, H = s.heap := ⟨_, rfl⟩
  obtain ⟨locs, hle⟩ : ∃ locs : List Loc, locs = [] := ⟨_, rfl⟩
  refine wb_start (H := H) (locs := locs) hHe hle ?_
  rw [← hHe] at hP
  have hS : va_S A s.heap H locs := by rw [hHe, hle]; exact va_S.rf
  refine lv_iload_n hx hb dX11_house_0 rfl (lv_at hl 1 rfl) ?_
  refine lv_iconst (v := (0 : Int32)) hx hb dX11_house_1 (by decide) ?_
  refine lv_aload_n hx hb dX11_house_2 rfl (lv_at hl 0 rfl) ?_
  refine va_get (D := D) (ci := 11) (v := .ref (a0 1)) (C := RX11) (T := TX11) (N := 13) hx hb hts hinX11 hown hK hP 0 rfl rfl 0 (by decide) (hts (.fieldLink RX11 10 "WheelBook" "text" "LWheelBook$Text;") (List.mem_of_getElem? (i := 1) rfl)) (fun _ h9 => h9) rfl dX11_house_3 ?_
  refine va_get (D := D) (ci := 9) (v := .int (I0 0)) (C := RX9) (T := TX9) (N := 10) hx hb hts hinX9 hown hK hP 1 rfl rfl 1 (by decide) (hts (.fieldLink RX11 92 "WheelBook$Text" "length" "I") (List.mem_of_getElem? (i := 2) rfl)) (fun _ h9 => h9) rfl dX11_house_6 ?_
  obtain ⟨r1, hr1, hf⟩ := wb_b hf
  refine vp_callSi (W.runS (As := [.int x1, .int (0 : Int32), .int (I0 0)]) (rest := []) ⟨hx, hb, hml, hown, hts⟩ (cn_X11_within l D cB cI cZ N x1 (0 : Int32) (I0 0) r1 hr1) (va_cwS 3 hts gX11_house_X11_within rfl rfl rfl csX11_within ⟨Nat.le_of_ble_eq_true rfl, Nat.le_of_ble_eq_true rfl⟩) (wb_preS (hP.sub (ws' := ([] : va_W)) [] rfl) hK) rfl rfl hl.1 rfl (lv_room (Nat.le_of_ble_eq_true rfl)) dX11_house_9 ⟨Nat.le_of_ble_eq_true rfl, Nat.le_of_ble_eq_true rfl⟩) (fun r9 e9 => ?_)
  rw [e9]
  obtain ⟨r2, hr2, hf⟩ := wb_xr hf
  refine va_csv (W.runS (As := [.int r1]) (rest := []) ⟨hx, hb, hml, hown, hts⟩ (cn_X11_allow l D cB cI cZ N r1 r2 hr2) (va_cwS 1 hts gX11_house_X11_allow rfl rfl rfl csX11_allow ⟨Nat.le_of_ble_eq_true rfl, Nat.le_of_ble_eq_true rfl⟩) (wb_preS (hP.sub (ws' := ([] : va_W)) [] rfl) hK) rfl rfl hl.1 rfl (lv_room (Nat.le_of_ble_eq_true rfl)) dX11_house_12 ⟨Nat.le_of_ble_eq_true rfl, Nat.le_of_ble_eq_true rfl⟩) (fun _ => ?_)
  replace hf := wb_okr hf
  refine lv_aload_n hx hb dX11_house_15 rfl (lv_at hl 0 rfl) ?_
  refine va_get (D := D) (ci := 11) (v := .ref (a0 1)) (C := RX11) (T := TX11) (N := 13) hx hb hts hinX11 hown hK hP 0 rfl rfl 0 (by decide) (hts (.fieldLink RX11 10 "WheelBook" "text" "LWheelBook$Text;") (List.mem_of_getElem? (i := 1) rfl)) (fun _ h9 => h9) rfl dX11_house_16 ?_
  refine lv_iload_n hx hb dX11_house_19 rfl (lv_at hl 1 rfl) ?_
  obtain ⟨r3, hr3, hf⟩ := wb_b hf
  have hPc := hP.sub (ws' := (wWX9 cB cI cZ (wb_sh a0 1) I0 M0)) [1, 2] rfl
  have hDc := hD.sub (ws' := (wWX9 cB cI cZ (wb_sh a0 1) I0 M0)) [1, 2] (by decide) rfl
  have hFc := va_free (wc := (wWX9 cB cI cZ (wb_sh a0 1) I0 M0)) hD hS hA [1, 2] rfl
  refine va_callv (va_runV (As := [.int x1]) (rest := []) ⟨hx, hb, hml, hown, hts⟩ (cn_X9_begin l D cB cI cZ N (wb_sh a0 1) I0 M0 x1 H.size r3 hr3) (cwV 1 hts gX11_house_X9_begin rfl rfl rfl cdX9_begin ⟨Nat.le_of_ble_eq_true rfl, Nat.le_of_ble_eq_true rfl⟩) (wb_preDV hPc hK hDc (wr_9 hK hP (q0 := 1) rfl)) rfl rfl hl.1 rfl (lv_room (Nat.le_of_ble_eq_true rfl)) dX11_house_20 ⟨Nat.le_of_ble_eq_true rfl, Nat.le_of_ble_eq_true rfl⟩) hS (fun q _ h => hFc q h) hFc (fun u t H locs ht hvm hw hB hz1 hk1 hS => ?_)
  obtain ⟨hP, hD⟩ := wj_s (wc := (wWX9 cB cI cZ (wb_sh a0 1) I0 M0)) (w1 := (wWX9 cB cI cZ (wb_sh a0 1) r3.1 r3.2)) (wf := (wWX11 cB cI cZ a0 (wb_in I0 0 9 r3.1) (wb_in M0 0 1 r3.2))) 1 3 hP hD rfl rfl hk1 hFc ht hB
  obtain ⟨I0_4, eI0_4, hf⟩ := wb_v hf
  rw [← eI0_4] at hP hD
  obtain ⟨M0_5, eM0_5, hf⟩ := wb_v hf
  rw [← eM0_5] at hP hD
  refine lv_aload_n hx hb dX11_house_23 rfl (lv_at hl 0 rfl) ?_
  refine va_get (D := D) (ci := 11) (v := .ref (a0 12)) (C := RX11) (T := TX11) (N := 13) hx hb hts hinX11 hown hK hP 0 rfl rfl 2 (by decide) (hts (.fieldLink RX11 23 "WheelBook" "draft" "LWheelBook$House;") (List.mem_of_getElem? (i := 3) rfl)) (fun _ h9 => h9) rfl dX11_house_24 ?_
  refine lv_aload_n hx hb dX11_house_27 rfl (lv_at hl 0 rfl) ?_
  refine va_get (D := D) (ci := 11) (v := .ref (a0 3)) (C := RX11) (T := TX11) (N := 13) hx hb hts hinX11 hown hK hP 0 rfl rfl 1 (by decide) (hts (.fieldLink RX11 19 "WheelBook" "told" "LWheelBook$House;") (List.mem_of_getElem? (i := 4) rfl)) (fun _ h9 => h9) rfl dX11_house_28 ?_
  obtain ⟨r6, hr6, hf⟩ := wb_b hf
  have hPc := hP.sub (ws' := ((wWX5 cB cI cZ (wb_sh a0 12) (wb_sh I0_4 11) (wb_sh M0_5 7)) ++ (wWX5 cB cI cZ (wb_sh a0 3) (wb_sh I0_4 9) (wb_sh M0_5 1)))) [12, 13, 14, 15, 16, 17, 18, 19, 20, 3, 4, 5, 6, 7, 8, 9, 10, 11] rfl
  have hDc := hD.sub (ws' := ((wWX5 cB cI cZ (wb_sh a0 12) (wb_sh I0_4 11) (wb_sh M0_5 7)) ++ (wWX5 cB cI cZ (wb_sh a0 3) (wb_sh I0_4 9) (wb_sh M0_5 1)))) [12, 13, 14, 15, 16, 17, 18, 19, 20, 3, 4, 5, 6, 7, 8, 9, 10, 11] (by decide) rfl
  have hFc := va_free (wc := ((wWX5 cB cI cZ (wb_sh a0 12) (wb_sh I0_4 11) (wb_sh M0_5 7)) ++ (wWX5 cB cI cZ (wb_sh a0 3) (wb_sh I0_4 9) (wb_sh M0_5 1)))) hD hS hA [12, 13, 14, 15, 16, 17, 18, 19, 20, 3, 4, 5, 6, 7, 8, 9, 10, 11] rfl
  refine va_callv (va_runV (As := [.ref (a0 3)]) (rest := []) ⟨hx, hb, hml, hown, hts⟩ (cn_X5_copyFrom l D cB cI cZ N (wb_sh a0 12) (wb_sh I0_4 11) (wb_sh M0_5 7) (wb_sh a0 3) (wb_sh I0_4 9) (wb_sh M0_5 1) H.size r6 hr6) (cwV 1 hts gX11_house_X5_copyFrom rfl rfl rfl cdX5_copyFrom ⟨Nat.le_of_ble_eq_true rfl, Nat.le_of_ble_eq_true rfl⟩) (wb_preDV hPc hK hDc (wr_5 hK hP (q0 := 12) rfl)) rfl rfl hl.1 rfl (lv_room (Nat.le_of_ble_eq_true rfl)) dX11_house_31 ⟨Nat.le_of_ble_eq_true rfl, Nat.le_of_ble_eq_true rfl⟩) hS (fun q _ h => hFc q h) hFc (fun u t H locs ht hvm hw hB hz1 hk1 hS => ?_)
  obtain ⟨hP, hD⟩ := wj_ba (a := (wWX5 cB cI cZ (wb_sh a0 3) (wb_sh I0_4 9) (wb_sh M0_5 1))) (b := (wWX5 cB cI cZ (wb_sh a0 12) (wb_sh I0_4 11) (wb_sh M0_5 7))) (a' := (wWX5 cB cI cZ (wb_sh a0 3) (wb_sh I0_4 9) (wb_sh M0_5 1))) (b' := (wWX5 cB cI cZ (wb_sh a0 12) r6.1 r6.2)) (wf := (wWX11 cB cI cZ a0 (wb_in I0_4 11 2 r6.1) (wb_in M0_5 7 6 r6.2))) 3 12 0 21 hP hD rfl rfl hk1 hFc ht hB
  obtain ⟨I0_7, eI0_7, hf⟩ := wb_v hf
  rw [← eI0_7] at hP hD
  obtain ⟨M0_8, eM0_8, hf⟩ := wb_v hf
  rw [← eM0_8] at hP hD
  refine lv_aload_n hx hb dX11_house_34 rfl (lv_at hl 0 rfl) ?_
  refine va_get (D := D) (ci := 11) (v := .ref (a0 12)) (C := RX11) (T := TX11) (N := 13) hx hb hts hinX11 hown hK hP 0 rfl rfl 2 (by decide) (hts (.fieldLink RX11 23 "WheelBook" "draft" "LWheelBook$House;") (List.mem_of_getElem? (i := 3) rfl)) (fun _ h9 => h9) rfl dX11_house_35 ?_
  refine lv_aload_n hx hb dX11_house_38 rfl (lv_at hl 0 rfl) ?_
  refine va_get (D := D) (ci := 11) (v := .ref (a0 1)) (C := RX11) (T := TX11) (N := 13) hx hb hts hinX11 hown hK hP 0 rfl rfl 0 (by decide) (hts (.fieldLink RX11 10 "WheelBook" "text" "LWheelBook$Text;") (List.mem_of_getElem? (i := 1) rfl)) (fun _ h9 => h9) rfl dX11_house_39 ?_
  obtain ⟨r9b, hr9b, hf⟩ := wb_b hf
  have hPc := hP.sub (ws' := ((wWX5 cB cI cZ (wb_sh a0 12) (wb_sh I0_7 11) (wb_sh M0_8 7)) ++ (wWX9 cB cI cZ (wb_sh a0 1) I0_7 M0_8))) [12, 13, 14, 15, 16, 17, 18, 19, 20, 1, 2] rfl
  have hDc := hD.sub (ws' := ((wWX5 cB cI cZ (wb_sh a0 12) (wb_sh I0_7 11) (wb_sh M0_8 7)) ++ (wWX9 cB cI cZ (wb_sh a0 1) I0_7 M0_8))) [12, 13, 14, 15, 16, 17, 18, 19, 20, 1, 2] (by decide) rfl
  have hFc := va_free (wc := ((wWX5 cB cI cZ (wb_sh a0 12) (wb_sh I0_7 11) (wb_sh M0_8 7)) ++ (wWX9 cB cI cZ (wb_sh a0 1) I0_7 M0_8))) hD hS hA [12, 13, 14, 15, 16, 17, 18, 19, 20, 1, 2] rfl
  refine va_calli (va_runV (As := [.ref (a0 1)]) (rest := []) ⟨hx, hb, hml, hown, hts⟩ (cn_X5_readLines l D cB cI cZ N aK aV (wb_sh a0 12) (wb_sh I0_7 11) (wb_sh M0_8 7) (wb_sh a0 1) I0_7 M0_8 H.size r9b hr9b) (cwV 1 hts gX11_house_X5_readLines rfl rfl rfl cdX5_readLines ⟨Nat.le_of_ble_eq_true rfl, Nat.le_of_ble_eq_true rfl⟩) (wb_preDEV hPc hK hDc (wr_5 hK hP (q0 := 12) rfl) hZ hS hFc) rfl rfl hl.1 rfl (lv_room (Nat.le_of_ble_eq_true rfl)) dX11_house_42 ⟨Nat.le_of_ble_eq_true rfl, Nat.le_of_ble_eq_true rfl⟩) hS (fun q _ h => hFc q h) hFc (fun r9 u t H locs ht hvm hw hB hz1 hk1 hS => ?_)
  obtain ⟨hP, hD⟩ := wj_ba (a := (wWX9 cB cI cZ (wb_sh a0 1) I0_7 M0_8)) (b := (wWX5 cB cI cZ (wb_sh a0 12) (wb_sh I0_7 11) (wb_sh M0_8 7))) (a' := (wWX9 cB cI cZ (wb_sh a0 1) r9b.2.2.2.1 r9b.2.2.2.2)) (b' := (wWX5 cB cI cZ (wb_sh a0 12) r9b.2.1 r9b.2.2.1)) (wf := (wWX11 cB cI cZ a0 (wb_in (wb_in I0_7 11 2 r9b.2.1) 0 9 r9b.2.2.2.1) (wb_in (wb_in M0_8 7 6 r9b.2.2.1) 0 1 r9b.2.2.2.2))) 1 3 9 21 hP hD rfl rfl hk1 hFc ht hB
  rw [hw]
  obtain ⟨I0_10, eI0_10, hf⟩ := wb_v hf
  rw [← eI0_10] at hP hD
  obtain ⟨M0_11, eM0_11, hf⟩ := wb_v hf
  rw [← eM0_11] at hP hD
  refine lv_if_eq (tgt := 59) hx hb dX11_house_45 (by decide) (fun hc => ?_) (fun hc => ?_)
  · replace hf := wb_t hc hf
    refine lv_aload_n hx hb dX11_house_59 rfl (lv_at hl 0 rfl) ?_
    refine va_get (D := D) (ci := 11) (v := .ref (a0 1)) (C := RX11) (T := TX11) (N := 13) hx hb hts hinX11 hown hK hP 0 rfl rfl 0 (by decide) (hts (.fieldLink RX11 10 "WheelBook" "text" "LWheelBook$Text;") (List.mem_of_getElem? (i := 1) rfl)) (fun _ h9 => h9) rfl dX11_house_60 ?_
    refine va_get (D := D) (ci := 9) (v := .int (I0_10 7)) (C := RX9) (T := TX9) (N := 10) hx hb hts hinX9 hown hK hP 1 rfl rfl 8 (by decide) (hts (.fieldLink RX11 115 "WheelBook$Text" "faultKind" "I") (List.mem_of_getElem? (i := 5) rfl)) (fun _ h9 => h9) rfl dX11_house_63 ?_
    exact W.iret (v := (I0_10 7)) hx hb hr (fun t ht hW => by rw [← Option.some.inj hf]; exact ⟨⟨(I0_10 7), (), rfl, rfl, by rw [ht]; exact hP, va_K.moved hW.alike hK, hD⟩, hS.F ht⟩) hS.2.2 dX11_house_66
  · replace hf := wb_f hc hf
    refine lv_aload_n hx hb dX11_house_48 rfl (lv_at hl 0 rfl) ?_
    refine va_get (D := D) (ci := 11) (v := .ref (a0 3)) (C := RX11) (T := TX11) (N := 13) hx hb hts hinX11 hown hK hP 0 rfl rfl 1 (by decide) (hts (.fieldLink RX11 19 "WheelBook" "told" "LWheelBook$House;") (List.mem_of_getElem? (i := 4) rfl)) (fun _ h9 => h9) rfl dX11_house_49 ?_
    refine lv_aload_n hx hb dX11_house_52 rfl (lv_at hl 0 rfl) ?_
    refine va_get (D := D) (ci := 11) (v := .ref (a0 12)) (C := RX11) (T := TX11) (N := 13) hx hb hts hinX11 hown hK hP 0 rfl rfl 2 (by decide) (hts (.fieldLink RX11 23 "WheelBook" "draft" "LWheelBook$House;") (List.mem_of_getElem? (i := 3) rfl)) (fun _ h9 => h9) rfl dX11_house_53 ?_
    obtain ⟨r12, hr12, hf⟩ := wb_b hf
    have hPc := hP.sub (ws' := ((wWX5 cB cI cZ (wb_sh a0 3) (wb_sh I0_10 9) (wb_sh M0_11 1)) ++ (wWX5 cB cI cZ (wb_sh a0 12) (wb_sh I0_10 11) (wb_sh M0_11 7)))) [3, 4, 5, 6, 7, 8, 9, 10, 11, 12, 13, 14, 15, 16, 17, 18, 19, 20] rfl
    have hDc := hD.sub (ws' := ((wWX5 cB cI cZ (wb_sh a0 3) (wb_sh I0_10 9) (wb_sh M0_11 1)) ++ (wWX5 cB cI cZ (wb_sh a0 12) (wb_sh I0_10 11) (wb_sh M0_11 7)))) [3, 4, 5, 6, 7, 8, 9, 10, 11, 12, 13, 14, 15, 16, 17, 18, 19, 20] (by decide) rfl
    have hFc := va_free (wc := ((wWX5 cB cI cZ (wb_sh a0 3) (wb_sh I0_10 9) (wb_sh M0_11 1)) ++ (wWX5 cB cI cZ (wb_sh a0 12) (wb_sh I0_10 11) (wb_sh M0_11 7)))) hD hS hA [3, 4, 5, 6, 7, 8, 9, 10, 11, 12, 13, 14, 15, 16, 17, 18, 19, 20] rfl
    refine va_callv (va_runV (As := [.ref (a0 12)]) (rest := []) ⟨hx, hb, hml, hown, hts⟩ (cn_X5_copyFrom l D cB cI cZ N (wb_sh a0 3) (wb_sh I0_10 9) (wb_sh M0_11 1) (wb_sh a0 12) (wb_sh I0_10 11) (wb_sh M0_11 7) H.size r12 hr12) (cwV 1 hts gX11_house_X5_copyFrom rfl rfl rfl cdX5_copyFrom ⟨Nat.le_of_ble_eq_true rfl, Nat.le_of_ble_eq_true rfl⟩) (wb_preDV hPc hK hDc (wr_5 hK hP (q0 := 3) rfl)) rfl rfl hl.1 rfl (lv_room (Nat.le_of_ble_eq_true rfl)) dX11_house_56 ⟨Nat.le_of_ble_eq_true rfl, Nat.le_of_ble_eq_true rfl⟩) hS (fun q _ h => hFc q h) hFc (fun u t H locs ht hvm hw hB hz1 hk1 hS => ?_)
    obtain ⟨hP, hD⟩ := wj_s (wc := ((wWX5 cB cI cZ (wb_sh a0 3) (wb_sh I0_10 9) (wb_sh M0_11 1)) ++ (wWX5 cB cI cZ (wb_sh a0 12) (wb_sh I0_10 11) (wb_sh M0_11 7)))) (w1 := ((wWX5 cB cI cZ (wb_sh a0 3) r12.1 r12.2) ++ (wWX5 cB cI cZ (wb_sh a0 12) (wb_sh I0_10 11) (wb_sh M0_11 7)))) (wf := (wWX11 cB cI cZ a0 (wb_in I0_10 9 2 r12.1) (wb_in M0_11 1 6 r12.2))) 3 21 hP hD rfl rfl hk1 hFc ht hB
    obtain ⟨I0_13, eI0_13, hf⟩ := wb_v hf
    rw [← eI0_13] at hP hD
    obtain ⟨M0_14, eM0_14, hf⟩ := wb_v hf
    rw [← eM0_14] at hP hD
    refine lv_aload_n hx hb dX11_house_59 rfl (lv_at hl 0 rfl) ?_
    refine va_get (D := D) (ci := 11) (v := .ref (a0 1)) (C := RX11) (T := TX11) (N := 13) hx hb hts hinX11 hown hK hP 0 rfl rfl 0 (by decide) (hts (.fieldLink RX11 10 "WheelBook" "text" "LWheelBook$Text;") (List.mem_of_getElem? (i := 1) rfl)) (fun _ h9 => h9) rfl dX11_house_60 ?_
    refine va_get (D := D) (ci := 9) (v := .int (I0_13 7)) (C := RX9) (T := TX9) (N := 10) hx hb hts hinX9 hown hK hP 1 rfl rfl 8 (by decide) (hts (.fieldLink RX11 115 "WheelBook$Text" "faultKind" "I") (List.mem_of_getElem? (i := 5) rfl)) (fun _ h9 => h9) rfl dX11_house_63 ?_
    exact W.iret (v := (I0_13 7)) hx hb hr (fun t ht hW => by rw [← Option.some.inj hf]; exact ⟨⟨(I0_13 7), (), rfl, rfl, by rw [ht]; exact hP, va_K.moved hW.alike hK, hD⟩, hS.F ht⟩) hS.2.2 dX11_house_66
set_option maxHeartbeats 4000000 in
set_option maxRecDepth 100000 in
theorem ct_X11_house (l : Launch) (hlt : l.stackTraces = false) (D : va_G) (cB cI cZ : ClassId) (N : Nat) (a0 : Nat → Nat) (I0 : Nat → Int32) (M0 : Nat → Nat → Int32) (x1 : Int32) (sz k : Nat) (hf : fX11_house N I0 M0 x1 = some (.inl k)) : vx_Met l yX11_house wsX11_house ({ frames := 9, cells := 1, slots := 6, locals := 232 }) (va_Pc [.ref (a0 0), .int x1] (wb_preX D [(cB, .byte), (cI, .int), (cZ, .boolean)] (wWX11 cB cI cZ a0 I0 M0) sz)) (va_Qi (fun _ (_ : Unit) => False) (fun _ _ => True) (fun q => sz ≤ q)) (vx_X (fun _ : Unit => True) (fun E _ _ => E = wb_ex k) (fun q => sz ≤ q)) 1 6 (fun q => sz ≤ q) := by
  refine vx_ofW (cc := cX11_house) (maxL := 2) (ret := (some .int)) (by decide) rfl ?_
  intro p e s m args below meth c s₁ B hml htab hv
  obtain ⟨rfl, hsz, hP, hK, hX⟩ := hv
  subst hsz
  have hx := B.exec
  have hb := B.bytes
  have hr := B.returns
  have hts := atoms_spec (ws := wsX11_house) B.pre
  have hown : s.vm.findClass RX11 = some m.cls := (findClass_of_methodNamed B.named :)
  have hlocks := B.notSynchronized
  have hS : va_S (fun q => s.heap.size ≤ q) s.heap s.heap [] := va_S.rf
  have hinX11 : ∀ w ∈ u_ws RX11 TX11 13, w ∈ wsX11_house := fun w h => List.mem_cons_of_mem _ (List.mem_append_left _ (List.mem_append_left _ (List.mem_append_left _ (List.mem_append_left _ (List.mem_append_left _ (List.mem_append_right _ h))))))
  have hinX9 : ∀ w ∈ u_ws RX9 TX9 10, w ∈ wsX11_house := fun w h => List.mem_cons_of_mem _ (List.mem_append_left _ (List.mem_append_left _ (List.mem_append_left _ (List.mem_append_left _ (List.mem_append_right _ h)))))
  have hl := lv_entry ([.ref (a0 0), .int x1]) (n := 2) (Nat.le_of_ble_eq_true rfl)
  rw [lg_entry_eq]
  generalize (lg_sl ([.ref (a0 0), .int x1]) ++ List.replicate (2 - (lg_sl ([.ref (a0 0), .int x1])).length) Slot.unset).toArray = ls at hl ⊢
  have hl : lv_has ls 2 [(0, .ref (a0 0)), (1, .int x1)] := hl
  unfold fX11_house at hf
  refine lv_iload_n hx hb dX11_house_0 rfl (lv_at hl 1 rfl) ?_
  refine lv_iconst (v := (0 : Int32)) hx hb dX11_house_1 (by decide) ?_
  refine lv_aload_n hx hb dX11_house_2 rfl (lv_at hl 0 rfl) ?_
  refine va_get (D := D) (ci := 11) (v := .ref (a0 1)) (C := RX11) (T := TX11) (N := 13) hx hb hts hinX11 hown hK hP 0 rfl rfl 0 (by decide) (hts (.fieldLink RX11 10 "WheelBook" "text" "LWheelBook$Text;") (List.mem_of_getElem? (i := 1) rfl)) (fun _ h9 => h9) rfl dX11_house_3 ?_
  refine va_get (D := D) (ci := 9) (v := .int (I0 0)) (C := RX9) (T := TX9) (N := 10) hx hb hts hinX9 hown hK hP 1 rfl rfl 1 (by decide) (hts (.fieldLink RX11 92 "WheelBook$Text" "length" "I") (List.mem_of_getElem? (i := 2) rfl)) (fun _ h9 => h9) rfl dX11_house_6 ?_
  obtain ⟨r1, hr1, hf⟩ := wb_b hf
  refine vp_callSi (W.runS (As := [.int x1, .int (0 : Int32), .int (I0 0)]) (rest := []) ⟨hx, hb, hml, hown, hts⟩ (cn_X11_within l D cB cI cZ N x1 (0 : Int32) (I0 0) r1 hr1) (va_cwS 3 hts gX11_house_X11_within rfl rfl rfl csX11_within ⟨Nat.le_of_ble_eq_true rfl, Nat.le_of_ble_eq_true rfl⟩) (wb_preS (hP.sub (ws' := ([] : va_W)) [] rfl) hK) rfl rfl hl.1 rfl (lv_room (Nat.le_of_ble_eq_true rfl)) dX11_house_9 ⟨Nat.le_of_ble_eq_true rfl, Nat.le_of_ble_eq_true rfl⟩) (fun r9 e9 => ?_)
  rw [e9]
  rcases wb_xt hf with hrx | ⟨r2, hr2, hf⟩
  · refine vx_callv (vx_runS (As := [.int r1]) (rest := []) ⟨hx, hb, hml, hown, hts⟩ (ct_X11_allow l hlt D cB cI cZ N r1 s.heap.size k hrx) (va_cwS 1 hts gX11_house_X11_allow rfl rfl rfl csX11_allow ⟨Nat.le_of_ble_eq_true rfl, Nat.le_of_ble_eq_true rfl⟩) (wb_preXS (hP.sub (ws' := ([] : va_W)) [] rfl) hK hX) rfl rfl hl.1 rfl (lv_room (Nat.le_of_ble_eq_true rfl)) dX11_house_12 ⟨Nat.le_of_ble_eq_true rfl, Nat.le_of_ble_eq_true rfl⟩) hS (fun q _ h => h) (fun _ h => h) (fun q _ h => h) (fun E ce q9 u t H locs ht hvm hpx hB hz1 hk1 hS hq9 hv9 hc9 => ?_) (fun u t H locs ht hvm hw hB hz1 hk1 hS => hw.elim)
    exact vx_out (fun x hx9 => (htab x hx9).elim) hlocks hq9 hv9 hc9 (fun t9 ht9 hvm9 => ⟨(), trivial, hB, hS.F ht9⟩) hS.2.2 (Nat.le_of_ble_eq_true rfl) (Nat.le_of_ble_eq_true rfl)
  refine va_csv (W.runS (As := [.int r1]) (rest := []) ⟨hx, hb, hml, hown, hts⟩ (cn_X11_allow l D cB cI cZ N r1 r2 hr2) (va_cwS 1 hts gX11_house_X11_allow rfl rfl rfl csX11_allow ⟨Nat.le_of_ble_eq_true rfl, Nat.le_of_ble_eq_true rfl⟩) (wb_preS (hP.sub (ws' := ([] : va_W)) [] rfl) hK) rfl rfl hl.1 rfl (lv_room (Nat.le_of_ble_eq_true rfl)) dX11_house_12 ⟨Nat.le_of_ble_eq_true rfl, Nat.le_of_ble_eq_true rfl⟩) (fun _ => ?_)
  exact absurd hf wb_okn

set_option maxHeartbeats 4000000 in
set_option maxRecDepth 100000 in
theorem cn_X11_need (l : Launch) (D : va_G) (cB cI cZ : ClassId) (N : Nat) (x0 : Int32) (R : Unit) (hf : fX11_need N x0 = some (.inr R)) : Met l yX11_need wyX11_need ({ frames := 6, cells := 0, slots := 0, locals := 120 }) (va_Pc [.int x0] (wb_pre D [(cB, .byte), (cI, .int), (cZ, .boolean)] ([] : va_W))) (va_Sv (fun _ => True)) 0 0 (fun _ => False) := by
  refine Met.ofW (cc := cX11_need) (maxL := 1) (ret := none) pn_X11 rfl ?_
  intro p e s m args below meth c s₁ B hml hv
  obtain ⟨rfl, hP, hK⟩ := hv
  have hx := B.exec
  have hb := B.bytes
  have hr := B.returns
  have hts := atoms_spec (ws := wyX11_need) B.pre
  have hown : s.vm.findClass RX11 = some m.cls := (findClass_of_methodNamed B.named :)
  have hlocks := B.notSynchronized
  have hl := lv_entry ([.int x0]) (n := 1) (Nat.le_of_ble_eq_true rfl)
  rw [lg_entry_eq]
  generalize (lg_sl ([.int x0]) ++ List.replicate (1 - (lg_sl ([.int x0])).length) Slot.unset).toArray = ls at hl ⊢
  have hl : lv_has ls 1 [(0, .int x0)] := hl
  unfold fX11_need at hf
  refine lv_iload_n hx hb dX11_need_0 rfl (lv_at hl 0 rfl) ?_
  refine lv_if_ne (tgt := 15) hx hb dX11_need_1 (by decide) (fun hc => ?_) (fun hc => ?_)
  · replace hf := wb_f hc hf
    replace hf := wb_okr hf
    exact W.vret hx hb hr (fun t ht hW => ⟨rfl, trivial, ht⟩) (fun _ h => nomatch h) dX11_need_15
  · replace hf := wb_t hc hf
    exact absurd hf (fun h => nomatch (Option.some.inj h))
set_option maxHeartbeats 4000000 in
set_option maxRecDepth 100000 in
theorem ct_X11_need (l : Launch) (hlt : l.stackTraces = false) (D : va_G) (cB cI cZ : ClassId) (N : Nat) (x0 : Int32) (sz k : Nat) (hf : fX11_need N x0 = some (.inl k)) : vx_Met l yX11_need wyX11_need ({ frames := 6, cells := 1, slots := 6, locals := 120 }) (va_Pc [.int x0] (wb_preX D [(cB, .byte), (cI, .int), (cZ, .boolean)] ([] : va_W) sz)) (va_Qv (fun _ : Unit => False) (fun _ _ => True) (fun q => sz ≤ q)) (vx_X (fun _ : Unit => True) (fun E _ _ => E = wb_ex k) (fun q => sz ≤ q)) 1 6 (fun q => sz ≤ q) := by
  refine vx_ofW (cc := cX11_need) (maxL := 1) (ret := none) (by decide) rfl ?_
  intro p e s m args below meth c s₁ B hml htab hv
  obtain ⟨rfl, hsz, hP, hK, hX⟩ := hv
  subst hsz
  have hx := B.exec
  have hb := B.bytes
  have hr := B.returns
  have hts := atoms_spec (ws := wyX11_need) B.pre
  have hown : s.vm.findClass RX11 = some m.cls := (findClass_of_methodNamed B.named :)
  have hlocks := B.notSynchronized
  have hS : va_S (fun q => s.heap.size ≤ q) s.heap s.heap [] := va_S.rf
  have hts9 : ∀ w ∈ wx_at1.filter goodWord, w.before _ s = true := fun w h => hts w (List.mem_cons_of_mem _ (List.mem_append_right _ h))
  have hl := lv_entry ([.int x0]) (n := 1) (Nat.le_of_ble_eq_true rfl)
  rw [lg_entry_eq]
  generalize (lg_sl ([.int x0]) ++ List.replicate (1 - (lg_sl ([.int x0])).length) Slot.unset).toArray = ls at hl ⊢
  have hl : lv_has ls 1 [(0, .int x0)] := hl
  unfold fX11_need at hf
  refine lv_iload_n hx hb dX11_need_0 rfl (lv_at hl 0 rfl) ?_
  refine lv_if_ne (tgt := 15) hx hb dX11_need_1 (by decide) (fun hc => ?_) (fun hc => ?_)
  · replace hf := wb_f hc hf
    exact absurd hf wb_okn
  · replace hf := wb_t hc hf
    obtain rfl : (1 : Nat) = k := Sum.inl.inj (Option.some.inj hf)
    exact wx_thrW1 hx hb hlt hown (hts (.classLink RX11 157 "java/util/NoSuchElementException") (List.mem_of_getElem? (i := 1) rfl)) (hts (.initialized "java/util/NoSuchElementException") (List.mem_of_getElem? (i := 2) rfl)) (hts9) hX hS (hl.1.trans hml.symm) dX11_need_4 dX11_need_7 dX11_need_8 dX11_need_11 dX11_need_14 (fun x hx9 => (htab x hx9).elim) hlocks (Nat.le_of_ble_eq_true rfl) (Nat.le_of_ble_eq_true rfl) (Nat.le_of_ble_eq_true rfl) (Nat.le_of_ble_eq_true rfl)

set_option maxHeartbeats 4000000 in
set_option maxRecDepth 100000 in
theorem cn_X11_isBook (l : Launch) (D : va_G) (cB cI cZ : ClassId) (N : Nat) (x0 : Int32) (R : Int32) (hf : fX11_isBook N x0 = some R) : Met l yX11_isBook wsX11_isBook ({ frames := 1, cells := 0, slots := 0, locals := 22 }) (va_Pc [.int x0] (wb_pre D [(cB, .byte), (cI, .int), (cZ, .boolean)] ([] : va_W))) (vp_Si (fun r => r = R)) 0 0 (fun _ => False) := by
  refine Met.ofW (cc := cX11_isBook) (maxL := 1) (ret := (some .boolean)) pn_X11 rfl ?_
  intro p e s m args below meth c s₁ B hml hv
  obtain ⟨rfl, hP, hK⟩ := hv
  have hx := B.exec
  have hb := B.bytes
  have hr := B.returns
  have hts := atoms_spec (ws := wsX11_isBook) B.pre
  have hown : s.vm.findClass RX11 = some m.cls := (findClass_of_methodNamed B.named :)
  have hlocks := B.notSynchronized
  have hl := lv_entry ([.int x0]) (n := 1) (Nat.le_of_ble_eq_true rfl)
  rw [lg_entry_eq]
  generalize (lg_sl ([.int x0]) ++ List.replicate (1 - (lg_sl ([.int x0])).length) Slot.unset).toArray = ls at hl ⊢
  have hl : lv_has ls 1 [(0, .int x0)] := hl
  unfold fX11_isBook at hf
  refine lv_iload_n hx hb dX11_isBook_0 rfl (lv_at hl 0 rfl) ?_
  refine lv_iconst (v := (0 : Int32)) hx hb dX11_isBook_1 (by decide) ?_
  refine lv_iconst (v := (5 : Int32)) hx hb dX11_isBook_2 (by decide) ?_
  obtain ⟨r1, hr1, hf⟩ := wb_b hf
  refine vp_callSi (W.runS (As := [.int x0, .int (0 : Int32), .int (5 : Int32)]) (rest := []) ⟨hx, hb, hml, hown, hts⟩ (cn_X11_within l D cB cI cZ N x0 (0 : Int32) (5 : Int32) r1 hr1) (va_cwS 3 hts gX11_isBook_X11_within rfl rfl rfl csX11_within ⟨Nat.le_of_ble_eq_true rfl, Nat.le_of_ble_eq_true rfl⟩) (wb_preS hP hK) rfl rfl hl.1 rfl (lv_room (Nat.le_of_ble_eq_true rfl)) dX11_isBook_3 ⟨Nat.le_of_ble_eq_true rfl, Nat.le_of_ble_eq_true rfl⟩) (fun r9 e9 => ?_)
  rw [e9]
  obtain ⟨hz, hf⟩ := wb_y hf
  exact W.zret (v := r1) hx hb hr (congrArg Value.int hz) (fun t ht hW => ⟨_, rfl, Option.some.inj hf, ht⟩) (fun _ h => nomatch h) dX11_isBook_6

set_option maxHeartbeats 4000000 in
set_option maxRecDepth 100000 in
theorem cn_X11_numberOf (l : Launch) (D : va_G) (cB cI cZ : ClassId) (N : Nat) (x0 : Int32) (x1 : Int32) (R : Int32) (hf : fX11_numberOf N x0 x1 = some (.inr R)) : Met l yX11_numberOf wyX11_numberOf ({ frames := 7, cells := 0, slots := 0, locals := 140 }) (va_Pc [.int x0, .int x1] (wb_pre D [(cB, .byte), (cI, .int), (cZ, .boolean)] ([] : va_W))) (vp_Si (fun r => r = R)) 0 0 (fun _ => False) := by
  refine Met.ofW (cc := cX11_numberOf) (maxL := 2) (ret := (some .int)) pn_X11 rfl ?_
  intro p e s m args below meth c s₁ B hml hv
  obtain ⟨rfl, hP, hK⟩ := hv
  have hx := B.exec
  have hb := B.bytes
  have hr := B.returns
  have hts := atoms_spec (ws := wyX11_numberOf) B.pre
  have hown : s.vm.findClass RX11 = some m.cls := (findClass_of_methodNamed B.named :)
  have hlocks := B.notSynchronized
  have hl := lv_entry ([.int x0, .int x1]) (n := 2) (Nat.le_of_ble_eq_true rfl)
  rw [lg_entry_eq]
  generalize (lg_sl ([.int x0, .int x1]) ++ List.replicate (2 - (lg_sl ([.int x0, .int x1])).length) Slot.unset).toArray = ls at hl ⊢
  have hl : lv_has ls 2 [(0, .int x0), (1, .int x1)] := hl
  unfold fX11_numberOf at hf
  have J21 : ∀ (ls : Array Slot), lv_has ls 2 [(0, .int x0), (1, .int x1)] → fX11_numberOf_J21 N x0 x1 = some (.inr R) → W p l e (headSpec wyX11_numberOf { frames := 7, cells := 0, slots := 0, locals := 140 }).room s m [.int x0, .int x1].toArray below meth c s.heap [] 0 0 (MQ below (vp_Si (fun r => r = R)) [.int x0, .int x1].toArray s 0 0 (fun _ => False)) (F0 m 21 ls []) := by
    intro ls hl hf
    unfold fX11_numberOf_J21 at hf
    refine lv_iconst (v := (0 : Int32)) hx hb dX11_numberOf_21 (by decide) ?_
    obtain ⟨r1, hr1, hf⟩ := wb_xr hf
    refine va_csv (W.runS (As := [.int (0 : Int32)]) (rest := []) ⟨hx, hb, hml, hown, hts⟩ (cn_X11_need l D cB cI cZ N (0 : Int32) r1 hr1) (va_cwS 1 hts gyX11_numberOf_X11_need rfl rfl rfl csX11_need ⟨Nat.le_of_ble_eq_true rfl, Nat.le_of_ble_eq_true rfl⟩) (wb_preS hP hK) rfl rfl hl.1 rfl (lv_room (Nat.le_of_ble_eq_true rfl)) dX11_numberOf_22 ⟨Nat.le_of_ble_eq_true rfl, Nat.le_of_ble_eq_true rfl⟩) (fun _ => ?_)
    replace hf := wb_okr hf
    refine lv_bipush (v := (20 : Int32)) hx hb dX11_numberOf_25 (by decide) ?_
    refine lv_iload_n hx hb dX11_numberOf_27 rfl (lv_at hl 0 rfl) ?_
    refine lv_imul hx hb dX11_numberOf_28 ?_
    refine lv_iload_n hx hb dX11_numberOf_29 rfl (lv_at hl 1 rfl) ?_
    refine lv_iadd hx hb dX11_numberOf_30 ?_
    exact W.iret (v := (((20 : Int32) * x0) + x1)) hx hb hr (fun t ht hW => ⟨_, rfl, Option.some.inj hf, ht⟩) (fun _ h => nomatch h) dX11_numberOf_31
  refine lv_iload_n hx hb dX11_numberOf_0 rfl (lv_at hl 0 rfl) ?_
  obtain ⟨r2, hr2, hf⟩ := wb_b hf
  refine vp_callSi (W.runS (As := [.int x0]) (rest := []) ⟨hx, hb, hml, hown, hts⟩ (cn_X11_isBook l D cB cI cZ N x0 r2 hr2) (va_cwS 1 hts gyX11_numberOf_X11_isBook rfl rfl rfl csX11_isBook ⟨Nat.le_of_ble_eq_true rfl, Nat.le_of_ble_eq_true rfl⟩) (wb_preS hP hK) rfl rfl hl.1 rfl (lv_room (Nat.le_of_ble_eq_true rfl)) dX11_numberOf_1 ⟨Nat.le_of_ble_eq_true rfl, Nat.le_of_ble_eq_true rfl⟩) (fun r9 e9 => ?_)
  rw [e9]
  refine lv_if_eq (tgt := 21) hx hb dX11_numberOf_4 (by decide) (fun hc => ?_) (fun hc => ?_)
  · replace hf := wb_t hc hf
    exact J21 ls (lv_sub hl [0, 1] rfl) hf
  · replace hf := wb_f hc hf
    refine lv_iload_n hx hb dX11_numberOf_7 rfl (lv_at hl 1 rfl) ?_
    refine lv_iconst (v := (0 : Int32)) hx hb dX11_numberOf_8 (by decide) ?_
    refine lv_bipush (v := (19 : Int32)) hx hb dX11_numberOf_9 (by decide) ?_
    obtain ⟨r3, hr3, hf⟩ := wb_b hf
    refine vp_callSi (W.runS (As := [.int x1, .int (0 : Int32), .int (19 : Int32)]) (rest := []) ⟨hx, hb, hml, hown, hts⟩ (cn_X11_within l D cB cI cZ N x1 (0 : Int32) (19 : Int32) r3 hr3) (va_cwS 3 hts gyX11_numberOf_X11_within rfl rfl rfl csX11_within ⟨Nat.le_of_ble_eq_true rfl, Nat.le_of_ble_eq_true rfl⟩) (wb_preS hP hK) rfl rfl hl.1 rfl (lv_room (Nat.le_of_ble_eq_true rfl)) dX11_numberOf_11 ⟨Nat.le_of_ble_eq_true rfl, Nat.le_of_ble_eq_true rfl⟩) (fun r9 e9 => ?_)
    rw [e9]
    refine lv_if_eq (tgt := 21) hx hb dX11_numberOf_14 (by decide) (fun hc => ?_) (fun hc => ?_)
    · replace hf := wb_t hc hf
      exact J21 ls (lv_sub hl [0, 1] rfl) hf
    · replace hf := wb_f hc hf
      refine lv_iconst (v := (1 : Int32)) hx hb dX11_numberOf_17 (by decide) ?_
      refine lv_goto (tgt := 22) hx hb dX11_numberOf_18 (by decide) ?_
      obtain ⟨r4, hr4, hf⟩ := wb_xr hf
      refine va_csv (W.runS (As := [.int (1 : Int32)]) (rest := []) ⟨hx, hb, hml, hown, hts⟩ (cn_X11_need l D cB cI cZ N (1 : Int32) r4 hr4) (va_cwS 1 hts gyX11_numberOf_X11_need rfl rfl rfl csX11_need ⟨Nat.le_of_ble_eq_true rfl, Nat.le_of_ble_eq_true rfl⟩) (wb_preS hP hK) rfl rfl hl.1 rfl (lv_room (Nat.le_of_ble_eq_true rfl)) dX11_numberOf_22 ⟨Nat.le_of_ble_eq_true rfl, Nat.le_of_ble_eq_true rfl⟩) (fun _ => ?_)
      replace hf := wb_okr hf
      refine lv_bipush (v := (20 : Int32)) hx hb dX11_numberOf_25 (by decide) ?_
      refine lv_iload_n hx hb dX11_numberOf_27 rfl (lv_at hl 0 rfl) ?_
      refine lv_imul hx hb dX11_numberOf_28 ?_
      refine lv_iload_n hx hb dX11_numberOf_29 rfl (lv_at hl 1 rfl) ?_
      refine lv_iadd hx hb dX11_numberOf_30 ?_
      exact W.iret (v := (((20 : Int32) * x0) + x1)) hx hb hr (fun t ht hW => ⟨_, rfl, Option.some.inj hf, ht⟩) (fun _ h => nomatch h) dX11_numberOf_31
set_option maxHeartbeats 4000000 in
set_option maxRecDepth 100000 in
theorem ct_X11_numberOf (l : Launch) (hlt : l.stackTraces = false) (D : va_G) (cB cI cZ : ClassId) (N : Nat) (x0 : Int32) (x1 : Int32) (sz k : Nat) (hf : fX11_numberOf N x0 x1 = some (.inl k)) : vx_Met l yX11_numberOf wyX11_numberOf ({ frames := 7, cells := 1, slots := 6, locals := 140 }) (va_Pc [.int x0, .int x1] (wb_preX D [(cB, .byte), (cI, .int), (cZ, .boolean)] ([] : va_W) sz)) (va_Qi (fun _ (_ : Unit) => False) (fun _ _ => True) (fun q => sz ≤ q)) (vx_X (fun _ : Unit => True) (fun E _ _ => E = wb_ex k) (fun q => sz ≤ q)) 1 6 (fun q => sz ≤ q) := by
  refine vx_ofW (cc := cX11_numberOf) (maxL := 2) (ret := (some .int)) (by decide) rfl ?_
  intro p e s m args below meth c s₁ B hml htab hv
  obtain ⟨rfl, hsz, hP, hK, hX⟩ := hv
  subst hsz
  have hx := B.exec
  have hb := B.bytes
  have hr := B.returns
  have hts := atoms_spec (ws := wyX11_numberOf) B.pre
  have hown : s.vm.findClass RX11 = some m.cls := (findClass_of_methodNamed B.named :)
  have hlocks := B.notSynchronized
  have hS : va_S (fun q => s.heap.size ≤ q) s.heap s.heap [] := va_S.rf
  have hl := lv_entry ([.int x0, .int x1]) (n := 2) (Nat.le_of_ble_eq_true rfl)
  rw [lg_entry_eq]
  generalize (lg_sl ([.int x0, .int x1]) ++ List.replicate (2 - (lg_sl ([.int x0, .int x1])).length) Slot.unset).toArray = ls at hl ⊢
  have hl : lv_has ls 2 [(0, .int x0), (1, .int x1)] := hl
  unfold fX11_numberOf at hf
  have J21 : ∀ (ls : Array Slot), lv_has ls 2 [(0, .int x0), (1, .int x1)] → fX11_numberOf_J21 N x0 x1 = some (.inl k) → W p l e (headSpec wyX11_numberOf { frames := 7, cells := 1, slots := 6, locals := 140 }).room s m [.int x0, .int x1].toArray below meth c s.heap [] 0 0 (vx_MQ below (va_Qi (fun _ (_ : Unit) => False) (fun _ _ => True) (fun q => s.heap.size ≤ q)) (vx_X (fun _ : Unit => True) (fun E _ _ => E = wb_ex k) (fun q => s.heap.size ≤ q)) [.int x0, .int x1].toArray s 1 6 (fun q => s.heap.size ≤ q)) (F0 m 21 ls []) := by
    intro ls hl hf
    unfold fX11_numberOf_J21 at hf
    refine lv_iconst (v := (0 : Int32)) hx hb dX11_numberOf_21 (by decide) ?_
    rcases wb_xt hf with hrx | ⟨r1, hr1, hf⟩
    · refine vx_callv (vx_runS (As := [.int (0 : Int32)]) (rest := []) ⟨hx, hb, hml, hown, hts⟩ (ct_X11_need l hlt D cB cI cZ N (0 : Int32) s.heap.size k hrx) (va_cwS 1 hts gyX11_numberOf_X11_need rfl rfl rfl csX11_need ⟨Nat.le_of_ble_eq_true rfl, Nat.le_of_ble_eq_true rfl⟩) (wb_preXS hP hK hX) rfl rfl hl.1 rfl (lv_room (Nat.le_of_ble_eq_true rfl)) dX11_numberOf_22 ⟨Nat.le_of_ble_eq_true rfl, Nat.le_of_ble_eq_true rfl⟩) hS (fun q _ h => h) (fun _ h => h) (fun q _ h => h) (fun E ce q9 u t H locs ht hvm hpx hB hz1 hk1 hS hq9 hv9 hc9 => ?_) (fun u t H locs ht hvm hw hB hz1 hk1 hS => hw.elim)
      exact vx_out (fun x hx9 => (htab x hx9).elim) hlocks hq9 hv9 hc9 (fun t9 ht9 hvm9 => ⟨(), trivial, hB, hS.F ht9⟩) hS.2.2 (Nat.le_of_ble_eq_true rfl) (Nat.le_of_ble_eq_true rfl)
    refine va_csv (W.runS (As := [.int (0 : Int32)]) (rest := []) ⟨hx, hb, hml, hown, hts⟩ (cn_X11_need l D cB cI cZ N (0 : Int32) r1 hr1) (va_cwS 1 hts gyX11_numberOf_X11_need rfl rfl rfl csX11_need ⟨Nat.le_of_ble_eq_true rfl, Nat.le_of_ble_eq_true rfl⟩) (wb_preS hP hK) rfl rfl hl.1 rfl (lv_room (Nat.le_of_ble_eq_true rfl)) dX11_numberOf_22 ⟨Nat.le_of_ble_eq_true rfl, Nat.le_of_ble_eq_true rfl⟩) (fun _ => ?_)
    exact absurd hf wb_okn
  refine lv_iload_n hx hb dX11_numberOf_0 rfl (lv_at hl 0 rfl) ?_
  obtain ⟨r2, hr2, hf⟩ := wb_b hf
  refine vp_callSi (W.runS (As := [.int x0]) (rest := []) ⟨hx, hb, hml, hown, hts⟩ (cn_X11_isBook l D cB cI cZ N x0 r2 hr2) (va_cwS 1 hts gyX11_numberOf_X11_isBook rfl rfl rfl csX11_isBook ⟨Nat.le_of_ble_eq_true rfl, Nat.le_of_ble_eq_true rfl⟩) (wb_preS hP hK) rfl rfl hl.1 rfl (lv_room (Nat.le_of_ble_eq_true rfl)) dX11_numberOf_1 ⟨Nat.le_of_ble_eq_true rfl, Nat.le_of_ble_eq_true rfl⟩) (fun r9 e9 => ?_)
  rw [e9]
  refine lv_if_eq (tgt := 21) hx hb dX11_numberOf_4 (by decide) (fun hc => ?_) (fun hc => ?_)
  · replace hf := wb_t hc hf
    exact J21 ls (lv_sub hl [0, 1] rfl) hf
  · replace hf := wb_f hc hf
    refine lv_iload_n hx hb dX11_numberOf_7 rfl (lv_at hl 1 rfl) ?_
    refine lv_iconst (v := (0 : Int32)) hx hb dX11_numberOf_8 (by decide) ?_
    refine lv_bipush (v := (19 : Int32)) hx hb dX11_numberOf_9 (by decide) ?_
    obtain ⟨r3, hr3, hf⟩ := wb_b hf
    refine vp_callSi (W.runS (As := [.int x1, .int (0 : Int32), .int (19 : Int32)]) (rest := []) ⟨hx, hb, hml, hown, hts⟩ (cn_X11_within l D cB cI cZ N x1 (0 : Int32) (19 : Int32) r3 hr3) (va_cwS 3 hts gyX11_numberOf_X11_within rfl rfl rfl csX11_within ⟨Nat.le_of_ble_eq_true rfl, Nat.le_of_ble_eq_true rfl⟩) (wb_preS hP hK) rfl rfl hl.1 rfl (lv_room (Nat.le_of_ble_eq_true rfl)) dX11_numberOf_11 ⟨Nat.le_of_ble_eq_true rfl, Nat.le_of_ble_eq_true rfl⟩) (fun r9 e9 => ?_)
    rw [e9]
    refine lv_if_eq (tgt := 21) hx hb dX11_numberOf_14 (by decide) (fun hc => ?_) (fun hc => ?_)
    · replace hf := wb_t hc hf
      exact J21 ls (lv_sub hl [0, 1] rfl) hf
    · replace hf := wb_f hc hf
      refine lv_iconst (v := (1 : Int32)) hx hb dX11_numberOf_17 (by decide) ?_
      refine lv_goto (tgt := 22) hx hb dX11_numberOf_18 (by decide) ?_
      rcases wb_xt hf with hrx | ⟨r4, hr4, hf⟩
      · refine vx_callv (vx_runS (As := [.int (1 : Int32)]) (rest := []) ⟨hx, hb, hml, hown, hts⟩ (ct_X11_need l hlt D cB cI cZ N (1 : Int32) s.heap.size k hrx) (va_cwS 1 hts gyX11_numberOf_X11_need rfl rfl rfl csX11_need ⟨Nat.le_of_ble_eq_true rfl, Nat.le_of_ble_eq_true rfl⟩) (wb_preXS hP hK hX) rfl rfl hl.1 rfl (lv_room (Nat.le_of_ble_eq_true rfl)) dX11_numberOf_22 ⟨Nat.le_of_ble_eq_true rfl, Nat.le_of_ble_eq_true rfl⟩) hS (fun q _ h => h) (fun _ h => h) (fun q _ h => h) (fun E ce q9 u t H locs ht hvm hpx hB hz1 hk1 hS hq9 hv9 hc9 => ?_) (fun u t H locs ht hvm hw hB hz1 hk1 hS => hw.elim)
        exact vx_out (fun x hx9 => (htab x hx9).elim) hlocks hq9 hv9 hc9 (fun t9 ht9 hvm9 => ⟨(), trivial, hB, hS.F ht9⟩) hS.2.2 (Nat.le_of_ble_eq_true rfl) (Nat.le_of_ble_eq_true rfl)
      refine va_csv (W.runS (As := [.int (1 : Int32)]) (rest := []) ⟨hx, hb, hml, hown, hts⟩ (cn_X11_need l D cB cI cZ N (1 : Int32) r4 hr4) (va_cwS 1 hts gyX11_numberOf_X11_need rfl rfl rfl csX11_need ⟨Nat.le_of_ble_eq_true rfl, Nat.le_of_ble_eq_true rfl⟩) (wb_preS hP hK) rfl rfl hl.1 rfl (lv_room (Nat.le_of_ble_eq_true rfl)) dX11_numberOf_22 ⟨Nat.le_of_ble_eq_true rfl, Nat.le_of_ble_eq_true rfl⟩) (fun _ => ?_)
      exact absurd hf wb_okn

set_option maxHeartbeats 4000000 in
set_option maxRecDepth 100000 in
theorem cn_X11_wheel (l : Launch) (D : va_G) (cB cI cZ : ClassId) (N : Nat) (aK aV : Nat → Nat) (a0 : Nat → Nat) (I0 : Nat → Int32) (M0 : Nat → Nat → Int32) (x1 : Int32) (x2 : Int32) (x3 : Int32) (sz : Nat) (R : Int32 × (Nat → Int32) × (Nat → Nat → Int32)) (hf : fX11_wheel N I0 M0 x1 x2 x3 = some (.inr R)) : Met l yX11_wheel wyX11_wheel ({ frames := 8, cells := 0, slots := 0, locals := 209 }) (va_Pc [.ref (a0 0), .int x1, .int x2, .int x3] (wb_preDE D [(cB, .byte), (cI, .int), (cZ, .boolean)] (wWX11 cB cI cZ a0 I0 M0) sz aK aV)) (va_Qi (fun r (_ : Unit) => r = R.1) (fun _ t => wb_post D [(cB, .byte), (cI, .int), (cZ, .boolean)] (va_A (wWX11 cB cI cZ a0 I0 M0) sz) (wWX11 cB cI cZ a0 R.2.1 R.2.2) t) (va_A (wWX11 cB cI cZ a0 I0 M0) sz)) 0 0 (va_A (wWX11 cB cI cZ a0 I0 M0) sz) := by
  refine Met.ofW (cc := cX11_wheel) (maxL := 5) (ret := (some .int)) pn_X11 rfl ?_
  intro p e s m args below meth c s₁ B hml hv
  obtain ⟨rfl, ⟨hsz, hP, hK, hD0⟩, hZ⟩ := hv
  have hx := B.exec
  have hb := B.bytes
  have hr := B.returns
  have hts := atoms_spec (ws := wyX11_wheel) B.pre
  have hown : s.vm.findClass RX11 = some m.cls := (findClass_of_methodNamed B.named :)
  have hlocks := B.notSynchronized
  have hinX11 : ∀ w ∈ u_ws RX11 TX11 13, w ∈ wyX11_wheel := fun w h => List.mem_cons_of_mem _ (List.mem_append_left _ (List.mem_append_left _ (List.mem_append_left _ (List.mem_append_left _ (List.mem_append_right _ h)))))
  have hinX9 : ∀ w ∈ u_ws RX9 TX9 10, w ∈ wyX11_wheel := fun w h => List.mem_cons_of_mem _ (List.mem_append_left _ (List.mem_append_left _ (List.mem_append_left _ (List.mem_append_right _ h))))
  subst hsz
  have hD := hD0.self (sz := s.heap.size)
  generalize hAe : va_A (wWX11 cB cI cZ a0 I0 M0) s.heap.size = A at hD hZ ⊢
  have hA : ∀ q : Nat, s.heap.size ≤ q → A q := fun q h => by rw [← hAe]; exact Or.inr h
  have hS : va_S A s.heap s.heap [] := va_S.rf
  have hl := lv_entry ([.ref (a0 0), .int x1, .int x2, .int x3]) (n := 5) (Nat.le_of_ble_eq_true rfl)
  rw [lg_entry_eq]
  generalize (lg_sl ([.ref (a0 0), .int x1, .int x2, .int x3]) ++ List.replicate (5 - (lg_sl ([.ref (a0 0), .int x1, .int x2, .int x3])).length) Slot.unset).toArray = ls at hl ⊢
  have hl : lv_has ls 5 [(0, .ref (a0 0)), (1, .int x1), (2, .int x2), (3, .int x3)] := hl
  unfold fX11_wheel at hf
  obtain ⟨H, hHe⟩ : ∃ H : Heap, H = s.heap := ⟨_, rfl⟩
  obtain ⟨locs, hle⟩ : ∃ locs : List Loc, locs = [] := ⟨_, rfl⟩
  refine wb_start (H := H) (locs := locs) hHe hle ?_
  rw [← hHe] at hP
  have hS : va_S A s.heap H locs := by rw [hHe, hle]; exact va_S.rf
  refine lv_iload_n hx hb dX11_wheel_0 rfl (lv_at hl 1 rfl) ?_
  refine lv_iload_n hx hb dX11_wheel_1 rfl (lv_at hl 2 rfl) ?_
  obtain ⟨r1, hr1, hf⟩ := wb_xr hf
  refine vp_callSi (W.runS (As := [.int x1, .int x2]) (rest := []) ⟨hx, hb, hml, hown, hts⟩ (cn_X11_numberOf l D cB cI cZ N x1 x2 r1 hr1) (va_cwS 2 hts gyX11_wheel_X11_numberOf rfl rfl rfl csX11_numberOf ⟨Nat.le_of_ble_eq_true rfl, Nat.le_of_ble_eq_true rfl⟩) (wb_preS (hP.sub (ws' := ([] : va_W)) [] rfl) hK) rfl rfl hl.1 rfl (lv_room (Nat.le_of_ble_eq_true rfl)) dX11_wheel_2 ⟨Nat.le_of_ble_eq_true rfl, Nat.le_of_ble_eq_true rfl⟩) (fun r9 e9 => ?_)
  rw [e9]
  refine lv_istore (lv' := [(4, .int r1), (0, .ref (a0 0)), (1, .int x1), (2, .int x2), (3, .int x3)]) hx hb dX11_wheel_5 hl (by decide) rfl (fun ls hl => ?_)
  refine lv_iload_n hx hb dX11_wheel_7 rfl (lv_at hl 4 rfl) ?_
  refine lv_iconst (v := (0 : Int32)) hx hb dX11_wheel_8 (by decide) ?_
  refine lv_aload_n hx hb dX11_wheel_9 rfl (lv_at hl 1 rfl) ?_
  refine va_get (D := D) (ci := 11) (v := .ref (a0 1)) (C := RX11) (T := TX11) (N := 13) hx hb hts hinX11 hown hK hP 0 rfl rfl 0 (by decide) (hts (.fieldLink RX11 10 "WheelBook" "text" "LWheelBook$Text;") (List.mem_of_getElem? (i := 1) rfl)) (fun _ h9 => h9) rfl dX11_wheel_10 ?_
  refine va_get (D := D) (ci := 9) (v := .int (I0 0)) (C := RX9) (T := TX9) (N := 10) hx hb hts hinX9 hown hK hP 1 rfl rfl 1 (by decide) (hts (.fieldLink RX11 92 "WheelBook$Text" "length" "I") (List.mem_of_getElem? (i := 2) rfl)) (fun _ h9 => h9) rfl dX11_wheel_13 ?_
  obtain ⟨r2, hr2, hf⟩ := wb_b hf
  refine vp_callSi (W.runS (As := [.int x3, .int (0 : Int32), .int (I0 0)]) (rest := []) ⟨hx, hb, hml, hown, hts⟩ (cn_X11_within l D cB cI cZ N x3 (0 : Int32) (I0 0) r2 hr2) (va_cwS 3 hts gyX11_wheel_X11_within rfl rfl rfl csX11_within ⟨Nat.le_of_ble_eq_true rfl, Nat.le_of_ble_eq_true rfl⟩) (wb_preS (hP.sub (ws' := ([] : va_W)) [] rfl) hK) rfl rfl hl.1 rfl (lv_room (Nat.le_of_ble_eq_true rfl)) dX11_wheel_16 ⟨Nat.le_of_ble_eq_true rfl, Nat.le_of_ble_eq_true rfl⟩) (fun r9 e9 => ?_)
  rw [e9]
  obtain ⟨r3, hr3, hf⟩ := wb_xr hf
  refine va_csv (W.runS (As := [.int r2]) (rest := []) ⟨hx, hb, hml, hown, hts⟩ (cn_X11_allow l D cB cI cZ N r2 r3 hr3) (va_cwS 1 hts gyX11_wheel_X11_allow rfl rfl rfl csX11_allow ⟨Nat.le_of_ble_eq_true rfl, Nat.le_of_ble_eq_true rfl⟩) (wb_preS (hP.sub (ws' := ([] : va_W)) [] rfl) hK) rfl rfl hl.1 rfl (lv_room (Nat.le_of_ble_eq_true rfl)) dX11_wheel_19 ⟨Nat.le_of_ble_eq_true rfl, Nat.le_of_ble_eq_true rfl⟩) (fun _ => ?_)
  replace hf := wb_okr hf
  refine lv_aload_n hx hb dX11_wheel_22 rfl (lv_at hl 1 rfl) ?_
  refine va_get (D := D) (ci := 11) (v := .ref (a0 1)) (C := RX11) (T := TX11) (N := 13) hx hb hts hinX11 hown hK hP 0 rfl rfl 0 (by decide) (hts (.fieldLink RX11 10 "WheelBook" "text" "LWheelBook$Text;") (List.mem_of_getElem? (i := 1) rfl)) (fun _ h9 => h9) rfl dX11_wheel_23 ?_
  refine lv_iload_n hx hb dX11_wheel_26 rfl (lv_at hl 4 rfl) ?_
  obtain ⟨r4, hr4, hf⟩ := wb_b hf
  have hPc := hP.sub (ws' := (wWX9 cB cI cZ (wb_sh a0 1) I0 M0)) [1, 2] rfl
  have hDc := hD.sub (ws' := (wWX9 cB cI cZ (wb_sh a0 1) I0 M0)) [1, 2] (by decide) rfl
  have hFc := va_free (wc := (wWX9 cB cI cZ (wb_sh a0 1) I0 M0)) hD hS hA [1, 2] rfl
  refine va_callv (va_runV (As := [.int x3]) (rest := []) ⟨hx, hb, hml, hown, hts⟩ (cn_X9_begin l D cB cI cZ N (wb_sh a0 1) I0 M0 x3 H.size r4 hr4) (cwV 1 hts gyX11_wheel_X9_begin rfl rfl rfl cdX9_begin ⟨Nat.le_of_ble_eq_true rfl, Nat.le_of_ble_eq_true rfl⟩) (wb_preDV hPc hK hDc (wr_9 hK hP (q0 := 1) rfl)) rfl rfl hl.1 rfl (lv_room (Nat.le_of_ble_eq_true rfl)) dX11_wheel_27 ⟨Nat.le_of_ble_eq_true rfl, Nat.le_of_ble_eq_true rfl⟩) hS (fun q _ h => hFc q h) hFc (fun u t H locs ht hvm hw hB hz1 hk1 hS => ?_)
  obtain ⟨hP, hD⟩ := wj_s (wc := (wWX9 cB cI cZ (wb_sh a0 1) I0 M0)) (w1 := (wWX9 cB cI cZ (wb_sh a0 1) r4.1 r4.2)) (wf := (wWX11 cB cI cZ a0 (wb_in I0 0 9 r4.1) (wb_in M0 0 1 r4.2))) 1 3 hP hD rfl rfl hk1 hFc ht hB
  obtain ⟨I0_5, eI0_5, hf⟩ := wb_v hf
  rw [← eI0_5] at hP hD
  obtain ⟨M0_6, eM0_6, hf⟩ := wb_v hf
  rw [← eM0_6] at hP hD
  refine lv_aload_n hx hb dX11_wheel_30 rfl (lv_at hl 1 rfl) ?_
  refine va_get (D := D) (ci := 11) (v := .ref (a0 21)) (C := RX11) (T := TX11) (N := 13) hx hb hts hinX11 hown hK hP 0 rfl rfl 3 (by decide) (hts (.fieldLink RX11 29 "WheelBook" "books" "LWheelBook$Books;") (List.mem_of_getElem? (i := 3) rfl)) (fun _ h9 => h9) rfl dX11_wheel_31 ?_
  refine lv_aload_n hx hb dX11_wheel_34 rfl (lv_at hl 1 rfl) ?_
  refine va_get (D := D) (ci := 11) (v := .ref (a0 1)) (C := RX11) (T := TX11) (N := 13) hx hb hts hinX11 hown hK hP 0 rfl rfl 0 (by decide) (hts (.fieldLink RX11 10 "WheelBook" "text" "LWheelBook$Text;") (List.mem_of_getElem? (i := 1) rfl)) (fun _ h9 => h9) rfl dX11_wheel_35 ?_
  obtain ⟨r7, hr7, hf⟩ := wb_b hf
  have hPc := hP.sub (ws' := ((wWX1 cB cI cZ (wb_sh a0 21) (wb_sh I0_5 13) (wb_sh M0_6 13)) ++ (wWX9 cB cI cZ (wb_sh a0 1) I0_5 M0_6))) [21, 22, 23, 1, 2] rfl
  have hDc := hD.sub (ws' := ((wWX1 cB cI cZ (wb_sh a0 21) (wb_sh I0_5 13) (wb_sh M0_6 13)) ++ (wWX9 cB cI cZ (wb_sh a0 1) I0_5 M0_6))) [21, 22, 23, 1, 2] (by decide) rfl
  have hFc := va_free (wc := ((wWX1 cB cI cZ (wb_sh a0 21) (wb_sh I0_5 13) (wb_sh M0_6 13)) ++ (wWX9 cB cI cZ (wb_sh a0 1) I0_5 M0_6))) hD hS hA [21, 22, 23, 1, 2] rfl
  refine va_calli (va_runV (As := [.ref (a0 1)]) (rest := []) ⟨hx, hb, hml, hown, hts⟩ (cn_X1_readEntries l D cB cI cZ N aK aV (wb_sh a0 21) (wb_sh I0_5 13) (wb_sh M0_6 13) (wb_sh a0 1) I0_5 M0_6 H.size r7 hr7) (cwV 1 hts gyX11_wheel_X1_readEntries rfl rfl rfl cdX1_readEntries ⟨Nat.le_of_ble_eq_true rfl, Nat.le_of_ble_eq_true rfl⟩) (wb_preDEV hPc hK hDc (wr_1 hK hP (q0 := 21) rfl) hZ hS hFc) rfl rfl hl.1 rfl (lv_room (Nat.le_of_ble_eq_true rfl)) dX11_wheel_38 ⟨Nat.le_of_ble_eq_true rfl, Nat.le_of_ble_eq_true rfl⟩) hS (fun q _ h => hFc q h) hFc (fun r9 u t H locs ht hvm hw hB hz1 hk1 hS => ?_)
  obtain ⟨hP, hD⟩ := wj_ba (a := (wWX9 cB cI cZ (wb_sh a0 1) I0_5 M0_6)) (b := (wWX1 cB cI cZ (wb_sh a0 21) (wb_sh I0_5 13) (wb_sh M0_6 13))) (a' := (wWX9 cB cI cZ (wb_sh a0 1) r7.2.2.2.1 r7.2.2.2.2)) (b' := (wWX1 cB cI cZ (wb_sh a0 21) r7.2.1 r7.2.2.1)) (wf := (wWX11 cB cI cZ a0 (wb_in (wb_in I0_5 13 0 r7.2.1) 0 9 r7.2.2.2.1) (wb_in (wb_in M0_6 13 2 r7.2.2.1) 0 1 r7.2.2.2.2))) 1 3 18 24 hP hD rfl rfl hk1 hFc ht hB
  rw [hw]
  obtain ⟨I0_8, eI0_8, hf⟩ := wb_v hf
  rw [← eI0_8] at hP hD
  obtain ⟨M0_9, eM0_9, hf⟩ := wb_v hf
  rw [← eM0_9] at hP hD
  refine lv_if_eq (tgt := 53) hx hb dX11_wheel_41 (by decide) (fun hc => ?_) (fun hc => ?_)
  · replace hf := wb_t hc hf
    refine lv_aload_n hx hb dX11_wheel_53 rfl (lv_at hl 1 rfl) ?_
    refine va_get (D := D) (ci := 11) (v := .ref (a0 1)) (C := RX11) (T := TX11) (N := 13) hx hb hts hinX11 hown hK hP 0 rfl rfl 0 (by decide) (hts (.fieldLink RX11 10 "WheelBook" "text" "LWheelBook$Text;") (List.mem_of_getElem? (i := 1) rfl)) (fun _ h9 => h9) rfl dX11_wheel_54 ?_
    refine va_get (D := D) (ci := 9) (v := .int (I0_8 7)) (C := RX9) (T := TX9) (N := 10) hx hb hts hinX9 hown hK hP 1 rfl rfl 8 (by decide) (hts (.fieldLink RX11 115 "WheelBook$Text" "faultKind" "I") (List.mem_of_getElem? (i := 4) rfl)) (fun _ h9 => h9) rfl dX11_wheel_57 ?_
    exact W.iret (v := (I0_8 7)) hx hb hr (fun t ht hW => by rw [← Option.some.inj hf]; exact ⟨⟨(I0_8 7), (), rfl, rfl, by rw [ht]; exact hP, va_K.moved hW.alike hK, hD⟩, hS.F ht⟩) hS.2.2 dX11_wheel_60
  · replace hf := wb_f hc hf
    refine lv_aload_n hx hb dX11_wheel_44 rfl (lv_at hl 1 rfl) ?_
    refine va_get (D := D) (ci := 11) (v := .ref (a0 21)) (C := RX11) (T := TX11) (N := 13) hx hb hts hinX11 hown hK hP 0 rfl rfl 3 (by decide) (hts (.fieldLink RX11 29 "WheelBook" "books" "LWheelBook$Books;") (List.mem_of_getElem? (i := 3) rfl)) (fun _ h9 => h9) rfl dX11_wheel_45 ?_
    refine lv_iload hx hb dX11_wheel_48 (lv_at hl 0 rfl) ?_
    obtain ⟨r10, hr10, hf⟩ := wb_b hf
    have hPc := hP.sub (ws' := (wWX1 cB cI cZ (wb_sh a0 21) (wb_sh I0_8 13) (wb_sh M0_9 13))) [21, 22, 23] rfl
    have hDc := hD.sub (ws' := (wWX1 cB cI cZ (wb_sh a0 21) (wb_sh I0_8 13) (wb_sh M0_9 13))) [21, 22, 23] (by decide) rfl
    have hFc := va_free (wc := (wWX1 cB cI cZ (wb_sh a0 21) (wb_sh I0_8 13) (wb_sh M0_9 13))) hD hS hA [21, 22, 23] rfl
    refine va_callv (va_runV (As := [.int r1]) (rest := []) ⟨hx, hb, hml, hown, hts⟩ (cn_X1_keepDraft l D cB cI cZ N (wb_sh a0 21) (wb_sh I0_8 13) (wb_sh M0_9 13) r1 H.size r10 hr10) (cwV 1 hts gyX11_wheel_X1_keepDraft rfl rfl rfl cdX1_keepDraft ⟨Nat.le_of_ble_eq_true rfl, Nat.le_of_ble_eq_true rfl⟩) (wb_preDV hPc hK hDc (wr_1 hK hP (q0 := 21) rfl)) rfl rfl hl.1 rfl (lv_room (Nat.le_of_ble_eq_true rfl)) dX11_wheel_50 ⟨Nat.le_of_ble_eq_true rfl, Nat.le_of_ble_eq_true rfl⟩) hS (fun q _ h => hFc q h) hFc (fun u t H locs ht hvm hw hB hz1 hk1 hS => ?_)
    obtain ⟨hP, hD⟩ := wj_s (wc := (wWX1 cB cI cZ (wb_sh a0 21) (wb_sh I0_8 13) (wb_sh M0_9 13))) (w1 := (wWX1 cB cI cZ (wb_sh a0 21) r10.1 r10.2)) (wf := (wWX11 cB cI cZ a0 (wb_in I0_8 13 0 r10.1) (wb_in M0_9 13 2 r10.2))) 21 24 hP hD rfl rfl hk1 hFc ht hB
    obtain ⟨I0_11, eI0_11, hf⟩ := wb_v hf
    rw [← eI0_11] at hP hD
    obtain ⟨M0_12, eM0_12, hf⟩ := wb_v hf
    rw [← eM0_12] at hP hD
    refine lv_aload_n hx hb dX11_wheel_53 rfl (lv_at hl 1 rfl) ?_
    refine va_get (D := D) (ci := 11) (v := .ref (a0 1)) (C := RX11) (T := TX11) (N := 13) hx hb hts hinX11 hown hK hP 0 rfl rfl 0 (by decide) (hts (.fieldLink RX11 10 "WheelBook" "text" "LWheelBook$Text;") (List.mem_of_getElem? (i := 1) rfl)) (fun _ h9 => h9) rfl dX11_wheel_54 ?_
    refine va_get (D := D) (ci := 9) (v := .int (I0_11 7)) (C := RX9) (T := TX9) (N := 10) hx hb hts hinX9 hown hK hP 1 rfl rfl 8 (by decide) (hts (.fieldLink RX11 115 "WheelBook$Text" "faultKind" "I") (List.mem_of_getElem? (i := 4) rfl)) (fun _ h9 => h9) rfl dX11_wheel_57 ?_
    exact W.iret (v := (I0_11 7)) hx hb hr (fun t ht hW => by rw [← Option.some.inj hf]; exact ⟨⟨(I0_11 7), (), rfl, rfl, by rw [ht]; exact hP, va_K.moved hW.alike hK, hD⟩, hS.F ht⟩) hS.2.2 dX11_wheel_60
set_option maxHeartbeats 4000000 in
set_option maxRecDepth 100000 in
theorem ct_X11_wheel (l : Launch) (hlt : l.stackTraces = false) (D : va_G) (cB cI cZ : ClassId) (N : Nat) (a0 : Nat → Nat) (I0 : Nat → Int32) (M0 : Nat → Nat → Int32) (x1 : Int32) (x2 : Int32) (x3 : Int32) (sz k : Nat) (hf : fX11_wheel N I0 M0 x1 x2 x3 = some (.inl k)) : vx_Met l yX11_wheel wyX11_wheel ({ frames := 8, cells := 1, slots := 6, locals := 209 }) (va_Pc [.ref (a0 0), .int x1, .int x2, .int x3] (wb_preX D [(cB, .byte), (cI, .int), (cZ, .boolean)] (wWX11 cB cI cZ a0 I0 M0) sz)) (va_Qi (fun _ (_ : Unit) => False) (fun _ _ => True) (fun q => sz ≤ q)) (vx_X (fun _ : Unit => True) (fun E _ _ => E = wb_ex k) (fun q => sz ≤ q)) 1 6 (fun q => sz ≤ q) := by
  refine vx_ofW (cc := cX11_wheel) (maxL := 5) (ret := (some .int)) (by decide) rfl ?_
  intro p e s m args below meth c s₁ B hml htab hv
  obtain ⟨rfl, hsz, hP, hK, hX⟩ := hv
  subst hsz
  have hx := B.exec
  have hb := B.bytes
  have hr := B.returns
  have hts := atoms_spec (ws := wyX11_wheel) B.pre
  have hown : s.vm.findClass RX11 = some m.cls := (findClass_of_methodNamed B.named :)
  have hlocks := B.notSynchronized
  have hS : va_S (fun q => s.heap.size ≤ q) s.heap s.heap [] := va_S.rf
  have hinX11 : ∀ w ∈ u_ws RX11 TX11 13, w ∈ wyX11_wheel := fun w h => List.mem_cons_of_mem _ (List.mem_append_left _ (List.mem_append_left _ (List.mem_append_left _ (List.mem_append_left _ (List.mem_append_right _ h)))))
  have hinX9 : ∀ w ∈ u_ws RX9 TX9 10, w ∈ wyX11_wheel := fun w h => List.mem_cons_of_mem _ (List.mem_append_left _ (List.mem_append_left _ (List.mem_append_left _ (List.mem_append_right _ h))))
  have hl := lv_entry ([.ref (a0 0), .int x1, .int x2, .int x3]) (n := 5) (Nat.le_of_ble_eq_true rfl)
  rw [lg_entry_eq]
  generalize (lg_sl ([.ref (a0 0), .int x1, .int x2, .int x3]) ++ List.replicate (5 - (lg_sl ([.ref (a0 0), .int x1, .int x2, .int x3])).length) Slot.unset).toArray = ls at hl ⊢
  have hl : lv_has ls 5 [(0, .ref (a0 0)), (1, .int x1), (2, .int x2), (3, .int x3)] := hl
  unfold fX11_wheel at hf
  refine lv_iload_n hx hb dX11_wheel_0 rfl (lv_at hl 1 rfl) ?_
  refine lv_iload_n hx hb dX11_wheel_1 rfl (lv_at hl 2 rfl) ?_
  rcases wb_xt hf with hrx | ⟨r1, hr1, hf⟩
  · refine vx_calli (vx_runS (As := [.int x1, .int x2]) (rest := []) ⟨hx, hb, hml, hown, hts⟩ (ct_X11_numberOf l hlt D cB cI cZ N x1 x2 s.heap.size k hrx) (va_cwS 2 hts gyX11_wheel_X11_numberOf rfl rfl rfl csX11_numberOf ⟨Nat.le_of_ble_eq_true rfl, Nat.le_of_ble_eq_true rfl⟩) (wb_preXS (hP.sub (ws' := ([] : va_W)) [] rfl) hK hX) rfl rfl hl.1 rfl (lv_room (Nat.le_of_ble_eq_true rfl)) dX11_wheel_2 ⟨Nat.le_of_ble_eq_true rfl, Nat.le_of_ble_eq_true rfl⟩) hS (fun q _ h => h) (fun _ h => h) (fun q _ h => h) (fun E ce q9 u t H locs ht hvm hpx hB hz1 hk1 hS hq9 hv9 hc9 => ?_) (fun r9 u t H locs ht hvm hw hB hz1 hk1 hS => hw.elim)
    exact vx_out (fun x hx9 => (htab x hx9).elim) hlocks hq9 hv9 hc9 (fun t9 ht9 hvm9 => ⟨(), trivial, hB, hS.F ht9⟩) hS.2.2 (Nat.le_of_ble_eq_true rfl) (Nat.le_of_ble_eq_true rfl)
  refine vp_callSi (W.runS (As := [.int x1, .int x2]) (rest := []) ⟨hx, hb, hml, hown, hts⟩ (cn_X11_numberOf l D cB cI cZ N x1 x2 r1 hr1) (va_cwS 2 hts gyX11_wheel_X11_numberOf rfl rfl rfl csX11_numberOf ⟨Nat.le_of_ble_eq_true rfl, Nat.le_of_ble_eq_true rfl⟩) (wb_preS (hP.sub (ws' := ([] : va_W)) [] rfl) hK) rfl rfl hl.1 rfl (lv_room (Nat.le_of_ble_eq_true rfl)) dX11_wheel_2 ⟨Nat.le_of_ble_eq_true rfl, Nat.le_of_ble_eq_true rfl⟩) (fun r9 e9 => ?_)
  rw [e9]
  refine lv_istore (lv' := [(4, .int r1), (0, .ref (a0 0)), (1, .int x1), (2, .int x2), (3, .int x3)]) hx hb dX11_wheel_5 hl (by decide) rfl (fun ls hl => ?_)
  refine lv_iload_n hx hb dX11_wheel_7 rfl (lv_at hl 4 rfl) ?_
  refine lv_iconst (v := (0 : Int32)) hx hb dX11_wheel_8 (by decide) ?_
  refine lv_aload_n hx hb dX11_wheel_9 rfl (lv_at hl 1 rfl) ?_
  refine va_get (D := D) (ci := 11) (v := .ref (a0 1)) (C := RX11) (T := TX11) (N := 13) hx hb hts hinX11 hown hK hP 0 rfl rfl 0 (by decide) (hts (.fieldLink RX11 10 "WheelBook" "text" "LWheelBook$Text;") (List.mem_of_getElem? (i := 1) rfl)) (fun _ h9 => h9) rfl dX11_wheel_10 ?_
  refine va_get (D := D) (ci := 9) (v := .int (I0 0)) (C := RX9) (T := TX9) (N := 10) hx hb hts hinX9 hown hK hP 1 rfl rfl 1 (by decide) (hts (.fieldLink RX11 92 "WheelBook$Text" "length" "I") (List.mem_of_getElem? (i := 2) rfl)) (fun _ h9 => h9) rfl dX11_wheel_13 ?_
  obtain ⟨r2, hr2, hf⟩ := wb_b hf
  refine vp_callSi (W.runS (As := [.int x3, .int (0 : Int32), .int (I0 0)]) (rest := []) ⟨hx, hb, hml, hown, hts⟩ (cn_X11_within l D cB cI cZ N x3 (0 : Int32) (I0 0) r2 hr2) (va_cwS 3 hts gyX11_wheel_X11_within rfl rfl rfl csX11_within ⟨Nat.le_of_ble_eq_true rfl, Nat.le_of_ble_eq_true rfl⟩) (wb_preS (hP.sub (ws' := ([] : va_W)) [] rfl) hK) rfl rfl hl.1 rfl (lv_room (Nat.le_of_ble_eq_true rfl)) dX11_wheel_16 ⟨Nat.le_of_ble_eq_true rfl, Nat.le_of_ble_eq_true rfl⟩) (fun r9 e9 => ?_)
  rw [e9]
  rcases wb_xt hf with hrx | ⟨r3, hr3, hf⟩
  · refine vx_callv (vx_runS (As := [.int r2]) (rest := []) ⟨hx, hb, hml, hown, hts⟩ (ct_X11_allow l hlt D cB cI cZ N r2 s.heap.size k hrx) (va_cwS 1 hts gyX11_wheel_X11_allow rfl rfl rfl csX11_allow ⟨Nat.le_of_ble_eq_true rfl, Nat.le_of_ble_eq_true rfl⟩) (wb_preXS (hP.sub (ws' := ([] : va_W)) [] rfl) hK hX) rfl rfl hl.1 rfl (lv_room (Nat.le_of_ble_eq_true rfl)) dX11_wheel_19 ⟨Nat.le_of_ble_eq_true rfl, Nat.le_of_ble_eq_true rfl⟩) hS (fun q _ h => h) (fun _ h => h) (fun q _ h => h) (fun E ce q9 u t H locs ht hvm hpx hB hz1 hk1 hS hq9 hv9 hc9 => ?_) (fun u t H locs ht hvm hw hB hz1 hk1 hS => hw.elim)
    exact vx_out (fun x hx9 => (htab x hx9).elim) hlocks hq9 hv9 hc9 (fun t9 ht9 hvm9 => ⟨(), trivial, hB, hS.F ht9⟩) hS.2.2 (Nat.le_of_ble_eq_true rfl) (Nat.le_of_ble_eq_true rfl)
  refine va_csv (W.runS (As := [.int r2]) (rest := []) ⟨hx, hb, hml, hown, hts⟩ (cn_X11_allow l D cB cI cZ N r2 r3 hr3) (va_cwS 1 hts gyX11_wheel_X11_allow rfl rfl rfl csX11_allow ⟨Nat.le_of_ble_eq_true rfl, Nat.le_of_ble_eq_true rfl⟩) (wb_preS (hP.sub (ws' := ([] : va_W)) [] rfl) hK) rfl rfl hl.1 rfl (lv_room (Nat.le_of_ble_eq_true rfl)) dX11_wheel_19 ⟨Nat.le_of_ble_eq_true rfl, Nat.le_of_ble_eq_true rfl⟩) (fun _ => ?_)
  exact absurd hf wb_okn

set_option maxHeartbeats 4000000 in
set_option maxRecDepth 100000 in
theorem cn_X11_fault (l : Launch) (D : va_G) (cB cI cZ : ClassId) (N : Nat) (a0 : Nat → Nat) (I0 : Nat → Int32) (M0 : Nat → Nat → Int32) (R : Int32) (hf : fX11_fault N I0 M0 = some R) : Met l yX11_fault wsX11_fault ({ frames := 0, cells := 0, slots := 0, locals := 0 }) (va_Pc [.ref (a0 0)] (wb_pre D [(cB, .byte), (cI, .int), (cZ, .boolean)] (wWX11 cB cI cZ a0 I0 M0))) (vp_Si (fun r => r = R)) 0 0 (fun _ => False) := by
  refine Met.ofW (cc := cX11_fault) (maxL := 1) (ret := (some .int)) pn_X11 rfl ?_
  intro p e s m args below meth c s₁ B hml hv
  obtain ⟨rfl, hP, hK⟩ := hv
  have hx := B.exec
  have hb := B.bytes
  have hr := B.returns
  have hts := atoms_spec (ws := wsX11_fault) B.pre
  have hown : s.vm.findClass RX11 = some m.cls := (findClass_of_methodNamed B.named :)
  have hlocks := B.notSynchronized
  have hinX11 : ∀ w ∈ u_ws RX11 TX11 13, w ∈ wsX11_fault := fun w h => List.mem_cons_of_mem _ (List.mem_append_left _ (List.mem_append_right _ h))
  have hinX9 : ∀ w ∈ u_ws RX9 TX9 10, w ∈ wsX11_fault := fun w h => List.mem_cons_of_mem _ (List.mem_append_right _ h)
  have hl := lv_entry ([.ref (a0 0)]) (n := 1) (Nat.le_of_ble_eq_true rfl)
  rw [lg_entry_eq]
  generalize (lg_sl ([.ref (a0 0)]) ++ List.replicate (1 - (lg_sl ([.ref (a0 0)])).length) Slot.unset).toArray = ls at hl ⊢
  have hl : lv_has ls 1 [(0, .ref (a0 0))] := hl
  unfold fX11_fault at hf
  refine lv_aload_n hx hb dX11_fault_0 rfl (lv_at hl 0 rfl) ?_
  refine va_get (D := D) (ci := 11) (v := .ref (a0 1)) (C := RX11) (T := TX11) (N := 13) hx hb hts hinX11 hown hK hP 0 rfl rfl 0 (by decide) (hts (.fieldLink RX11 10 "WheelBook" "text" "LWheelBook$Text;") (List.mem_of_getElem? (i := 1) rfl)) (fun _ h9 => h9) rfl dX11_fault_1 ?_
  refine va_get (D := D) (ci := 9) (v := .int (I0 8)) (C := RX9) (T := TX9) (N := 10) hx hb hts hinX9 hown hK hP 1 rfl rfl 9 (by decide) (hts (.fieldLink RX11 128 "WheelBook$Text" "faultPlace" "I") (List.mem_of_getElem? (i := 2) rfl)) (fun _ h9 => h9) rfl dX11_fault_4 ?_
  exact W.iret (v := (I0 8)) hx hb hr (fun t ht hW => ⟨_, rfl, Option.some.inj hf, ht⟩) (fun _ h => nomatch h) dX11_fault_7

set_option maxHeartbeats 4000000 in
set_option maxRecDepth 100000 in
theorem cn_X11_count (l : Launch) (D : va_G) (cB cI cZ : ClassId) (N : Nat) (a0 : Nat → Nat) (I0 : Nat → Int32) (M0 : Nat → Nat → Int32) (x1 : Int32) (sz : Nat) (R : Int32 × (Nat → Int32) × (Nat → Nat → Int32)) (hf : fX11_count N I0 M0 x1 = some (.inr R)) : Met l yX11_count wyX11_count ({ frames := 6, cells := 0, slots := 0, locals := 120 }) (va_Pc [.ref (a0 0), .int x1] (wb_preD D [(cB, .byte), (cI, .int), (cZ, .boolean)] (wWX11 cB cI cZ a0 I0 M0) sz)) (va_Qi (fun r (_ : Unit) => r = R.1) (fun _ t => wb_post D [(cB, .byte), (cI, .int), (cZ, .boolean)] (va_A (wWX11 cB cI cZ a0 I0 M0) sz) (wWX11 cB cI cZ a0 R.2.1 R.2.2) t) (va_A (wWX11 cB cI cZ a0 I0 M0) sz)) 0 0 (va_A (wWX11 cB cI cZ a0 I0 M0) sz) := by
  refine Met.ofW (cc := cX11_count) (maxL := 2) (ret := (some .int)) pn_X11 rfl ?_
  intro p e s m args below meth c s₁ B hml hv
  obtain ⟨rfl, hsz, hP, hK, hD0⟩ := hv
  have hx := B.exec
  have hb := B.bytes
  have hr := B.returns
  have hts := atoms_spec (ws := wyX11_count) B.pre
  have hown : s.vm.findClass RX11 = some m.cls := (findClass_of_methodNamed B.named :)
  have hlocks := B.notSynchronized
  have hinX11 : ∀ w ∈ u_ws RX11 TX11 13, w ∈ wyX11_count := fun w h => List.mem_cons_of_mem _ (List.mem_append_left _ (List.mem_append_left _ (List.mem_append_left _ (List.mem_append_left _ (List.mem_append_left _ (List.mem_append_left _ (List.mem_append_left _ (List.mem_append_right _ h))))))))
  have hinX2 : ∀ w ∈ u_ws RX2 TX2 2, w ∈ wyX11_count := fun w h => List.mem_cons_of_mem _ (List.mem_append_left _ (List.mem_append_left _ (List.mem_append_left _ (List.mem_append_left _ (List.mem_append_left _ (List.mem_append_right _ h))))))
  have hinX4 : ∀ w ∈ u_ws RX4 TX4 2, w ∈ wyX11_count := fun w h => List.mem_cons_of_mem _ (List.mem_append_left _ (List.mem_append_left _ (List.mem_append_left _ (List.mem_append_left _ (List.mem_append_right _ h)))))
  have hinX5 : ∀ w ∈ u_ws RX5 TX5 6, w ∈ wyX11_count := fun w h => List.mem_cons_of_mem _ (List.mem_append_left _ (List.mem_append_left _ (List.mem_append_left _ (List.mem_append_left _ (List.mem_append_left _ (List.mem_append_left _ (List.mem_append_right _ h)))))))
  have hinX9 : ∀ w ∈ u_ws RX9 TX9 10, w ∈ wyX11_count := fun w h => List.mem_cons_of_mem _ (List.mem_append_left _ (List.mem_append_left _ (List.mem_append_left _ (List.mem_append_right _ h))))
  subst hsz
  have hD := hD0.self (sz := s.heap.size)
  generalize hAe : va_A (wWX11 cB cI cZ a0 I0 M0) s.heap.size = A at hD ⊢
  have hA : ∀ q : Nat, s.heap.size ≤ q → A q := fun q h => by rw [← hAe]; exact Or.inr h
  have hS : va_S A s.heap s.heap [] := va_S.rf
  have hl := lv_entry ([.ref (a0 0), .int x1]) (n := 2) (Nat.le_of_ble_eq_true rfl)
  rw [lg_entry_eq]
  generalize (lg_sl ([.ref (a0 0), .int x1]) ++ List.replicate (2 - (lg_sl ([.ref (a0 0), .int x1])).length) Slot.unset).toArray = ls at hl ⊢
  have hl : lv_has ls 2 [(0, .ref (a0 0)), (1, .int x1)] := hl
  unfold fX11_count at hf
  obtain ⟨H, hHe⟩ : ∃ H : Heap, H = s.heap := ⟨_, rfl⟩
  obtain ⟨locs, hle⟩ : ∃ locs : List Loc, locs = [] := ⟨_, rfl⟩
  refine wb_start (H := H) (locs := locs) hHe hle ?_
  rw [← hHe] at hP
  have hS : va_S A s.heap H locs := by rw [hHe, hle]; exact va_S.rf
  refine lv_iload_n hx hb dX11_count_0 rfl (lv_at hl 1 rfl) ?_
  by_cases hc0 : x1 = (0 : Int32)
  · replace hf := wb_t hc0 hf
    refine lv_tableIn (off := 39) (tgt := 40) hx hb dX11_count_1 (by rw [hc0]; decide) (by rw [hc0]; decide) (by rw [hc0]; rfl) (by decide) ?_
    replace hf := wb_okr hf
    refine lv_aload_n hx hb dX11_count_40 rfl (lv_at hl 0 rfl) ?_
    refine va_get (D := D) (ci := 11) (v := .ref (a0 3)) (C := RX11) (T := TX11) (N := 13) hx hb hts hinX11 hown hK hP 0 rfl rfl 1 (by decide) (hts (.fieldLink RX11 19 "WheelBook" "told" "LWheelBook$House;") (List.mem_of_getElem? (i := 3) rfl)) (fun _ h9 => h9) rfl dX11_count_41 ?_
    refine va_get (D := D) (ci := 5) (v := .ref (a0 8)) (C := RX5) (T := TX5) (N := 6) hx hb hts hinX5 hown hK hP 3 rfl rfl 4 (by decide) (hts (.fieldLink RX11 131 "WheelBook$House" "climates" "LWheelBook$Climates;") (List.mem_of_getElem? (i := 4) rfl)) (fun _ h9 => h9) rfl dX11_count_44 ?_
    refine va_get (D := D) (ci := 2) (v := .int (I0 9)) (C := RX2) (T := TX2) (N := 2) hx hb hts hinX2 hown hK hP 8 rfl rfl 1 (by decide) (hts (.fieldLink RX11 135 "WheelBook$Climates" "many" "I") (List.mem_of_getElem? (i := 5) rfl)) (fun _ h9 => h9) rfl dX11_count_47 ?_
    exact W.iret (v := (I0 9)) hx hb hr (fun t ht hW => by rw [← Option.some.inj hf]; exact ⟨⟨(I0 9), (), rfl, rfl, by rw [ht]; exact hP, va_K.moved hW.alike hK, hD⟩, hS.F ht⟩) hS.2.2 dX11_count_50
  replace hf := wb_f hc0 hf
  by_cases hc1 : x1 = (1 : Int32)
  · replace hf := wb_t hc1 hf
    refine lv_tableIn (off := 50) (tgt := 51) hx hb dX11_count_1 (by rw [hc1]; decide) (by rw [hc1]; decide) (by rw [hc1]; rfl) (by decide) ?_
    replace hf := wb_okr hf
    refine lv_aload_n hx hb dX11_count_51 rfl (lv_at hl 0 rfl) ?_
    refine va_get (D := D) (ci := 11) (v := .ref (a0 3)) (C := RX11) (T := TX11) (N := 13) hx hb hts hinX11 hown hK hP 0 rfl rfl 1 (by decide) (hts (.fieldLink RX11 19 "WheelBook" "told" "LWheelBook$House;") (List.mem_of_getElem? (i := 3) rfl)) (fun _ h9 => h9) rfl dX11_count_52 ?_
    refine va_get (D := D) (ci := 5) (v := .ref (a0 10)) (C := RX5) (T := TX5) (N := 6) hx hb hts hinX5 hown hK hP 3 rfl rfl 5 (by decide) (hts (.fieldLink RX11 140 "WheelBook$House" "hands" "LWheelBook$Hands;") (List.mem_of_getElem? (i := 6) rfl)) (fun _ h9 => h9) rfl dX11_count_55 ?_
    refine va_get (D := D) (ci := 4) (v := .int (I0 10)) (C := RX4) (T := TX4) (N := 2) hx hb hts hinX4 hown hK hP 10 rfl rfl 1 (by decide) (hts (.fieldLink RX11 144 "WheelBook$Hands" "many" "I") (List.mem_of_getElem? (i := 7) rfl)) (fun _ h9 => h9) rfl dX11_count_58 ?_
    exact W.iret (v := (I0 10)) hx hb hr (fun t ht hW => by rw [← Option.some.inj hf]; exact ⟨⟨(I0 10), (), rfl, rfl, by rw [ht]; exact hP, va_K.moved hW.alike hK, hD⟩, hS.F ht⟩) hS.2.2 dX11_count_61
  replace hf := wb_f hc1 hf
  by_cases hc2 : x1 = (2 : Int32)
  · replace hf := wb_t hc2 hf
    refine lv_tableIn (off := 61) (tgt := 62) hx hb dX11_count_1 (by rw [hc2]; decide) (by rw [hc2]; decide) (by rw [hc2]; rfl) (by decide) ?_
    replace hf := wb_okr hf
    refine lv_aload_n hx hb dX11_count_62 rfl (lv_at hl 0 rfl) ?_
    refine va_get (D := D) (ci := 11) (v := .ref (a0 21)) (C := RX11) (T := TX11) (N := 13) hx hb hts hinX11 hown hK hP 0 rfl rfl 3 (by decide) (hts (.fieldLink RX11 29 "WheelBook" "books" "LWheelBook$Books;") (List.mem_of_getElem? (i := 8) rfl)) (fun _ h9 => h9) rfl dX11_count_63 ?_
    obtain ⟨r1, hr1, hf⟩ := wb_b hf
    refine vp_callSi (W.runV (As := []) (rest := []) ⟨hx, hb, hml, hown, hts⟩ (cn_X1_howManyTell l D cB cI cZ N (wb_sh a0 21) (wb_sh I0 13) (wb_sh M0 13) r1 hr1) (cwV 0 hts gyX11_count_X1_howManyTell rfl rfl rfl cdX1_howManyTell ⟨Nat.le_of_ble_eq_true rfl, Nat.le_of_ble_eq_true rfl⟩) (wb_preV (hP.sub (ws' := (wWX1 cB cI cZ (wb_sh a0 21) (wb_sh I0 13) (wb_sh M0 13))) [21, 22, 23] rfl) hK (wr_1 hK hP (q0 := 21) rfl)) rfl rfl hl.1 rfl (lv_room (Nat.le_of_ble_eq_true rfl)) dX11_count_66 ⟨Nat.le_of_ble_eq_true rfl, Nat.le_of_ble_eq_true rfl⟩) (fun r9 e9 => ?_)
    rw [e9]
    exact W.iret (v := r1) hx hb hr (fun t ht hW => by rw [← Option.some.inj hf]; exact ⟨⟨r1, (), rfl, rfl, by rw [ht]; exact hP, va_K.moved hW.alike hK, hD⟩, hS.F ht⟩) hS.2.2 dX11_count_69
  replace hf := wb_f hc2 hf
  by_cases hc3 : x1 = (3 : Int32)
  · replace hf := wb_t hc3 hf
    refine lv_tableIn (off := 69) (tgt := 70) hx hb dX11_count_1 (by rw [hc3]; decide) (by rw [hc3]; decide) (by rw [hc3]; rfl) (by decide) ?_
    replace hf := wb_okr hf
    refine lv_aload_n hx hb dX11_count_70 rfl (lv_at hl 0 rfl) ?_
    refine va_get (D := D) (ci := 11) (v := .ref (a0 45)) (C := RX11) (T := TX11) (N := 13) hx hb hts hinX11 hown hK hP 0 rfl rfl 12 (by decide) (hts (.fieldLink RX11 80 "WheelBook" "outcomes" "LWheelBook$Outcomes;") (List.mem_of_getElem? (i := 9) rfl)) (fun _ h9 => h9) rfl dX11_count_71 ?_
    obtain ⟨r2, hr2, hf⟩ := wb_b hf
    have hPc := hP.sub (ws' := (wWX7 cB cI cZ (wb_sh a0 45) (wb_sh I0 43) (wb_sh M0 28))) [45, 46, 47, 48, 49, 50, 51] rfl
    have hDc := hD.sub (ws' := (wWX7 cB cI cZ (wb_sh a0 45) (wb_sh I0 43) (wb_sh M0 28))) [45, 46, 47, 48, 49, 50, 51] (by decide) rfl
    have hFc := va_free (wc := (wWX7 cB cI cZ (wb_sh a0 45) (wb_sh I0 43) (wb_sh M0 28))) hD hS hA [45, 46, 47, 48, 49, 50, 51] rfl
    refine va_calli (va_runV (As := []) (rest := []) ⟨hx, hb, hml, hown, hts⟩ (cn_X7_howManyLives l D cB cI cZ N (wb_sh a0 45) (wb_sh I0 43) (wb_sh M0 28) H.size r2 hr2) (cwV 0 hts gyX11_count_X7_howManyLives rfl rfl rfl cdX7_howManyLives ⟨Nat.le_of_ble_eq_true rfl, Nat.le_of_ble_eq_true rfl⟩) (wb_preDV hPc hK hDc (wr_7 hK hP (q0 := 45) rfl)) rfl rfl hl.1 rfl (lv_room (Nat.le_of_ble_eq_true rfl)) dX11_count_74 ⟨Nat.le_of_ble_eq_true rfl, Nat.le_of_ble_eq_true rfl⟩) hS (fun q _ h => hFc q h) hFc (fun r9 u t H locs ht hvm hw hB hz1 hk1 hS => ?_)
    obtain ⟨hP, hD⟩ := wj_s (wc := (wWX7 cB cI cZ (wb_sh a0 45) (wb_sh I0 43) (wb_sh M0 28))) (w1 := (wWX7 cB cI cZ (wb_sh a0 45) r2.2.1 r2.2.2)) (wf := (wWX11 cB cI cZ a0 (wb_in I0 43 0 r2.2.1) (wb_in M0 28 6 r2.2.2))) 45 52 hP hD rfl rfl hk1 hFc ht hB
    rw [hw]
    obtain ⟨I0_3, eI0_3, hf⟩ := wb_v hf
    rw [← eI0_3] at hP hD
    obtain ⟨M0_4, eM0_4, hf⟩ := wb_v hf
    rw [← eM0_4] at hP hD
    exact W.iret (v := r2.1) hx hb hr (fun t ht hW => by rw [← Option.some.inj hf]; exact ⟨⟨r2.1, (), rfl, rfl, by rw [ht]; exact hP, va_K.moved hW.alike hK, hD⟩, hS.F ht⟩) hS.2.2 dX11_count_77
  replace hf := wb_f hc3 hf
  by_cases hc4 : x1 = (4 : Int32)
  · replace hf := wb_t hc4 hf
    refine lv_tableIn (off := 77) (tgt := 78) hx hb dX11_count_1 (by rw [hc4]; decide) (by rw [hc4]; decide) (by rw [hc4]; rfl) (by decide) ?_
    replace hf := wb_okr hf
    refine lv_aload_n hx hb dX11_count_78 rfl (lv_at hl 0 rfl) ?_
    refine va_get (D := D) (ci := 11) (v := .ref (a0 1)) (C := RX11) (T := TX11) (N := 13) hx hb hts hinX11 hown hK hP 0 rfl rfl 0 (by decide) (hts (.fieldLink RX11 10 "WheelBook" "text" "LWheelBook$Text;") (List.mem_of_getElem? (i := 10) rfl)) (fun _ h9 => h9) rfl dX11_count_79 ?_
    refine va_get (D := D) (ci := 9) (v := .int (I0 0)) (C := RX9) (T := TX9) (N := 10) hx hb hts hinX9 hown hK hP 1 rfl rfl 1 (by decide) (hts (.fieldLink RX11 92 "WheelBook$Text" "length" "I") (List.mem_of_getElem? (i := 11) rfl)) (fun _ h9 => h9) rfl dX11_count_82 ?_
    exact W.iret (v := (I0 0)) hx hb hr (fun t ht hW => by rw [← Option.some.inj hf]; exact ⟨⟨(I0 0), (), rfl, rfl, by rw [ht]; exact hP, va_K.moved hW.alike hK, hD⟩, hS.F ht⟩) hS.2.2 dX11_count_85
  replace hf := wb_f hc4 hf
  by_cases hc5 : x1 = (5 : Int32)
  · replace hf := wb_t hc5 hf
    refine lv_tableIn (off := 85) (tgt := 86) hx hb dX11_count_1 (by rw [hc5]; decide) (by rw [hc5]; decide) (by rw [hc5]; rfl) (by decide) ?_
    replace hf := wb_okr hf
    refine lv_aload_n hx hb dX11_count_86 rfl (lv_at hl 0 rfl) ?_
    refine va_get (D := D) (ci := 11) (v := .ref (a0 45)) (C := RX11) (T := TX11) (N := 13) hx hb hts hinX11 hown hK hP 0 rfl rfl 12 (by decide) (hts (.fieldLink RX11 80 "WheelBook" "outcomes" "LWheelBook$Outcomes;") (List.mem_of_getElem? (i := 9) rfl)) (fun _ h9 => h9) rfl dX11_count_87 ?_
    obtain ⟨r5, hr5, hf⟩ := wb_b hf
    have hPc := hP.sub (ws' := (wWX7 cB cI cZ (wb_sh a0 45) (wb_sh I0 43) (wb_sh M0 28))) [45, 46, 47, 48, 49, 50, 51] rfl
    have hDc := hD.sub (ws' := (wWX7 cB cI cZ (wb_sh a0 45) (wb_sh I0 43) (wb_sh M0 28))) [45, 46, 47, 48, 49, 50, 51] (by decide) rfl
    have hFc := va_free (wc := (wWX7 cB cI cZ (wb_sh a0 45) (wb_sh I0 43) (wb_sh M0 28))) hD hS hA [45, 46, 47, 48, 49, 50, 51] rfl
    refine va_calli (va_runV (As := []) (rest := []) ⟨hx, hb, hml, hown, hts⟩ (cn_X7_howManyFates l D cB cI cZ N (wb_sh a0 45) (wb_sh I0 43) (wb_sh M0 28) H.size r5 hr5) (cwV 0 hts gyX11_count_X7_howManyFates rfl rfl rfl cdX7_howManyFates ⟨Nat.le_of_ble_eq_true rfl, Nat.le_of_ble_eq_true rfl⟩) (wb_preDV hPc hK hDc (wr_7 hK hP (q0 := 45) rfl)) rfl rfl hl.1 rfl (lv_room (Nat.le_of_ble_eq_true rfl)) dX11_count_90 ⟨Nat.le_of_ble_eq_true rfl, Nat.le_of_ble_eq_true rfl⟩) hS (fun q _ h => hFc q h) hFc (fun r9 u t H locs ht hvm hw hB hz1 hk1 hS => ?_)
    obtain ⟨hP, hD⟩ := wj_s (wc := (wWX7 cB cI cZ (wb_sh a0 45) (wb_sh I0 43) (wb_sh M0 28))) (w1 := (wWX7 cB cI cZ (wb_sh a0 45) r5.2.1 r5.2.2)) (wf := (wWX11 cB cI cZ a0 (wb_in I0 43 0 r5.2.1) (wb_in M0 28 6 r5.2.2))) 45 52 hP hD rfl rfl hk1 hFc ht hB
    rw [hw]
    obtain ⟨I0_6, eI0_6, hf⟩ := wb_v hf
    rw [← eI0_6] at hP hD
    obtain ⟨M0_7, eM0_7, hf⟩ := wb_v hf
    rw [← eM0_7] at hP hD
    exact W.iret (v := r5.1) hx hb hr (fun t ht hW => by rw [← Option.some.inj hf]; exact ⟨⟨r5.1, (), rfl, rfl, by rw [ht]; exact hP, va_K.moved hW.alike hK, hD⟩, hS.F ht⟩) hS.2.2 dX11_count_93
  replace hf := wb_f hc5 hf
  refine lv_tableOut (tgt := 94) hx hb dX11_count_1 (wb_sw6 hc0 hc1 hc2 hc3 hc4 hc5) (by decide) ?_
  exact absurd hf (fun h => nomatch (Option.some.inj h))
set_option maxHeartbeats 4000000 in
set_option maxRecDepth 100000 in
theorem ct_X11_count (l : Launch) (hlt : l.stackTraces = false) (D : va_G) (cB cI cZ : ClassId) (N : Nat) (a0 : Nat → Nat) (I0 : Nat → Int32) (M0 : Nat → Nat → Int32) (x1 : Int32) (sz k : Nat) (hf : fX11_count N I0 M0 x1 = some (.inl k)) : vx_Met l yX11_count wyX11_count ({ frames := 6, cells := 1, slots := 6, locals := 120 }) (va_Pc [.ref (a0 0), .int x1] (wb_preX D [(cB, .byte), (cI, .int), (cZ, .boolean)] (wWX11 cB cI cZ a0 I0 M0) sz)) (va_Qi (fun _ (_ : Unit) => False) (fun _ _ => True) (fun q => sz ≤ q)) (vx_X (fun _ : Unit => True) (fun E _ _ => E = wb_ex k) (fun q => sz ≤ q)) 1 6 (fun q => sz ≤ q) := by
  refine vx_ofW (cc := cX11_count) (maxL := 2) (ret := (some .int)) (by decide) rfl ?_
  intro p e s m args below meth c s₁ B hml htab hv
  obtain ⟨rfl, hsz, hP, hK, hX⟩ := hv
  subst hsz
  have hx := B.exec
  have hb := B.bytes
  have hr := B.returns
  have hts := atoms_spec (ws := wyX11_count) B.pre
  have hown : s.vm.findClass RX11 = some m.cls := (findClass_of_methodNamed B.named :)
  have hlocks := B.notSynchronized
  have hS : va_S (fun q => s.heap.size ≤ q) s.heap s.heap [] := va_S.rf
  have hts9 : ∀ w ∈ wx_at1.filter goodWord, w.before _ s = true := fun w h => hts w (List.mem_cons_of_mem _ (List.mem_append_right _ h))
  have hl := lv_entry ([.ref (a0 0), .int x1]) (n := 2) (Nat.le_of_ble_eq_true rfl)
  rw [lg_entry_eq]
  generalize (lg_sl ([.ref (a0 0), .int x1]) ++ List.replicate (2 - (lg_sl ([.ref (a0 0), .int x1])).length) Slot.unset).toArray = ls at hl ⊢
  have hl : lv_has ls 2 [(0, .ref (a0 0)), (1, .int x1)] := hl
  unfold fX11_count at hf
  refine lv_iload_n hx hb dX11_count_0 rfl (lv_at hl 1 rfl) ?_
  by_cases hc0 : x1 = (0 : Int32)
  · replace hf := wb_t hc0 hf
    refine lv_tableIn (off := 39) (tgt := 40) hx hb dX11_count_1 (by rw [hc0]; decide) (by rw [hc0]; decide) (by rw [hc0]; rfl) (by decide) ?_
    exact absurd hf wb_okn
  replace hf := wb_f hc0 hf
  by_cases hc1 : x1 = (1 : Int32)
  · replace hf := wb_t hc1 hf
    refine lv_tableIn (off := 50) (tgt := 51) hx hb dX11_count_1 (by rw [hc1]; decide) (by rw [hc1]; decide) (by rw [hc1]; rfl) (by decide) ?_
    exact absurd hf wb_okn
  replace hf := wb_f hc1 hf
  by_cases hc2 : x1 = (2 : Int32)
  · replace hf := wb_t hc2 hf
    refine lv_tableIn (off := 61) (tgt := 62) hx hb dX11_count_1 (by rw [hc2]; decide) (by rw [hc2]; decide) (by rw [hc2]; rfl) (by decide) ?_
    exact absurd hf wb_okn
  replace hf := wb_f hc2 hf
  by_cases hc3 : x1 = (3 : Int32)
  · replace hf := wb_t hc3 hf
    refine lv_tableIn (off := 69) (tgt := 70) hx hb dX11_count_1 (by rw [hc3]; decide) (by rw [hc3]; decide) (by rw [hc3]; rfl) (by decide) ?_
    exact absurd hf wb_okn
  replace hf := wb_f hc3 hf
  by_cases hc4 : x1 = (4 : Int32)
  · replace hf := wb_t hc4 hf
    refine lv_tableIn (off := 77) (tgt := 78) hx hb dX11_count_1 (by rw [hc4]; decide) (by rw [hc4]; decide) (by rw [hc4]; rfl) (by decide) ?_
    exact absurd hf wb_okn
  replace hf := wb_f hc4 hf
  by_cases hc5 : x1 = (5 : Int32)
  · replace hf := wb_t hc5 hf
    refine lv_tableIn (off := 85) (tgt := 86) hx hb dX11_count_1 (by rw [hc5]; decide) (by rw [hc5]; decide) (by rw [hc5]; rfl) (by decide) ?_
    exact absurd hf wb_okn
  replace hf := wb_f hc5 hf
  refine lv_tableOut (tgt := 94) hx hb dX11_count_1 (wb_sw6 hc0 hc1 hc2 hc3 hc4 hc5) (by decide) ?_
  obtain rfl : (1 : Nat) = k := Sum.inl.inj (Option.some.inj hf)
  exact wx_thr1 hx hb hlt hown (hts (.classLink RX11 157 "java/util/NoSuchElementException") (List.mem_of_getElem? (i := 1) rfl)) (hts (.initialized "java/util/NoSuchElementException") (List.mem_of_getElem? (i := 2) rfl)) (hts9) hX hS (hl.1.trans hml.symm) dX11_count_94 dX11_count_97 dX11_count_98 dX11_count_100 dX11_count_103 (fun x hx9 => (htab x hx9).elim) hlocks (Nat.le_of_ble_eq_true rfl) (Nat.le_of_ble_eq_true rfl) (Nat.le_of_ble_eq_true rfl) (Nat.le_of_ble_eq_true rfl)

set_option maxHeartbeats 4000000 in
set_option maxRecDepth 100000 in
theorem cn_X11_isDay (l : Launch) (D : va_G) (cB cI cZ : ClassId) (N : Nat) (x0 : Int32) (R : Int32) (hf : fX11_isDay N x0 = some R) : Met l yX11_isDay wsX11_isDay ({ frames := 1, cells := 0, slots := 0, locals := 22 }) (va_Pc [.int x0] (wb_pre D [(cB, .byte), (cI, .int), (cZ, .boolean)] ([] : va_W))) (vp_Si (fun r => r = R)) 0 0 (fun _ => False) := by
  refine Met.ofW (cc := cX11_isDay) (maxL := 1) (ret := (some .boolean)) pn_X11 rfl ?_
  intro p e s m args below meth c s₁ B hml hv
  obtain ⟨rfl, hP, hK⟩ := hv
  have hx := B.exec
  have hb := B.bytes
  have hr := B.returns
  have hts := atoms_spec (ws := wsX11_isDay) B.pre
  have hown : s.vm.findClass RX11 = some m.cls := (findClass_of_methodNamed B.named :)
  have hlocks := B.notSynchronized
  have hl := lv_entry ([.int x0]) (n := 1) (Nat.le_of_ble_eq_true rfl)
  rw [lg_entry_eq]
  generalize (lg_sl ([.int x0]) ++ List.replicate (1 - (lg_sl ([.int x0])).length) Slot.unset).toArray = ls at hl ⊢
  have hl : lv_has ls 1 [(0, .int x0)] := hl
  unfold fX11_isDay at hf
  refine lv_iload_n hx hb dX11_isDay_0 rfl (lv_at hl 0 rfl) ?_
  refine lv_iconst (v := (0 : Int32)) hx hb dX11_isDay_1 (by decide) ?_
  refine lv_ldcw (v := (1000000 : Int32)) hx hb hown (hts (.constant RX11 370 (1000000)) (List.mem_of_getElem? (i := 1) rfl)) dX11_isDay_2 ?_
  obtain ⟨r1, hr1, hf⟩ := wb_b hf
  refine vp_callSi (W.runS (As := [.int x0, .int (0 : Int32), .int (1000000 : Int32)]) (rest := []) ⟨hx, hb, hml, hown, hts⟩ (cn_X11_within l D cB cI cZ N x0 (0 : Int32) (1000000 : Int32) r1 hr1) (va_cwS 3 hts gX11_isDay_X11_within rfl rfl rfl csX11_within ⟨Nat.le_of_ble_eq_true rfl, Nat.le_of_ble_eq_true rfl⟩) (wb_preS hP hK) rfl rfl hl.1 rfl (lv_room (Nat.le_of_ble_eq_true rfl)) dX11_isDay_5 ⟨Nat.le_of_ble_eq_true rfl, Nat.le_of_ble_eq_true rfl⟩) (fun r9 e9 => ?_)
  rw [e9]
  obtain ⟨hz, hf⟩ := wb_y hf
  exact W.zret (v := r1) hx hb hr (congrArg Value.int hz) (fun t ht hW => ⟨_, rfl, Option.some.inj hf, ht⟩) (fun _ h => nomatch h) dX11_isDay_8

set_option maxHeartbeats 4000000 in
set_option maxRecDepth 100000 in
theorem cn_X11_place (l : Launch) (D : va_G) (cB cI cZ : ClassId) (N : Nat) (a0 : Nat → Nat) (I0 : Nat → Int32) (M0 : Nat → Nat → Int32) (x1 : Int32) (x2 : Int32) (x3 : Int32) (R : Int32) (hf : fX11_place N I0 M0 x1 x2 x3 = some (.inr R)) : Met l yX11_place wyX11_place ({ frames := 7, cells := 0, slots := 0, locals := 140 }) (va_Pc [.ref (a0 0), .int x1, .int x2, .int x3] (wb_pre D [(cB, .byte), (cI, .int), (cZ, .boolean)] (wWX11 cB cI cZ a0 I0 M0))) (vp_Si (fun r => r = R)) 0 0 (fun _ => False) := by
  refine Met.ofW (cc := cX11_place) (maxL := 4) (ret := (some .int)) pn_X11 rfl ?_
  intro p e s m args below meth c s₁ B hml hv
  obtain ⟨rfl, hP, hK⟩ := hv
  have hx := B.exec
  have hb := B.bytes
  have hr := B.returns
  have hts := atoms_spec (ws := wyX11_place) B.pre
  have hown : s.vm.findClass RX11 = some m.cls := (findClass_of_methodNamed B.named :)
  have hlocks := B.notSynchronized
  have hinX11 : ∀ w ∈ u_ws RX11 TX11 13, w ∈ wyX11_place := fun w h => List.mem_cons_of_mem _ (List.mem_append_left _ (List.mem_append_left _ (List.mem_append_right _ h)))
  have hl := lv_entry ([.ref (a0 0), .int x1, .int x2, .int x3]) (n := 4) (Nat.le_of_ble_eq_true rfl)
  rw [lg_entry_eq]
  generalize (lg_sl ([.ref (a0 0), .int x1, .int x2, .int x3]) ++ List.replicate (4 - (lg_sl ([.ref (a0 0), .int x1, .int x2, .int x3])).length) Slot.unset).toArray = ls at hl ⊢
  have hl : lv_has ls 4 [(0, .ref (a0 0)), (1, .int x1), (2, .int x2), (3, .int x3)] := hl
  unfold fX11_place at hf
  have J31 : ∀ (z31_0 : Int32), ∀ (ls : Array Slot), lv_has ls 4 [(0, .ref (a0 0)), (1, .int x1), (2, .int x2), (3, .int x3)] → fX11_place_J31 N I0 M0 x1 x2 x3 z31_0 = some (.inr R) → W p l e (headSpec wyX11_place { frames := 7, cells := 0, slots := 0, locals := 140 }).room s m [.ref (a0 0), .int x1, .int x2, .int x3].toArray below meth c s.heap [] 0 0 (MQ below (vp_Si (fun r => r = R)) [.ref (a0 0), .int x1, .int x2, .int x3].toArray s 0 0 (fun _ => False)) (F0 m 31 ls [.int z31_0]) := by
    intro z31_0 ls hl hf
    unfold fX11_place_J31 at hf
    obtain ⟨r1, hr1, hf⟩ := wb_xr hf
    refine va_csv (W.runS (As := [.int z31_0]) (rest := []) ⟨hx, hb, hml, hown, hts⟩ (cn_X11_need l D cB cI cZ N z31_0 r1 hr1) (va_cwS 1 hts gyX11_place_X11_need rfl rfl rfl csX11_need ⟨Nat.le_of_ble_eq_true rfl, Nat.le_of_ble_eq_true rfl⟩) (wb_preS (hP.sub (ws' := ([] : va_W)) [] rfl) hK) rfl rfl hl.1 rfl (lv_room (Nat.le_of_ble_eq_true rfl)) dX11_place_31 ⟨Nat.le_of_ble_eq_true rfl, Nat.le_of_ble_eq_true rfl⟩) (fun _ => ?_)
    replace hf := wb_okr hf
    refine lv_aload_n hx hb dX11_place_34 rfl (lv_at hl 0 rfl) ?_
    refine va_get (D := D) (ci := 11) (v := .ref (a0 3)) (C := RX11) (T := TX11) (N := 13) hx hb hts hinX11 hown hK hP 0 rfl rfl 1 (by decide) (hts (.fieldLink RX11 19 "WheelBook" "told" "LWheelBook$House;") (List.mem_of_getElem? (i := 1) rfl)) (fun _ h9 => h9) rfl dX11_place_35 ?_
    refine lv_iload_n hx hb dX11_place_38 rfl (lv_at hl 1 rfl) ?_
    refine lv_iload_n hx hb dX11_place_39 rfl (lv_at hl 2 rfl) ?_
    refine lv_iload_n hx hb dX11_place_40 rfl (lv_at hl 3 rfl) ?_
    obtain ⟨r2, hr2, hf⟩ := wb_b hf
    refine vp_callSi (W.runV (As := [.int x1, .int x2, .int x3]) (rest := []) ⟨hx, hb, hml, hown, hts⟩ (cn_X5_placeOn l D cB cI cZ N (wb_sh a0 3) (wb_sh I0 9) (wb_sh M0 1) x1 x2 x3 r2 hr2) (cwV 3 hts gyX11_place_X5_placeOn rfl rfl rfl cdX5_placeOn ⟨Nat.le_of_ble_eq_true rfl, Nat.le_of_ble_eq_true rfl⟩) (wb_preV (hP.sub (ws' := (wWX5 cB cI cZ (wb_sh a0 3) (wb_sh I0 9) (wb_sh M0 1))) [3, 4, 5, 6, 7, 8, 9, 10, 11] rfl) hK (wr_5 hK hP (q0 := 3) rfl)) rfl rfl hl.1 rfl (lv_room (Nat.le_of_ble_eq_true rfl)) dX11_place_41 ⟨Nat.le_of_ble_eq_true rfl, Nat.le_of_ble_eq_true rfl⟩) (fun r9 e9 => ?_)
    rw [e9]
    exact W.iret (v := r2) hx hb hr (fun t ht hW => ⟨_, rfl, Option.some.inj hf, ht⟩) (fun _ h => nomatch h) dX11_place_44
  have J30 : ∀ (ls : Array Slot), lv_has ls 4 [(0, .ref (a0 0)), (1, .int x1), (2, .int x2), (3, .int x3)] → fX11_place_J30 N I0 M0 x1 x2 x3 = some (.inr R) → W p l e (headSpec wyX11_place { frames := 7, cells := 0, slots := 0, locals := 140 }).room s m [.ref (a0 0), .int x1, .int x2, .int x3].toArray below meth c s.heap [] 0 0 (MQ below (vp_Si (fun r => r = R)) [.ref (a0 0), .int x1, .int x2, .int x3].toArray s 0 0 (fun _ => False)) (F0 m 30 ls []) := by
    intro ls hl hf
    unfold fX11_place_J30 at hf
    refine lv_iconst (v := (0 : Int32)) hx hb dX11_place_30 (by decide) ?_
    exact J31 (0 : Int32) ls (lv_sub hl [0, 1, 2, 3] rfl) hf
  refine lv_iload_n hx hb dX11_place_0 rfl (lv_at hl 1 rfl) ?_
  refine lv_iconst (v := (0 : Int32)) hx hb dX11_place_1 (by decide) ?_
  refine lv_iconst (v := (3 : Int32)) hx hb dX11_place_2 (by decide) ?_
  obtain ⟨r3, hr3, hf⟩ := wb_b hf
  refine vp_callSi (W.runS (As := [.int x1, .int (0 : Int32), .int (3 : Int32)]) (rest := []) ⟨hx, hb, hml, hown, hts⟩ (cn_X11_within l D cB cI cZ N x1 (0 : Int32) (3 : Int32) r3 hr3) (va_cwS 3 hts gyX11_place_X11_within rfl rfl rfl csX11_within ⟨Nat.le_of_ble_eq_true rfl, Nat.le_of_ble_eq_true rfl⟩) (wb_preS (hP.sub (ws' := ([] : va_W)) [] rfl) hK) rfl rfl hl.1 rfl (lv_room (Nat.le_of_ble_eq_true rfl)) dX11_place_3 ⟨Nat.le_of_ble_eq_true rfl, Nat.le_of_ble_eq_true rfl⟩) (fun r9 e9 => ?_)
  rw [e9]
  refine lv_if_eq (tgt := 30) hx hb dX11_place_6 (by decide) (fun hc => ?_) (fun hc => ?_)
  · replace hf := wb_t hc hf
    exact J30 ls (lv_sub hl [0, 1, 2, 3] rfl) hf
  · replace hf := wb_f hc hf
    refine lv_iload_n hx hb dX11_place_9 rfl (lv_at hl 2 rfl) ?_
    refine lv_iconst (v := (0 : Int32)) hx hb dX11_place_10 (by decide) ?_
    refine lv_bipush (v := (6 : Int32)) hx hb dX11_place_11 (by decide) ?_
    obtain ⟨r4, hr4, hf⟩ := wb_b hf
    refine vp_callSi (W.runS (As := [.int x2, .int (0 : Int32), .int (6 : Int32)]) (rest := []) ⟨hx, hb, hml, hown, hts⟩ (cn_X11_within l D cB cI cZ N x2 (0 : Int32) (6 : Int32) r4 hr4) (va_cwS 3 hts gyX11_place_X11_within rfl rfl rfl csX11_within ⟨Nat.le_of_ble_eq_true rfl, Nat.le_of_ble_eq_true rfl⟩) (wb_preS (hP.sub (ws' := ([] : va_W)) [] rfl) hK) rfl rfl hl.1 rfl (lv_room (Nat.le_of_ble_eq_true rfl)) dX11_place_13 ⟨Nat.le_of_ble_eq_true rfl, Nat.le_of_ble_eq_true rfl⟩) (fun r9 e9 => ?_)
    rw [e9]
    refine lv_if_eq (tgt := 30) hx hb dX11_place_16 (by decide) (fun hc => ?_) (fun hc => ?_)
    · replace hf := wb_t hc hf
      exact J30 ls (lv_sub hl [0, 1, 2, 3] rfl) hf
    · replace hf := wb_f hc hf
      refine lv_iload_n hx hb dX11_place_19 rfl (lv_at hl 3 rfl) ?_
      obtain ⟨r5, hr5, hf⟩ := wb_b hf
      refine vp_callSi (W.runS (As := [.int x3]) (rest := []) ⟨hx, hb, hml, hown, hts⟩ (cn_X11_isDay l D cB cI cZ N x3 r5 hr5) (va_cwS 1 hts gyX11_place_X11_isDay rfl rfl rfl csX11_isDay ⟨Nat.le_of_ble_eq_true rfl, Nat.le_of_ble_eq_true rfl⟩) (wb_preS (hP.sub (ws' := ([] : va_W)) [] rfl) hK) rfl rfl hl.1 rfl (lv_room (Nat.le_of_ble_eq_true rfl)) dX11_place_20 ⟨Nat.le_of_ble_eq_true rfl, Nat.le_of_ble_eq_true rfl⟩) (fun r9 e9 => ?_)
      rw [e9]
      refine lv_if_eq (tgt := 30) hx hb dX11_place_23 (by decide) (fun hc => ?_) (fun hc => ?_)
      · replace hf := wb_t hc hf
        exact J30 ls (lv_sub hl [0, 1, 2, 3] rfl) hf
      · replace hf := wb_f hc hf
        refine lv_iconst (v := (1 : Int32)) hx hb dX11_place_26 (by decide) ?_
        refine lv_goto (tgt := 31) hx hb dX11_place_27 (by decide) ?_
        exact J31 (1 : Int32) ls (lv_sub hl [0, 1, 2, 3] rfl) hf
set_option maxHeartbeats 4000000 in
set_option maxRecDepth 100000 in
theorem ct_X11_place (l : Launch) (hlt : l.stackTraces = false) (D : va_G) (cB cI cZ : ClassId) (N : Nat) (a0 : Nat → Nat) (I0 : Nat → Int32) (M0 : Nat → Nat → Int32) (x1 : Int32) (x2 : Int32) (x3 : Int32) (sz k : Nat) (hf : fX11_place N I0 M0 x1 x2 x3 = some (.inl k)) : vx_Met l yX11_place wyX11_place ({ frames := 7, cells := 1, slots := 6, locals := 140 }) (va_Pc [.ref (a0 0), .int x1, .int x2, .int x3] (wb_preX D [(cB, .byte), (cI, .int), (cZ, .boolean)] (wWX11 cB cI cZ a0 I0 M0) sz)) (va_Qi (fun _ (_ : Unit) => False) (fun _ _ => True) (fun q => sz ≤ q)) (vx_X (fun _ : Unit => True) (fun E _ _ => E = wb_ex k) (fun q => sz ≤ q)) 1 6 (fun q => sz ≤ q) := by
  refine vx_ofW (cc := cX11_place) (maxL := 4) (ret := (some .int)) (by decide) rfl ?_
  intro p e s m args below meth c s₁ B hml htab hv
  obtain ⟨rfl, hsz, hP, hK, hX⟩ := hv
  subst hsz
  have hx := B.exec
  have hb := B.bytes
  have hr := B.returns
  have hts := atoms_spec (ws := wyX11_place) B.pre
  have hown : s.vm.findClass RX11 = some m.cls := (findClass_of_methodNamed B.named :)
  have hlocks := B.notSynchronized
  have hS : va_S (fun q => s.heap.size ≤ q) s.heap s.heap [] := va_S.rf
  have hl := lv_entry ([.ref (a0 0), .int x1, .int x2, .int x3]) (n := 4) (Nat.le_of_ble_eq_true rfl)
  rw [lg_entry_eq]
  generalize (lg_sl ([.ref (a0 0), .int x1, .int x2, .int x3]) ++ List.replicate (4 - (lg_sl ([.ref (a0 0), .int x1, .int x2, .int x3])).length) Slot.unset).toArray = ls at hl ⊢
  have hl : lv_has ls 4 [(0, .ref (a0 0)), (1, .int x1), (2, .int x2), (3, .int x3)] := hl
  unfold fX11_place at hf
  have J31 : ∀ (z31_0 : Int32), ∀ (ls : Array Slot), lv_has ls 4 [(0, .ref (a0 0)), (1, .int x1), (2, .int x2), (3, .int x3)] → fX11_place_J31 N I0 M0 x1 x2 x3 z31_0 = some (.inl k) → W p l e (headSpec wyX11_place { frames := 7, cells := 1, slots := 6, locals := 140 }).room s m [.ref (a0 0), .int x1, .int x2, .int x3].toArray below meth c s.heap [] 0 0 (vx_MQ below (va_Qi (fun _ (_ : Unit) => False) (fun _ _ => True) (fun q => s.heap.size ≤ q)) (vx_X (fun _ : Unit => True) (fun E _ _ => E = wb_ex k) (fun q => s.heap.size ≤ q)) [.ref (a0 0), .int x1, .int x2, .int x3].toArray s 1 6 (fun q => s.heap.size ≤ q)) (F0 m 31 ls [.int z31_0]) := by
    intro z31_0 ls hl hf
    unfold fX11_place_J31 at hf
    rcases wb_xt hf with hrx | ⟨r1, hr1, hf⟩
    · refine vx_callv (vx_runS (As := [.int z31_0]) (rest := []) ⟨hx, hb, hml, hown, hts⟩ (ct_X11_need l hlt D cB cI cZ N z31_0 s.heap.size k hrx) (va_cwS 1 hts gyX11_place_X11_need rfl rfl rfl csX11_need ⟨Nat.le_of_ble_eq_true rfl, Nat.le_of_ble_eq_true rfl⟩) (wb_preXS (hP.sub (ws' := ([] : va_W)) [] rfl) hK hX) rfl rfl hl.1 rfl (lv_room (Nat.le_of_ble_eq_true rfl)) dX11_place_31 ⟨Nat.le_of_ble_eq_true rfl, Nat.le_of_ble_eq_true rfl⟩) hS (fun q _ h => h) (fun _ h => h) (fun q _ h => h) (fun E ce q9 u t H locs ht hvm hpx hB hz1 hk1 hS hq9 hv9 hc9 => ?_) (fun u t H locs ht hvm hw hB hz1 hk1 hS => hw.elim)
      exact vx_out (fun x hx9 => (htab x hx9).elim) hlocks hq9 hv9 hc9 (fun t9 ht9 hvm9 => ⟨(), trivial, hB, hS.F ht9⟩) hS.2.2 (Nat.le_of_ble_eq_true rfl) (Nat.le_of_ble_eq_true rfl)
    refine va_csv (W.runS (As := [.int z31_0]) (rest := []) ⟨hx, hb, hml, hown, hts⟩ (cn_X11_need l D cB cI cZ N z31_0 r1 hr1) (va_cwS 1 hts gyX11_place_X11_need rfl rfl rfl csX11_need ⟨Nat.le_of_ble_eq_true rfl, Nat.le_of_ble_eq_true rfl⟩) (wb_preS (hP.sub (ws' := ([] : va_W)) [] rfl) hK) rfl rfl hl.1 rfl (lv_room (Nat.le_of_ble_eq_true rfl)) dX11_place_31 ⟨Nat.le_of_ble_eq_true rfl, Nat.le_of_ble_eq_true rfl⟩) (fun _ => ?_)
    exact absurd hf wb_okn
  have J30 : ∀ (ls : Array Slot), lv_has ls 4 [(0, .ref (a0 0)), (1, .int x1), (2, .int x2), (3, .int x3)] → fX11_place_J30 N I0 M0 x1 x2 x3 = some (.inl k) → W p l e (headSpec wyX11_place { frames := 7, cells := 1, slots := 6, locals := 140 }).room s m [.ref (a0 0), .int x1, .int x2, .int x3].toArray below meth c s.heap [] 0 0 (vx_MQ below (va_Qi (fun _ (_ : Unit) => False) (fun _ _ => True) (fun q => s.heap.size ≤ q)) (vx_X (fun _ : Unit => True) (fun E _ _ => E = wb_ex k) (fun q => s.heap.size ≤ q)) [.ref (a0 0), .int x1, .int x2, .int x3].toArray s 1 6 (fun q => s.heap.size ≤ q)) (F0 m 30 ls []) := by
    intro ls hl hf
    unfold fX11_place_J30 at hf
    refine lv_iconst (v := (0 : Int32)) hx hb dX11_place_30 (by decide) ?_
    exact J31 (0 : Int32) ls (lv_sub hl [0, 1, 2, 3] rfl) hf
  refine lv_iload_n hx hb dX11_place_0 rfl (lv_at hl 1 rfl) ?_
  refine lv_iconst (v := (0 : Int32)) hx hb dX11_place_1 (by decide) ?_
  refine lv_iconst (v := (3 : Int32)) hx hb dX11_place_2 (by decide) ?_
  obtain ⟨r2, hr2, hf⟩ := wb_b hf
  refine vp_callSi (W.runS (As := [.int x1, .int (0 : Int32), .int (3 : Int32)]) (rest := []) ⟨hx, hb, hml, hown, hts⟩ (cn_X11_within l D cB cI cZ N x1 (0 : Int32) (3 : Int32) r2 hr2) (va_cwS 3 hts gyX11_place_X11_within rfl rfl rfl csX11_within ⟨Nat.le_of_ble_eq_true rfl, Nat.le_of_ble_eq_true rfl⟩) (wb_preS (hP.sub (ws' := ([] : va_W)) [] rfl) hK) rfl rfl hl.1 rfl (lv_room (Nat.le_of_ble_eq_true rfl)) dX11_place_3 ⟨Nat.le_of_ble_eq_true rfl, Nat.le_of_ble_eq_true rfl⟩) (fun r9 e9 => ?_)
  rw [e9]
  refine lv_if_eq (tgt := 30) hx hb dX11_place_6 (by decide) (fun hc => ?_) (fun hc => ?_)
  · replace hf := wb_t hc hf
    exact J30 ls (lv_sub hl [0, 1, 2, 3] rfl) hf
  · replace hf := wb_f hc hf
    refine lv_iload_n hx hb dX11_place_9 rfl (lv_at hl 2 rfl) ?_
    refine lv_iconst (v := (0 : Int32)) hx hb dX11_place_10 (by decide) ?_
    refine lv_bipush (v := (6 : Int32)) hx hb dX11_place_11 (by decide) ?_
    obtain ⟨r3, hr3, hf⟩ := wb_b hf
    refine vp_callSi (W.runS (As := [.int x2, .int (0 : Int32), .int (6 : Int32)]) (rest := []) ⟨hx, hb, hml, hown, hts⟩ (cn_X11_within l D cB cI cZ N x2 (0 : Int32) (6 : Int32) r3 hr3) (va_cwS 3 hts gyX11_place_X11_within rfl rfl rfl csX11_within ⟨Nat.le_of_ble_eq_true rfl, Nat.le_of_ble_eq_true rfl⟩) (wb_preS (hP.sub (ws' := ([] : va_W)) [] rfl) hK) rfl rfl hl.1 rfl (lv_room (Nat.le_of_ble_eq_true rfl)) dX11_place_13 ⟨Nat.le_of_ble_eq_true rfl, Nat.le_of_ble_eq_true rfl⟩) (fun r9 e9 => ?_)
    rw [e9]
    refine lv_if_eq (tgt := 30) hx hb dX11_place_16 (by decide) (fun hc => ?_) (fun hc => ?_)
    · replace hf := wb_t hc hf
      exact J30 ls (lv_sub hl [0, 1, 2, 3] rfl) hf
    · replace hf := wb_f hc hf
      refine lv_iload_n hx hb dX11_place_19 rfl (lv_at hl 3 rfl) ?_
      obtain ⟨r4, hr4, hf⟩ := wb_b hf
      refine vp_callSi (W.runS (As := [.int x3]) (rest := []) ⟨hx, hb, hml, hown, hts⟩ (cn_X11_isDay l D cB cI cZ N x3 r4 hr4) (va_cwS 1 hts gyX11_place_X11_isDay rfl rfl rfl csX11_isDay ⟨Nat.le_of_ble_eq_true rfl, Nat.le_of_ble_eq_true rfl⟩) (wb_preS (hP.sub (ws' := ([] : va_W)) [] rfl) hK) rfl rfl hl.1 rfl (lv_room (Nat.le_of_ble_eq_true rfl)) dX11_place_20 ⟨Nat.le_of_ble_eq_true rfl, Nat.le_of_ble_eq_true rfl⟩) (fun r9 e9 => ?_)
      rw [e9]
      refine lv_if_eq (tgt := 30) hx hb dX11_place_23 (by decide) (fun hc => ?_) (fun hc => ?_)
      · replace hf := wb_t hc hf
        exact J30 ls (lv_sub hl [0, 1, 2, 3] rfl) hf
      · replace hf := wb_f hc hf
        refine lv_iconst (v := (1 : Int32)) hx hb dX11_place_26 (by decide) ?_
        refine lv_goto (tgt := 31) hx hb dX11_place_27 (by decide) ?_
        exact J31 (1 : Int32) ls (lv_sub hl [0, 1, 2, 3] rfl) hf
