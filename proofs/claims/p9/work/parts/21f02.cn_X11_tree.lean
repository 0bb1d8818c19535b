set_option maxHeartbeats 4000000 in
set_option maxRecDepth 100000 in
theorem cn_X11_tree (l : Launch) (D : va_G) (cB cI cZ : ClassId) (N : Nat) (a0 : Nat → Nat) (I0 : Nat → Int32) (M0 : Nat → Nat → Int32) (sz : Nat) (R : Int32 × (Nat → Int32) × (Nat → Nat → Int32)) (hf : fX11_tree N I0 M0 = some R) : Met l yX11_tree wsX11_tree ({ frames := 9, cells := 0, slots := 0, locals := 268 }) (va_Pc [.ref (a0 0)] (wb_preD D [(cB, .byte), (cI, .int), (cZ, .boolean)] (wWX11 cB cI cZ a0 I0 M0) sz)) (va_Qi (fun r (_ : Unit) => r = R.1) (fun _ t => wb_post D [(cB, .byte), (cI, .int), (cZ, .boolean)] (va_A (wWX11 cB cI cZ a0 I0 M0) sz) (wWX11 cB cI cZ a0 R.2.1 R.2.2) t) (va_A (wWX11 cB cI cZ a0 I0 M0) sz)) 0 0 (va_A (wWX11 cB cI cZ a0 I0 M0) sz) := by
  refine Met.ofW (cc := cX11_tree) (maxL := 1) (ret := (some .int)) (by decide) rfl ?_
  intro p e s m args below meth c s₁ B hml hv
  obtain ⟨rfl, hsz, hP, hK, hD0⟩ := hv
  have hx := B.exec
  have hb := B.bytes
  have hr := B.returns
  have hts := atoms_spec (ws := wsX11_tree) B.pre
  have hown : s.vm.findClass RX11 = some m.cls := findClass_of_methodNamed B.named
  have hlocks := B.notSynchronized
  have hinX11 : ∀ w ∈ u_ws RX11 TX11 13, w ∈ wsX11_tree := fun w h => List.mem_cons_of_mem _ (List.mem_append_left _ (List.mem_append_left _ (List.mem_append_left _ (List.mem_append_left _ (List.mem_append_right _ h)))))
  have hinX5 : ∀ w ∈ u_ws RX5 TX5 6, w ∈ wsX11_tree := fun w h => List.mem_cons_of_mem _ (List.mem_append_left _ (List.mem_append_left _ (List.mem_append_left _ (List.mem_append_right _ h))))
  subst hsz
  have hD := hD0.self (sz := s.heap.size)
  generalize hAe : va_A (wWX11 cB cI cZ a0 I0 M0) s.heap.size = A at hD ⊢
  have hA : ∀ q : Nat, s.heap.size ≤ q → A q := fun q h => by rw [← hAe]; exact Or.inr h
  have hS : va_S A s.heap s.heap [] := va_S.rf
  have hl := lv_entry ([.ref (a0 0)]) (n := 1) (Nat.le_of_ble_eq_true rfl)
  rw [lg_entry_eq]
  generalize (lg_sl ([.ref (a0 0)]) ++ List.replicate (1 - (lg_sl ([.ref (a0 0)])).length) Slot.unset).toArray = ls at hl ⊢
  have hl : lv_has ls 1 [(0, .ref (a0 0))] := hl
  unfold fX11_tree at hf
  obtain ⟨H, hHe⟩ : ∃ H : Heap, H = s.heap := ⟨_, rfl⟩
  obtain ⟨locs, hle⟩ : ∃ locs : List Loc, locs = [] := ⟨_, rfl⟩
  refine wb_start (H := H) (locs := locs) hHe hle ?_
  rw [← hHe] at hP
  have hS : va_S A s.heap H locs := by rw [hHe, hle]; exact va_S.rf
  refine lv_aload_n hx hb dX11_tree_0 rfl (lv_at hl 0 rfl) ?_
  refine va_get (D := D) (ci := 11) (v := .ref (a0 34)) (C := RX11) (T := TX11) (N := 13) hx hb hts hinX11 hown hK hP 0 rfl rfl 9 (by decide) (hts (.fieldLink RX11 59 "WheelBook" "copies" "LWheelBook$Tree;") (List.mem_of_getElem? (i := 1) rfl)) (fun _ h9 => h9) rfl dX11_tree_1 ?_
  refine lv_aload_n hx hb dX11_tree_4 rfl (lv_at hl 0 rfl) ?_
  refine va_get (D := D) (ci := 11) (v := .ref (a0 21)) (C := RX11) (T := TX11) (N := 13) hx hb hts hinX11 hown hK hP 0 rfl rfl 3 (by decide) (hts (.fieldLink RX11 29 "WheelBook" "books" "LWheelBook$Books;") (List.mem_of_getElem? (i := 2) rfl)) (fun _ h9 => h9) rfl dX11_tree_5 ?_
  obtain ⟨r1, hr1, hf⟩ := wb_b hf
  have hPc := hP.sub (ws' := ((wWX10 cB cI cZ (wb_sh a0 34) (wb_sh I0 41) (wb_sh M0 20)) ++ (wWX1 cB cI cZ (wb_sh a0 21) (wb_sh I0 13) (wb_sh M0 13)))) [34, 35, 36, 37, 21, 22, 23] rfl
  have hDc := hD.sub (ws' := ((wWX10 cB cI cZ (wb_sh a0 34) (wb_sh I0 41) (wb_sh M0 20)) ++ (wWX1 cB cI cZ (wb_sh a0 21) (wb_sh I0 13) (wb_sh M0 13)))) [34, 35, 36, 37, 21, 22, 23] (by decide) rfl
  have hFc := va_free (wc := ((wWX10 cB cI cZ (wb_sh a0 34) (wb_sh I0 41) (wb_sh M0 20)) ++ (wWX1 cB cI cZ (wb_sh a0 21) (wb_sh I0 13) (wb_sh M0 13)))) hD hS hA [34, 35, 36, 37, 21, 22, 23] rfl
  refine va_calli (va_runV (As := [.ref (a0 21)]) (rest := []) ⟨hx, hb, hml, hown, hts⟩ (cn_X10_setBooks l D cB cI cZ N (wb_sh a0 34) (wb_sh I0 41) (wb_sh M0 20) (wb_sh a0 21) (wb_sh I0 13) (wb_sh M0 13) H.size r1 hr1) (cwV 1 hts gX11_tree_X10_setBooks rfl rfl rfl cdX10_setBooks ⟨Nat.le_of_ble_eq_true rfl, Nat.le_of_ble_eq_true rfl⟩) (wb_preDV hPc hK hDc (va_recv hK hP (ci := 10) (q0 := 34) rfl rfl)) rfl rfl hl.1 rfl (lv_room (Nat.le_of_ble_eq_true rfl)) dX11_tree_8 ⟨Nat.le_of_ble_eq_true rfl, Nat.le_of_ble_eq_true rfl⟩) hS (fun q _ h => hFc q h) hFc (fun r9 u t H locs ht hvm hw hB hz1 hk1 hS => ?_)
  obtain ⟨hP, hD⟩ := wj_ba (a := (wWX1 cB cI cZ (wb_sh a0 21) (wb_sh I0 13) (wb_sh M0 13))) (b := (wWX10 cB cI cZ (wb_sh a0 34) (wb_sh I0 41) (wb_sh M0 20))) (a' := (wWX1 cB cI cZ (wb_sh a0 21) (wb_sh I0 13) (wb_sh M0 13))) (b' := (wWX10 cB cI cZ (wb_sh a0 34) r1.2.1 r1.2.2)) (wf := (wWX11 cB cI cZ a0 (wb_in I0 41 2 r1.2.1) (wb_in M0 20 3 r1.2.2))) 21 24 10 38 hP hD rfl rfl hk1 hFc ht hB
  rw [hw]
  obtain ⟨I0_2, eI0_2, hf⟩ := wb_v hf
  rw [← eI0_2] at hP hD
  obtain ⟨M0_3, eM0_3, hf⟩ := wb_v hf
  rw [← eM0_3] at hP hD
  refine lv_if_ne (tgt := 16) hx hb dX11_tree_11 (by decide) (fun hc => ?_) (fun hc => ?_)
  · replace hf := wb_f hc hf
    refine lv_aload_n hx hb dX11_tree_16 rfl (lv_at hl 0 rfl) ?_
    refine va_get (D := D) (ci := 11) (v := .ref (a0 34)) (C := RX11) (T := TX11) (N := 13) hx hb hts hinX11 hown hK hP 0 rfl rfl 9 (by decide) (hts (.fieldLink RX11 59 "WheelBook" "copies" "LWheelBook$Tree;") (List.mem_of_getElem? (i := 1) rfl)) (fun _ h9 => h9) rfl dX11_tree_17 ?_
    refine lv_aload_n hx hb dX11_tree_20 rfl (lv_at hl 0 rfl) ?_
    refine va_get (D := D) (ci := 11) (v := .ref (a0 3)) (C := RX11) (T := TX11) (N := 13) hx hb hts hinX11 hown hK hP 0 rfl rfl 1 (by decide) (hts (.fieldLink RX11 19 "WheelBook" "told" "LWheelBook$House;") (List.mem_of_getElem? (i := 3) rfl)) (fun _ h9 => h9) rfl dX11_tree_21 ?_
    refine va_get (D := D) (ci := 5) (v := .ref (a0 10)) (C := RX5) (T := TX5) (N := 6) hx hb hts hinX5 hown hK hP 3 rfl rfl 5 (by decide) (hts (.fieldLink RX11 140 "WheelBook$House" "hands" "LWheelBook$Hands;") (List.mem_of_getElem? (i := 4) rfl)) (fun _ h9 => h9) rfl dX11_tree_24 ?_
    refine lv_aload_n hx hb dX11_tree_27 rfl (lv_at hl 0 rfl) ?_
    refine va_get (D := D) (ci := 11) (v := .ref (a0 21)) (C := RX11) (T := TX11) (N := 13) hx hb hts hinX11 hown hK hP 0 rfl rfl 3 (by decide) (hts (.fieldLink RX11 29 "WheelBook" "books" "LWheelBook$Books;") (List.mem_of_getElem? (i := 2) rfl)) (fun _ h9 => h9) rfl dX11_tree_28 ?_
    obtain ⟨r4, hr4, hf⟩ := wb_b hf
    have hPc := hP.sub (ws' := ((wWX10 cB cI cZ (wb_sh a0 34) (wb_sh I0_2 41) (wb_sh M0_3 20)) ++ ((wWX4 cB cI cZ (wb_sh a0 10) (wb_sh I0_2 10) (wb_sh M0_3 6)) ++ (wWX1 cB cI cZ (wb_sh a0 21) (wb_sh I0_2 13) (wb_sh M0_3 13))))) [34, 35, 36, 37, 10, 11, 21, 22, 23] rfl
    have hDc := hD.sub (ws' := ((wWX10 cB cI cZ (wb_sh a0 34) (wb_sh I0_2 41) (wb_sh M0_3 20)) ++ ((wWX4 cB cI cZ (wb_sh a0 10) (wb_sh I0_2 10) (wb_sh M0_3 6)) ++ (wWX1 cB cI cZ (wb_sh a0 21) (wb_sh I0_2 13) (wb_sh M0_3 13))))) [34, 35, 36, 37, 10, 11, 21, 22, 23] (by decide) rfl
    have hFc := va_free (wc := ((wWX10 cB cI cZ (wb_sh a0 34) (wb_sh I0_2 41) (wb_sh M0_3 20)) ++ ((wWX4 cB cI cZ (wb_sh a0 10) (wb_sh I0_2 10) (wb_sh M0_3 6)) ++ (wWX1 cB cI cZ (wb_sh a0 21) (wb_sh I0_2 13) (wb_sh M0_3 13))))) hD hS hA [34, 35, 36, 37, 10, 11, 21, 22, 23] rfl
    refine va_callv (va_runV (As := [.ref (a0 10), .ref (a0 21)]) (rest := []) ⟨hx, hb, hml, hown, hts⟩ (cn_X10_setPrices l D cB cI cZ N (wb_sh a0 34) (wb_sh I0_2 41) (wb_sh M0_3 20) (wb_sh a0 10) (wb_sh I0_2 10) (wb_sh M0_3 6) (wb_sh a0 21) (wb_sh I0_2 13) (wb_sh M0_3 13) H.size r4 hr4) (cwV 2 hts gX11_tree_X10_setPrices rfl rfl rfl cdX10_setPrices ⟨Nat.le_of_ble_eq_true rfl, Nat.le_of_ble_eq_true rfl⟩) (wb_preDV hPc hK hDc (va_recv hK hP (ci := 10) (q0 := 34) rfl rfl)) rfl rfl hl.1 rfl (lv_room (Nat.le_of_ble_eq_true rfl)) dX11_tree_31 ⟨Nat.le_of_ble_eq_true rfl, Nat.le_of_ble_eq_true rfl⟩) hS (fun q _ h => hFc q h) hFc (fun u t H locs ht hvm hw hB hz1 hk1 hS => ?_)
    obtain ⟨hP, hD⟩ := wj_bca (a := (wWX10 cB cI cZ (wb_sh a0 34) (wb_sh I0_2 41) (wb_sh M0_3 20))) (b := (wWX4 cB cI cZ (wb_sh a0 10) (wb_sh I0_2 10) (wb_sh M0_3 6))) (c := (wWX1 cB cI cZ (wb_sh a0 21) (wb_sh I0_2 13) (wb_sh M0_3 13))) (a' := (wWX10 cB cI cZ (wb_sh a0 34) r4.1 r4.2)) (b' := (wWX4 cB cI cZ (wb_sh a0 10) (wb_sh I0_2 10) (wb_sh M0_3 6))) (c' := (wWX1 cB cI cZ (wb_sh a0 21) (wb_sh I0_2 13) (wb_sh M0_3 13))) (wf := (wWX11 cB cI cZ a0 (wb_in I0_2 41 2 r4.1) (wb_in M0_3 20 3 r4.2))) 10 12 9 24 10 38 hP hD rfl rfl hk1 hFc ht hB
    obtain ⟨I0_5, eI0_5, hf⟩ := wb_v hf
    rw [← eI0_5] at hP hD
    obtain ⟨M0_6, eM0_6, hf⟩ := wb_v hf
    rw [← eM0_6] at hP hD
    refine lv_aload_n hx hb dX11_tree_34 rfl (lv_at hl 0 rfl) ?_
    refine va_get (D := D) (ci := 11) (v := .ref (a0 34)) (C := RX11) (T := TX11) (N := 13) hx hb hts hinX11 hown hK hP 0 rfl rfl 9 (by decide) (hts (.fieldLink RX11 59 "WheelBook" "copies" "LWheelBook$Tree;") (List.mem_of_getElem? (i := 1) rfl)) (fun _ h9 => h9) rfl dX11_tree_35 ?_
    obtain ⟨r7, hr7, hf⟩ := wb_b hf
    have hPc := hP.sub (ws' := (wWX10 cB cI cZ (wb_sh a0 34) (wb_sh I0_5 41) (wb_sh M0_6 20))) [34, 35, 36, 37] rfl
    have hDc := hD.sub (ws' := (wWX10 cB cI cZ (wb_sh a0 34) (wb_sh I0_5 41) (wb_sh M0_6 20))) [34, 35, 36, 37] (by decide) rfl
    have hFc := va_free (wc := (wWX10 cB cI cZ (wb_sh a0 34) (wb_sh I0_5 41) (wb_sh M0_6 20))) hD hS hA [34, 35, 36, 37] rfl
    refine va_calli (va_runV (As := []) (rest := []) ⟨hx, hb, hml, hown, hts⟩ (cn_X10_grow l D cB cI cZ N (wb_sh a0 34) (wb_sh I0_5 41) (wb_sh M0_6 20) H.size r7 hr7) (cwV 0 hts gX11_tree_X10_grow rfl rfl rfl cdX10_grow ⟨Nat.le_of_ble_eq_true rfl, Nat.le_of_ble_eq_true rfl⟩) (wb_preDV hPc hK hDc (va_recv hK hP (ci := 10) (q0 := 34) rfl rfl)) rfl rfl hl.1 rfl (lv_room (Nat.le_of_ble_eq_true rfl)) dX11_tree_38 ⟨Nat.le_of_ble_eq_true rfl, Nat.le_of_ble_eq_true rfl⟩) hS (fun q _ h => hFc q h) hFc (fun r9 u t H locs ht hvm hw hB hz1 hk1 hS => ?_)
    obtain ⟨hP, hD⟩ := wj_s (wc := (wWX10 cB cI cZ (wb_sh a0 34) (wb_sh I0_5 41) (wb_sh M0_6 20))) (w1 := (wWX10 cB cI cZ (wb_sh a0 34) r7.2.1 r7.2.2)) (wf := (wWX11 cB cI cZ a0 (wb_in I0_5 41 2 r7.2.1) (wb_in M0_6 20 3 r7.2.2))) 34 38 hP hD rfl rfl hk1 hFc ht hB
    rw [hw]
    obtain ⟨I0_8, eI0_8, hf⟩ := wb_v hf
    rw [← eI0_8] at hP hD
    obtain ⟨M0_9, eM0_9, hf⟩ := wb_v hf
    rw [← eM0_9] at hP hD
    exact W.iret (v := r7.1) hx hb hr (fun t ht hW => by rw [← Option.some.inj hf]; exact ⟨⟨r7.1, (), rfl, rfl, by rw [ht]; exact hP, va_K.moved hW.alike hK, hD⟩, hS.F ht⟩) hS.2.2 dX11_tree_41
  · replace hf := wb_t hc hf
    refine lv_iconst (v := (-1 : Int32)) hx hb dX11_tree_14 (by decide) ?_
    exact W.iret (v := (-1 : Int32)) hx hb hr (fun t ht hW => by rw [← Option.some.inj hf]; exact ⟨⟨(-1 : Int32), (), rfl, rfl, by rw [ht]; exact hP, va_K.moved hW.alike hK, hD⟩, hS.F ht⟩) hS.2.2 dX11_tree_15

