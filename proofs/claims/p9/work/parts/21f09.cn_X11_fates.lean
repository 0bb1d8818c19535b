set_option maxHeartbeats 4000000 in
set_option maxRecDepth 100000 in
theorem cn_X11_fates (l : Launch) (D : va_G) (cB cI cZ : ClassId) (N : Nat) (a0 : Nat → Nat) (I0 : Nat → Int32) (M0 : Nat → Nat → Int32) (x1 : Int32) (sz : Nat) (R : Int32 × (Nat → Int32) × (Nat → Nat → Int32)) (hf : fX11_fates N I0 M0 x1 = some (.inr R)) : Met l yX11_fates wyX11_fates ({ frames := 7, cells := 0, slots := 0, locals := 140 }) (va_Pc [.ref (a0 0), .int x1] (wb_preD D [(cB, .byte), (cI, .int), (cZ, .boolean)] (wWX11 cB cI cZ a0 I0 M0) sz)) (va_Qi (fun r (_ : Unit) => r = R.1) (fun _ t => wb_post D [(cB, .byte), (cI, .int), (cZ, .boolean)] (va_A (wWX11 cB cI cZ a0 I0 M0) sz) (wWX11 cB cI cZ a0 R.2.1 R.2.2) t) (va_A (wWX11 cB cI cZ a0 I0 M0) sz)) 0 0 (va_A (wWX11 cB cI cZ a0 I0 M0) sz) := by
  refine Met.ofW (cc := cX11_fates) (maxL := 2) (ret := (some .int)) (by decide) rfl ?_
  intro p e s m args below meth c s₁ B hml hv
  obtain ⟨rfl, hsz, hP, hK, hD0⟩ := hv
  have hx := B.exec
  have hb := B.bytes
  have hr := B.returns
  have hts := atoms_spec (ws := wyX11_fates) B.pre
  have hown : s.vm.findClass RX11 = some m.cls := findClass_of_methodNamed B.named
  have hlocks := B.notSynchronized
  have hinX11 : ∀ w ∈ u_ws RX11 TX11 13, w ∈ wyX11_fates := fun w h => List.mem_cons_of_mem _ (List.mem_append_left _ (List.mem_append_left _ (List.mem_append_left _ (List.mem_append_right _ h))))
  subst hsz
  have hD := hD0.self (sz := s.heap.size)
  generalize hAe : va_A (wWX11 cB cI cZ a0 I0 M0) s.heap.size = A at hD ⊢
  have hA : ∀ q : Nat, s.heap.size ≤ q → A q := fun q h => by rw [← hAe]; exact Or.inr h
  have hS : va_S A s.heap s.heap [] := va_S.rf
  have hl := lv_entry ([.ref (a0 0), .int x1]) (n := 2) (Nat.le_of_ble_eq_true rfl)
  rw [lg_entry_eq]
  generalize (lg_sl ([.ref (a0 0), .int x1]) ++ List.replicate (2 - (lg_sl ([.ref (a0 0), .int x1])).length) Slot.unset).toArray = ls at hl ⊢
  have hl : lv_has ls 2 [(0, .ref (a0 0)), (1, .int x1)] := hl
  unfold fX11_fates at hf
  obtain ⟨H, hHe⟩ : ∃ H : Heap, H = s.heap := ⟨_, rfl⟩
  obtain ⟨locs, hle⟩ : ∃ locs : List Loc, locs = [] := ⟨_, rfl⟩
  refine wb_start (H := H) (locs := locs) hHe hle ?_
  rw [← hHe] at hP
  have hS : va_S A s.heap H locs := by rw [hHe, hle]; exact va_S.rf
  refine lv_iload_n hx hb dX11_fates_0 rfl (lv_at hl 1 rfl) ?_
  refine lv_iconst (v := (0 : Int32)) hx hb dX11_fates_1 (by decide) ?_
  refine lv_iconst (v := (1 : Int32)) hx hb dX11_fates_2 (by decide) ?_
  obtain ⟨r1, hr1, hf⟩ := wb_b hf
  refine vp_callSi (W.runS (As := [.int x1, .int (0 : Int32), .int (1 : Int32)]) (rest := []) ⟨hx, hb, hml, hown, hts⟩ (cn_X11_within l D cB cI cZ N x1 (0 : Int32) (1 : Int32) r1 hr1) (va_cwS 3 hts gyX11_fates_X11_within rfl rfl rfl csX11_within ⟨Nat.le_of_ble_eq_true rfl, Nat.le_of_ble_eq_true rfl⟩) (wb_preS (hP.sub (ws' := ([] : va_W)) [] rfl) hK) rfl rfl hl.1 rfl (lv_room (Nat.le_of_ble_eq_true rfl)) dX11_fates_3 ⟨Nat.le_of_ble_eq_true rfl, Nat.le_of_ble_eq_true rfl⟩) (fun r9 e9 => ?_)
  rw [e9]
  obtain ⟨r2, hr2, hf⟩ := wb_xr hf
  refine va_csv (W.runS (As := [.int r1]) (rest := []) ⟨hx, hb, hml, hown, hts⟩ (cn_X11_need l D cB cI cZ N r1 r2 hr2) (va_cwS 1 hts gyX11_fates_X11_need rfl rfl rfl csX11_need ⟨Nat.le_of_ble_eq_true rfl, Nat.le_of_ble_eq_true rfl⟩) (wb_preS (hP.sub (ws' := ([] : va_W)) [] rfl) hK) rfl rfl hl.1 rfl (lv_room (Nat.le_of_ble_eq_true rfl)) dX11_fates_6 ⟨Nat.le_of_ble_eq_true rfl, Nat.le_of_ble_eq_true rfl⟩) (fun _ => ?_)
  replace hf := wb_okr hf
  refine lv_iload_n hx hb dX11_fates_9 rfl (lv_at hl 1 rfl) ?_
  refine lv_if_ne (tgt := 27) hx hb dX11_fates_10 (by decide) (fun hc => ?_) (fun hc => ?_)
  · replace hf := wb_f hc hf
    refine lv_aload_n hx hb dX11_fates_27 rfl (lv_at hl 0 rfl) ?_
    refine va_get (D := D) (ci := 11) (v := .ref (a0 45)) (C := RX11) (T := TX11) (N := 13) hx hb hts hinX11 hown hK hP 0 rfl rfl 12 (by decide) (hts (.fieldLink RX11 80 "WheelBook" "outcomes" "LWheelBook$Outcomes;") (List.mem_of_getElem? (i := 1) rfl)) (fun _ h9 => h9) rfl dX11_fates_28 ?_
    refine lv_aload_n hx hb dX11_fates_31 rfl (lv_at hl 0 rfl) ?_
    refine va_get (D := D) (ci := 11) (v := .ref (a0 21)) (C := RX11) (T := TX11) (N := 13) hx hb hts hinX11 hown hK hP 0 rfl rfl 3 (by decide) (hts (.fieldLink RX11 29 "WheelBook" "books" "LWheelBook$Books;") (List.mem_of_getElem? (i := 2) rfl)) (fun _ h9 => h9) rfl dX11_fates_32 ?_
    obtain ⟨r3, hr3, hf⟩ := wb_b hf
    have hPc := hP.sub (ws' := ((wWX7 cB cI cZ (wb_sh a0 45) (wb_sh I0 43) (wb_sh M0 28)) ++ (wWX1 cB cI cZ (wb_sh a0 21) (wb_sh I0 13) (wb_sh M0 13)))) [45, 46, 47, 48, 49, 50, 51, 21, 22, 23] rfl
    have hDc := hD.sub (ws' := ((wWX7 cB cI cZ (wb_sh a0 45) (wb_sh I0 43) (wb_sh M0 28)) ++ (wWX1 cB cI cZ (wb_sh a0 21) (wb_sh I0 13) (wb_sh M0 13)))) [45, 46, 47, 48, 49, 50, 51, 21, 22, 23] (by decide) rfl
    have hFc := va_free (wc := ((wWX7 cB cI cZ (wb_sh a0 45) (wb_sh I0 43) (wb_sh M0 28)) ++ (wWX1 cB cI cZ (wb_sh a0 21) (wb_sh I0 13) (wb_sh M0 13)))) hD hS hA [45, 46, 47, 48, 49, 50, 51, 21, 22, 23] rfl
    refine va_calli (va_runV (As := [.ref (a0 21)]) (rest := []) ⟨hx, hb, hml, hown, hts⟩ (cn_X7_chanceOfFates l D cB cI cZ N (wb_sh a0 45) (wb_sh I0 43) (wb_sh M0 28) (wb_sh a0 21) (wb_sh I0 13) (wb_sh M0 13) H.size r3 hr3) (cwV 1 hts gyX11_fates_X7_chanceOfFates rfl rfl rfl cdX7_chanceOfFates ⟨Nat.le_of_ble_eq_true rfl, Nat.le_of_ble_eq_true rfl⟩) (wb_preDV hPc hK hDc (va_recv hK hP (ci := 7) (q0 := 45) rfl rfl)) rfl rfl hl.1 rfl (lv_room (Nat.le_of_ble_eq_true rfl)) dX11_fates_35 ⟨Nat.le_of_ble_eq_true rfl, Nat.le_of_ble_eq_true rfl⟩) hS (fun q _ h => hFc q h) hFc (fun r9 u t H locs ht hvm hw hB hz1 hk1 hS => ?_)
    obtain ⟨hP, hD⟩ := wj_ba (a := (wWX1 cB cI cZ (wb_sh a0 21) (wb_sh I0 13) (wb_sh M0 13))) (b := (wWX7 cB cI cZ (wb_sh a0 45) (wb_sh I0 43) (wb_sh M0 28))) (a' := (wWX1 cB cI cZ (wb_sh a0 21) (wb_sh I0 13) (wb_sh M0 13))) (b' := (wWX7 cB cI cZ (wb_sh a0 45) r3.2.1 r3.2.2)) (wf := (wWX11 cB cI cZ a0 (wb_in I0 43 0 r3.2.1) (wb_in M0 28 6 r3.2.2))) 21 24 21 52 hP hD rfl rfl hk1 hFc ht hB
    rw [hw]
    obtain ⟨I0_4, eI0_4, hf⟩ := wb_v hf
    rw [← eI0_4] at hP hD
    obtain ⟨M0_5, eM0_5, hf⟩ := wb_v hf
    rw [← eM0_5] at hP hD
    exact W.iret (v := r3.1) hx hb hr (fun t ht hW => by rw [← Option.some.inj hf]; exact ⟨⟨r3.1, (), rfl, rfl, by rw [ht]; exact hP, va_K.moved hW.alike hK, hD⟩, hS.F ht⟩) hS.2.2 dX11_fates_38
  · replace hf := wb_t hc hf
    refine lv_aload_n hx hb dX11_fates_13 rfl (lv_at hl 0 rfl) ?_
    refine va_get (D := D) (ci := 11) (v := .ref (a0 45)) (C := RX11) (T := TX11) (N := 13) hx hb hts hinX11 hown hK hP 0 rfl rfl 12 (by decide) (hts (.fieldLink RX11 80 "WheelBook" "outcomes" "LWheelBook$Outcomes;") (List.mem_of_getElem? (i := 1) rfl)) (fun _ h9 => h9) rfl dX11_fates_14 ?_
    refine lv_aload_n hx hb dX11_fates_17 rfl (lv_at hl 0 rfl) ?_
    refine va_get (D := D) (ci := 11) (v := .ref (a0 21)) (C := RX11) (T := TX11) (N := 13) hx hb hts hinX11 hown hK hP 0 rfl rfl 3 (by decide) (hts (.fieldLink RX11 29 "WheelBook" "books" "LWheelBook$Books;") (List.mem_of_getElem? (i := 2) rfl)) (fun _ h9 => h9) rfl dX11_fates_18 ?_
    obtain ⟨r6, hr6, hf⟩ := wb_b hf
    have hPc := hP.sub (ws' := ((wWX7 cB cI cZ (wb_sh a0 45) (wb_sh I0 43) (wb_sh M0 28)) ++ (wWX1 cB cI cZ (wb_sh a0 21) (wb_sh I0 13) (wb_sh M0 13)))) [45, 46, 47, 48, 49, 50, 51, 21, 22, 23] rfl
    have hDc := hD.sub (ws' := ((wWX7 cB cI cZ (wb_sh a0 45) (wb_sh I0 43) (wb_sh M0 28)) ++ (wWX1 cB cI cZ (wb_sh a0 21) (wb_sh I0 13) (wb_sh M0 13)))) [45, 46, 47, 48, 49, 50, 51, 21, 22, 23] (by decide) rfl
    have hFc := va_free (wc := ((wWX7 cB cI cZ (wb_sh a0 45) (wb_sh I0 43) (wb_sh M0 28)) ++ (wWX1 cB cI cZ (wb_sh a0 21) (wb_sh I0 13) (wb_sh M0 13)))) hD hS hA [45, 46, 47, 48, 49, 50, 51, 21, 22, 23] rfl
    refine va_calli (va_runV (As := [.ref (a0 21)]) (rest := []) ⟨hx, hb, hml, hown, hts⟩ (cn_X7_howManyToldByLot l D cB cI cZ N (wb_sh a0 45) (wb_sh I0 43) (wb_sh M0 28) (wb_sh a0 21) (wb_sh I0 13) (wb_sh M0 13) H.size r6 hr6) (cwV 1 hts gyX11_fates_X7_howManyToldByLot rfl rfl rfl cdX7_howManyToldByLot ⟨Nat.le_of_ble_eq_true rfl, Nat.le_of_ble_eq_true rfl⟩) (wb_preDV hPc hK hDc (va_recv hK hP (ci := 7) (q0 := 45) rfl rfl)) rfl rfl hl.1 rfl (lv_room (Nat.le_of_ble_eq_true rfl)) dX11_fates_21 ⟨Nat.le_of_ble_eq_true rfl, Nat.le_of_ble_eq_true rfl⟩) hS (fun q _ h => hFc q h) hFc (fun r9 u t H locs ht hvm hw hB hz1 hk1 hS => ?_)
    obtain ⟨hP, hD⟩ := wj_ba (a := (wWX1 cB cI cZ (wb_sh a0 21) (wb_sh I0 13) (wb_sh M0 13))) (b := (wWX7 cB cI cZ (wb_sh a0 45) (wb_sh I0 43) (wb_sh M0 28))) (a' := (wWX1 cB cI cZ (wb_sh a0 21) (wb_sh I0 13) (wb_sh M0 13))) (b' := (wWX7 cB cI cZ (wb_sh a0 45) r6.2.1 r6.2.2)) (wf := (wWX11 cB cI cZ a0 (wb_in I0 43 0 r6.2.1) (wb_in M0 28 6 r6.2.2))) 21 24 21 52 hP hD rfl rfl hk1 hFc ht hB
    rw [hw]
    obtain ⟨I0_7, eI0_7, hf⟩ := wb_v hf
    rw [← eI0_7] at hP hD
    obtain ⟨M0_8, eM0_8, hf⟩ := wb_v hf
    rw [← eM0_8] at hP hD
    refine lv_goto (tgt := 38) hx hb dX11_fates_24 (by decide) ?_
    exact W.iret (v := r6.1) hx hb hr (fun t ht hW => by rw [← Option.some.inj hf]; exact ⟨⟨r6.1, (), rfl, rfl, by rw [ht]; exact hP, va_K.moved hW.alike hK, hD⟩, hS.F ht⟩) hS.2.2 dX11_fates_38
