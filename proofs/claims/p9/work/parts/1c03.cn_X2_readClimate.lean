set_option maxHeartbeats 4000000 in
set_option maxRecDepth 100000 in
theorem cn_X2_readClimate (l : Launch) (D : va_G) (cB cI cZ : ClassId) (N : Nat) (a0 : Nat → Nat) (I0 : Nat → Int32) (M0 : Nat → Nat → Int32) (a1 : Nat → Nat) (I1 : Nat → Int32) (M1 : Nat → Nat → Int32) (sz : Nat) (R : Int32 × (Nat → Int32) × (Nat → Nat → Int32) × (Nat → Int32) × (Nat → Nat → Int32)) (hf : fX2_readClimate N I0 M0 I1 M1 = some R) : Met l yX2_readClimate wsX2_readClimate ({ frames := 4, cells := 0, slots := 0, locals := 90 }) (va_Pc [.ref (a0 0), .ref (a1 0)] (wb_preD D [(cB, .byte), (cI, .int), (cZ, .boolean)] ((wWX2 cB cI cZ a0 I0 M0) ++ (wWX9 cB cI cZ a1 I1 M1)) sz)) (va_Qi (fun r (_ : Unit) => r = R.1) (fun _ t => wb_post D [(cB, .byte), (cI, .int), (cZ, .boolean)] (va_A ((wWX2 cB cI cZ a0 I0 M0) ++ (wWX9 cB cI cZ a1 I1 M1)) sz) ((wWX2 cB cI cZ a0 R.2.1 R.2.2.1) ++ (wWX9 cB cI cZ a1 R.2.2.2.1 R.2.2.2.2)) t) (va_A ((wWX2 cB cI cZ a0 I0 M0) ++ (wWX9 cB cI cZ a1 I1 M1)) sz)) 0 0 (va_A ((wWX2 cB cI cZ a0 I0 M0) ++ (wWX9 cB cI cZ a1 I1 M1)) sz) := by
  refine Met.ofW (cc := cX2_readClimate) (maxL := 2) (ret := (some .boolean)) (by decide) rfl ?_
  intro p e s m args below meth c s₁ B hml hv
  obtain ⟨rfl, hsz, hP, hK, hD0⟩ := hv
  have hx := B.exec
  have hb := B.bytes
  have hr := B.returns
  have hts := atoms_spec (ws := wsX2_readClimate) B.pre
  have hown : s.vm.findClass RX2 = some m.cls := findClass_of_methodNamed B.named
  have hlocks := B.notSynchronized
  have hinX2 : ∀ w ∈ u_ws RX2 TX2 2, w ∈ wsX2_readClimate := fun w h => List.mem_cons_of_mem _ (List.mem_append_left _ (List.mem_append_right _ h))
  subst hsz
  have hD := hD0.self (sz := s.heap.size)
  generalize hAe : va_A ((wWX2 cB cI cZ a0 I0 M0) ++ (wWX9 cB cI cZ a1 I1 M1)) s.heap.size = A at hD ⊢
  have hA : ∀ q : Nat, s.heap.size ≤ q → A q := fun q h => by rw [← hAe]; exact Or.inr h
  have hS : va_S A s.heap s.heap [] := va_S.rf
  have hl := lv_entry ([.ref (a0 0), .ref (a1 0)]) (n := 2) (Nat.le_of_ble_eq_true rfl)
  rw [lg_entry_eq]
  generalize (lg_sl ([.ref (a0 0), .ref (a1 0)]) ++ List.replicate (2 - (lg_sl ([.ref (a0 0), .ref (a1 0)])).length) Slot.unset).toArray = ls at hl ⊢
  have hl : lv_has ls 2 [(0, .ref (a0 0)), (1, .ref (a1 0))] := hl
  unfold fX2_readClimate at hf
  obtain ⟨H, hHe⟩ : ∃ H : Heap, H = s.heap := ⟨_, rfl⟩
  obtain ⟨locs, hle⟩ : ∃ locs : List Loc, locs = [] := ⟨_, rfl⟩
  refine wb_start (H := H) (locs := locs) hHe hle ?_
  rw [← hHe] at hP
  have hS : va_S A s.heap H locs := by rw [hHe, hle]; exact va_S.rf
  refine lv_aload_n hx hb dX2_readClimate_0 rfl (lv_at hl 0 rfl) ?_
  refine va_get (D := D) (ci := 2) (v := .int (I0 0)) (C := RX2) (T := TX2) (N := 2) hx hb hts hinX2 hown hK hP 0 rfl rfl 1 (by decide) (hts (.fieldLink RX2 21 "WheelBook$Climates" "many" "I") (List.mem_of_getElem? (i := 1) rfl)) (fun _ h9 => h9) rfl dX2_readClimate_1 ?_
  refine lv_bipush (v := (7 : Int32)) hx hb dX2_readClimate_4 (by decide) ?_
  refine lv_icmp_lt (tgt := 15) hx hb dX2_readClimate_6 (by decide) (fun hc => ?_) (fun hc => ?_)
  · replace hf := wb_t hc hf
    refine lv_aload_n hx hb dX2_readClimate_15 rfl (lv_at hl 1 rfl) ?_
    obtain ⟨r1, hr1, hf⟩ := wb_b hf
    have hPc := hP.sub (ws' := (wWX9 cB cI cZ a1 I1 M1)) [2, 3] rfl
    have hDc := hD.sub (ws' := (wWX9 cB cI cZ a1 I1 M1)) [2, 3] (by decide) rfl
    have hFc := va_free (wc := (wWX9 cB cI cZ a1 I1 M1)) hD hS hA [2, 3] rfl
    refine va_callv (va_runV (As := []) (rest := []) ⟨hx, hb, hml, hown, hts⟩ (cn_X9_step l D cB cI cZ N a1 I1 M1 H.size r1 hr1) (cwV 0 hts gX2_readClimate_X9_step rfl rfl rfl cdX9_step ⟨Nat.le_of_ble_eq_true rfl, Nat.le_of_ble_eq_true rfl⟩) (wb_preDV hPc hK hDc (va_recv hK hP (ci := 9) (q0 := 2) rfl rfl)) rfl rfl hl.1 rfl (lv_room (Nat.le_of_ble_eq_true rfl)) dX2_readClimate_16 ⟨Nat.le_of_ble_eq_true rfl, Nat.le_of_ble_eq_true rfl⟩) hS (fun q _ h => hFc q h) hFc (fun u t H locs ht hvm hw hB hz1 hk1 hS => ?_)
    obtain ⟨hP, hD⟩ := wj_s (wc := (wWX9 cB cI cZ a1 I1 M1)) (w1 := (wWX9 cB cI cZ a1 r1.1 r1.2)) (wf := ((wWX2 cB cI cZ a0 I0 M0) ++ (wWX9 cB cI cZ a1 r1.1 r1.2))) 2 4 hP hD rfl rfl hk1 hFc ht hB
    refine lv_aload_n hx hb dX2_readClimate_19 rfl (lv_at hl 1 rfl) ?_
    refine lv_aload_n hx hb dX2_readClimate_20 rfl (lv_at hl 0 rfl) ?_
    refine va_get (D := D) (ci := 2) (v := .int (I0 0)) (C := RX2) (T := TX2) (N := 2) hx hb hts hinX2 hown hK hP 0 rfl rfl 1 (by decide) (hts (.fieldLink RX2 21 "WheelBook$Climates" "many" "I") (List.mem_of_getElem? (i := 1) rfl)) (fun _ h9 => h9) rfl dX2_readClimate_21 ?_
    refine lv_aload_n hx hb dX2_readClimate_24 rfl (lv_at hl 0 rfl) ?_
    refine va_get (D := D) (ci := 2) (v := .int (I0 0)) (C := RX2) (T := TX2) (N := 2) hx hb hts hinX2 hown hK hP 0 rfl rfl 1 (by decide) (hts (.fieldLink RX2 21 "WheelBook$Climates" "many" "I") (List.mem_of_getElem? (i := 1) rfl)) (fun _ h9 => h9) rfl dX2_readClimate_25 ?_
    obtain ⟨r2, hr2, hf⟩ := wb_b hf
    have hPc := hP.sub (ws' := (wWX9 cB cI cZ a1 r1.1 r1.2)) [2, 3] rfl
    have hDc := hD.sub (ws' := (wWX9 cB cI cZ a1 r1.1 r1.2)) [2, 3] (by decide) rfl
    have hFc := va_free (wc := (wWX9 cB cI cZ a1 r1.1 r1.2)) hD hS hA [2, 3] rfl
    refine va_calli (va_runV (As := [.int (I0 0), .int (I0 0)]) (rest := []) ⟨hx, hb, hml, hown, hts⟩ (cn_X9_takeNumber l D cB cI cZ N a1 r1.1 r1.2 (I0 0) (I0 0) H.size r2 hr2) (cwV 2 hts gX2_readClimate_X9_takeNumber rfl rfl rfl cdX9_takeNumber ⟨Nat.le_of_ble_eq_true rfl, Nat.le_of_ble_eq_true rfl⟩) (wb_preDV hPc hK hDc (va_recv hK hP (ci := 9) (q0 := 2) rfl rfl)) rfl rfl hl.1 rfl (lv_room (Nat.le_of_ble_eq_true rfl)) dX2_readClimate_28 ⟨Nat.le_of_ble_eq_true rfl, Nat.le_of_ble_eq_true rfl⟩) hS (fun q _ h => hFc q h) hFc (fun r9 u t H locs ht hvm hw hB hz1 hk1 hS => ?_)
    obtain ⟨hP, hD⟩ := wj_s (wc := (wWX9 cB cI cZ a1 r1.1 r1.2)) (w1 := (wWX9 cB cI cZ a1 r2.2.1 r2.2.2)) (wf := ((wWX2 cB cI cZ a0 I0 M0) ++ (wWX9 cB cI cZ a1 r2.2.1 r2.2.2))) 2 4 hP hD rfl rfl hk1 hFc ht hB
    rw [hw]
    refine lv_if_eq (tgt := 42) hx hb dX2_readClimate_31 (by decide) (fun hc => ?_) (fun hc => ?_)
    · replace hf := wb_t hc hf
      refine lv_iconst (v := (0 : Int32)) hx hb dX2_readClimate_42 (by decide) ?_
      exact W.zret (v := (0 : Int32)) hx hb hr (by decide) (fun t ht hW => by rw [← Option.some.inj hf]; exact ⟨⟨(0 : Int32), (), rfl, rfl, by rw [ht]; exact hP, va_K.moved hW.alike hK, hD⟩, hS.F ht⟩) hS.2.2 dX2_readClimate_43
    · replace hf := wb_f hc hf
      refine lv_aload_n hx hb dX2_readClimate_34 rfl (lv_at hl 0 rfl) ?_
      refine lv_aload_n hx hb dX2_readClimate_35 rfl (lv_at hl 1 rfl) ?_
      obtain ⟨r3, hr3, hf⟩ := wb_b hf
      have hPc := hP
      have hDc := hD
      have hFc := wj_F hDc hS hA
      refine va_calli (va_runV (As := [.ref (a1 0)]) (rest := []) ⟨hx, hb, hml, hown, hts⟩ (cn_X2_readRising l D cB cI cZ N a0 I0 M0 a1 r2.2.1 r2.2.2 H.size r3 hr3) (cwV 1 hts gX2_readClimate_X2_readRising rfl rfl rfl cdX2_readRising ⟨Nat.le_of_ble_eq_true rfl, Nat.le_of_ble_eq_true rfl⟩) (wb_preDV hPc hK hDc (va_recv hK hP (ci := 2) (q0 := 0) rfl rfl)) rfl rfl hl.1 rfl (lv_room (Nat.le_of_ble_eq_true rfl)) dX2_readClimate_36 ⟨Nat.le_of_ble_eq_true rfl, Nat.le_of_ble_eq_true rfl⟩) hS (fun q _ h => hFc q h) hFc (fun r9 u t H locs ht hvm hw hB hz1 hk1 hS => ?_)
      obtain ⟨hP, hD⟩ := wj_0 hFc ht hB
      rw [hw]
      refine lv_if_ne (tgt := 44) hx hb dX2_readClimate_39 (by decide) (fun hc => ?_) (fun hc => ?_)
      · replace hf := wb_f hc hf
        refine lv_aload_n hx hb dX2_readClimate_44 rfl (lv_at hl 0 rfl) ?_
        refine lv_dup hx hb dX2_readClimate_45 rfl ?_
        refine va_get (D := D) (ci := 2) (v := .int (r3.2.1 0)) (C := RX2) (T := TX2) (N := 2) hx hb hts hinX2 hown hK hP 0 rfl rfl 1 (by decide) (hts (.fieldLink RX2 21 "WheelBook$Climates" "many" "I") (List.mem_of_getElem? (i := 1) rfl)) (fun _ h9 => h9) rfl dX2_readClimate_46 ?_
        refine lv_iconst (v := (1 : Int32)) hx hb dX2_readClimate_49 (by decide) ?_
        refine lv_iadd hx hb dX2_readClimate_50 ?_
        refine va_put (D := D) (ci := 2) (v := .int ((r3.2.1 0) + (1 : Int32))) (ty := .int) (C := RX2) (T := TX2) (N := 2) hx hb hts hinX2 tyX2 tyX2_ok nmX2 hown hK hP hD hS 0 rfl rfl 1 (by decide) (hts (.fieldLink RX2 21 "WheelBook$Climates" "many" "I") (List.mem_of_getElem? (i := 1) rfl)) (fun _ h9 => h9) rfl (by decide +kernel) rfl rfl (Nat.le_of_ble_eq_true rfl) dX2_readClimate_51 (fun H locs hP hD hS => ?_)
        have hP : va_P D vwCl ((wWX2 cB cI cZ a0 (upd r3.2.1 0 ((r3.2.1 0) + (1 : Int32))) r3.2.2.1) ++ (wWX9 cB cI cZ a1 r3.2.2.2.1 r3.2.2.2.2)) H := hP
        have hD : va_D A ((wWX2 cB cI cZ a0 (upd r3.2.1 0 ((r3.2.1 0) + (1 : Int32))) r3.2.2.1) ++ (wWX9 cB cI cZ a1 r3.2.2.2.1 r3.2.2.2.2)) := hD
        obtain ⟨I0_4, eI0_4, hf⟩ := wb_v hf
        rw [← eI0_4] at hP hD
        refine lv_aload_n hx hb dX2_readClimate_54 rfl (lv_at hl 1 rfl) ?_
        obtain ⟨r5, hr5, hf⟩ := wb_b hf
        have hPc := hP.sub (ws' := (wWX9 cB cI cZ a1 r3.2.2.2.1 r3.2.2.2.2)) [2, 3] rfl
        have hDc := hD.sub (ws' := (wWX9 cB cI cZ a1 r3.2.2.2.1 r3.2.2.2.2)) [2, 3] (by decide) rfl
        have hFc := va_free (wc := (wWX9 cB cI cZ a1 r3.2.2.2.1 r3.2.2.2.2)) hD hS hA [2, 3] rfl
        refine va_calli (va_runV (As := []) (rest := []) ⟨hx, hb, hml, hown, hts⟩ (cn_X9_takeStop l D cB cI cZ N a1 r3.2.2.2.1 r3.2.2.2.2 H.size r5 hr5) (cwV 0 hts gX2_readClimate_X9_takeStop rfl rfl rfl cdX9_takeStop ⟨Nat.le_of_ble_eq_true rfl, Nat.le_of_ble_eq_true rfl⟩) (wb_preDV hPc hK hDc (va_recv hK hP (ci := 9) (q0 := 2) rfl rfl)) rfl rfl hl.1 rfl (lv_room (Nat.le_of_ble_eq_true rfl)) dX2_readClimate_55 ⟨Nat.le_of_ble_eq_true rfl, Nat.le_of_ble_eq_true rfl⟩) hS (fun q _ h => hFc q h) hFc (fun r9 u t H locs ht hvm hw hB hz1 hk1 hS => ?_)
        obtain ⟨hP, hD⟩ := wj_s (wc := (wWX9 cB cI cZ a1 r3.2.2.2.1 r3.2.2.2.2)) (w1 := (wWX9 cB cI cZ a1 r5.2.1 r5.2.2)) (wf := ((wWX2 cB cI cZ a0 I0_4 r3.2.2.1) ++ (wWX9 cB cI cZ a1 r5.2.1 r5.2.2))) 2 4 hP hD rfl rfl hk1 hFc ht hB
        rw [hw]
        obtain ⟨hz, hf⟩ := wb_y hf
        exact W.zret (v := r5.1) hx hb hr (congrArg Value.int hz) (fun t ht hW => by rw [← Option.some.inj hf]; exact ⟨⟨r5.1, (), rfl, rfl, by rw [ht]; exact hP, va_K.moved hW.alike hK, hD⟩, hS.F ht⟩) hS.2.2 dX2_readClimate_58
      · replace hf := wb_t hc hf
        refine lv_iconst (v := (0 : Int32)) hx hb dX2_readClimate_42 (by decide) ?_
        exact W.zret (v := (0 : Int32)) hx hb hr (by decide) (fun t ht hW => by rw [← Option.some.inj hf]; exact ⟨⟨(0 : Int32), (), rfl, rfl, by rw [ht]; exact hP, va_K.moved hW.alike hK, hD⟩, hS.F ht⟩) hS.2.2 dX2_readClimate_43
  · replace hf := wb_f hc hf
    refine lv_aload_n hx hb dX2_readClimate_9 rfl (lv_at hl 1 rfl) ?_
    refine lv_iconst (v := (2 : Int32)) hx hb dX2_readClimate_10 (by decide) ?_
    obtain ⟨r6, hr6, hf⟩ := wb_b hf
    have hPc := hP.sub (ws' := (wWX9 cB cI cZ a1 I1 M1)) [2, 3] rfl
    have hDc := hD.sub (ws' := (wWX9 cB cI cZ a1 I1 M1)) [2, 3] (by decide) rfl
    have hFc := va_free (wc := (wWX9 cB cI cZ a1 I1 M1)) hD hS hA [2, 3] rfl
    refine va_calli (va_runV (As := [.int (2 : Int32)]) (rest := []) ⟨hx, hb, hml, hown, hts⟩ (cn_X9_refuse l D cB cI cZ N a1 I1 M1 (2 : Int32) H.size r6 hr6) (cwV 1 hts gX2_readClimate_X9_refuse rfl rfl rfl cdX9_refuse ⟨Nat.le_of_ble_eq_true rfl, Nat.le_of_ble_eq_true rfl⟩) (wb_preDV hPc hK hDc (va_recv hK hP (ci := 9) (q0 := 2) rfl rfl)) rfl rfl hl.1 rfl (lv_room (Nat.le_of_ble_eq_true rfl)) dX2_readClimate_11 ⟨Nat.le_of_ble_eq_true rfl, Nat.le_of_ble_eq_true rfl⟩) hS (fun q _ h => hFc q h) hFc (fun r9 u t H locs ht hvm hw hB hz1 hk1 hS => ?_)
    obtain ⟨hP, hD⟩ := wj_s (wc := (wWX9 cB cI cZ a1 I1 M1)) (w1 := (wWX9 cB cI cZ a1 r6.2.1 r6.2.2)) (wf := ((wWX2 cB cI cZ a0 I0 M0) ++ (wWX9 cB cI cZ a1 r6.2.1 r6.2.2))) 2 4 hP hD rfl rfl hk1 hFc ht hB
    rw [hw]
    obtain ⟨hz, hf⟩ := wb_y hf
    exact W.zret (v := r6.1) hx hb hr (congrArg Value.int hz) (fun t ht hW => by rw [← Option.some.inj hf]; exact ⟨⟨r6.1, (), rfl, rfl, by rw [ht]; exact hP, va_K.moved hW.alike hK, hD⟩, hS.F ht⟩) hS.2.2 dX2_readClimate_14

