set_option maxHeartbeats 4000000 in
set_option maxRecDepth 100000 in
theorem cn_X1_readEntry (l : Launch) (D : va_G) (cB cI cZ : ClassId) (N : Nat) (aK aV : Nat → Nat) (a0 : Nat → Nat) (I0 : Nat → Int32) (M0 : Nat → Nat → Int32) (a1 : Nat → Nat) (I1 : Nat → Int32) (M1 : Nat → Nat → Int32) (sz : Nat) (R : Int32 × (Nat → Int32) × (Nat → Nat → Int32) × (Nat → Int32) × (Nat → Nat → Int32)) (hf : fX1_readEntry N I0 M0 I1 M1 = some R) : Met l yX1_readEntry wsX1_readEntry ({ frames := 6, cells := 0, slots := 0, locals := 165 }) (va_Pc [.ref (a0 0), .ref (a1 0)] (wb_preDE D [(cB, .byte), (cI, .int), (cZ, .boolean)] ((wWX1 cB cI cZ a0 I0 M0) ++ (wWX9 cB cI cZ a1 I1 M1)) sz aK aV)) (va_Qi (fun r (_ : Unit) => r = R.1) (fun _ t => wb_post D [(cB, .byte), (cI, .int), (cZ, .boolean)] (va_A ((wWX1 cB cI cZ a0 I0 M0) ++ (wWX9 cB cI cZ a1 I1 M1)) sz) ((wWX1 cB cI cZ a0 R.2.1 R.2.2.1) ++ (wWX9 cB cI cZ a1 R.2.2.2.1 R.2.2.2.2)) t) (va_A ((wWX1 cB cI cZ a0 I0 M0) ++ (wWX9 cB cI cZ a1 I1 M1)) sz)) 0 0 (va_A ((wWX1 cB cI cZ a0 I0 M0) ++ (wWX9 cB cI cZ a1 I1 M1)) sz) := by
  refine Met.ofW (cc := cX1_readEntry) (maxL := 3) (ret := (some .boolean)) (by decide) rfl ?_
  intro p e s m args below meth c s₁ B hml hv
  obtain ⟨rfl, ⟨hsz, hP, hK, hD0⟩, hZ⟩ := hv
  have hx := B.exec
  have hb := B.bytes
  have hr := B.returns
  have hts := atoms_spec (ws := wsX1_readEntry) B.pre
  have hown : s.vm.findClass RX1 = some m.cls := findClass_of_methodNamed B.named
  have hlocks := B.notSynchronized
  have hinX9 : ∀ w ∈ u_ws RX9 TX9 10, w ∈ wsX1_readEntry := fun w h => List.mem_cons_of_mem _ (List.mem_append_left _ (List.mem_append_right _ h))
  subst hsz
  have hD := hD0.self (sz := s.heap.size)
  generalize hAe : va_A ((wWX1 cB cI cZ a0 I0 M0) ++ (wWX9 cB cI cZ a1 I1 M1)) s.heap.size = A at hD hZ ⊢
  have hA : ∀ q : Nat, s.heap.size ≤ q → A q := fun q h => by rw [← hAe]; exact Or.inr h
  have hS : va_S A s.heap s.heap [] := va_S.rf
  have hl := lv_entry ([.ref (a0 0), .ref (a1 0)]) (n := 3) (Nat.le_of_ble_eq_true rfl)
  rw [lg_entry_eq]
  generalize (lg_sl ([.ref (a0 0), .ref (a1 0)]) ++ List.replicate (3 - (lg_sl ([.ref (a0 0), .ref (a1 0)])).length) Slot.unset).toArray = ls at hl ⊢
  have hl : lv_has ls 3 [(0, .ref (a0 0)), (1, .ref (a1 0))] := hl
  unfold fX1_readEntry at hf
  obtain ⟨H, hHe⟩ : ∃ H : Heap, H = s.heap := ⟨_, rfl⟩
  obtain ⟨locs, hle⟩ : ∃ locs : List Loc, locs = [] := ⟨_, rfl⟩
  refine wb_start (H := H) (locs := locs) hHe hle ?_
  rw [← hHe] at hP
  have hS : va_S A s.heap H locs := by rw [hHe, hle]; exact va_S.rf
  refine lv_aload_n hx hb dX1_readEntry_0 rfl (lv_at hl 1 rfl) ?_
  refine va_ldcS hx hb hown (hZ.2.1 0 (RX1, 40, "house") rfl) dX1_readEntry_1 ?_
  obtain ⟨r1, hr1, hf⟩ := wb_b hf
  refine vp_callSi (W.runV (As := [.ref (aK 0)]) (rest := []) ⟨hx, hb, hml, hown, hts⟩ (cn_X9_isWord l D cB cI cZ N aK aV a1 I1 M1 0 (by decide) r1 hr1) (cwV 1 hts gX1_readEntry_X9_isWord rfl rfl rfl cdX9_isWord ⟨Nat.le_of_ble_eq_true rfl, Nat.le_of_ble_eq_true rfl⟩) (wb_preEV (hP.sub (ws' := (wWX9 cB cI cZ a1 I1 M1)) [3, 4] rfl) hK (va_recv hK hP (ci := 9) (q0 := 3) rfl rfl) hZ hS) rfl rfl hl.1 rfl (lv_room (Nat.le_of_ble_eq_true rfl)) dX1_readEntry_3 ⟨Nat.le_of_ble_eq_true rfl, Nat.le_of_ble_eq_true rfl⟩) (fun r9 e9 => ?_)
  rw [e9]
  refine lv_if_eq (tgt := 44) hx hb dX1_readEntry_6 (by decide) (fun hc => ?_) (fun hc => ?_)
  · replace hf := wb_t hc hf
    refine lv_aload_n hx hb dX1_readEntry_44 rfl (lv_at hl 1 rfl) ?_
    refine va_ldcS hx hb hown (hZ.2.1 1 (RX1, 61, "date") rfl) dX1_readEntry_45 ?_
    obtain ⟨r2, hr2, hf⟩ := wb_b hf
    refine vp_callSi (W.runV (As := [.ref (aK 1)]) (rest := []) ⟨hx, hb, hml, hown, hts⟩ (cn_X9_isWord l D cB cI cZ N aK aV a1 I1 M1 1 (by decide) r2 hr2) (cwV 1 hts gX1_readEntry_X9_isWord rfl rfl rfl cdX9_isWord ⟨Nat.le_of_ble_eq_true rfl, Nat.le_of_ble_eq_true rfl⟩) (wb_preEV (hP.sub (ws' := (wWX9 cB cI cZ a1 I1 M1)) [3, 4] rfl) hK (va_recv hK hP (ci := 9) (q0 := 3) rfl rfl) hZ hS) rfl rfl hl.1 rfl (lv_room (Nat.le_of_ble_eq_true rfl)) dX1_readEntry_47 ⟨Nat.le_of_ble_eq_true rfl, Nat.le_of_ble_eq_true rfl⟩) (fun r9 e9 => ?_)
    rw [e9]
    refine lv_if_eq (tgt := 59) hx hb dX1_readEntry_50 (by decide) (fun hc => ?_) (fun hc => ?_)
    · replace hf := wb_t hc hf
      refine lv_aload_n hx hb dX1_readEntry_59 rfl (lv_at hl 1 rfl) ?_
      refine lv_bipush (v := (9 : Int32)) hx hb dX1_readEntry_60 (by decide) ?_
      obtain ⟨r3, hr3, hf⟩ := wb_b hf
      refine vp_callSi (W.runV (As := [.int (9 : Int32)]) (rest := []) ⟨hx, hb, hml, hown, hts⟩ (cn_X9_namedOf l D cB cI cZ N aK aV a1 I1 M1 (9 : Int32) r3 hr3) (cwV 1 hts gX1_readEntry_X9_namedOf rfl rfl rfl cdX9_namedOf ⟨Nat.le_of_ble_eq_true rfl, Nat.le_of_ble_eq_true rfl⟩) (wb_preEV (hP.sub (ws' := (wWX9 cB cI cZ a1 I1 M1)) [3, 4] rfl) hK (va_recv hK hP (ci := 9) (q0 := 3) rfl rfl) hZ hS) rfl rfl hl.1 rfl (lv_room (Nat.le_of_ble_eq_true rfl)) dX1_readEntry_62 ⟨Nat.le_of_ble_eq_true rfl, Nat.le_of_ble_eq_true rfl⟩) (fun r9 e9 => ?_)
      rw [e9]
      refine lv_istore_n (lv' := [(2, .int r3), (0, .ref (a0 0)), (1, .ref (a1 0))]) hx hb dX1_readEntry_65 rfl hl (by decide) rfl (fun ls hl => ?_)
      refine lv_iload_n hx hb dX1_readEntry_66 rfl (lv_at hl 0 rfl) ?_
      refine lv_iconst (v := (-1 : Int32)) hx hb dX1_readEntry_67 (by decide) ?_
      refine lv_icmp_ne (tgt := 79) hx hb dX1_readEntry_68 (by decide) (fun hc => ?_) (fun hc => ?_)
      · replace hf := wb_f hc hf
        refine lv_aload_n hx hb dX1_readEntry_79 rfl (lv_at hl 1 rfl) ?_
        refine lv_aload_n hx hb dX1_readEntry_80 rfl (lv_at hl 2 rfl) ?_
        refine lv_iload_n hx hb dX1_readEntry_81 rfl (lv_at hl 0 rfl) ?_
        obtain ⟨r4, hr4, hf⟩ := wb_b hf
        have hPc := hP
        have hDc := hD
        have hFc := wj_F hDc hS hA
        refine va_calli (va_runV (As := [.ref (a1 0), .int r3]) (rest := []) ⟨hx, hb, hml, hown, hts⟩ (cn_X1_readDegree l D cB cI cZ N a0 I0 M0 a1 I1 M1 r3 H.size r4 hr4) (cwV 2 hts gX1_readEntry_X1_readDegree rfl rfl rfl cdX1_readDegree ⟨Nat.le_of_ble_eq_true rfl, Nat.le_of_ble_eq_true rfl⟩) (wb_preDV hPc hK hDc (va_recv hK hP (ci := 1) (q0 := 0) rfl rfl)) rfl rfl hl.1 rfl (lv_room (Nat.le_of_ble_eq_true rfl)) dX1_readEntry_82 ⟨Nat.le_of_ble_eq_true rfl, Nat.le_of_ble_eq_true rfl⟩) hS (fun q _ h => hFc q h) hFc (fun r9 u t H locs ht hvm hw hB hz1 hk1 hS => ?_)
        obtain ⟨hP, hD⟩ := wj_0 hFc ht hB
        rw [hw]
        obtain ⟨hz, hf⟩ := wb_y hf
        exact W.zret (v := r4.1) hx hb hr (congrArg Value.int hz) (fun t ht hW => by rw [← Option.some.inj hf]; exact ⟨⟨r4.1, (), rfl, rfl, by rw [ht]; exact hP, va_K.moved hW.alike hK, hD⟩, hS.F ht⟩) hS.2.2 dX1_readEntry_85
      · replace hf := wb_t hc hf
        refine lv_aload_n hx hb dX1_readEntry_71 rfl (lv_at hl 2 rfl) ?_
        refine lv_iconst (v := (1 : Int32)) hx hb dX1_readEntry_72 (by decide) ?_
        obtain ⟨r5, hr5, hf⟩ := wb_b hf
        have hPc := hP.sub (ws' := (wWX9 cB cI cZ a1 I1 M1)) [3, 4] rfl
        have hDc := hD.sub (ws' := (wWX9 cB cI cZ a1 I1 M1)) [3, 4] (by decide) rfl
        have hFc := va_free (wc := (wWX9 cB cI cZ a1 I1 M1)) hD hS hA [3, 4] rfl
        refine va_calli (va_runV (As := [.int (1 : Int32)]) (rest := []) ⟨hx, hb, hml, hown, hts⟩ (cn_X9_refuse l D cB cI cZ N a1 I1 M1 (1 : Int32) H.size r5 hr5) (cwV 1 hts gX1_readEntry_X9_refuse rfl rfl rfl cdX9_refuse ⟨Nat.le_of_ble_eq_true rfl, Nat.le_of_ble_eq_true rfl⟩) (wb_preDV hPc hK hDc (va_recv hK hP (ci := 9) (q0 := 3) rfl rfl)) rfl rfl hl.1 rfl (lv_room (Nat.le_of_ble_eq_true rfl)) dX1_readEntry_73 ⟨Nat.le_of_ble_eq_true rfl, Nat.le_of_ble_eq_true rfl⟩) hS (fun q _ h => hFc q h) hFc (fun r9 u t H locs ht hvm hw hB hz1 hk1 hS => ?_)
        obtain ⟨hP, hD⟩ := wj_s (wc := (wWX9 cB cI cZ a1 I1 M1)) (w1 := (wWX9 cB cI cZ a1 r5.2.1 r5.2.2)) (wf := ((wWX1 cB cI cZ a0 I0 M0) ++ (wWX9 cB cI cZ a1 r5.2.1 r5.2.2))) 3 5 hP hD rfl rfl hk1 hFc ht hB
        rw [hw]
        refine lv_goto (tgt := 85) hx hb dX1_readEntry_76 (by decide) ?_
        obtain ⟨hz, hf⟩ := wb_y hf
        exact W.zret (v := r5.1) hx hb hr (congrArg Value.int hz) (fun t ht hW => by rw [← Option.some.inj hf]; exact ⟨⟨r5.1, (), rfl, rfl, by rw [ht]; exact hP, va_K.moved hW.alike hK, hD⟩, hS.F ht⟩) hS.2.2 dX1_readEntry_85
    · replace hf := wb_f hc hf
      refine lv_aload_n hx hb dX1_readEntry_53 rfl (lv_at hl 0 rfl) ?_
      refine lv_aload_n hx hb dX1_readEntry_54 rfl (lv_at hl 1 rfl) ?_
      obtain ⟨r6, hr6, hf⟩ := wb_b hf
      have hPc := hP
      have hDc := hD
      have hFc := wj_F hDc hS hA
      refine va_calli (va_runV (As := [.ref (a1 0)]) (rest := []) ⟨hx, hb, hml, hown, hts⟩ (cn_X1_readDate l D cB cI cZ N a0 I0 M0 a1 I1 M1 H.size r6 hr6) (cwV 1 hts gX1_readEntry_X1_readDate rfl rfl rfl cdX1_readDate ⟨Nat.le_of_ble_eq_true rfl, Nat.le_of_ble_eq_true rfl⟩) (wb_preDV hPc hK hDc (va_recv hK hP (ci := 1) (q0 := 0) rfl rfl)) rfl rfl hl.1 rfl (lv_room (Nat.le_of_ble_eq_true rfl)) dX1_readEntry_55 ⟨Nat.le_of_ble_eq_true rfl, Nat.le_of_ble_eq_true rfl⟩) hS (fun q _ h => hFc q h) hFc (fun r9 u t H locs ht hvm hw hB hz1 hk1 hS => ?_)
      obtain ⟨hP, hD⟩ := wj_0 hFc ht hB
      rw [hw]
      obtain ⟨hz, hf⟩ := wb_y hf
      exact W.zret (v := r6.1) hx hb hr (congrArg Value.int hz) (fun t ht hW => by rw [← Option.some.inj hf]; exact ⟨⟨r6.1, (), rfl, rfl, by rw [ht]; exact hP, va_K.moved hW.alike hK, hD⟩, hS.F ht⟩) hS.2.2 dX1_readEntry_58
  · replace hf := wb_f hc hf
    refine lv_aload_n hx hb dX1_readEntry_9 rfl (lv_at hl 1 rfl) ?_
    obtain ⟨r7, hr7, hf⟩ := wb_b hf
    have hPc := hP.sub (ws' := (wWX9 cB cI cZ a1 I1 M1)) [3, 4] rfl
    have hDc := hD.sub (ws' := (wWX9 cB cI cZ a1 I1 M1)) [3, 4] (by decide) rfl
    have hFc := va_free (wc := (wWX9 cB cI cZ a1 I1 M1)) hD hS hA [3, 4] rfl
    refine va_callv (va_runV (As := []) (rest := []) ⟨hx, hb, hml, hown, hts⟩ (cn_X9_step l D cB cI cZ N a1 I1 M1 H.size r7 hr7) (cwV 0 hts gX1_readEntry_X9_step rfl rfl rfl cdX9_step ⟨Nat.le_of_ble_eq_true rfl, Nat.le_of_ble_eq_true rfl⟩) (wb_preDV hPc hK hDc (va_recv hK hP (ci := 9) (q0 := 3) rfl rfl)) rfl rfl hl.1 rfl (lv_room (Nat.le_of_ble_eq_true rfl)) dX1_readEntry_10 ⟨Nat.le_of_ble_eq_true rfl, Nat.le_of_ble_eq_true rfl⟩) hS (fun q _ h => hFc q h) hFc (fun u t H locs ht hvm hw hB hz1 hk1 hS => ?_)
    obtain ⟨hP, hD⟩ := wj_s (wc := (wWX9 cB cI cZ a1 I1 M1)) (w1 := (wWX9 cB cI cZ a1 r7.1 r7.2)) (wf := ((wWX1 cB cI cZ a0 I0 M0) ++ (wWX9 cB cI cZ a1 r7.1 r7.2))) 3 5 hP hD rfl rfl hk1 hFc ht hB
    refine lv_aload_n hx hb dX1_readEntry_13 rfl (lv_at hl 1 rfl) ?_
    refine lv_iconst (v := (1 : Int32)) hx hb dX1_readEntry_14 (by decide) ?_
    refine lv_bipush (v := (12 : Int32)) hx hb dX1_readEntry_15 (by decide) ?_
    obtain ⟨r8, hr8, hf⟩ := wb_b hf
    have hPc := hP.sub (ws' := (wWX9 cB cI cZ a1 r7.1 r7.2)) [3, 4] rfl
    have hDc := hD.sub (ws' := (wWX9 cB cI cZ a1 r7.1 r7.2)) [3, 4] (by decide) rfl
    have hFc := va_free (wc := (wWX9 cB cI cZ a1 r7.1 r7.2)) hD hS hA [3, 4] rfl
    refine va_calli (va_runV (As := [.int (1 : Int32), .int (12 : Int32)]) (rest := []) ⟨hx, hb, hml, hown, hts⟩ (cn_X9_holdsNumber l D cB cI cZ N a1 r7.1 r7.2 (1 : Int32) (12 : Int32) H.size r8 hr8) (cwV 2 hts gX1_readEntry_X9_holdsNumber rfl rfl rfl cdX9_holdsNumber ⟨Nat.le_of_ble_eq_true rfl, Nat.le_of_ble_eq_true rfl⟩) (wb_preDV hPc hK hDc (va_recv hK hP (ci := 9) (q0 := 3) rfl rfl)) rfl rfl hl.1 rfl (lv_room (Nat.le_of_ble_eq_true rfl)) dX1_readEntry_17 ⟨Nat.le_of_ble_eq_true rfl, Nat.le_of_ble_eq_true rfl⟩) hS (fun q _ h => hFc q h) hFc (fun r9 u t H locs ht hvm hw hB hz1 hk1 hS => ?_)
    obtain ⟨hP, hD⟩ := wj_s (wc := (wWX9 cB cI cZ a1 r7.1 r7.2)) (w1 := (wWX9 cB cI cZ a1 r8.2.1 r8.2.2)) (wf := ((wWX1 cB cI cZ a0 I0 M0) ++ (wWX9 cB cI cZ a1 r8.2.1 r8.2.2))) 3 5 hP hD rfl rfl hk1 hFc ht hB
    rw [hw]
    refine lv_if_eq (tgt := 42) hx hb dX1_readEntry_20 (by decide) (fun hc => ?_) (fun hc => ?_)
    · replace hf := wb_t hc hf
      refine lv_iconst (v := (0 : Int32)) hx hb dX1_readEntry_42 (by decide) ?_
      exact W.zret (v := (0 : Int32)) hx hb hr (by decide) (fun t ht hW => by rw [← Option.some.inj hf]; exact ⟨⟨(0 : Int32), (), rfl, rfl, by rw [ht]; exact hP, va_K.moved hW.alike hK, hD⟩, hS.F ht⟩) hS.2.2 dX1_readEntry_43
    · replace hf := wb_f hc hf
      refine lv_aload_n hx hb dX1_readEntry_23 rfl (lv_at hl 0 rfl) ?_
      refine lv_aload_n hx hb dX1_readEntry_24 rfl (lv_at hl 1 rfl) ?_
      refine lv_bipush (v := (8 : Int32)) hx hb dX1_readEntry_25 (by decide) ?_
      refine lv_aload_n hx hb dX1_readEntry_27 rfl (lv_at hl 1 rfl) ?_
      refine va_get (D := D) (ci := 9) (v := .int (r8.2.1 6)) (C := RX9) (T := TX9) (N := 10) hx hb hts hinX9 hown hK hP 3 rfl rfl 7 (by decide) (hts (.fieldLink RX1 53 "WheelBook$Text" "number" "I") (List.mem_of_getElem? (i := 1) rfl)) (fun _ h9 => h9) rfl dX1_readEntry_28 ?_
      refine lv_iadd hx hb dX1_readEntry_31 ?_
      obtain ⟨r9b, hr9b, hf⟩ := wb_b hf
      have hPc := hP
      have hDc := hD
      have hFc := wj_F hDc hS hA
      refine va_calli (va_runV (As := [.ref (a1 0), .int ((8 : Int32) + (r8.2.1 6))]) (rest := []) ⟨hx, hb, hml, hown, hts⟩ (cn_X1_readDegree l D cB cI cZ N a0 I0 M0 a1 r8.2.1 r8.2.2 ((8 : Int32) + (r8.2.1 6)) H.size r9b hr9b) (cwV 2 hts gX1_readEntry_X1_readDegree rfl rfl rfl cdX1_readDegree ⟨Nat.le_of_ble_eq_true rfl, Nat.le_of_ble_eq_true rfl⟩) (wb_preDV hPc hK hDc (va_recv hK hP (ci := 1) (q0 := 0) rfl rfl)) rfl rfl hl.1 rfl (lv_room (Nat.le_of_ble_eq_true rfl)) dX1_readEntry_32 ⟨Nat.le_of_ble_eq_true rfl, Nat.le_of_ble_eq_true rfl⟩) hS (fun q _ h => hFc q h) hFc (fun r9 u t H locs ht hvm hw hB hz1 hk1 hS => ?_)
      obtain ⟨hP, hD⟩ := wj_0 hFc ht hB
      rw [hw]
      refine lv_if_eq (tgt := 42) hx hb dX1_readEntry_35 (by decide) (fun hc => ?_) (fun hc => ?_)
      · replace hf := wb_t hc hf
        refine lv_iconst (v := (0 : Int32)) hx hb dX1_readEntry_42 (by decide) ?_
        exact W.zret (v := (0 : Int32)) hx hb hr (by decide) (fun t ht hW => by rw [← Option.some.inj hf]; exact ⟨⟨(0 : Int32), (), rfl, rfl, by rw [ht]; exact hP, va_K.moved hW.alike hK, hD⟩, hS.F ht⟩) hS.2.2 dX1_readEntry_43
      · replace hf := wb_f hc hf
        refine lv_iconst (v := (1 : Int32)) hx hb dX1_readEntry_38 (by decide) ?_
        refine lv_goto (tgt := 43) hx hb dX1_readEntry_39 (by decide) ?_
        exact W.zret (v := (1 : Int32)) hx hb hr (by decide) (fun t ht hW => by rw [← Option.some.inj hf]; exact ⟨⟨(1 : Int32), (), rfl, rfl, by rw [ht]; exact hP, va_K.moved hW.alike hK, hD⟩, hS.F ht⟩) hS.2.2 dX1_readEntry_43

