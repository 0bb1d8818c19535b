set_option maxHeartbeats 4000000 in
set_option maxRecDepth 100000 in
theorem cn_X1_readDegree (l : Launch) (D : va_G) (cB cI cZ : ClassId) (N : Nat) (a0 : Nat → Nat) (I0 : Nat → Int32) (M0 : Nat → Nat → Int32) (a1 : Nat → Nat) (I1 : Nat → Int32) (M1 : Nat → Nat → Int32) (x2 : Int32) (sz : Nat) (R : Int32 × (Nat → Int32) × (Nat → Nat → Int32) × (Nat → Int32) × (Nat → Nat → Int32)) (hf : fX1_readDegree N I0 M0 I1 M1 x2 = some R) : Met l yX1_readDegree wsX1_readDegree ({ frames := 3, cells := 0, slots := 0, locals := 65 }) (va_Pc [.ref (a0 0), .ref (a1 0), .int x2] (wb_preD D [(cB, .byte), (cI, .int), (cZ, .boolean)] ((wWX1 cB cI cZ a0 I0 M0) ++ (wWX9 cB cI cZ a1 I1 M1)) sz)) (va_Qi (fun r (_ : Unit) => r = R.1) (fun _ t => wb_post D [(cB, .byte), (cI, .int), (cZ, .boolean)] (va_A ((wWX1 cB cI cZ a0 I0 M0) ++ (wWX9 cB cI cZ a1 I1 M1)) sz) ((wWX1 cB cI cZ a0 R.2.1 R.2.2.1) ++ (wWX9 cB cI cZ a1 R.2.2.2.1 R.2.2.2.2)) t) (va_A ((wWX1 cB cI cZ a0 I0 M0) ++ (wWX9 cB cI cZ a1 I1 M1)) sz)) 0 0 (va_A ((wWX1 cB cI cZ a0 I0 M0) ++ (wWX9 cB cI cZ a1 I1 M1)) sz) := by
  refine Met.ofW (cc := cX1_readDegree) (maxL := 4) (ret := (some .boolean)) (by decide) rfl ?_
  intro p e s m args below meth c s₁ B hml hv
  obtain ⟨rfl, hsz, hP, hK, hD0⟩ := hv
  have hx := B.exec
  have hb := B.bytes
  have hr := B.returns
  have hts := atoms_spec (ws := wsX1_readDegree) B.pre
  have hown : s.vm.findClass RX1 = some m.cls := findClass_of_methodNamed B.named
  have hlocks := B.notSynchronized
  have hinX1 : ∀ w ∈ u_ws RX1 TX1 2, w ∈ wsX1_readDegree := fun w h => List.mem_cons_of_mem _ (List.mem_append_right _ h)
  have hinX9 : ∀ w ∈ u_ws RX9 TX9 10, w ∈ wsX1_readDegree := fun w h => List.mem_cons_of_mem _ (List.mem_append_left _ (List.mem_append_right _ h))
  subst hsz
  have hD := hD0.self (sz := s.heap.size)
  generalize hAe : va_A ((wWX1 cB cI cZ a0 I0 M0) ++ (wWX9 cB cI cZ a1 I1 M1)) s.heap.size = A at hD ⊢
  have hA : ∀ q : Nat, s.heap.size ≤ q → A q := fun q h => by rw [← hAe]; exact Or.inr h
  have hS : va_S A s.heap s.heap [] := va_S.rf
  have hl := lv_entry ([.ref (a0 0), .ref (a1 0), .int x2]) (n := 4) (Nat.le_of_ble_eq_true rfl)
  rw [lg_entry_eq]
  generalize (lg_sl ([.ref (a0 0), .ref (a1 0), .int x2]) ++ List.replicate (4 - (lg_sl ([.ref (a0 0), .ref (a1 0), .int x2])).length) Slot.unset).toArray = ls at hl ⊢
  have hl : lv_has ls 4 [(0, .ref (a0 0)), (1, .ref (a1 0)), (2, .int x2)] := hl
  unfold fX1_readDegree at hf
  obtain ⟨H, hHe⟩ : ∃ H : Heap, H = s.heap := ⟨_, rfl⟩
  obtain ⟨locs, hle⟩ : ∃ locs : List Loc, locs = [] := ⟨_, rfl⟩
  refine wb_start (H := H) (locs := locs) hHe hle ?_
  rw [← hHe] at hP
  have hS : va_S A s.heap H locs := by rw [hHe, hle]; exact va_S.rf
  refine lv_aload_n hx hb dX1_readDegree_0 rfl (lv_at hl 0 rfl) ?_
  refine lv_aload_n hx hb dX1_readDegree_1 rfl (lv_at hl 1 rfl) ?_
  refine lv_iload_n hx hb dX1_readDegree_2 rfl (lv_at hl 2 rfl) ?_
  obtain ⟨r1, hr1, hf⟩ := wb_b hf
  have hPc := hP
  have hDc := hD
  have hFc := wj_F hDc hS hA
  refine va_calli (va_runV (As := [.ref (a1 0), .int x2]) (rest := []) ⟨hx, hb, hml, hown, hts⟩ (cn_X1_isNew l D cB cI cZ N a0 I0 M0 a1 I1 M1 x2 H.size r1 hr1) (cwV 2 hts gX1_readDegree_X1_isNew rfl rfl rfl cdX1_isNew ⟨Nat.le_of_ble_eq_true rfl, Nat.le_of_ble_eq_true rfl⟩) (wb_preDV hPc hK hDc (va_recv hK hP (ci := 1) (q0 := 0) rfl rfl)) rfl rfl hl.1 rfl (lv_room (Nat.le_of_ble_eq_true rfl)) dX1_readDegree_3 ⟨Nat.le_of_ble_eq_true rfl, Nat.le_of_ble_eq_true rfl⟩) hS (fun q _ h => hFc q h) hFc (fun r9 u t H locs ht hvm hw hB hz1 hk1 hS => ?_)
  obtain ⟨hP, hD⟩ := wj_0 hFc ht hB
  rw [hw]
  refine lv_if_eq (tgt := 19) hx hb dX1_readDegree_6 (by decide) (fun hc => ?_) (fun hc => ?_)
  · replace hf := wb_t hc hf
    refine lv_iconst (v := (0 : Int32)) hx hb dX1_readDegree_19 (by decide) ?_
    exact W.zret (v := (0 : Int32)) hx hb hr (by decide) (fun t ht hW => by rw [← Option.some.inj hf]; exact ⟨⟨(0 : Int32), (), rfl, rfl, by rw [ht]; exact hP, va_K.moved hW.alike hK, hD⟩, hS.F ht⟩) hS.2.2 dX1_readDegree_20
  · replace hf := wb_f hc hf
    refine lv_aload_n hx hb dX1_readDegree_9 rfl (lv_at hl 1 rfl) ?_
    refine lv_iconst (v := (0 : Int32)) hx hb dX1_readDegree_10 (by decide) ?_
    refine lv_bipush (v := (11 : Int32)) hx hb dX1_readDegree_11 (by decide) ?_
    obtain ⟨r2, hr2, hf⟩ := wb_b hf
    have hPc := hP.sub (ws' := (wWX9 cB cI cZ a1 r1.2.1 r1.2.2)) [3, 4] rfl
    have hDc := hD.sub (ws' := (wWX9 cB cI cZ a1 r1.2.1 r1.2.2)) [3, 4] (by decide) rfl
    have hFc := va_free (wc := (wWX9 cB cI cZ a1 r1.2.1 r1.2.2)) hD hS hA [3, 4] rfl
    refine va_calli (va_runV (As := [.int (0 : Int32), .int (11 : Int32)]) (rest := []) ⟨hx, hb, hml, hown, hts⟩ (cn_X9_takeNumber l D cB cI cZ N a1 r1.2.1 r1.2.2 (0 : Int32) (11 : Int32) H.size r2 hr2) (cwV 2 hts gX1_readDegree_X9_takeNumber rfl rfl rfl cdX9_takeNumber ⟨Nat.le_of_ble_eq_true rfl, Nat.le_of_ble_eq_true rfl⟩) (wb_preDV hPc hK hDc (va_recv hK hP (ci := 9) (q0 := 3) rfl rfl)) rfl rfl hl.1 rfl (lv_room (Nat.le_of_ble_eq_true rfl)) dX1_readDegree_13 ⟨Nat.le_of_ble_eq_true rfl, Nat.le_of_ble_eq_true rfl⟩) hS (fun q _ h => hFc q h) hFc (fun r9 u t H locs ht hvm hw hB hz1 hk1 hS => ?_)
    obtain ⟨hP, hD⟩ := wj_s (wc := (wWX9 cB cI cZ a1 r1.2.1 r1.2.2)) (w1 := (wWX9 cB cI cZ a1 r2.2.1 r2.2.2)) (wf := ((wWX1 cB cI cZ a0 I0 M0) ++ (wWX9 cB cI cZ a1 r2.2.1 r2.2.2))) 3 5 hP hD rfl rfl hk1 hFc ht hB
    rw [hw]
    refine lv_if_ne (tgt := 21) hx hb dX1_readDegree_16 (by decide) (fun hc => ?_) (fun hc => ?_)
    · replace hf := wb_f hc hf
      refine lv_aload_n hx hb dX1_readDegree_21 rfl (lv_at hl 1 rfl) ?_
      refine va_get (D := D) (ci := 9) (v := .int (r2.2.1 6)) (C := RX9) (T := TX9) (N := 10) hx hb hts hinX9 hown hK hP 3 rfl rfl 7 (by decide) (hts (.fieldLink RX1 53 "WheelBook$Text" "number" "I") (List.mem_of_getElem? (i := 1) rfl)) (fun _ h9 => h9) rfl dX1_readDegree_22 ?_
      obtain ⟨v3, ev3, hf⟩ := wb_v hf
      refine wb_topi ev3 ?_
      refine lv_istore_n (lv' := [(3, .int v3), (0, .ref (a0 0)), (1, .ref (a1 0)), (2, .int x2)]) hx hb dX1_readDegree_25 rfl hl (by decide) rfl (fun ls hl => ?_)
      refine lv_aload_n hx hb dX1_readDegree_26 rfl (lv_at hl 2 rfl) ?_
      refine lv_iconst (v := (0 : Int32)) hx hb dX1_readDegree_27 (by decide) ?_
      refine lv_bipush (v := (29 : Int32)) hx hb dX1_readDegree_28 (by decide) ?_
      obtain ⟨r4, hr4, hf⟩ := wb_b hf
      have hPc := hP.sub (ws' := (wWX9 cB cI cZ a1 r2.2.1 r2.2.2)) [3, 4] rfl
      have hDc := hD.sub (ws' := (wWX9 cB cI cZ a1 r2.2.1 r2.2.2)) [3, 4] (by decide) rfl
      have hFc := va_free (wc := (wWX9 cB cI cZ a1 r2.2.1 r2.2.2)) hD hS hA [3, 4] rfl
      refine va_calli (va_runV (As := [.int (0 : Int32), .int (29 : Int32)]) (rest := []) ⟨hx, hb, hml, hown, hts⟩ (cn_X9_takeNumber l D cB cI cZ N a1 r2.2.1 r2.2.2 (0 : Int32) (29 : Int32) H.size r4 hr4) (cwV 2 hts gX1_readDegree_X9_takeNumber rfl rfl rfl cdX9_takeNumber ⟨Nat.le_of_ble_eq_true rfl, Nat.le_of_ble_eq_true rfl⟩) (wb_preDV hPc hK hDc (va_recv hK hP (ci := 9) (q0 := 3) rfl rfl)) rfl rfl hl.1 rfl (lv_room (Nat.le_of_ble_eq_true rfl)) dX1_readDegree_30 ⟨Nat.le_of_ble_eq_true rfl, Nat.le_of_ble_eq_true rfl⟩) hS (fun q _ h => hFc q h) hFc (fun r9 u t H locs ht hvm hw hB hz1 hk1 hS => ?_)
      obtain ⟨hP, hD⟩ := wj_s (wc := (wWX9 cB cI cZ a1 r2.2.1 r2.2.2)) (w1 := (wWX9 cB cI cZ a1 r4.2.1 r4.2.2)) (wf := ((wWX1 cB cI cZ a0 I0 M0) ++ (wWX9 cB cI cZ a1 r4.2.1 r4.2.2))) 3 5 hP hD rfl rfl hk1 hFc ht hB
      rw [hw]
      refine lv_if_ne (tgt := 38) hx hb dX1_readDegree_33 (by decide) (fun hc => ?_) (fun hc => ?_)
      · replace hf := wb_f hc hf
        refine lv_aload_n hx hb dX1_readDegree_38 rfl (lv_at hl 1 rfl) ?_
        refine va_get (D := D) (ci := 1) (v := .ref (a0 2)) (C := RX1) (T := TX1) (N := 2) hx hb hts hinX1 hown hK hP 0 rfl rfl 1 (by decide) (hts (.fieldLink RX1 15 "WheelBook$Books" "draft" "[I") (List.mem_of_getElem? (i := 2) rfl)) (fun _ h9 => h9) rfl dX1_readDegree_39 ?_
        refine lv_iload_n hx hb dX1_readDegree_42 rfl (lv_at hl 3 rfl) ?_
        refine lv_bipush (v := (30 : Int32)) hx hb dX1_readDegree_43 (by decide) ?_
        refine lv_iload_n hx hb dX1_readDegree_45 rfl (lv_at hl 0 rfl) ?_
        refine lv_imul hx hb dX1_readDegree_46 ?_
        refine lv_aload_n hx hb dX1_readDegree_47 rfl (lv_at hl 2 rfl) ?_
        refine va_get (D := D) (ci := 9) (v := .int (r4.2.1 6)) (C := RX9) (T := TX9) (N := 10) hx hb hts hinX9 hown hK hP 3 rfl rfl 7 (by decide) (hts (.fieldLink RX1 53 "WheelBook$Text" "number" "I") (List.mem_of_getElem? (i := 1) rfl)) (fun _ h9 => h9) rfl dX1_readDegree_48 ?_
        refine lv_iadd hx hb dX1_readDegree_51 ?_
        obtain ⟨hin, hf⟩ := wb_n hf
        refine va_iast hx hb hK hP hD hS 2 1 rfl rfl hin dX1_readDegree_52 (fun H locs hP hD hS => ?_)
        have hP : va_P D vwCl ((wWX1 cB cI cZ a0 I0 (wb_um M0 1 (x2).toNatClampNeg (((30 : Int32) * v3) + (r4.2.1 6)))) ++ (wWX9 cB cI cZ a1 r4.2.1 r4.2.2)) H := hP
        have hD : va_D A ((wWX1 cB cI cZ a0 I0 (wb_um M0 1 (x2).toNatClampNeg (((30 : Int32) * v3) + (r4.2.1 6)))) ++ (wWX9 cB cI cZ a1 r4.2.1 r4.2.2)) := hD
        obtain ⟨M0_5, eM0_5, hf⟩ := wb_v hf
        rw [← eM0_5] at hP hD
        refine lv_aload_n hx hb dX1_readDegree_53 rfl (lv_at hl 2 rfl) ?_
        obtain ⟨r6, hr6, hf⟩ := wb_b hf
        have hPc := hP.sub (ws' := (wWX9 cB cI cZ a1 r4.2.1 r4.2.2)) [3, 4] rfl
        have hDc := hD.sub (ws' := (wWX9 cB cI cZ a1 r4.2.1 r4.2.2)) [3, 4] (by decide) rfl
        have hFc := va_free (wc := (wWX9 cB cI cZ a1 r4.2.1 r4.2.2)) hD hS hA [3, 4] rfl
        refine va_calli (va_runV (As := []) (rest := []) ⟨hx, hb, hml, hown, hts⟩ (cn_X9_takeStop l D cB cI cZ N a1 r4.2.1 r4.2.2 H.size r6 hr6) (cwV 0 hts gX1_readDegree_X9_takeStop rfl rfl rfl cdX9_takeStop ⟨Nat.le_of_ble_eq_true rfl, Nat.le_of_ble_eq_true rfl⟩) (wb_preDV hPc hK hDc (va_recv hK hP (ci := 9) (q0 := 3) rfl rfl)) rfl rfl hl.1 rfl (lv_room (Nat.le_of_ble_eq_true rfl)) dX1_readDegree_54 ⟨Nat.le_of_ble_eq_true rfl, Nat.le_of_ble_eq_true rfl⟩) hS (fun q _ h => hFc q h) hFc (fun r9 u t H locs ht hvm hw hB hz1 hk1 hS => ?_)
        obtain ⟨hP, hD⟩ := wj_s (wc := (wWX9 cB cI cZ a1 r4.2.1 r4.2.2)) (w1 := (wWX9 cB cI cZ a1 r6.2.1 r6.2.2)) (wf := ((wWX1 cB cI cZ a0 I0 M0_5) ++ (wWX9 cB cI cZ a1 r6.2.1 r6.2.2))) 3 5 hP hD rfl rfl hk1 hFc ht hB
        rw [hw]
        obtain ⟨hz, hf⟩ := wb_y hf
        exact W.zret (v := r6.1) hx hb hr (congrArg Value.int hz) (fun t ht hW => by rw [← Option.some.inj hf]; exact ⟨⟨r6.1, (), rfl, rfl, by rw [ht]; exact hP, va_K.moved hW.alike hK, hD⟩, hS.F ht⟩) hS.2.2 dX1_readDegree_57
      · replace hf := wb_t hc hf
        refine lv_iconst (v := (0 : Int32)) hx hb dX1_readDegree_36 (by decide) ?_
        exact W.zret (v := (0 : Int32)) hx hb hr (by decide) (fun t ht hW => by rw [← Option.some.inj hf]; exact ⟨⟨(0 : Int32), (), rfl, rfl, by rw [ht]; exact hP, va_K.moved hW.alike hK, hD⟩, hS.F ht⟩) hS.2.2 dX1_readDegree_37
    · replace hf := wb_t hc hf
      refine lv_iconst (v := (0 : Int32)) hx hb dX1_readDegree_19 (by decide) ?_
      exact W.zret (v := (0 : Int32)) hx hb hr (by decide) (fun t ht hW => by rw [← Option.some.inj hf]; exact ⟨⟨(0 : Int32), (), rfl, rfl, by rw [ht]; exact hP, va_K.moved hW.alike hK, hD⟩, hS.F ht⟩) hS.2.2 dX1_readDegree_20

