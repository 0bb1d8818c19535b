set_option maxHeartbeats 4000000 in
set_option maxRecDepth 100000 in
theorem cn_X1_readDate (l : Launch) (D : va_G) (cB cI cZ : ClassId) (N : Nat) (a0 : Nat → Nat) (I0 : Nat → Int32) (M0 : Nat → Nat → Int32) (a1 : Nat → Nat) (I1 : Nat → Int32) (M1 : Nat → Nat → Int32) (sz : Nat) (R : Int32 × (Nat → Int32) × (Nat → Nat → Int32) × (Nat → Int32) × (Nat → Nat → Int32)) (hf : fX1_readDate N I0 M0 I1 M1 = some R) : Met l yX1_readDate wsX1_readDate ({ frames := 3, cells := 0, slots := 0, locals := 65 }) (va_Pc [.ref (a0 0), .ref (a1 0)] (wb_preD D [(cB, .byte), (cI, .int), (cZ, .boolean)] ((wWX1 cB cI cZ a0 I0 M0) ++ (wWX9 cB cI cZ a1 I1 M1)) sz)) (va_Qi (fun r (_ : Unit) => r = R.1) (fun _ t => wb_post D [(cB, .byte), (cI, .int), (cZ, .boolean)] (va_A ((wWX1 cB cI cZ a0 I0 M0) ++ (wWX9 cB cI cZ a1 I1 M1)) sz) ((wWX1 cB cI cZ a0 R.2.1 R.2.2.1) ++ (wWX9 cB cI cZ a1 R.2.2.2.1 R.2.2.2.2)) t) (va_A ((wWX1 cB cI cZ a0 I0 M0) ++ (wWX9 cB cI cZ a1 I1 M1)) sz)) 0 0 (va_A ((wWX1 cB cI cZ a0 I0 M0) ++ (wWX9 cB cI cZ a1 I1 M1)) sz) := by
  refine Met.ofW (cc := cX1_readDate) (maxL := 3) (ret := (some .boolean)) (by decide) rfl ?_
  intro p e s m args below meth c s₁ B hml hv
  obtain ⟨rfl, hsz, hP, hK, hD0⟩ := hv
  have hx := B.exec
  have hb := B.bytes
  have hr := B.returns
  have hts := atoms_spec (ws := wsX1_readDate) B.pre
  have hown : s.vm.findClass RX1 = some m.cls := findClass_of_methodNamed B.named
  have hlocks := B.notSynchronized
  have hinX1 : ∀ w ∈ u_ws RX1 TX1 2, w ∈ wsX1_readDate := fun w h => List.mem_cons_of_mem _ (List.mem_append_right _ h)
  have hinX9 : ∀ w ∈ u_ws RX9 TX9 10, w ∈ wsX1_readDate := fun w h => List.mem_cons_of_mem _ (List.mem_append_left _ (List.mem_append_right _ h))
  subst hsz
  have hD := hD0.self (sz := s.heap.size)
  generalize hAe : va_A ((wWX1 cB cI cZ a0 I0 M0) ++ (wWX9 cB cI cZ a1 I1 M1)) s.heap.size = A at hD ⊢
  have hA : ∀ q : Nat, s.heap.size ≤ q → A q := fun q h => by rw [← hAe]; exact Or.inr h
  have hS : va_S A s.heap s.heap [] := va_S.rf
  have hl := lv_entry ([.ref (a0 0), .ref (a1 0)]) (n := 3) (Nat.le_of_ble_eq_true rfl)
  rw [lg_entry_eq]
  generalize (lg_sl ([.ref (a0 0), .ref (a1 0)]) ++ List.replicate (3 - (lg_sl ([.ref (a0 0), .ref (a1 0)])).length) Slot.unset).toArray = ls at hl ⊢
  have hl : lv_has ls 3 [(0, .ref (a0 0)), (1, .ref (a1 0))] := hl
  unfold fX1_readDate at hf
  obtain ⟨H, hHe⟩ : ∃ H : Heap, H = s.heap := ⟨_, rfl⟩
  obtain ⟨locs, hle⟩ : ∃ locs : List Loc, locs = [] := ⟨_, rfl⟩
  refine wb_start (H := H) (locs := locs) hHe hle ?_
  rw [← hHe] at hP
  have hS : va_S A s.heap H locs := by rw [hHe, hle]; exact va_S.rf
  have J41 : ∀ (I0_j41 : Nat → Int32) (M0_j41 : Nat → Nat → Int32) (I1_j41 : Nat → Int32) (M1_j41 : Nat → Nat → Int32) (y41_2 : Int32) (z41_0 : Int32) (z41_1 : Int32) (H : Heap) (locs : List Loc), va_P D vwCl ((wWX1 cB cI cZ a0 I0_j41 M0_j41) ++ (wWX9 cB cI cZ a1 I1_j41 M1_j41)) H → va_D A ((wWX1 cB cI cZ a0 I0_j41 M0_j41) ++ (wWX9 cB cI cZ a1 I1_j41 M1_j41)) → va_S A s.heap H locs → ∀ (ls : Array Slot), lv_has ls 3 [(0, .ref (a0 0)), (1, .ref (a1 0)), (2, .int y41_2)] → fX1_readDate_J41 N I0_j41 M0_j41 I1_j41 M1_j41 y41_2 z41_0 z41_1 = some R → W p l e (headSpec wsX1_readDate { frames := 3, cells := 0, slots := 0, locals := 65 }).room s m [.ref (a0 0), .ref (a1 0)].toArray below meth c H locs 0 0 (MQ below (va_Qi (fun r (_ : Unit) => r = R.1) (fun _ t => wb_post D [(cB, .byte), (cI, .int), (cZ, .boolean)] A ((wWX1 cB cI cZ a0 R.2.1 R.2.2.1) ++ (wWX9 cB cI cZ a1 R.2.2.2.1 R.2.2.2.2)) t) A) [.ref (a0 0), .ref (a1 0)].toArray s 0 0 A) (F0 m 41 ls [.int z41_0, .int z41_1, .ref (a1 0)]) := by
    intro I0_j41 M0_j41 I1_j41 M1_j41 y41_2 z41_0 z41_1 H locs hP hD hS ls hl hf
    unfold fX1_readDate_J41 at hf
    obtain ⟨r1, hr1, hf⟩ := wb_b hf
    have hPc := hP.sub (ws' := (wWX9 cB cI cZ a1 I1_j41 M1_j41)) [3, 4] rfl
    have hDc := hD.sub (ws' := (wWX9 cB cI cZ a1 I1_j41 M1_j41)) [3, 4] (by decide) rfl
    have hFc := va_free (wc := (wWX9 cB cI cZ a1 I1_j41 M1_j41)) hD hS hA [3, 4] rfl
    refine va_calli (va_runV (As := [.int z41_1, .int z41_0]) (rest := []) ⟨hx, hb, hml, hown, hts⟩ (cn_X9_takeNumber l D cB cI cZ N a1 I1_j41 M1_j41 z41_1 z41_0 H.size r1 hr1) (cwV 2 hts gX1_readDate_X9_takeNumber rfl rfl rfl cdX9_takeNumber ⟨Nat.le_of_ble_eq_true rfl, Nat.le_of_ble_eq_true rfl⟩) (wb_preDV hPc hK hDc (va_recv hK hP (ci := 9) (q0 := 3) rfl rfl)) rfl rfl hl.1 rfl (lv_room (Nat.le_of_ble_eq_true rfl)) dX1_readDate_41 ⟨Nat.le_of_ble_eq_true rfl, Nat.le_of_ble_eq_true rfl⟩) hS (fun q _ h => hFc q h) hFc (fun r9 u t H locs ht hvm hw hB hz1 hk1 hS => ?_)
    obtain ⟨hP, hD⟩ := wj_s (wc := (wWX9 cB cI cZ a1 I1_j41 M1_j41)) (w1 := (wWX9 cB cI cZ a1 r1.2.1 r1.2.2)) (wf := ((wWX1 cB cI cZ a0 I0_j41 M0_j41) ++ (wWX9 cB cI cZ a1 r1.2.1 r1.2.2))) 3 5 hP hD rfl rfl hk1 hFc ht hB
    rw [hw]
    refine lv_if_ne (tgt := 49) hx hb dX1_readDate_44 (by decide) (fun hc => ?_) (fun hc => ?_)
    · replace hf := wb_f hc hf
      refine lv_aload_n hx hb dX1_readDate_49 rfl (lv_at hl 0 rfl) ?_
      refine va_get (D := D) (ci := 1) (v := .ref (a0 2)) (C := RX1) (T := TX1) (N := 2) hx hb hts hinX1 hown hK hP 0 rfl rfl 1 (by decide) (hts (.fieldLink RX1 15 "WheelBook$Books" "draft" "[I") (List.mem_of_getElem? (i := 2) rfl)) (fun _ h9 => h9) rfl dX1_readDate_50 ?_
      refine lv_bipush (v := (21 : Int32)) hx hb dX1_readDate_53 (by decide) ?_
      refine lv_bipush (v := (30 : Int32)) hx hb dX1_readDate_55 (by decide) ?_
      refine lv_iload_n hx hb dX1_readDate_57 rfl (lv_at hl 2 rfl) ?_
      refine lv_imul hx hb dX1_readDate_58 ?_
      refine lv_aload_n hx hb dX1_readDate_59 rfl (lv_at hl 1 rfl) ?_
      refine va_get (D := D) (ci := 9) (v := .int (r1.2.1 6)) (C := RX9) (T := TX9) (N := 10) hx hb hts hinX9 hown hK hP 3 rfl rfl 7 (by decide) (hts (.fieldLink RX1 53 "WheelBook$Text" "number" "I") (List.mem_of_getElem? (i := 1) rfl)) (fun _ h9 => h9) rfl dX1_readDate_60 ?_
      refine lv_iadd hx hb dX1_readDate_63 ?_
      obtain ⟨hin, hf⟩ := wb_n hf
      refine va_iast hx hb hK hP hD hS 2 1 rfl rfl hin dX1_readDate_64 (fun H locs hP hD hS => ?_)
      have hP : va_P D vwCl ((wWX1 cB cI cZ a0 I0_j41 (wb_um M0_j41 1 ((21 : Int32)).toNatClampNeg (((30 : Int32) * y41_2) + (r1.2.1 6)))) ++ (wWX9 cB cI cZ a1 r1.2.1 r1.2.2)) H := hP
      have hD : va_D A ((wWX1 cB cI cZ a0 I0_j41 (wb_um M0_j41 1 ((21 : Int32)).toNatClampNeg (((30 : Int32) * y41_2) + (r1.2.1 6)))) ++ (wWX9 cB cI cZ a1 r1.2.1 r1.2.2)) := hD
      obtain ⟨M0_2, eM0_2, hf⟩ := wb_v hf
      rw [← eM0_2] at hP hD
      refine lv_aload_n hx hb dX1_readDate_65 rfl (lv_at hl 1 rfl) ?_
      obtain ⟨r3, hr3, hf⟩ := wb_b hf
      have hPc := hP.sub (ws' := (wWX9 cB cI cZ a1 r1.2.1 r1.2.2)) [3, 4] rfl
      have hDc := hD.sub (ws' := (wWX9 cB cI cZ a1 r1.2.1 r1.2.2)) [3, 4] (by decide) rfl
      have hFc := va_free (wc := (wWX9 cB cI cZ a1 r1.2.1 r1.2.2)) hD hS hA [3, 4] rfl
      refine va_calli (va_runV (As := []) (rest := []) ⟨hx, hb, hml, hown, hts⟩ (cn_X9_takeStop l D cB cI cZ N a1 r1.2.1 r1.2.2 H.size r3 hr3) (cwV 0 hts gX1_readDate_X9_takeStop rfl rfl rfl cdX9_takeStop ⟨Nat.le_of_ble_eq_true rfl, Nat.le_of_ble_eq_true rfl⟩) (wb_preDV hPc hK hDc (va_recv hK hP (ci := 9) (q0 := 3) rfl rfl)) rfl rfl hl.1 rfl (lv_room (Nat.le_of_ble_eq_true rfl)) dX1_readDate_66 ⟨Nat.le_of_ble_eq_true rfl, Nat.le_of_ble_eq_true rfl⟩) hS (fun q _ h => hFc q h) hFc (fun r9 u t H locs ht hvm hw hB hz1 hk1 hS => ?_)
      obtain ⟨hP, hD⟩ := wj_s (wc := (wWX9 cB cI cZ a1 r1.2.1 r1.2.2)) (w1 := (wWX9 cB cI cZ a1 r3.2.1 r3.2.2)) (wf := ((wWX1 cB cI cZ a0 I0_j41 M0_2) ++ (wWX9 cB cI cZ a1 r3.2.1 r3.2.2))) 3 5 hP hD rfl rfl hk1 hFc ht hB
      rw [hw]
      obtain ⟨hz, hf⟩ := wb_y hf
      exact W.zret (v := r3.1) hx hb hr (congrArg Value.int hz) (fun t ht hW => by rw [← Option.some.inj hf]; exact ⟨⟨r3.1, (), rfl, rfl, by rw [ht]; exact hP, va_K.moved hW.alike hK, hD⟩, hS.F ht⟩) hS.2.2 dX1_readDate_69
    · replace hf := wb_t hc hf
      refine lv_iconst (v := (0 : Int32)) hx hb dX1_readDate_47 (by decide) ?_
      exact W.zret (v := (0 : Int32)) hx hb hr (by decide) (fun t ht hW => by rw [← Option.some.inj hf]; exact ⟨⟨(0 : Int32), (), rfl, rfl, by rw [ht]; exact hP, va_K.moved hW.alike hK, hD⟩, hS.F ht⟩) hS.2.2 dX1_readDate_48
  refine lv_aload_n hx hb dX1_readDate_0 rfl (lv_at hl 0 rfl) ?_
  refine lv_aload_n hx hb dX1_readDate_1 rfl (lv_at hl 1 rfl) ?_
  refine lv_bipush (v := (21 : Int32)) hx hb dX1_readDate_2 (by decide) ?_
  obtain ⟨r4, hr4, hf⟩ := wb_b hf
  have hPc := hP
  have hDc := hD
  have hFc := wj_F hDc hS hA
  refine va_calli (va_runV (As := [.ref (a1 0), .int (21 : Int32)]) (rest := []) ⟨hx, hb, hml, hown, hts⟩ (cn_X1_isNew l D cB cI cZ N a0 I0 M0 a1 I1 M1 (21 : Int32) H.size r4 hr4) (cwV 2 hts gX1_readDate_X1_isNew rfl rfl rfl cdX1_isNew ⟨Nat.le_of_ble_eq_true rfl, Nat.le_of_ble_eq_true rfl⟩) (wb_preDV hPc hK hDc (va_recv hK hP (ci := 1) (q0 := 0) rfl rfl)) rfl rfl hl.1 rfl (lv_room (Nat.le_of_ble_eq_true rfl)) dX1_readDate_4 ⟨Nat.le_of_ble_eq_true rfl, Nat.le_of_ble_eq_true rfl⟩) hS (fun q _ h => hFc q h) hFc (fun r9 u t H locs ht hvm hw hB hz1 hk1 hS => ?_)
  obtain ⟨hP, hD⟩ := wj_0 hFc ht hB
  rw [hw]
  refine lv_if_eq (tgt := 20) hx hb dX1_readDate_7 (by decide) (fun hc => ?_) (fun hc => ?_)
  · replace hf := wb_t hc hf
    refine lv_iconst (v := (0 : Int32)) hx hb dX1_readDate_20 (by decide) ?_
    exact W.zret (v := (0 : Int32)) hx hb hr (by decide) (fun t ht hW => by rw [← Option.some.inj hf]; exact ⟨⟨(0 : Int32), (), rfl, rfl, by rw [ht]; exact hP, va_K.moved hW.alike hK, hD⟩, hS.F ht⟩) hS.2.2 dX1_readDate_21
  · replace hf := wb_f hc hf
    refine lv_aload_n hx hb dX1_readDate_10 rfl (lv_at hl 1 rfl) ?_
    refine lv_iconst (v := (0 : Int32)) hx hb dX1_readDate_11 (by decide) ?_
    refine lv_bipush (v := (12 : Int32)) hx hb dX1_readDate_12 (by decide) ?_
    obtain ⟨r5, hr5, hf⟩ := wb_b hf
    have hPc := hP.sub (ws' := (wWX9 cB cI cZ a1 r4.2.1 r4.2.2)) [3, 4] rfl
    have hDc := hD.sub (ws' := (wWX9 cB cI cZ a1 r4.2.1 r4.2.2)) [3, 4] (by decide) rfl
    have hFc := va_free (wc := (wWX9 cB cI cZ a1 r4.2.1 r4.2.2)) hD hS hA [3, 4] rfl
    refine va_calli (va_runV (As := [.int (0 : Int32), .int (12 : Int32)]) (rest := []) ⟨hx, hb, hml, hown, hts⟩ (cn_X9_takeNumber l D cB cI cZ N a1 r4.2.1 r4.2.2 (0 : Int32) (12 : Int32) H.size r5 hr5) (cwV 2 hts gX1_readDate_X9_takeNumber rfl rfl rfl cdX9_takeNumber ⟨Nat.le_of_ble_eq_true rfl, Nat.le_of_ble_eq_true rfl⟩) (wb_preDV hPc hK hDc (va_recv hK hP (ci := 9) (q0 := 3) rfl rfl)) rfl rfl hl.1 rfl (lv_room (Nat.le_of_ble_eq_true rfl)) dX1_readDate_14 ⟨Nat.le_of_ble_eq_true rfl, Nat.le_of_ble_eq_true rfl⟩) hS (fun q _ h => hFc q h) hFc (fun r9 u t H locs ht hvm hw hB hz1 hk1 hS => ?_)
    obtain ⟨hP, hD⟩ := wj_s (wc := (wWX9 cB cI cZ a1 r4.2.1 r4.2.2)) (w1 := (wWX9 cB cI cZ a1 r5.2.1 r5.2.2)) (wf := ((wWX1 cB cI cZ a0 I0 M0) ++ (wWX9 cB cI cZ a1 r5.2.1 r5.2.2))) 3 5 hP hD rfl rfl hk1 hFc ht hB
    rw [hw]
    refine lv_if_ne (tgt := 22) hx hb dX1_readDate_17 (by decide) (fun hc => ?_) (fun hc => ?_)
    · replace hf := wb_f hc hf
      refine lv_aload_n hx hb dX1_readDate_22 rfl (lv_at hl 1 rfl) ?_
      refine va_get (D := D) (ci := 9) (v := .int (r5.2.1 6)) (C := RX9) (T := TX9) (N := 10) hx hb hts hinX9 hown hK hP 3 rfl rfl 7 (by decide) (hts (.fieldLink RX1 53 "WheelBook$Text" "number" "I") (List.mem_of_getElem? (i := 1) rfl)) (fun _ h9 => h9) rfl dX1_readDate_23 ?_
      obtain ⟨v6, ev6, hf⟩ := wb_v hf
      refine wb_topi ev6 ?_
      refine lv_istore_n (lv' := [(2, .int v6), (0, .ref (a0 0)), (1, .ref (a1 0))]) hx hb dX1_readDate_26 rfl hl (by decide) rfl (fun ls hl => ?_)
      refine lv_aload_n hx hb dX1_readDate_27 rfl (lv_at hl 2 rfl) ?_
      refine lv_iconst (v := (0 : Int32)) hx hb dX1_readDate_28 (by decide) ?_
      refine lv_iload_n hx hb dX1_readDate_29 rfl (lv_at hl 0 rfl) ?_
      refine lv_bipush (v := (12 : Int32)) hx hb dX1_readDate_30 (by decide) ?_
      refine lv_icmp_ne (tgt := 39) hx hb dX1_readDate_32 (by decide) (fun hc => ?_) (fun hc => ?_)
      · replace hf := wb_f hc hf
        refine lv_bipush (v := (29 : Int32)) hx hb dX1_readDate_39 (by decide) ?_
        exact J41 I0 M0 r5.2.1 r5.2.2 v6 (29 : Int32) (0 : Int32) H locs hP hD hS ls (lv_sub hl [1, 2, 0] rfl) hf
      · replace hf := wb_t hc hf
        refine lv_iconst (v := (4 : Int32)) hx hb dX1_readDate_35 (by decide) ?_
        refine lv_goto (tgt := 41) hx hb dX1_readDate_36 (by decide) ?_
        exact J41 I0 M0 r5.2.1 r5.2.2 v6 (4 : Int32) (0 : Int32) H locs hP hD hS ls (lv_sub hl [1, 2, 0] rfl) hf
    · replace hf := wb_t hc hf
      refine lv_iconst (v := (0 : Int32)) hx hb dX1_readDate_20 (by decide) ?_
      exact W.zret (v := (0 : Int32)) hx hb hr (by decide) (fun t ht hW => by rw [← Option.some.inj hf]; exact ⟨⟨(0 : Int32), (), rfl, rfl, by rw [ht]; exact hP, va_K.moved hW.alike hK, hD⟩, hS.F ht⟩) hS.2.2 dX1_readDate_21

