set_option maxHeartbeats 4000000 in
set_option maxRecDepth 100000 in
theorem cn_X1_readEntries (l : Launch) (D : va_G) (cB cI cZ : ClassId) (N : Nat) (aK aV : Nat → Nat) (a0 : Nat → Nat) (I0 : Nat → Int32) (M0 : Nat → Nat → Int32) (a1 : Nat → Nat) (I1 : Nat → Int32) (M1 : Nat → Nat → Int32) (sz : Nat) (R : Int32 × (Nat → Int32) × (Nat → Nat → Int32) × (Nat → Int32) × (Nat → Nat → Int32)) (hf : fX1_readEntries N I0 M0 I1 M1 = some R) : Met l yX1_readEntries wsX1_readEntries ({ frames := 7, cells := 0, slots := 0, locals := 187 }) (va_Pc [.ref (a0 0), .ref (a1 0)] (wb_preDE D [(cB, .byte), (cI, .int), (cZ, .boolean)] ((wWX1 cB cI cZ a0 I0 M0) ++ (wWX9 cB cI cZ a1 I1 M1)) sz aK aV)) (va_Qi (fun r (_ : Unit) => r = R.1) (fun _ t => wb_post D [(cB, .byte), (cI, .int), (cZ, .boolean)] (va_A ((wWX1 cB cI cZ a0 I0 M0) ++ (wWX9 cB cI cZ a1 I1 M1)) sz) ((wWX1 cB cI cZ a0 R.2.1 R.2.2.1) ++ (wWX9 cB cI cZ a1 R.2.2.2.1 R.2.2.2.2)) t) (va_A ((wWX1 cB cI cZ a0 I0 M0) ++ (wWX9 cB cI cZ a1 I1 M1)) sz)) 0 0 (va_A ((wWX1 cB cI cZ a0 I0 M0) ++ (wWX9 cB cI cZ a1 I1 M1)) sz) := by
  refine Met.ofW (cc := cX1_readEntries) (maxL := 3) (ret := (some .boolean)) (by decide) rfl ?_
  intro p e s m args below meth c s₁ B hml hv
  obtain ⟨rfl, ⟨hsz, hP, hK, hD0⟩, hZ⟩ := hv
  have hx := B.exec
  have hb := B.bytes
  have hr := B.returns
  have hts := atoms_spec (ws := wsX1_readEntries) B.pre
  have hown : s.vm.findClass RX1 = some m.cls := findClass_of_methodNamed B.named
  have hlocks := B.notSynchronized
  have hinX1 : ∀ w ∈ u_ws RX1 TX1 2, w ∈ wsX1_readEntries := fun w h => List.mem_cons_of_mem _ (List.mem_append_left _ (List.mem_append_right _ h))
  subst hsz
  have hD := hD0.self (sz := s.heap.size)
  generalize hAe : va_A ((wWX1 cB cI cZ a0 I0 M0) ++ (wWX9 cB cI cZ a1 I1 M1)) s.heap.size = A at hD hZ ⊢
  have hA : ∀ q : Nat, s.heap.size ≤ q → A q := fun q h => by rw [← hAe]; exact Or.inr h
  have hS : va_S A s.heap s.heap [] := va_S.rf
  have hl := lv_entry ([.ref (a0 0), .ref (a1 0)]) (n := 3) (Nat.le_of_ble_eq_true rfl)
  rw [lg_entry_eq]
  generalize (lg_sl ([.ref (a0 0), .ref (a1 0)]) ++ List.replicate (3 - (lg_sl ([.ref (a0 0), .ref (a1 0)])).length) Slot.unset).toArray = ls at hl ⊢
  have hl : lv_has ls 3 [(0, .ref (a0 0)), (1, .ref (a1 0))] := hl
  unfold fX1_readEntries at hf
  obtain ⟨H, hHe⟩ : ∃ H : Heap, H = s.heap := ⟨_, rfl⟩
  obtain ⟨locs, hle⟩ : ∃ locs : List Loc, locs = [] := ⟨_, rfl⟩
  refine wb_start (H := H) (locs := locs) hHe hle ?_
  rw [← hHe] at hP
  have hS : va_S A s.heap H locs := by rw [hHe, hle]; exact va_S.rf
  refine lv_aload_n hx hb dX1_readEntries_0 rfl (lv_at hl 0 rfl) ?_
  refine va_get (D := D) (ci := 1) (v := .ref (a0 2)) (C := RX1) (T := TX1) (N := 2) hx hb hts hinX1 hown hK hP 0 rfl rfl 1 (by decide) (hts (.fieldLink RX1 15 "WheelBook$Books" "draft" "[I") (List.mem_of_getElem? (i := 1) rfl)) (fun _ h9 => h9) rfl dX1_readEntries_1 ?_
  refine lv_iconst (v := (-1 : Int32)) hx hb dX1_readEntries_4 (by decide) ?_
  obtain ⟨r1, hr1, hf⟩ := wb_b hf
  have hPc := hP.sub (ws' := ([((a0 2), .inl (cI, 22, .inl (M0 1)))] : va_W)) [2] rfl
  have hDc := hD.sub (ws' := ([((a0 2), .inl (cI, 22, .inl (M0 1)))] : va_W)) [2] (by decide) rfl
  have hFc := va_free (wc := ([((a0 2), .inl (cI, 22, .inl (M0 1)))] : va_W)) hD hS hA [2] rfl
  refine va_callv (va_runS (As := [.ref (a0 2), .int (-1 : Int32)]) (rest := []) ⟨hx, hb, hml, hown, hts⟩ (cn_J7_fill_53178 l D cB cI cZ N (a0 2) 22 (M0 1) (-1 : Int32) H.size r1 hr1) (va_cwS 2 hts gX1_readEntries_J7_fill_53178 rfl rfl rfl csJ7_fill_53178 ⟨Nat.le_of_ble_eq_true rfl, Nat.le_of_ble_eq_true rfl⟩) (wb_preDS hPc hK hDc) rfl rfl hl.1 rfl (lv_room (Nat.le_of_ble_eq_true rfl)) dX1_readEntries_5 ⟨Nat.le_of_ble_eq_true rfl, Nat.le_of_ble_eq_true rfl⟩) hS (fun q _ h => hFc q h) hFc (fun u t H locs ht hvm hw hB hz1 hk1 hS => ?_)
  obtain ⟨hP, hD⟩ := wj_s (wc := ([((a0 2), .inl (cI, 22, .inl (M0 1)))] : va_W)) (w1 := ([((a0 2), .inl (cI, 22, .inl r1))] : va_W)) (wf := ((wWX1 cB cI cZ a0 I0 (wb_mm M0 1 r1)) ++ (wWX9 cB cI cZ a1 I1 M1))) 2 3 hP hD rfl rfl hk1 hFc ht hB
  obtain ⟨M0_2, eM0_2, hf⟩ := wb_v hf
  rw [← eM0_2] at hP hD
  refine lv_iconst (v := (0 : Int32)) hx hb dX1_readEntries_8 (by decide) ?_
  refine lv_istore_n (lv' := [(2, .int (0 : Int32)), (0, .ref (a0 0)), (1, .ref (a1 0))]) hx hb dX1_readEntries_9 rfl hl (by decide) rfl (fun ls hl => ?_)
  have L10 : ∀ (fu10 : Nat) (I0_l10 : Nat → Int32) (M0_l10 : Nat → Nat → Int32) (I1_l10 : Nat → Int32) (M1_l10 : Nat → Nat → Int32) (y10_2 : Int32) (H : Heap) (locs : List Loc), va_P D vwCl ((wWX1 cB cI cZ a0 I0_l10 M0_l10) ++ (wWX9 cB cI cZ a1 I1_l10 M1_l10)) H → va_D A ((wWX1 cB cI cZ a0 I0_l10 M0_l10) ++ (wWX9 cB cI cZ a1 I1_l10 M1_l10)) → va_S A s.heap H locs → ∀ (ls : Array Slot), lv_has ls 3 [(0, .ref (a0 0)), (1, .ref (a1 0)), (2, .int y10_2)] → fX1_readEntries_L10 N fu10 I0_l10 M0_l10 I1_l10 M1_l10 y10_2 = some R → W p l e (headSpec wsX1_readEntries { frames := 7, cells := 0, slots := 0, locals := 187 }).room s m [.ref (a0 0), .ref (a1 0)].toArray below meth c H locs 0 0 (MQ below (va_Qi (fun r (_ : Unit) => r = R.1) (fun _ t => wb_post D [(cB, .byte), (cI, .int), (cZ, .boolean)] A ((wWX1 cB cI cZ a0 R.2.1 R.2.2.1) ++ (wWX9 cB cI cZ a1 R.2.2.2.1 R.2.2.2.2)) t) A) [.ref (a0 0), .ref (a1 0)].toArray s 0 0 A) (F0 m 10 ls []) := by
    intro fu10
    induction fu10 with
    | zero =>
      intro I0_l10 M0_l10 I1_l10 M1_l10 y10_2 H locs hP hD hS ls hl hf
      exact absurd hf (by rw [fX1_readEntries_L10.eq_1]; exact fun h => nomatch h)
    | succ fu10 ih10 =>
      intro I0_l10 M0_l10 I1_l10 M1_l10 y10_2 H locs hP hD hS ls hl hf
      rw [fX1_readEntries_L10.eq_2] at hf
      refine lv_iload_n hx hb dX1_readEntries_10 rfl (lv_at hl 2 rfl) ?_
      refine lv_sipush (v := (600 : Int32)) hx hb dX1_readEntries_11 (by decide) ?_
      refine lv_icmp_ge (tgt := 40) hx hb dX1_readEntries_14 (by decide) (fun hc => ?_) (fun hc => ?_)
      · replace hf := wb_t hc hf
        refine lv_iconst (v := (1 : Int32)) hx hb dX1_readEntries_40 (by decide) ?_
        exact W.zret (v := (1 : Int32)) hx hb hr (by decide) (fun t ht hW => by rw [← Option.some.inj hf]; exact ⟨⟨(1 : Int32), (), rfl, rfl, by rw [ht]; exact hP, va_K.moved hW.alike hK, hD⟩, hS.F ht⟩) hS.2.2 dX1_readEntries_41
      · replace hf := wb_f hc hf
        refine lv_aload_n hx hb dX1_readEntries_17 rfl (lv_at hl 1 rfl) ?_
        obtain ⟨r3, hr3, hf⟩ := wb_b hf
        refine vp_callSi (W.runV (As := []) (rest := []) ⟨hx, hb, hml, hown, hts⟩ (cn_X9_isAtEnd l D cB cI cZ N a1 I1_l10 M1_l10 r3 hr3) (cwV 0 hts gX1_readEntries_X9_isAtEnd rfl rfl rfl cdX9_isAtEnd ⟨Nat.le_of_ble_eq_true rfl, Nat.le_of_ble_eq_true rfl⟩) (wb_preV (hP.sub (ws' := (wWX9 cB cI cZ a1 I1_l10 M1_l10)) [3, 4] rfl) hK (va_recv hK hP (ci := 9) (q0 := 3) rfl rfl)) rfl rfl hl.1 rfl (lv_room (Nat.le_of_ble_eq_true rfl)) dX1_readEntries_18 ⟨Nat.le_of_ble_eq_true rfl, Nat.le_of_ble_eq_true rfl⟩) (fun r9 e9 => ?_)
        rw [e9]
        refine lv_if_ne (tgt := 40) hx hb dX1_readEntries_21 (by decide) (fun hc => ?_) (fun hc => ?_)
        · replace hf := wb_f hc hf
          refine lv_iconst (v := (1 : Int32)) hx hb dX1_readEntries_40 (by decide) ?_
          exact W.zret (v := (1 : Int32)) hx hb hr (by decide) (fun t ht hW => by rw [← Option.some.inj hf]; exact ⟨⟨(1 : Int32), (), rfl, rfl, by rw [ht]; exact hP, va_K.moved hW.alike hK, hD⟩, hS.F ht⟩) hS.2.2 dX1_readEntries_41
        · replace hf := wb_t hc hf
          refine lv_aload_n hx hb dX1_readEntries_24 rfl (lv_at hl 0 rfl) ?_
          refine lv_aload_n hx hb dX1_readEntries_25 rfl (lv_at hl 1 rfl) ?_
          obtain ⟨r4, hr4, hf⟩ := wb_b hf
          have hPc := hP
          have hDc := hD
          have hFc := wj_F hDc hS hA
          refine va_calli (va_runV (As := [.ref (a1 0)]) (rest := []) ⟨hx, hb, hml, hown, hts⟩ (cn_X1_readEntry l D cB cI cZ N aK aV a0 I0_l10 M0_l10 a1 I1_l10 M1_l10 H.size r4 hr4) (cwV 1 hts gX1_readEntries_X1_readEntry rfl rfl rfl cdX1_readEntry ⟨Nat.le_of_ble_eq_true rfl, Nat.le_of_ble_eq_true rfl⟩) (wb_preDEV hPc hK hDc (va_recv hK hP (ci := 1) (q0 := 0) rfl rfl) hZ hS hFc) rfl rfl hl.1 rfl (lv_room (Nat.le_of_ble_eq_true rfl)) dX1_readEntries_26 ⟨Nat.le_of_ble_eq_true rfl, Nat.le_of_ble_eq_true rfl⟩) hS (fun q _ h => hFc q h) hFc (fun r9 u t H locs ht hvm hw hB hz1 hk1 hS => ?_)
          obtain ⟨hP, hD⟩ := wj_0 hFc ht hB
          rw [hw]
          refine lv_if_ne (tgt := 34) hx hb dX1_readEntries_29 (by decide) (fun hc => ?_) (fun hc => ?_)
          · replace hf := wb_f hc hf
            obtain ⟨v5, ev5, hf⟩ := wb_v hf
            refine lv_iinc (v := v5) (lv' := [(2, .int v5), (0, .ref (a0 0)), (1, .ref (a1 0))]) hx hb dX1_readEntries_34 hl (k := 2) rfl (by rw [ev5]; rfl) (by decide) rfl (fun ls hl => ?_)
            refine lv_goto (tgt := 10) hx hb dX1_readEntries_37 (by decide) ?_
            exact ih10 r4.2.1 r4.2.2.1 r4.2.2.2.1 r4.2.2.2.2 v5 H locs hP hD hS ls (lv_sub hl [1, 2, 0] rfl) hf
          · replace hf := wb_t hc hf
            refine lv_iconst (v := (0 : Int32)) hx hb dX1_readEntries_32 (by decide) ?_
            exact W.zret (v := (0 : Int32)) hx hb hr (by decide) (fun t ht hW => by rw [← Option.some.inj hf]; exact ⟨⟨(0 : Int32), (), rfl, rfl, by rw [ht]; exact hP, va_K.moved hW.alike hK, hD⟩, hS.F ht⟩) hS.2.2 dX1_readEntries_33
  exact L10 N I0 M0_2 I1 M1 (0 : Int32) H locs hP hD hS ls (lv_sub hl [1, 2, 0] rfl) hf

