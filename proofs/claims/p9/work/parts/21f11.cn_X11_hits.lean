set_option maxHeartbeats 4000000 in
set_option maxRecDepth 100000 in
theorem cn_X11_hits (l : Launch) (D : va_G) (cB cI cZ : ClassId) (N : Nat) (a0 : Nat → Nat) (I0 : Nat → Int32) (M0 : Nat → Nat → Int32) (x1 : Int32) (x2 : Int32) (sz : Nat) (R : Int32 × (Nat → Int32) × (Nat → Nat → Int32)) (hf : fX11_hits N I0 M0 x1 x2 = some (.inr R)) : Met l yX11_hits wyX11_hits ({ frames := 7, cells := 0, slots := 0, locals := 140 }) (va_Pc [.ref (a0 0), .int x1, .int x2] (wb_preD D [(cB, .byte), (cI, .int), (cZ, .boolean)] (wWX11 cB cI cZ a0 I0 M0) sz)) (va_Qi (fun r (_ : Unit) => r = R.1) (fun _ t => wb_post D [(cB, .byte), (cI, .int), (cZ, .boolean)] (va_A (wWX11 cB cI cZ a0 I0 M0) sz) (wWX11 cB cI cZ a0 R.2.1 R.2.2) t) (va_A (wWX11 cB cI cZ a0 I0 M0) sz)) 0 0 (va_A (wWX11 cB cI cZ a0 I0 M0) sz) := by
  refine Met.ofW (cc := cX11_hits) (maxL := 3) (ret := (some .int)) (by decide) rfl ?_
  intro p e s m args below meth c s₁ B hml hv
  obtain ⟨rfl, hsz, hP, hK, hD0⟩ := hv
  have hx := B.exec
  have hb := B.bytes
  have hr := B.returns
  have hts := atoms_spec (ws := wyX11_hits) B.pre
  have hown : s.vm.findClass RX11 = some m.cls := findClass_of_methodNamed B.named
  have hlocks := B.notSynchronized
  have hinX11 : ∀ w ∈ u_ws RX11 TX11 13, w ∈ wyX11_hits := fun w h => List.mem_cons_of_mem _ (List.mem_append_left _ (List.mem_append_left _ (List.mem_append_right _ h)))
  subst hsz
  have hD := hD0.self (sz := s.heap.size)
  generalize hAe : va_A (wWX11 cB cI cZ a0 I0 M0) s.heap.size = A at hD ⊢
  have hA : ∀ q : Nat, s.heap.size ≤ q → A q := fun q h => by rw [← hAe]; exact Or.inr h
  have hS : va_S A s.heap s.heap [] := va_S.rf
  have hl := lv_entry ([.ref (a0 0), .int x1, .int x2]) (n := 3) (Nat.le_of_ble_eq_true rfl)
  rw [lg_entry_eq]
  generalize (lg_sl ([.ref (a0 0), .int x1, .int x2]) ++ List.replicate (3 - (lg_sl ([.ref (a0 0), .int x1, .int x2])).length) Slot.unset).toArray = ls at hl ⊢
  have hl : lv_has ls 3 [(0, .ref (a0 0)), (1, .int x1), (2, .int x2)] := hl
  unfold fX11_hits at hf
  obtain ⟨H, hHe⟩ : ∃ H : Heap, H = s.heap := ⟨_, rfl⟩
  obtain ⟨locs, hle⟩ : ∃ locs : List Loc, locs = [] := ⟨_, rfl⟩
  refine wb_start (H := H) (locs := locs) hHe hle ?_
  rw [← hHe] at hP
  have hS : va_S A s.heap H locs := by rw [hHe, hle]; exact va_S.rf
  have J24 : ∀ (I0_j24 : Nat → Int32) (M0_j24 : Nat → Nat → Int32) (z24_0 : Int32) (H : Heap) (locs : List Loc), va_P D vwCl (wWX11 cB cI cZ a0 I0_j24 M0_j24) H → va_D A (wWX11 cB cI cZ a0 I0_j24 M0_j24) → va_S A s.heap H locs → ∀ (ls : Array Slot), lv_has ls 3 [(0, .ref (a0 0)), (1, .int x1), (2, .int x2)] → fX11_hits_J24 N x1 x2 I0_j24 M0_j24 z24_0 = some (.inr R) → W p l e (headSpec wyX11_hits { frames := 7, cells := 0, slots := 0, locals := 140 }).room s m [.ref (a0 0), .int x1, .int x2].toArray below meth c H locs 0 0 (MQ below (va_Qi (fun r (_ : Unit) => r = R.1) (fun _ t => wb_post D [(cB, .byte), (cI, .int), (cZ, .boolean)] A (wWX11 cB cI cZ a0 R.2.1 R.2.2) t) A) [.ref (a0 0), .int x1, .int x2].toArray s 0 0 A) (F0 m 24 ls [.int z24_0]) := by
    intro I0_j24 M0_j24 z24_0 H locs hP hD hS ls hl hf
    unfold fX11_hits_J24 at hf
    obtain ⟨r1, hr1, hf⟩ := wb_xr hf
    refine va_csv (W.runS (As := [.int z24_0]) (rest := []) ⟨hx, hb, hml, hown, hts⟩ (cn_X11_need l D cB cI cZ N z24_0 r1 hr1) (va_cwS 1 hts gyX11_hits_X11_need rfl rfl rfl csX11_need ⟨Nat.le_of_ble_eq_true rfl, Nat.le_of_ble_eq_true rfl⟩) (wb_preS (hP.sub (ws' := ([] : va_W)) [] rfl) hK) rfl rfl hl.1 rfl (lv_room (Nat.le_of_ble_eq_true rfl)) dX11_hits_24 ⟨Nat.le_of_ble_eq_true rfl, Nat.le_of_ble_eq_true rfl⟩) (fun _ => ?_)
    replace hf := wb_okr hf
    refine lv_iload_n hx hb dX11_hits_27 rfl (lv_at hl 1 rfl) ?_
    refine lv_if_ne (tgt := 42) hx hb dX11_hits_28 (by decide) (fun hc => ?_) (fun hc => ?_)
    · replace hf := wb_f hc hf
      refine lv_aload_n hx hb dX11_hits_42 rfl (lv_at hl 0 rfl) ?_
      refine va_get (D := D) (ci := 11) (v := .ref (a0 45)) (C := RX11) (T := TX11) (N := 13) hx hb hts hinX11 hown hK hP 0 rfl rfl 12 (by decide) (hts (.fieldLink RX11 80 "WheelBook" "outcomes" "LWheelBook$Outcomes;") (List.mem_of_getElem? (i := 1) rfl)) (fun _ h9 => h9) rfl dX11_hits_43 ?_
      refine lv_iload_n hx hb dX11_hits_46 rfl (lv_at hl 2 rfl) ?_
      obtain ⟨r2, hr2, hf⟩ := wb_b hf
      have hPc := hP.sub (ws' := (wWX7 cB cI cZ (wb_sh a0 45) (wb_sh I0_j24 43) (wb_sh M0_j24 28))) [45, 46, 47, 48, 49, 50, 51] rfl
      have hDc := hD.sub (ws' := (wWX7 cB cI cZ (wb_sh a0 45) (wb_sh I0_j24 43) (wb_sh M0_j24 28))) [45, 46, 47, 48, 49, 50, 51] (by decide) rfl
      have hFc := va_free (wc := (wWX7 cB cI cZ (wb_sh a0 45) (wb_sh I0_j24 43) (wb_sh M0_j24 28))) hD hS hA [45, 46, 47, 48, 49, 50, 51] rfl
      refine va_calli (va_runV (As := [.int x2]) (rest := []) ⟨hx, hb, hml, hown, hts⟩ (cn_X7_chanceOfLives l D cB cI cZ N (wb_sh a0 45) (wb_sh I0_j24 43) (wb_sh M0_j24 28) x2 H.size r2 hr2) (cwV 1 hts gyX11_hits_X7_chanceOfLives rfl rfl rfl cdX7_chanceOfLives ⟨Nat.le_of_ble_eq_true rfl, Nat.le_of_ble_eq_true rfl⟩) (wb_preDV hPc hK hDc (va_recv hK hP (ci := 7) (q0 := 45) rfl rfl)) rfl rfl hl.1 rfl (lv_room (Nat.le_of_ble_eq_true rfl)) dX11_hits_47 ⟨Nat.le_of_ble_eq_true rfl, Nat.le_of_ble_eq_true rfl⟩) hS (fun q _ h => hFc q h) hFc (fun r9 u t H locs ht hvm hw hB hz1 hk1 hS => ?_)
      obtain ⟨hP, hD⟩ := wj_s (wc := (wWX7 cB cI cZ (wb_sh a0 45) (wb_sh I0_j24 43) (wb_sh M0_j24 28))) (w1 := (wWX7 cB cI cZ (wb_sh a0 45) r2.2.1 r2.2.2)) (wf := (wWX11 cB cI cZ a0 (wb_in I0_j24 43 0 r2.2.1) (wb_in M0_j24 28 6 r2.2.2))) 45 52 hP hD rfl rfl hk1 hFc ht hB
      rw [hw]
      obtain ⟨I0_3, eI0_3, hf⟩ := wb_v hf
      rw [← eI0_3] at hP hD
      obtain ⟨M0_4, eM0_4, hf⟩ := wb_v hf
      rw [← eM0_4] at hP hD
      exact W.iret (v := r2.1) hx hb hr (fun t ht hW => by rw [← Option.some.inj hf]; exact ⟨⟨r2.1, (), rfl, rfl, by rw [ht]; exact hP, va_K.moved hW.alike hK, hD⟩, hS.F ht⟩) hS.2.2 dX11_hits_50
    · replace hf := wb_t hc hf
      refine lv_aload_n hx hb dX11_hits_31 rfl (lv_at hl 0 rfl) ?_
      refine va_get (D := D) (ci := 11) (v := .ref (a0 45)) (C := RX11) (T := TX11) (N := 13) hx hb hts hinX11 hown hK hP 0 rfl rfl 12 (by decide) (hts (.fieldLink RX11 80 "WheelBook" "outcomes" "LWheelBook$Outcomes;") (List.mem_of_getElem? (i := 1) rfl)) (fun _ h9 => h9) rfl dX11_hits_32 ?_
      refine lv_iload_n hx hb dX11_hits_35 rfl (lv_at hl 2 rfl) ?_
      obtain ⟨r5, hr5, hf⟩ := wb_b hf
      have hPc := hP.sub (ws' := (wWX7 cB cI cZ (wb_sh a0 45) (wb_sh I0_j24 43) (wb_sh M0_j24 28))) [45, 46, 47, 48, 49, 50, 51] rfl
      have hDc := hD.sub (ws' := (wWX7 cB cI cZ (wb_sh a0 45) (wb_sh I0_j24 43) (wb_sh M0_j24 28))) [45, 46, 47, 48, 49, 50, 51] (by decide) rfl
      have hFc := va_free (wc := (wWX7 cB cI cZ (wb_sh a0 45) (wb_sh I0_j24 43) (wb_sh M0_j24 28))) hD hS hA [45, 46, 47, 48, 49, 50, 51] rfl
      refine va_calli (va_runV (As := [.int x2]) (rest := []) ⟨hx, hb, hml, hown, hts⟩ (cn_X7_howManyHits l D cB cI cZ N (wb_sh a0 45) (wb_sh I0_j24 43) (wb_sh M0_j24 28) x2 H.size r5 hr5) (cwV 1 hts gyX11_hits_X7_howManyHits rfl rfl rfl cdX7_howManyHits ⟨Nat.le_of_ble_eq_true rfl, Nat.le_of_ble_eq_true rfl⟩) (wb_preDV hPc hK hDc (va_recv hK hP (ci := 7) (q0 := 45) rfl rfl)) rfl rfl hl.1 rfl (lv_room (Nat.le_of_ble_eq_true rfl)) dX11_hits_36 ⟨Nat.le_of_ble_eq_true rfl, Nat.le_of_ble_eq_true rfl⟩) hS (fun q _ h => hFc q h) hFc (fun r9 u t H locs ht hvm hw hB hz1 hk1 hS => ?_)
      obtain ⟨hP, hD⟩ := wj_s (wc := (wWX7 cB cI cZ (wb_sh a0 45) (wb_sh I0_j24 43) (wb_sh M0_j24 28))) (w1 := (wWX7 cB cI cZ (wb_sh a0 45) r5.2.1 r5.2.2)) (wf := (wWX11 cB cI cZ a0 (wb_in I0_j24 43 0 r5.2.1) (wb_in M0_j24 28 6 r5.2.2))) 45 52 hP hD rfl rfl hk1 hFc ht hB
      rw [hw]
      obtain ⟨I0_6, eI0_6, hf⟩ := wb_v hf
      rw [← eI0_6] at hP hD
      obtain ⟨M0_7, eM0_7, hf⟩ := wb_v hf
      rw [← eM0_7] at hP hD
      refine lv_goto (tgt := 50) hx hb dX11_hits_39 (by decide) ?_
      exact W.iret (v := r5.1) hx hb hr (fun t ht hW => by rw [← Option.some.inj hf]; exact ⟨⟨r5.1, (), rfl, rfl, by rw [ht]; exact hP, va_K.moved hW.alike hK, hD⟩, hS.F ht⟩) hS.2.2 dX11_hits_50
  have J23 : ∀ (I0_j23 : Nat → Int32) (M0_j23 : Nat → Nat → Int32) (H : Heap) (locs : List Loc), va_P D vwCl (wWX11 cB cI cZ a0 I0_j23 M0_j23) H → va_D A (wWX11 cB cI cZ a0 I0_j23 M0_j23) → va_S A s.heap H locs → ∀ (ls : Array Slot), lv_has ls 3 [(0, .ref (a0 0)), (1, .int x1), (2, .int x2)] → fX11_hits_J23 N x1 x2 I0_j23 M0_j23 = some (.inr R) → W p l e (headSpec wyX11_hits { frames := 7, cells := 0, slots := 0, locals := 140 }).room s m [.ref (a0 0), .int x1, .int x2].toArray below meth c H locs 0 0 (MQ below (va_Qi (fun r (_ : Unit) => r = R.1) (fun _ t => wb_post D [(cB, .byte), (cI, .int), (cZ, .boolean)] A (wWX11 cB cI cZ a0 R.2.1 R.2.2) t) A) [.ref (a0 0), .int x1, .int x2].toArray s 0 0 A) (F0 m 23 ls []) := by
    intro I0_j23 M0_j23 H locs hP hD hS ls hl hf
    unfold fX11_hits_J23 at hf
    refine lv_iconst (v := (0 : Int32)) hx hb dX11_hits_23 (by decide) ?_
    exact J24 I0_j23 M0_j23 (0 : Int32) H locs hP hD hS ls (lv_sub hl [0, 1, 2] rfl) hf
  refine lv_iload_n hx hb dX11_hits_0 rfl (lv_at hl 1 rfl) ?_
  refine lv_iconst (v := (0 : Int32)) hx hb dX11_hits_1 (by decide) ?_
  refine lv_iconst (v := (1 : Int32)) hx hb dX11_hits_2 (by decide) ?_
  obtain ⟨r8, hr8, hf⟩ := wb_b hf
  refine vp_callSi (W.runS (As := [.int x1, .int (0 : Int32), .int (1 : Int32)]) (rest := []) ⟨hx, hb, hml, hown, hts⟩ (cn_X11_within l D cB cI cZ N x1 (0 : Int32) (1 : Int32) r8 hr8) (va_cwS 3 hts gyX11_hits_X11_within rfl rfl rfl csX11_within ⟨Nat.le_of_ble_eq_true rfl, Nat.le_of_ble_eq_true rfl⟩) (wb_preS (hP.sub (ws' := ([] : va_W)) [] rfl) hK) rfl rfl hl.1 rfl (lv_room (Nat.le_of_ble_eq_true rfl)) dX11_hits_3 ⟨Nat.le_of_ble_eq_true rfl, Nat.le_of_ble_eq_true rfl⟩) (fun r9 e9 => ?_)
  rw [e9]
  refine lv_if_eq (tgt := 23) hx hb dX11_hits_6 (by decide) (fun hc => ?_) (fun hc => ?_)
  · replace hf := wb_t hc hf
    exact J23 I0 M0 H locs hP hD hS ls (lv_sub hl [0, 1, 2] rfl) hf
  · replace hf := wb_f hc hf
    refine lv_iload_n hx hb dX11_hits_9 rfl (lv_at hl 2 rfl) ?_
    refine lv_iconst (v := (0 : Int32)) hx hb dX11_hits_10 (by decide) ?_
    refine lv_bipush (v := (120 : Int32)) hx hb dX11_hits_11 (by decide) ?_
    obtain ⟨r9b, hr9b, hf⟩ := wb_b hf
    refine vp_callSi (W.runS (As := [.int x2, .int (0 : Int32), .int (120 : Int32)]) (rest := []) ⟨hx, hb, hml, hown, hts⟩ (cn_X11_within l D cB cI cZ N x2 (0 : Int32) (120 : Int32) r9b hr9b) (va_cwS 3 hts gyX11_hits_X11_within rfl rfl rfl csX11_within ⟨Nat.le_of_ble_eq_true rfl, Nat.le_of_ble_eq_true rfl⟩) (wb_preS (hP.sub (ws' := ([] : va_W)) [] rfl) hK) rfl rfl hl.1 rfl (lv_room (Nat.le_of_ble_eq_true rfl)) dX11_hits_13 ⟨Nat.le_of_ble_eq_true rfl, Nat.le_of_ble_eq_true rfl⟩) (fun r9 e9 => ?_)
    rw [e9]
    refine lv_if_eq (tgt := 23) hx hb dX11_hits_16 (by decide) (fun hc => ?_) (fun hc => ?_)
    · replace hf := wb_t hc hf
      exact J23 I0 M0 H locs hP hD hS ls (lv_sub hl [0, 1, 2] rfl) hf
    · replace hf := wb_f hc hf
      refine lv_iconst (v := (1 : Int32)) hx hb dX11_hits_19 (by decide) ?_
      refine lv_goto (tgt := 24) hx hb dX11_hits_20 (by decide) ?_
      exact J24 I0 M0 (1 : Int32) H locs hP hD hS ls (lv_sub hl [0, 1, 2] rfl) hf
