set_option maxHeartbeats 4000000 in
set_option maxRecDepth 100000 in
theorem cn_X9_holdsNumber (l : Launch) (D : va_G) (cB cI cZ : ClassId) (N : Nat) (a0 : Nat → Nat) (I0 : Nat → Int32) (M0 : Nat → Nat → Int32) (x1 : Int32) (x2 : Int32) (sz : Nat) (R : Int32 × (Nat → Int32) × (Nat → Nat → Int32)) (hf : fX9_holdsNumber N I0 M0 x1 x2 = some R) : Met l yX9_holdsNumber wsX9_holdsNumber ({ frames := 1, cells := 0, slots := 0, locals := 21 }) (va_Pc [.ref (a0 0), .int x1, .int x2] (wb_preD D [(cB, .byte), (cI, .int), (cZ, .boolean)] (wWX9 cB cI cZ a0 I0 M0) sz)) (va_Qi (fun r (_ : Unit) => r = R.1) (fun _ t => wb_post D [(cB, .byte), (cI, .int), (cZ, .boolean)] (va_A (wWX9 cB cI cZ a0 I0 M0) sz) (wWX9 cB cI cZ a0 R.2.1 R.2.2) t) (va_A (wWX9 cB cI cZ a0 I0 M0) sz)) 0 0 (va_A (wWX9 cB cI cZ a0 I0 M0) sz) := by
  refine Met.ofW (cc := cX9_holdsNumber) (maxL := 3) (ret := (some .boolean)) (by decide) rfl ?_
  intro p e s m args below meth c s₁ B hml hv
  obtain ⟨rfl, hsz, hP, hK, hD0⟩ := hv
  have hx := B.exec
  have hb := B.bytes
  have hr := B.returns
  have hts := atoms_spec (ws := wsX9_holdsNumber) B.pre
  have hown : s.vm.findClass RX9 = some m.cls := findClass_of_methodNamed B.named
  have hlocks := B.notSynchronized
  have hinX9 : ∀ w ∈ u_ws RX9 TX9 10, w ∈ wsX9_holdsNumber := fun w h => List.mem_cons_of_mem _ (List.mem_append_right _ h)
  subst hsz
  have hD := hD0.self (sz := s.heap.size)
  generalize hAe : va_A (wWX9 cB cI cZ a0 I0 M0) s.heap.size = A at hD ⊢
  have hA : ∀ q : Nat, s.heap.size ≤ q → A q := fun q h => by rw [← hAe]; exact Or.inr h
  have hS : va_S A s.heap s.heap [] := va_S.rf
  have hl := lv_entry ([.ref (a0 0), .int x1, .int x2]) (n := 3) (Nat.le_of_ble_eq_true rfl)
  rw [lg_entry_eq]
  generalize (lg_sl ([.ref (a0 0), .int x1, .int x2]) ++ List.replicate (3 - (lg_sl ([.ref (a0 0), .int x1, .int x2])).length) Slot.unset).toArray = ls at hl ⊢
  have hl : lv_has ls 3 [(0, .ref (a0 0)), (1, .int x1), (2, .int x2)] := hl
  unfold fX9_holdsNumber at hf
  obtain ⟨H, hHe⟩ : ∃ H : Heap, H = s.heap := ⟨_, rfl⟩
  obtain ⟨locs, hle⟩ : ∃ locs : List Loc, locs = [] := ⟨_, rfl⟩
  refine wb_start (H := H) (locs := locs) hHe hle ?_
  rw [← hHe] at hP
  have hS : va_S A s.heap H locs := by rw [hHe, hle]; exact va_S.rf
  refine lv_aload_n hx hb dX9_holdsNumber_0 rfl (lv_at hl 0 rfl) ?_
  refine va_get (D := D) (ci := 9) (v := .int (I0 4)) (C := RX9) (T := TX9) (N := 10) hx hb hts hinX9 hown hK hP 0 rfl rfl 5 (by decide) (hts (.fieldLink RX9 40 "WheelBook$Text" "kind" "I") (List.mem_of_getElem? (i := 1) rfl)) (fun _ h9 => h9) rfl dX9_holdsNumber_1 ?_
  refine lv_iconst (v := (2 : Int32)) hx hb dX9_holdsNumber_4 (by decide) ?_
  refine lv_icmp_eq (tgt := 14) hx hb dX9_holdsNumber_5 (by decide) (fun hc => ?_) (fun hc => ?_)
  · replace hf := wb_t hc hf
    refine lv_aload_n hx hb dX9_holdsNumber_14 rfl (lv_at hl 0 rfl) ?_
    refine va_get (D := D) (ci := 9) (v := .int (I0 3)) (C := RX9) (T := TX9) (N := 10) hx hb hts hinX9 hown hK hP 0 rfl rfl 4 (by decide) (hts (.fieldLink RX9 31 "WheelBook$Text" "at" "I") (List.mem_of_getElem? (i := 2) rfl)) (fun _ h9 => h9) rfl dX9_holdsNumber_15 ?_
    refine lv_aload_n hx hb dX9_holdsNumber_18 rfl (lv_at hl 0 rfl) ?_
    refine va_get (D := D) (ci := 9) (v := .int (I0 2)) (C := RX9) (T := TX9) (N := 10) hx hb hts hinX9 hown hK hP 0 rfl rfl 3 (by decide) (hts (.fieldLink RX9 47 "WheelBook$Text" "start" "I") (List.mem_of_getElem? (i := 3) rfl)) (fun _ h9 => h9) rfl dX9_holdsNumber_19 ?_
    refine lv_isub hx hb dX9_holdsNumber_22 ?_
    refine lv_bipush (v := (7 : Int32)) hx hb dX9_holdsNumber_23 (by decide) ?_
    refine lv_icmp_gt (tgt := 44) hx hb dX9_holdsNumber_25 (by decide) (fun hc => ?_) (fun hc => ?_)
    · replace hf := wb_t hc hf
      refine lv_aload_n hx hb dX9_holdsNumber_44 rfl (lv_at hl 0 rfl) ?_
      refine lv_iconst (v := (2 : Int32)) hx hb dX9_holdsNumber_45 (by decide) ?_
      obtain ⟨r1, hr1, hf⟩ := wb_b hf
      have hPc := hP
      have hDc := hD
      have hFc := wj_F hDc hS hA
      refine va_calli (va_runV (As := [.int (2 : Int32)]) (rest := []) ⟨hx, hb, hml, hown, hts⟩ (cn_X9_refuse l D cB cI cZ N a0 I0 M0 (2 : Int32) H.size r1 hr1) (cwV 1 hts gX9_holdsNumber_X9_refuse rfl rfl rfl cdX9_refuse ⟨Nat.le_of_ble_eq_true rfl, Nat.le_of_ble_eq_true rfl⟩) (wb_preDV hPc hK hDc (va_recv hK hP (ci := 9) (q0 := 0) rfl rfl)) rfl rfl hl.1 rfl (lv_room (Nat.le_of_ble_eq_true rfl)) dX9_holdsNumber_46 ⟨Nat.le_of_ble_eq_true rfl, Nat.le_of_ble_eq_true rfl⟩) hS (fun q _ h => hFc q h) hFc (fun r9 u t H locs ht hvm hw hB hz1 hk1 hS => ?_)
      obtain ⟨hP, hD⟩ := wj_0 hFc ht hB
      rw [hw]
      obtain ⟨hz, hf⟩ := wb_y hf
      exact W.zret (v := r1.1) hx hb hr (congrArg Value.int hz) (fun t ht hW => by rw [← Option.some.inj hf]; exact ⟨⟨r1.1, (), rfl, rfl, by rw [ht]; exact hP, va_K.moved hW.alike hK, hD⟩, hS.F ht⟩) hS.2.2 dX9_holdsNumber_49
    · replace hf := wb_f hc hf
      refine lv_aload_n hx hb dX9_holdsNumber_28 rfl (lv_at hl 0 rfl) ?_
      refine va_get (D := D) (ci := 9) (v := .int (I0 5)) (C := RX9) (T := TX9) (N := 10) hx hb hts hinX9 hown hK hP 0 rfl rfl 6 (by decide) (hts (.fieldLink RX9 56 "WheelBook$Text" "value" "I") (List.mem_of_getElem? (i := 4) rfl)) (fun _ h9 => h9) rfl dX9_holdsNumber_29 ?_
      refine lv_iload_n hx hb dX9_holdsNumber_32 rfl (lv_at hl 1 rfl) ?_
      refine lv_icmp_lt (tgt := 44) hx hb dX9_holdsNumber_33 (by decide) (fun hc => ?_) (fun hc => ?_)
      · replace hf := wb_t hc hf
        refine lv_aload_n hx hb dX9_holdsNumber_44 rfl (lv_at hl 0 rfl) ?_
        refine lv_iconst (v := (2 : Int32)) hx hb dX9_holdsNumber_45 (by decide) ?_
        obtain ⟨r2, hr2, hf⟩ := wb_b hf
        have hPc := hP
        have hDc := hD
        have hFc := wj_F hDc hS hA
        refine va_calli (va_runV (As := [.int (2 : Int32)]) (rest := []) ⟨hx, hb, hml, hown, hts⟩ (cn_X9_refuse l D cB cI cZ N a0 I0 M0 (2 : Int32) H.size r2 hr2) (cwV 1 hts gX9_holdsNumber_X9_refuse rfl rfl rfl cdX9_refuse ⟨Nat.le_of_ble_eq_true rfl, Nat.le_of_ble_eq_true rfl⟩) (wb_preDV hPc hK hDc (va_recv hK hP (ci := 9) (q0 := 0) rfl rfl)) rfl rfl hl.1 rfl (lv_room (Nat.le_of_ble_eq_true rfl)) dX9_holdsNumber_46 ⟨Nat.le_of_ble_eq_true rfl, Nat.le_of_ble_eq_true rfl⟩) hS (fun q _ h => hFc q h) hFc (fun r9 u t H locs ht hvm hw hB hz1 hk1 hS => ?_)
        obtain ⟨hP, hD⟩ := wj_0 hFc ht hB
        rw [hw]
        obtain ⟨hz, hf⟩ := wb_y hf
        exact W.zret (v := r2.1) hx hb hr (congrArg Value.int hz) (fun t ht hW => by rw [← Option.some.inj hf]; exact ⟨⟨r2.1, (), rfl, rfl, by rw [ht]; exact hP, va_K.moved hW.alike hK, hD⟩, hS.F ht⟩) hS.2.2 dX9_holdsNumber_49
      · replace hf := wb_f hc hf
        refine lv_aload_n hx hb dX9_holdsNumber_36 rfl (lv_at hl 0 rfl) ?_
        refine va_get (D := D) (ci := 9) (v := .int (I0 5)) (C := RX9) (T := TX9) (N := 10) hx hb hts hinX9 hown hK hP 0 rfl rfl 6 (by decide) (hts (.fieldLink RX9 56 "WheelBook$Text" "value" "I") (List.mem_of_getElem? (i := 4) rfl)) (fun _ h9 => h9) rfl dX9_holdsNumber_37 ?_
        refine lv_iload_n hx hb dX9_holdsNumber_40 rfl (lv_at hl 2 rfl) ?_
        refine lv_icmp_le (tgt := 50) hx hb dX9_holdsNumber_41 (by decide) (fun hc => ?_) (fun hc => ?_)
        · replace hf := wb_t hc hf
          refine lv_aload_n hx hb dX9_holdsNumber_50 rfl (lv_at hl 0 rfl) ?_
          refine lv_aload_n hx hb dX9_holdsNumber_51 rfl (lv_at hl 0 rfl) ?_
          refine va_get (D := D) (ci := 9) (v := .int (I0 5)) (C := RX9) (T := TX9) (N := 10) hx hb hts hinX9 hown hK hP 0 rfl rfl 6 (by decide) (hts (.fieldLink RX9 56 "WheelBook$Text" "value" "I") (List.mem_of_getElem? (i := 4) rfl)) (fun _ h9 => h9) rfl dX9_holdsNumber_52 ?_
          refine va_put (D := D) (ci := 9) (v := .int (I0 5)) (ty := .int) (C := RX9) (T := TX9) (N := 10) hx hb hts hinX9 tyX9 tyX9_ok nmX9 hown hK hP hD hS 0 rfl rfl 7 (by decide) (hts (.fieldLink RX9 97 "WheelBook$Text" "number" "I") (List.mem_of_getElem? (i := 5) rfl)) (fun _ h9 => h9) rfl (by decide +kernel) rfl rfl (Nat.le_of_ble_eq_true rfl) dX9_holdsNumber_55 (fun H locs hP hD hS => ?_)
          have hP : va_P D vwCl (wWX9 cB cI cZ a0 (upd I0 6 (I0 5)) M0) H := hP
          have hD : va_D A (wWX9 cB cI cZ a0 (upd I0 6 (I0 5)) M0) := hD
          obtain ⟨I0_3, eI0_3, hf⟩ := wb_v hf
          rw [← eI0_3] at hP hD
          refine lv_iconst (v := (1 : Int32)) hx hb dX9_holdsNumber_58 (by decide) ?_
          exact W.zret (v := (1 : Int32)) hx hb hr (by decide) (fun t ht hW => by rw [← Option.some.inj hf]; exact ⟨⟨(1 : Int32), (), rfl, rfl, by rw [ht]; exact hP, va_K.moved hW.alike hK, hD⟩, hS.F ht⟩) hS.2.2 dX9_holdsNumber_59
        · replace hf := wb_f hc hf
          refine lv_aload_n hx hb dX9_holdsNumber_44 rfl (lv_at hl 0 rfl) ?_
          refine lv_iconst (v := (2 : Int32)) hx hb dX9_holdsNumber_45 (by decide) ?_
          obtain ⟨r4, hr4, hf⟩ := wb_b hf
          have hPc := hP
          have hDc := hD
          have hFc := wj_F hDc hS hA
          refine va_calli (va_runV (As := [.int (2 : Int32)]) (rest := []) ⟨hx, hb, hml, hown, hts⟩ (cn_X9_refuse l D cB cI cZ N a0 I0 M0 (2 : Int32) H.size r4 hr4) (cwV 1 hts gX9_holdsNumber_X9_refuse rfl rfl rfl cdX9_refuse ⟨Nat.le_of_ble_eq_true rfl, Nat.le_of_ble_eq_true rfl⟩) (wb_preDV hPc hK hDc (va_recv hK hP (ci := 9) (q0 := 0) rfl rfl)) rfl rfl hl.1 rfl (lv_room (Nat.le_of_ble_eq_true rfl)) dX9_holdsNumber_46 ⟨Nat.le_of_ble_eq_true rfl, Nat.le_of_ble_eq_true rfl⟩) hS (fun q _ h => hFc q h) hFc (fun r9 u t H locs ht hvm hw hB hz1 hk1 hS => ?_)
          obtain ⟨hP, hD⟩ := wj_0 hFc ht hB
          rw [hw]
          obtain ⟨hz, hf⟩ := wb_y hf
          exact W.zret (v := r4.1) hx hb hr (congrArg Value.int hz) (fun t ht hW => by rw [← Option.some.inj hf]; exact ⟨⟨r4.1, (), rfl, rfl, by rw [ht]; exact hP, va_K.moved hW.alike hK, hD⟩, hS.F ht⟩) hS.2.2 dX9_holdsNumber_49
  · replace hf := wb_f hc hf
    refine lv_aload_n hx hb dX9_holdsNumber_8 rfl (lv_at hl 0 rfl) ?_
    refine lv_iconst (v := (1 : Int32)) hx hb dX9_holdsNumber_9 (by decide) ?_
    obtain ⟨r5, hr5, hf⟩ := wb_b hf
    have hPc := hP
    have hDc := hD
    have hFc := wj_F hDc hS hA
    refine va_calli (va_runV (As := [.int (1 : Int32)]) (rest := []) ⟨hx, hb, hml, hown, hts⟩ (cn_X9_refuse l D cB cI cZ N a0 I0 M0 (1 : Int32) H.size r5 hr5) (cwV 1 hts gX9_holdsNumber_X9_refuse rfl rfl rfl cdX9_refuse ⟨Nat.le_of_ble_eq_true rfl, Nat.le_of_ble_eq_true rfl⟩) (wb_preDV hPc hK hDc (va_recv hK hP (ci := 9) (q0 := 0) rfl rfl)) rfl rfl hl.1 rfl (lv_room (Nat.le_of_ble_eq_true rfl)) dX9_holdsNumber_10 ⟨Nat.le_of_ble_eq_true rfl, Nat.le_of_ble_eq_true rfl⟩) hS (fun q _ h => hFc q h) hFc (fun r9 u t H locs ht hvm hw hB hz1 hk1 hS => ?_)
    obtain ⟨hP, hD⟩ := wj_0 hFc ht hB
    rw [hw]
    obtain ⟨hz, hf⟩ := wb_y hf
    exact W.zret (v := r5.1) hx hb hr (congrArg Value.int hz) (fun t ht hW => by rw [← Option.some.inj hf]; exact ⟨⟨r5.1, (), rfl, rfl, by rw [ht]; exact hP, va_K.moved hW.alike hK, hD⟩, hS.F ht⟩) hS.2.2 dX9_holdsNumber_13

