set_option maxHeartbeats 4000000 in
set_option maxRecDepth 100000 in
theorem cn_X9_holdsNumber (l : Launch) (D : va_G) (cB cI cZ : ClassId) (N : Nat) (a0 : Nat → Nat) (I0 : Nat → Int32) (M0 : Nat → Nat → Int32) (x1 : Int32) (x2 : Int32) (sz : Nat) (R : Int32 × (Nat → Int32) × (Nat → Nat → Int32)) (hf : fX9_holdsNumber N I0 M0 x1 x2 = some R) : Met l yX9_holdsNumber wsX9_holdsNumber ({ frames := 1, cells := 0, slots := 0, locals := 21 }) (va_Pc [.ref (a0 0), .int x1, .int x2] (wb_preD D [(cB, .byte), (cI, .int), (cZ, .boolean)] (wWX9 cB cI cZ a0 I0 M0) sz)) (va_Qi (fun r (_ : Unit) => r = R.1) (fun _ t => wb_post D [(cB, .byte), (cI, .int), (cZ, .boolean)] (va_A (wWX9 cB cI cZ a0 I0 M0) sz) (wWX9 cB cI cZ a0 R.2.1 R.2.2) t) (va_A (wWX9 cB cI cZ a0 I0 M0) sz)) 0 0 (va_A (wWX9 cB cI cZ a0 I0 M0) sz) := by
  refine Met.ofW (cc := cX9_holdsNumber) (maxL := 3) (ret := (some .boolean)) pn_X9 rfl ?_
  intro p e s m args below meth c s₁ B hml hv
  obtain ⟨rfl, hsz, hP, hK, hD0⟩ := hv
  have hx := B.exec
  have hb := B.bytes
  have hr := B.returns
  have hts := atoms_spec (ws := wsX9_holdsNumber) B.pre
  have hown : s.vm.findClass RX9 = some m.cls := (findClass_of_methodNamed B.named :)
  have hlocks := B.notSynchronized
  have hinX9 : ∀ w ∈ u_ws RX9 TX9 10, w ∈ wsX9_holdsNumber := fun w h => List.mem_cons_of_mem _ (List.mem_append_right _ h)
  subst hsz
  have hD := hD0.self (sz := s.heap.size)
  generalize hAe : va_A (wWX9 cB cI cZ a0 I0 M0) s.heap.size = A at hD ⊢
  have hA : ∀ q : Nat, s.heap.size ≤ q → A q := fun q h => by rw [← hAe]; exact Or.inr h
  have hS : va_S A s.heap s.heap [] := va_S.rf
  have hl := lv_entry ([.ref (a0 0), .int x1, .int x2]) (n := 3) (Nat.le_of_ble_eq_true rfl)
  rw [lg_entry_eq]
  generalize (lg_sl ([.ref (a0 0), .int x1, .int x2]) ++ List.replicate (3 - (lg_sl ([.ref (a0 0), .int x1, .int x2])).length) Slot.unset).toArray = ls at hl ⊢
  have hl : lv_has ls 3 [(0, .ref (a0 0)), (1, .int x1), (2, .int x2)] := hl
  unfold fX9_holdsNumber at hf
  obtain ⟨H, hHe⟩ : ∃ H : Heap, H = s.heap := ⟨_, rfl⟩
  obtain ⟨locs, hle⟩ : ∃ locs : List Loc, locs = [] := ⟨_, rfl⟩
  refine wb_start (H := H) (locs := locs) hHe hle ?_
  rw [← hHe] at hP
  have hS : va_S A s.heap H locs := by rw [hHe, hle]; exact va_S.rf
  refine lv_aload_n hx hb dX9_holdsNumber_0 rfl (lv_at hl 0 rfl) ?_
  refine va_get (D := D) (ci := 9) (v := .int (I0 4)) (C := RX9) (T := TX9) (N := 10) hx hb hts hinX9 hown hK hP 0 rfl rfl 5 (by decide) (hts (.fieldLink RX9 40 "WheelBook$Text" "kind" "I") (List.mem_of_getElem? (i := 1) rfl)) (fun _ h9 => h9) rfl dX9_holdsNumber_1 ?_
  refine lv_iconst (v := (2 : Int32)) hx hb dX9_holdsNumber_4 (by decide) ?_
  refine lv_icmp_eq (tgt := 14) hx hb dX9_holdsNumber_5 (by decide) (fun hc => ?_) (fun hc => ?_)
  · replace hf := wb_t hc hf
    refine lv_aload_n hx hb dX9_holdsNumber_14 rfl (lv_at hl 0 rfl) ?_
    refine va_get (D := D) (ci := 9) (v := .int (I0 3)) (C := RX9) (T := TX9) (N := 10) hx hb hts hinX9 hown hK hP 0 rfl rfl 4 (by decide) (hts (.fieldLink RX9 31 "WheelBook$Text" "at" "I") (List.mem_of_getElem? (i := 2) rfl)) (fun _ h9 => h9) rfl dX9_holdsNumber_15 ?_
    refine lv_aload_n hx hb dX9_holdsNumber_18 rfl (lv_at hl 0 rfl) ?_
    refine va_get (D := D) (ci := 9) (v := .int (I0 2)) (C := RX9) (T := TX9) (N := 10) hx hb hts hinX9 hown hK hP 0 rfl rfl 3 (by decide) (hts (.fieldLink RX9 47 "WheelBook$Text" "start" "I") (List.mem_of_getElem? (i := 3) rfl)) (fun _ h9 => h9) rfl dX9_holdsNumber_19 ?_
    refine lv_isub hx hb dX9_holdsNumber_22 ?_
    refine lv_bipush (v := (7 : Int32)) hx hb dX9_holdsNumber_23 (by decide) ?_
    refine lv_icmp_gt (tgt := 44) hx hb dX9_holdsNumber_25 (by decide) (fun hc => ?_) (fun hc => ?_)
    · replace hf := wb_t hc hf
      refine lv_aload_n hx hb dX9_holdsNumber_44 rfl (lv_at hl 0 rfl) ?_
      refine lv_iconst (v := (2 : Int32)) hx hb dX9_holdsNumber_45 (by decide) ?_
      obtain ⟨r1, hr1, hf⟩ := wb_b hf
      have hPc := hP
      have hDc := hD
      have hFc := wj_F hDc hS hA
      refine va_calli (va_runV (As := [.int (2 : Int32)]) (rest := []) ⟨hx, hb, hml, hown, hts⟩ (cn_X9_refuse l D cB cI cZ N a0 I0 M0 (2 : Int32) H.size r1 hr1) (cwV 1 hts gX9_holdsNumber_X9_refuse rfl rfl rfl cdX9_refuse ⟨Nat.le_of_ble_eq_true rfl, Nat.le_of_ble_eq_true rfl⟩) (wb_preDV hPc hK hDc (wr_9 hK hP (q0 := 0) rfl)) rfl rfl hl.1 rfl (lv_room (Nat.le_of_ble_eq_true rfl)) dX9_holdsNumber_46 ⟨Nat.le_of_ble_eq_true rfl, Nat.le_of_ble_eq_true rfl⟩) hS (fun q _ h => hFc q h) hFc (fun r9 u t H locs ht hvm hw hB hz1 hk1 hS => ?_)
      obtain ⟨hP, hD⟩ := wj_0 hFc ht hB
      rw [hw]
      obtain ⟨hz, hf⟩ := wb_y hf
      exact W.zret (v := r1.1) hx hb hr (congrArg Value.int hz) (fun t ht hW => by rw [← Option.some.inj hf]; exact ⟨⟨r1.1, (), rfl, rfl, by rw [ht]; exact hP, va_K.moved hW.alike hK, hD⟩, hS.F ht⟩) hS.2.2 dX9_holdsNumber_49
    · replace hf := wb_f hc hf
      refine lv_aload_n hx hb dX9_holdsNumber_28 rfl (lv_at hl 0 rfl) ?_
      refine va_get (D := D) (ci := 9) (v := .int (I0 5)) (C := RX9) (T := TX9) (N := 10) hx hb hts hinX9 hown hK hP 0 rfl rfl 6 (by decide) (hts (.fieldLink RX9 56 "WheelBook$Text" "value" "I") (List.mem_of_getElem? (i := 4) rfl)) (fun _ h9 => h9) rfl dX9_holdsNumber_29 ?_
      refine lv_iload_n hx hb dX9_holdsNumber_32 rfl (lv_at hl 1 rfl) ?_
      refine lv_icmp_lt (tgt := 44) hx hb dX9_holdsNumber_33 (by decide) (fun hc => ?_) (fun hc => ?_)
      · replace hf := wb_t hc hf
        refine lv_aload_n hx hb dX9_holdsNumber_44 rfl (lv_at hl 0 rfl) ?_
        refine lv_iconst (v := (2 : Int32)) hx hb dX9_holdsNumber_45 (by decide) ?_
        obtain ⟨r2, hr2, hf⟩ := wb_b hf
        have hPc := hP
        have hDc := hD
        have hFc := wj_F hDc hS hA
        refine va_calli (va_runV (As := [.int (2 : Int32)]) (rest := []) ⟨hx, hb, hml, hown, hts⟩ (cn_X9_refuse l D cB cI cZ N a0 I0 M0 (2 : Int32) H.size r2 hr2) (cwV 1 hts gX9_holdsNumber_X9_refuse rfl rfl rfl cdX9_refuse ⟨Nat.le_of_ble_eq_true rfl, Nat.le_of_ble_eq_true rfl⟩) (wb_preDV hPc hK hDc (wr_9 hK hP (q0 := 0) rfl)) rfl rfl hl.1 rfl (lv_room (Nat.le_of_ble_eq_true rfl)) dX9_holdsNumber_46 ⟨Nat.le_of_ble_eq_true rfl, Nat.le_of_ble_eq_true rfl⟩) hS (fun q _ h => hFc q h) hFc (fun r9 u t H locs ht hvm hw hB hz1 hk1 hS => ?_)
        obtain ⟨hP, hD⟩ := wj_0 hFc ht hB
        rw [hw]
        obtain ⟨hz, hf⟩ := wb_y hf
        exact W.zret (v := r2.1) hx hb hr (congrArg Value.int hz) (fun t ht hW => by rw [← Option.some.inj hf]; exact ⟨⟨r2.1, (), rfl, rfl, by rw [ht]; exact hP, va_K.moved hW.alike hK, hD⟩, hS.F ht⟩) hS.2.2 dX9_holdsNumber_49
      · replace hf := wb_f hc hf
        refine lv_aload_n hx hb dX9_holdsNumber_36 rfl (lv_at hl 0 rfl) ?_
        refine va_get (D := D) (ci := 9) (v := .int (I0 5)) (C := RX9) (T := TX9) (N := 10) hx hb hts hinX9 hown hK hP 0 rfl rfl 6 (by decide) (hts (.fieldLink RX9 56 "WheelBook$Text" "value" "I") (List.mem_of_getElem? (i := 4) rfl)) (fun _ h9 => h9) rfl dX9_holdsNumber_37 ?_
        refine lv_iload_n hx hb dX9_holdsNumber_40 rfl (lv_at hl 2 rfl) ?_
        refine lv_icmp_le (tgt := 50) hx hb dX9_holdsNumber_41 (by decide) (fun hc => ?_) (fun hc => ?_)
        · replace hf := wb_t hc hf
          refine lv_aload_n hx hb dX9_holdsNumber_50 rfl (lv_at hl 0 rfl) ?_
          refine lv_aload_n hx hb dX9_holdsNumber_51 rfl (lv_at hl 0 rfl) ?_
          refine va_get (D := D) (ci := 9) (v := .int (I0 5)) (C := RX9) (T := TX9) (N := 10) hx hb hts hinX9 hown hK hP 0 rfl rfl 6 (by decide) (hts (.fieldLink RX9 56 "WheelBook$Text" "value" "I") (List.mem_of_getElem? (i := 4) rfl)) (fun _ h9 => h9) rfl dX9_holdsNumber_52 ?_
          refine va_put (D := D) (ci := 9) (v := .int (I0 5)) (ty := .int) (C := RX9) (T := TX9) (N := 10) hx hb hts hinX9 tyX9 tyX9_ok nmX9 hown hK hP hD hS 0 rfl rfl 7 (by decide) (hts (.fieldLink RX9 97 "WheelBook$Text" "number" "I") (List.mem_of_getElem? (i := 5) rfl)) (fun _ h9 => h9) rfl (by decide +kernel) rfl rfl (Nat.le_of_ble_eq_true rfl) dX9_holdsNumber_55 (fun H locs hP hD hS => ?_)
          have hP : va_P D vwCl (wWX9 cB cI cZ a0 (upd I0 6 (I0 5)) M0) H := hP
          have hD : va_D A (wWX9 cB cI cZ a0 (upd I0 6 (I0 5)) M0) := hD
          obtain ⟨I0_3, eI0_3, hf⟩ := wb_v hf
          rw [← eI0_3] at hP hD
          refine lv_iconst (v := (1 : Int32)) hx hb dX9_holdsNumber_58 (by decide) ?_
          exact W.zret (v := (1 : Int32)) hx hb hr (by decide) (fun t ht hW => by rw [← Option.some.inj hf]; exact ⟨⟨(1 : Int32), (), rfl, rfl, by rw [ht]; exact hP, va_K.moved hW.alike hK, hD⟩, hS.F ht⟩) hS.2.2 dX9_holdsNumber_59
        · replace hf := wb_f hc hf
          refine lv_aload_n hx hb dX9_holdsNumber_44 rfl (lv_at hl 0 rfl) ?_
          refine lv_iconst (v := (2 : Int32)) hx hb dX9_holdsNumber_45 (by decide) ?_
          obtain ⟨r4, hr4, hf⟩ := wb_b hf
          have hPc := hP
          have hDc := hD
          have hFc := wj_F hDc hS hA
          refine va_calli (va_runV (As := [.int (2 : Int32)]) (rest := []) ⟨hx, hb, hml, hown, hts⟩ (cn_X9_refuse l D cB cI cZ N a0 I0 M0 (2 : Int32) H.size r4 hr4) (cwV 1 hts gX9_holdsNumber_X9_refuse rfl rfl rfl cdX9_refuse ⟨Nat.le_of_ble_eq_true rfl, Nat.le_of_ble_eq_true rfl⟩) (wb_preDV hPc hK hDc (wr_9 hK hP (q0 := 0) rfl)) rfl rfl hl.1 rfl (lv_room (Nat.le_of_ble_eq_true rfl)) dX9_holdsNumber_46 ⟨Nat.le_of_ble_eq_true rfl, Nat.le_of_ble_eq_true rfl⟩) hS (fun q _ h => hFc q h) hFc (fun r9 u t H locs ht hvm hw hB hz1 hk1 hS => ?_)
          obtain ⟨hP, hD⟩ := wj_0 hFc ht hB
          rw [hw]
          obtain ⟨hz, hf⟩ := wb_y hf
          exact W.zret (v := r4.1) hx hb hr (congrArg Value.int hz) (fun t ht hW => by rw [← Option.some.inj hf]; exact ⟨⟨r4.1, (), rfl, rfl, by rw [ht]; exact hP, va_K.moved hW.alike hK, hD⟩, hS.F ht⟩) hS.2.2 dX9_holdsNumber_49
  · replace hf := wb_f hc hf
    refine lv_aload_n hx hb dX9_holdsNumber_8 rfl (lv_at hl 0 rfl) ?_
    refine lv_iconst (v := (1 : Int32)) hx hb dX9_holdsNumber_9 (by decide) ?_
    obtain ⟨r5, hr5, hf⟩ := wb_b hf
    have hPc := hP
    have hDc := hD
    have hFc := wj_F hDc hS hA
    refine va_calli (va_runV (As := [.int (1 : Int32)]) (rest := []) ⟨hx, hb, hml, hown, hts⟩ (cn_X9_refuse l D cB cI cZ N a0 I0 M0 (1 : Int32) H.size r5 hr5) (cwV 1 hts gX9_holdsNumber_X9_refuse rfl rfl rfl cdX9_refuse ⟨Nat.le_of_ble_eq_true rfl, Nat.le_of_ble_eq_true rfl⟩) (wb_preDV hPc hK hDc (wr_9 hK hP (q0 := 0) rfl)) rfl rfl hl.1 rfl (lv_room (Nat.le_of_ble_eq_true rfl)) dX9_holdsNumber_10 ⟨Nat.le_of_ble_eq_true rfl, Nat.le_of_ble_eq_true rfl⟩) hS (fun q _ h => hFc q h) hFc (fun r9 u t H locs ht hvm hw hB hz1 hk1 hS => ?_)
    obtain ⟨hP, hD⟩ := wj_0 hFc ht hB
    rw [hw]
    obtain ⟨hz, hf⟩ := wb_y hf
    exact W.zret (v := r5.1) hx hb hr (congrArg Value.int hz) (fun t ht hW => by rw [← Option.some.inj hf]; exact ⟨⟨r5.1, (), rfl, rfl, by rw [ht]; exact hP, va_K.moved hW.alike hK, hD⟩, hS.F ht⟩) hS.2.2 dX9_holdsNumber_13

set_option maxHeartbeats 4000000 in
set_option maxRecDepth 100000 in
theorem cn_X9_takeNumber (l : Launch) (D : va_G) (cB cI cZ : ClassId) (N : Nat) (a0 : Nat → Nat) (I0 : Nat → Int32) (M0 : Nat → Nat → Int32) (x1 : Int32) (x2 : Int32) (sz : Nat) (R : Int32 × (Nat → Int32) × (Nat → Nat → Int32)) (hf : fX9_takeNumber N I0 M0 x1 x2 = some R) : Met l yX9_takeNumber wsX9_takeNumber ({ frames := 2, cells := 0, slots := 0, locals := 43 }) (va_Pc [.ref (a0 0), .int x1, .int x2] (wb_preD D [(cB, .byte), (cI, .int), (cZ, .boolean)] (wWX9 cB cI cZ a0 I0 M0) sz)) (va_Qi (fun r (_ : Unit) => r = R.1) (fun _ t => wb_post D [(cB, .byte), (cI, .int), (cZ, .boolean)] (va_A (wWX9 cB cI cZ a0 I0 M0) sz) (wWX9 cB cI cZ a0 R.2.1 R.2.2) t) (va_A (wWX9 cB cI cZ a0 I0 M0) sz)) 0 0 (va_A (wWX9 cB cI cZ a0 I0 M0) sz) := by
  refine Met.ofW (cc := cX9_takeNumber) (maxL := 3) (ret := (some .boolean)) pn_X9 rfl ?_
  intro p e s m args below meth c s₁ B hml hv
  obtain ⟨rfl, hsz, hP, hK, hD0⟩ := hv
  have hx := B.exec
  have hb := B.bytes
  have hr := B.returns
  have hts := atoms_spec (ws := wsX9_takeNumber) B.pre
  have hown : s.vm.findClass RX9 = some m.cls := (findClass_of_methodNamed B.named :)
  have hlocks := B.notSynchronized
  subst hsz
  have hD := hD0.self (sz := s.heap.size)
  generalize hAe : va_A (wWX9 cB cI cZ a0 I0 M0) s.heap.size = A at hD ⊢
  have hA : ∀ q : Nat, s.heap.size ≤ q → A q := fun q h => by rw [← hAe]; exact Or.inr h
  have hS : va_S A s.heap s.heap [] := va_S.rf
  have hl := lv_entry ([.ref (a0 0), .int x1, .int x2]) (n := 3) (Nat.le_of_ble_eq_true rfl)
  rw [lg_entry_eq]
  generalize (lg_sl ([.ref (a0 0), .int x1, .int x2]) ++ List.replicate (3 - (lg_sl ([.ref (a0 0), .int x1, .int x2])).length) Slot.unset).toArray = ls at hl ⊢
  have hl : lv_has ls 3 [(0, .ref (a0 0)), (1, .int x1), (2, .int x2)] := hl
  unfold fX9_takeNumber at hf
  obtain ⟨H, hHe⟩ : ∃ H : Heap, H = s.heap := ⟨_, rfl⟩
  obtain ⟨locs, hle⟩ : ∃ locs : List Loc, locs = [] := ⟨_, rfl⟩
  refine wb_start (H := H) (locs := locs) hHe hle ?_
  rw [← hHe] at hP
  have hS : va_S A s.heap H locs := by rw [hHe, hle]; exact va_S.rf
  refine lv_aload_n hx hb dX9_takeNumber_0 rfl (lv_at hl 0 rfl) ?_
  refine lv_iload_n hx hb dX9_takeNumber_1 rfl (lv_at hl 1 rfl) ?_
  refine lv_iload_n hx hb dX9_takeNumber_2 rfl (lv_at hl 2 rfl) ?_
  obtain ⟨r1, hr1, hf⟩ := wb_b hf
  have hPc := hP
  have hDc := hD
  have hFc := wj_F hDc hS hA
  refine va_calli (va_runV (As := [.int x1, .int x2]) (rest := []) ⟨hx, hb, hml, hown, hts⟩ (cn_X9_holdsNumber l D cB cI cZ N a0 I0 M0 x1 x2 H.size r1 hr1) (cwV 2 hts gX9_takeNumber_X9_holdsNumber rfl rfl rfl cdX9_holdsNumber ⟨Nat.le_of_ble_eq_true rfl, Nat.le_of_ble_eq_true rfl⟩) (wb_preDV hPc hK hDc (wr_9 hK hP (q0 := 0) rfl)) rfl rfl hl.1 rfl (lv_room (Nat.le_of_ble_eq_true rfl)) dX9_takeNumber_3 ⟨Nat.le_of_ble_eq_true rfl, Nat.le_of_ble_eq_true rfl⟩) hS (fun q _ h => hFc q h) hFc (fun r9 u t H locs ht hvm hw hB hz1 hk1 hS => ?_)
  obtain ⟨hP, hD⟩ := wj_0 hFc ht hB
  rw [hw]
  refine lv_if_ne (tgt := 11) hx hb dX9_takeNumber_6 (by decide) (fun hc => ?_) (fun hc => ?_)
  · replace hf := wb_f hc hf
    refine lv_aload_n hx hb dX9_takeNumber_11 rfl (lv_at hl 0 rfl) ?_
    obtain ⟨r2, hr2, hf⟩ := wb_b hf
    have hPc := hP
    have hDc := hD
    have hFc := wj_F hDc hS hA
    refine va_callv (va_runV (As := []) (rest := []) ⟨hx, hb, hml, hown, hts⟩ (cn_X9_step l D cB cI cZ N a0 r1.2.1 r1.2.2 H.size r2 hr2) (cwV 0 hts gX9_takeNumber_X9_step rfl rfl rfl cdX9_step ⟨Nat.le_of_ble_eq_true rfl, Nat.le_of_ble_eq_true rfl⟩) (wb_preDV hPc hK hDc (wr_9 hK hP (q0 := 0) rfl)) rfl rfl hl.1 rfl (lv_room (Nat.le_of_ble_eq_true rfl)) dX9_takeNumber_12 ⟨Nat.le_of_ble_eq_true rfl, Nat.le_of_ble_eq_true rfl⟩) hS (fun q _ h => hFc q h) hFc (fun u t H locs ht hvm hw hB hz1 hk1 hS => ?_)
    obtain ⟨hP, hD⟩ := wj_0 hFc ht hB
    refine lv_iconst (v := (1 : Int32)) hx hb dX9_takeNumber_15 (by decide) ?_
    exact W.zret (v := (1 : Int32)) hx hb hr (by decide) (fun t ht hW => by rw [← Option.some.inj hf]; exact ⟨⟨(1 : Int32), (), rfl, rfl, by rw [ht]; exact hP, va_K.moved hW.alike hK, hD⟩, hS.F ht⟩) hS.2.2 dX9_takeNumber_16
  · replace hf := wb_t hc hf
    refine lv_iconst (v := (0 : Int32)) hx hb dX9_takeNumber_9 (by decide) ?_
    exact W.zret (v := (0 : Int32)) hx hb hr (by decide) (fun t ht hW => by rw [← Option.some.inj hf]; exact ⟨⟨(0 : Int32), (), rfl, rfl, by rw [ht]; exact hP, va_K.moved hW.alike hK, hD⟩, hS.F ht⟩) hS.2.2 dX9_takeNumber_10

set_option maxHeartbeats 4000000 in
set_option maxRecDepth 100000 in
theorem cn_X9_takeStop (l : Launch) (D : va_G) (cB cI cZ : ClassId) (N : Nat) (a0 : Nat → Nat) (I0 : Nat → Int32) (M0 : Nat → Nat → Int32) (sz : Nat) (R : Int32 × (Nat → Int32) × (Nat → Nat → Int32)) (hf : fX9_takeStop N I0 M0 = some R) : Met l yX9_takeStop wsX9_takeStop ({ frames := 2, cells := 0, slots := 0, locals := 40 }) (va_Pc [.ref (a0 0)] (wb_preD D [(cB, .byte), (cI, .int), (cZ, .boolean)] (wWX9 cB cI cZ a0 I0 M0) sz)) (va_Qi (fun r (_ : Unit) => r = R.1) (fun _ t => wb_post D [(cB, .byte), (cI, .int), (cZ, .boolean)] (va_A (wWX9 cB cI cZ a0 I0 M0) sz) (wWX9 cB cI cZ a0 R.2.1 R.2.2) t) (va_A (wWX9 cB cI cZ a0 I0 M0) sz)) 0 0 (va_A (wWX9 cB cI cZ a0 I0 M0) sz) := by
  refine Met.ofW (cc := cX9_takeStop) (maxL := 1) (ret := (some .boolean)) pn_X9 rfl ?_
  intro p e s m args below meth c s₁ B hml hv
  obtain ⟨rfl, hsz, hP, hK, hD0⟩ := hv
  have hx := B.exec
  have hb := B.bytes
  have hr := B.returns
  have hts := atoms_spec (ws := wsX9_takeStop) B.pre
  have hown : s.vm.findClass RX9 = some m.cls := (findClass_of_methodNamed B.named :)
  have hlocks := B.notSynchronized
  have hinX9 : ∀ w ∈ u_ws RX9 TX9 10, w ∈ wsX9_takeStop := fun w h => List.mem_cons_of_mem _ (List.mem_append_right _ h)
  subst hsz
  have hD := hD0.self (sz := s.heap.size)
  generalize hAe : va_A (wWX9 cB cI cZ a0 I0 M0) s.heap.size = A at hD ⊢
  have hA : ∀ q : Nat, s.heap.size ≤ q → A q := fun q h => by rw [← hAe]; exact Or.inr h
  have hS : va_S A s.heap s.heap [] := va_S.rf
  have hl := lv_entry ([.ref (a0 0)]) (n := 1) (Nat.le_of_ble_eq_true rfl)
  rw [lg_entry_eq]
  generalize (lg_sl ([.ref (a0 0)]) ++ List.replicate (1 - (lg_sl ([.ref (a0 0)])).length) Slot.unset).toArray = ls at hl ⊢
  have hl : lv_has ls 1 [(0, .ref (a0 0))] := hl
  unfold fX9_takeStop at hf
  obtain ⟨H, hHe⟩ : ∃ H : Heap, H = s.heap := ⟨_, rfl⟩
  obtain ⟨locs, hle⟩ : ∃ locs : List Loc, locs = [] := ⟨_, rfl⟩
  refine wb_start (H := H) (locs := locs) hHe hle ?_
  rw [← hHe] at hP
  have hS : va_S A s.heap H locs := by rw [hHe, hle]; exact va_S.rf
  refine lv_aload_n hx hb dX9_takeStop_0 rfl (lv_at hl 0 rfl) ?_
  refine va_get (D := D) (ci := 9) (v := .int (I0 4)) (C := RX9) (T := TX9) (N := 10) hx hb hts hinX9 hown hK hP 0 rfl rfl 5 (by decide) (hts (.fieldLink RX9 40 "WheelBook$Text" "kind" "I") (List.mem_of_getElem? (i := 1) rfl)) (fun _ h9 => h9) rfl dX9_takeStop_1 ?_
  refine lv_iconst (v := (3 : Int32)) hx hb dX9_takeStop_4 (by decide) ?_
  refine lv_icmp_eq (tgt := 14) hx hb dX9_takeStop_5 (by decide) (fun hc => ?_) (fun hc => ?_)
  · replace hf := wb_t hc hf
    refine lv_aload_n hx hb dX9_takeStop_14 rfl (lv_at hl 0 rfl) ?_
    obtain ⟨r1, hr1, hf⟩ := wb_b hf
    have hPc := hP
    have hDc := hD
    have hFc := wj_F hDc hS hA
    refine va_callv (va_runV (As := []) (rest := []) ⟨hx, hb, hml, hown, hts⟩ (cn_X9_step l D cB cI cZ N a0 I0 M0 H.size r1 hr1) (cwV 0 hts gX9_takeStop_X9_step rfl rfl rfl cdX9_step ⟨Nat.le_of_ble_eq_true rfl, Nat.le_of_ble_eq_true rfl⟩) (wb_preDV hPc hK hDc (wr_9 hK hP (q0 := 0) rfl)) rfl rfl hl.1 rfl (lv_room (Nat.le_of_ble_eq_true rfl)) dX9_takeStop_15 ⟨Nat.le_of_ble_eq_true rfl, Nat.le_of_ble_eq_true rfl⟩) hS (fun q _ h => hFc q h) hFc (fun u t H locs ht hvm hw hB hz1 hk1 hS => ?_)
    obtain ⟨hP, hD⟩ := wj_0 hFc ht hB
    refine lv_iconst (v := (1 : Int32)) hx hb dX9_takeStop_18 (by decide) ?_
    exact W.zret (v := (1 : Int32)) hx hb hr (by decide) (fun t ht hW => by rw [← Option.some.inj hf]; exact ⟨⟨(1 : Int32), (), rfl, rfl, by rw [ht]; exact hP, va_K.moved hW.alike hK, hD⟩, hS.F ht⟩) hS.2.2 dX9_takeStop_19
  · replace hf := wb_f hc hf
    refine lv_aload_n hx hb dX9_takeStop_8 rfl (lv_at hl 0 rfl) ?_
    refine lv_iconst (v := (1 : Int32)) hx hb dX9_takeStop_9 (by decide) ?_
    obtain ⟨r2, hr2, hf⟩ := wb_b hf
    have hPc := hP
    have hDc := hD
    have hFc := wj_F hDc hS hA
    refine va_calli (va_runV (As := [.int (1 : Int32)]) (rest := []) ⟨hx, hb, hml, hown, hts⟩ (cn_X9_refuse l D cB cI cZ N a0 I0 M0 (1 : Int32) H.size r2 hr2) (cwV 1 hts gX9_takeStop_X9_refuse rfl rfl rfl cdX9_refuse ⟨Nat.le_of_ble_eq_true rfl, Nat.le_of_ble_eq_true rfl⟩) (wb_preDV hPc hK hDc (wr_9 hK hP (q0 := 0) rfl)) rfl rfl hl.1 rfl (lv_room (Nat.le_of_ble_eq_true rfl)) dX9_takeStop_10 ⟨Nat.le_of_ble_eq_true rfl, Nat.le_of_ble_eq_true rfl⟩) hS (fun q _ h => hFc q h) hFc (fun r9 u t H locs ht hvm hw hB hz1 hk1 hS => ?_)
    obtain ⟨hP, hD⟩ := wj_0 hFc ht hB
    rw [hw]
    obtain ⟨hz, hf⟩ := wb_y hf
    exact W.zret (v := r2.1) hx hb hr (congrArg Value.int hz) (fun t ht hW => by rw [← Option.some.inj hf]; exact ⟨⟨r2.1, (), rfl, rfl, by rw [ht]; exact hP, va_K.moved hW.alike hK, hD⟩, hS.F ht⟩) hS.2.2 dX9_takeStop_13

set_option maxHeartbeats 4000000 in
set_option maxRecDepth 100000 in
theorem cn_X1_readDegree (l : Launch) (D : va_G) (cB cI cZ : ClassId) (N : Nat) (a0 : Nat → Nat) (I0 : Nat → Int32) (M0 : Nat → Nat → Int32) (a1 : Nat → Nat) (I1 : Nat → Int32) (M1 : Nat → Nat → Int32) (x2 : Int32) (sz : Nat) (R : Int32 × (Nat → Int32) × (Nat → Nat → Int32) × (Nat → Int32) × (Nat → Nat → Int32)) (hf : fX1_readDegree N I0 M0 I1 M1 x2 = some R) : Met l yX1_readDegree wsX1_readDegree ({ frames := 3, cells := 0, slots := 0, locals := 65 }) (va_Pc [.ref (a0 0), .ref (a1 0), .int x2] (wb_preD D [(cB, .byte), (cI, .int), (cZ, .boolean)] ((wWX1 cB cI cZ a0 I0 M0) ++ (wWX9 cB cI cZ a1 I1 M1)) sz)) (va_Qi (fun r (_ : Unit) => r = R.1) (fun _ t => wb_post D [(cB, .byte), (cI, .int), (cZ, .boolean)] (va_A ((wWX1 cB cI cZ a0 I0 M0) ++ (wWX9 cB cI cZ a1 I1 M1)) sz) ((wWX1 cB cI cZ a0 R.2.1 R.2.2.1) ++ (wWX9 cB cI cZ a1 R.2.2.2.1 R.2.2.2.2)) t) (va_A ((wWX1 cB cI cZ a0 I0 M0) ++ (wWX9 cB cI cZ a1 I1 M1)) sz)) 0 0 (va_A ((wWX1 cB cI cZ a0 I0 M0) ++ (wWX9 cB cI cZ a1 I1 M1)) sz) := by
  refine Met.ofW (cc := cX1_readDegree) (maxL := 4) (ret := (some .boolean)) pn_X1 rfl ?_
  intro p e s m args below meth c s₁ B hml hv
  obtain ⟨rfl, hsz, hP, hK, hD0⟩ := hv
  have hx := B.exec
  have hb := B.bytes
  have hr := B.returns
  have hts := atoms_spec (ws := wsX1_readDegree) B.pre
  have hown : s.vm.findClass RX1 = some m.cls := (findClass_of_methodNamed B.named :)
  have hlocks := B.notSynchronized
  have hinX1 : ∀ w ∈ u_ws RX1 TX1 2, w ∈ wsX1_readDegree := fun w h => List.mem_cons_of_mem _ (List.mem_append_right _ h)
  have hinX9 : ∀ w ∈ u_ws RX9 TX9 10, w ∈ wsX1_readDegree := fun w h => List.mem_cons_of_mem _ (List.mem_append_left _ (List.mem_append_right _ h))
  subst hsz
  have hD := hD0.self (sz := s.heap.size)
  generalize hAe : va_A ((wWX1 cB cI cZ a0 I0 M0) ++ (wWX9 cB cI cZ a1 I1 M1)) s.heap.size = A at hD ⊢
  have hA : ∀ q : Nat, s.heap.size ≤ q → A q := fun q h => by rw [← hAe]; exact Or.inr h
  have hS : va_S A s.heap s.heap [] := va_S.rf
  have hl := lv_entry ([.ref (a0 0), .ref (a1 0), .int x2]) (n := 4) (Nat.le_of_ble_eq_true rfl)
  rw [lg_entry_eq]
  generalize (lg_sl ([.ref (a0 0), .ref (a1 0), .int x2]) ++ List.replicate (4 - (lg_sl ([.ref (a0 0), .ref (a1 0), .int x2])).length) Slot.unset).toArray = ls at hl ⊢
  have hl : lv_has ls 4 [(0, .ref (a0 0)), (1, .ref (a1 0)), (2, .int x2)] := hl
  unfold fX1_readDegree at hf
  obtain ⟨H, hHe⟩ : ∃ H : Heap, H = s.heap := ⟨_, rfl⟩
  obtain ⟨locs, hle⟩ : ∃ locs : List Loc, locs = [] := ⟨_, rfl⟩
  refine wb_start (H := H) (locs := locs) hHe hle ?_
  rw [← hHe] at hP
  have hS : va_S A s.heap H locs := by rw [hHe, hle]; exact va_S.rf
  refine lv_aload_n hx hb dX1_readDegree_0 rfl (lv_at hl 0 rfl) ?_
  refine lv_aload_n hx hb dX1_readDegree_1 rfl (lv_at hl 1 rfl) ?_
  refine lv_iload_n hx hb dX1_readDegree_2 rfl (lv_at hl 2 rfl) ?_
  obtain ⟨r1, hr1, hf⟩ := wb_b hf
  have hPc := hP
  have hDc := hD
  have hFc := wj_F hDc hS hA
  refine va_calli (va_runV (As := [.ref (a1 0), .int x2]) (rest := []) ⟨hx, hb, hml, hown, hts⟩ (cn_X1_isNew l D cB cI cZ N a0 I0 M0 a1 I1 M1 x2 H.size r1 hr1) (cwV 2 hts gX1_readDegree_X1_isNew rfl rfl rfl cdX1_isNew ⟨Nat.le_of_ble_eq_true rfl, Nat.le_of_ble_eq_true rfl⟩) (wb_preDV hPc hK hDc (wr_1 hK hP (q0 := 0) rfl)) rfl rfl hl.1 rfl (lv_room (Nat.le_of_ble_eq_true rfl)) dX1_readDegree_3 ⟨Nat.le_of_ble_eq_true rfl, Nat.le_of_ble_eq_true rfl⟩) hS (fun q _ h => hFc q h) hFc (fun r9 u t H locs ht hvm hw hB hz1 hk1 hS => ?_)
  obtain ⟨hP, hD⟩ := wj_0 hFc ht hB
  rw [hw]
  refine lv_if_eq (tgt := 19) hx hb dX1_readDegree_6 (by decide) (fun hc => ?_) (fun hc => ?_)
  · replace hf := wb_t hc hf
    refine lv_iconst (v := (0 : Int32)) hx hb dX1_readDegree_19 (by decide) ?_
    exact W.zret (v := (0 : Int32)) hx hb hr (by decide) (fun t ht hW => by rw [← Option.some.inj hf]; exact ⟨⟨(0 : Int32), (), rfl, rfl, by rw [ht]; exact hP, va_K.moved hW.alike hK, hD⟩, hS.F ht⟩) hS.2.2 dX1_readDegree_20
  · replace hf := wb_f hc hf
    refine lv_aload_n hx hb dX1_readDegree_9 rfl (lv_at hl 1 rfl) ?_
    refine lv_iconst (v := (0 : Int32)) hx hb dX1_readDegree_10 (by decide) ?_
    refine lv_bipush (v := (11 : Int32)) hx hb dX1_readDegree_11 (by decide) ?_
    obtain ⟨r2, hr2, hf⟩ := wb_b hf
    have hPc := hP.sub (ws' := (wWX9 cB cI cZ a1 r1.2.1 r1.2.2)) [3, 4] rfl
    have hDc := hD.sub (ws' := (wWX9 cB cI cZ a1 r1.2.1 r1.2.2)) [3, 4] (by decide) rfl
    have hFc := va_free (wc := (wWX9 cB cI cZ a1 r1.2.1 r1.2.2)) hD hS hA [3, 4] rfl
    refine va_calli (va_runV (As := [.int (0 : Int32), .int (11 : Int32)]) (rest := []) ⟨hx, hb, hml, hown, hts⟩ (cn_X9_takeNumber l D cB cI cZ N a1 r1.2.1 r1.2.2 (0 : Int32) (11 : Int32) H.size r2 hr2) (cwV 2 hts gX1_readDegree_X9_takeNumber rfl rfl rfl cdX9_takeNumber ⟨Nat.le_of_ble_eq_true rfl, Nat.le_of_ble_eq_true rfl⟩) (wb_preDV hPc hK hDc (wr_9 hK hP (q0 := 3) rfl)) rfl rfl hl.1 rfl (lv_room (Nat.le_of_ble_eq_true rfl)) dX1_readDegree_13 ⟨Nat.le_of_ble_eq_true rfl, Nat.le_of_ble_eq_true rfl⟩) hS (fun q _ h => hFc q h) hFc (fun r9 u t H locs ht hvm hw hB hz1 hk1 hS => ?_)
    obtain ⟨hP, hD⟩ := wj_s (wc := (wWX9 cB cI cZ a1 r1.2.1 r1.2.2)) (w1 := (wWX9 cB cI cZ a1 r2.2.1 r2.2.2)) (wf := ((wWX1 cB cI cZ a0 I0 M0) ++ (wWX9 cB cI cZ a1 r2.2.1 r2.2.2))) 3 5 hP hD rfl rfl hk1 hFc ht hB
    rw [hw]
    refine lv_if_ne (tgt := 21) hx hb dX1_readDegree_16 (by decide) (fun hc => ?_) (fun hc => ?_)
    · replace hf := wb_f hc hf
      refine lv_aload_n hx hb dX1_readDegree_21 rfl (lv_at hl 1 rfl) ?_
      refine va_get (D := D) (ci := 9) (v := .int (r2.2.1 6)) (C := RX9) (T := TX9) (N := 10) hx hb hts hinX9 hown hK hP 3 rfl rfl 7 (by decide) (hts (.fieldLink RX1 53 "WheelBook$Text" "number" "I") (List.mem_of_getElem? (i := 1) rfl)) (fun _ h9 => h9) rfl dX1_readDegree_22 ?_
      obtain ⟨v3, ev3, hf⟩ := wb_v hf
      refine wb_topi ev3 ?_
      refine lv_istore_n (lv' := [(3, .int v3), (0, .ref (a0 0)), (1, .ref (a1 0)), (2, .int x2)]) hx hb dX1_readDegree_25 rfl hl (by decide) rfl (fun ls hl => ?_)
      refine lv_aload_n hx hb dX1_readDegree_26 rfl (lv_at hl 2 rfl) ?_
      refine lv_iconst (v := (0 : Int32)) hx hb dX1_readDegree_27 (by decide) ?_
      refine lv_bipush (v := (29 : Int32)) hx hb dX1_readDegree_28 (by decide) ?_
      obtain ⟨r4, hr4, hf⟩ := wb_b hf
      have hPc := hP.sub (ws' := (wWX9 cB cI cZ a1 r2.2.1 r2.2.2)) [3, 4] rfl
      have hDc := hD.sub (ws' := (wWX9 cB cI cZ a1 r2.2.1 r2.2.2)) [3, 4] (by decide) rfl
      have hFc := va_free (wc := (wWX9 cB cI cZ a1 r2.2.1 r2.2.2)) hD hS hA [3, 4] rfl
      refine va_calli (va_runV (As := [.int (0 : Int32), .int (29 : Int32)]) (rest := []) ⟨hx, hb, hml, hown, hts⟩ (cn_X9_takeNumber l D cB cI cZ N a1 r2.2.1 r2.2.2 (0 : Int32) (29 : Int32) H.size r4 hr4) (cwV 2 hts gX1_readDegree_X9_takeNumber rfl rfl rfl cdX9_takeNumber ⟨Nat.le_of_ble_eq_true rfl, Nat.le_of_ble_eq_true rfl⟩) (wb_preDV hPc hK hDc (wr_9 hK hP (q0 := 3) rfl)) rfl rfl hl.1 rfl (lv_room (Nat.le_of_ble_eq_true rfl)) dX1_readDegree_30 ⟨Nat.le_of_ble_eq_true rfl, Nat.le_of_ble_eq_true rfl⟩) hS (fun q _ h => hFc q h) hFc (fun r9 u t H locs ht hvm hw hB hz1 hk1 hS => ?_)
      obtain ⟨hP, hD⟩ := wj_s (wc := (wWX9 cB cI cZ a1 r2.2.1 r2.2.2)) (w1 := (wWX9 cB cI cZ a1 r4.2.1 r4.2.2)) (wf := ((wWX1 cB cI cZ a0 I0 M0) ++ (wWX9 cB cI cZ a1 r4.2.1 r4.2.2))) 3 5 hP hD rfl rfl hk1 hFc ht hB
      rw [hw]
      refine lv_if_ne (tgt := 38) hx hb dX1_readDegree_33 (by decide) (fun hc => ?_) (fun hc => ?_)
      · replace hf := wb_f hc hf
        refine lv_aload_n hx hb dX1_readDegree_38 rfl (lv_at hl 1 rfl) ?_
        refine va_get (D := D) (ci := 1) (v := .ref (a0 2)) (C := RX1) (T := TX1) (N := 2) hx hb hts hinX1 hown hK hP 0 rfl rfl 1 (by decide) (hts (.fieldLink RX1 15 "WheelBook$Books" "draft" "[I") (List.mem_of_getElem? (i := 2) rfl)) (fun _ h9 => h9) rfl dX1_readDegree_39 ?_
        refine lv_iload_n hx hb dX1_readDegree_42 rfl (lv_at hl 3 rfl) ?_
        refine lv_bipush (v := (30 : Int32)) hx hb dX1_readDegree_43 (by decide) ?_
        refine lv_iload_n hx hb dX1_readDegree_45 rfl (lv_at hl 0 rfl) ?_
        refine lv_imul hx hb dX1_readDegree_46 ?_
        refine lv_aload_n hx hb dX1_readDegree_47 rfl (lv_at hl 2 rfl) ?_
        refine va_get (D := D) (ci := 9) (v := .int (r4.2.1 6)) (C := RX9) (T := TX9) (N := 10) hx hb hts hinX9 hown hK hP 3 rfl rfl 7 (by decide) (hts (.fieldLink RX1 53 "WheelBook$Text" "number" "I") (List.mem_of_getElem? (i := 1) rfl)) (fun _ h9 => h9) rfl dX1_readDegree_48 ?_
        refine lv_iadd hx hb dX1_readDegree_51 ?_
        obtain ⟨hin, hf⟩ := wb_n hf
        refine va_iast hx hb hK hP hD hS 2 1 rfl rfl hin dX1_readDegree_52 (fun H locs hP hD hS => ?_)
        have hP : va_P D vwCl ((wWX1 cB cI cZ a0 I0 (wb_um M0 1 (x2).toNatClampNeg (((30 : Int32) * v3) + (r4.2.1 6)))) ++ (wWX9 cB cI cZ a1 r4.2.1 r4.2.2)) H := hP
        have hD : va_D A ((wWX1 cB cI cZ a0 I0 (wb_um M0 1 (x2).toNatClampNeg (((30 : Int32) * v3) + (r4.2.1 6)))) ++ (wWX9 cB cI cZ a1 r4.2.1 r4.2.2)) := hD
        obtain ⟨M0_5, eM0_5, hf⟩ := wb_v hf
        rw [← eM0_5] at hP hD
        refine lv_aload_n hx hb dX1_readDegree_53 rfl (lv_at hl 2 rfl) ?_
        obtain ⟨r6, hr6, hf⟩ := wb_b hf
        have hPc := hP.sub (ws' := (wWX9 cB cI cZ a1 r4.2.1 r4.2.2)) [3, 4] rfl
        have hDc := hD.sub (ws' := (wWX9 cB cI cZ a1 r4.2.1 r4.2.2)) [3, 4] (by decide) rfl
        have hFc := va_free (wc := (wWX9 cB cI cZ a1 r4.2.1 r4.2.2)) hD hS hA [3, 4] rfl
        refine va_calli (va_runV (As := []) (rest := []) ⟨hx, hb, hml, hown, hts⟩ (cn_X9_takeStop l D cB cI cZ N a1 r4.2.1 r4.2.2 H.size r6 hr6) (cwV 0 hts gX1_readDegree_X9_takeStop rfl rfl rfl cdX9_takeStop ⟨Nat.le_of_ble_eq_true rfl, Nat.le_of_ble_eq_true rfl⟩) (wb_preDV hPc hK hDc (wr_9 hK hP (q0 := 3) rfl)) rfl rfl hl.1 rfl (lv_room (Nat.le_of_ble_eq_true rfl)) dX1_readDegree_54 ⟨Nat.le_of_ble_eq_true rfl, Nat.le_of_ble_eq_true rfl⟩) hS (fun q _ h => hFc q h) hFc (fun r9 u t H locs ht hvm hw hB hz1 hk1 hS => ?_)
        obtain ⟨hP, hD⟩ := wj_s (wc := (wWX9 cB cI cZ a1 r4.2.1 r4.2.2)) (w1 := (wWX9 cB cI cZ a1 r6.2.1 r6.2.2)) (wf := ((wWX1 cB cI cZ a0 I0 M0_5) ++ (wWX9 cB cI cZ a1 r6.2.1 r6.2.2))) 3 5 hP hD rfl rfl hk1 hFc ht hB
        rw [hw]
        obtain ⟨hz, hf⟩ := wb_y hf
        exact W.zret (v := r6.1) hx hb hr (congrArg Value.int hz) (fun t ht hW => by rw [← Option.some.inj hf]; exact ⟨⟨r6.1, (), rfl, rfl, by rw [ht]; exact hP, va_K.moved hW.alike hK, hD⟩, hS.F ht⟩) hS.2.2 dX1_readDegree_57
      · replace hf := wb_t hc hf
        refine lv_iconst (v := (0 : Int32)) hx hb dX1_readDegree_36 (by decide) ?_
        exact W.zret (v := (0 : Int32)) hx hb hr (by decide) (fun t ht hW => by rw [← Option.some.inj hf]; exact ⟨⟨(0 : Int32), (), rfl, rfl, by rw [ht]; exact hP, va_K.moved hW.alike hK, hD⟩, hS.F ht⟩) hS.2.2 dX1_readDegree_37
    · replace hf := wb_t hc hf
      refine lv_iconst (v := (0 : Int32)) hx hb dX1_readDegree_19 (by decide) ?_
      exact W.zret (v := (0 : Int32)) hx hb hr (by decide) (fun t ht hW => by rw [← Option.some.inj hf]; exact ⟨⟨(0 : Int32), (), rfl, rfl, by rw [ht]; exact hP, va_K.moved hW.alike hK, hD⟩, hS.F ht⟩) hS.2.2 dX1_readDegree_20

set_option maxHeartbeats 4000000 in
set_option maxRecDepth 100000 in
theorem cn_X1_readDate (l : Launch) (D : va_G) (cB cI cZ : ClassId) (N : Nat) (a0 : Nat → Nat) (I0 : Nat → Int32) (M0 : Nat → Nat → Int32) (a1 : Nat → Nat) (I1 : Nat → Int32) (M1 : Nat → Nat → Int32) (sz : Nat) (R : Int32 × (Nat → Int32) × (Nat → Nat → Int32) × (Nat → Int32) × (Nat → Nat → Int32)) (hf : fX1_readDate N I0 M0 I1 M1 = some R) : Met l yX1_readDate wsX1_readDate ({ frames := 3, cells := 0, slots := 0, locals := 65 }) (va_Pc [.ref (a0 0), .ref (a1 0)] (wb_preD D [(cB, .byte), (cI, .int), (cZ, .boolean)] ((wWX1 cB cI cZ a0 I0 M0) ++ (wWX9 cB cI cZ a1 I1 M1)) sz)) (va_Qi (fun r (_ : Unit) => r = R.1) (fun _ t => wb_post D [(cB, .byte), (cI, .int), (cZ, .boolean)] (va_A ((wWX1 cB cI cZ a0 I0 M0) ++ (wWX9 cB cI cZ a1 I1 M1)) sz) ((wWX1 cB cI cZ a0 R.2.1 R.2.2.1) ++ (wWX9 cB cI cZ a1 R.2.2.2.1 R.2.2.2.2)) t) (va_A ((wWX1 cB cI cZ a0 I0 M0) ++ (wWX9 cB cI cZ a1 I1 M1)) sz)) 0 0 (va_A ((wWX1 cB cI cZ a0 I0 M0) ++ (wWX9 cB cI cZ a1 I1 M1)) sz) := by
  refine Met.ofW (cc := cX1_readDate) (maxL := 3) (ret := (some .boolean)) pn_X1 rfl ?_
  intro p e s m args below meth c s₁ B hml hv
  obtain ⟨rfl, hsz, hP, hK, hD0⟩ := hv
  have hx := B.exec
  have hb := B.bytes
  have hr := B.returns
  have hts := atoms_spec (ws := wsX1_readDate) B.pre
  have hown : s.vm.findClass RX1 = some m.cls := (findClass_of_methodNamed B.named :)
  have hlocks := B.notSynchronized
  have hinX1 : ∀ w ∈ u_ws RX1 TX1 2, w ∈ wsX1_readDate := fun w h => List.mem_cons_of_mem _ (List.mem_append_right _ h)
  have hinX9 : ∀ w ∈ u_ws RX9 TX9 10, w ∈ wsX1_readDate := fun w h => List.mem_cons_of_mem _ (List.mem_append_left _ (List.mem_append_right _ h))
  subst hsz
  have hD := hD0.self (sz := s.heap.size)
  generalize hAe : va_A ((wWX1 cB cI cZ a0 I0 M0) ++ (wWX9 cB cI cZ a1 I1 M1)) s.heap.size = A at hD ⊢
  have hA : ∀ q : Nat, s.heap.size ≤ q → A q := fun q h => by rw [← hAe]; exact Or.inr h
  have hS : va_S A s.heap s.heap [] := va_S.rf
  have hl := lv_entry ([.ref (a0 0), .ref (a1 0)]) (n := 3) (Nat.le_of_ble_eq_true rfl)
  rw [lg_entry_eq]
  generalize (lg_sl ([.ref (a0 0), .ref (a1 0)]) ++ List.replicate (3 - (lg_sl ([.ref (a0 0), .ref (a1 0)])).length) Slot.unset).toArray = ls at hl ⊢
  have hl : lv_has ls 3 [(0, .ref (a0 0)), (1, .ref (a1 0))] := hl
  unfold fX1_readDate at hf
  obtain ⟨H, hHe⟩ : ∃ H : Heap, H = s.heap := ⟨_, rfl⟩
  obtain ⟨locs, hle⟩ : ∃ locs : List Loc, locs = [] := ⟨_, rfl⟩
  refine wb_start (H := H) (locs := locs) hHe hle ?_
  rw [← hHe] at hP
  have hS : va_S A s.heap H locs := by rw [hHe, hle]; exact va_S.rf
  have J41 : ∀ (I0_j41 : Nat → Int32) (M0_j41 : Nat → Nat → Int32) (I1_j41 : Nat → Int32) (M1_j41 : Nat → Nat → Int32) (y41_2 : Int32) (z41_0 : Int32) (z41_1 : Int32) (H : Heap) (locs : List Loc), va_P D vwCl ((wWX1 cB cI cZ a0 I0_j41 M0_j41) ++ (wWX9 cB cI cZ a1 I1_j41 M1_j41)) H → va_D A ((wWX1 cB cI cZ a0 I0_j41 M0_j41) ++ (wWX9 cB cI cZ a1 I1_j41 M1_j41)) → va_S A s.heap H locs → ∀ (ls : Array Slot), lv_has ls 3 [(0, .ref (a0 0)), (1, .ref (a1 0)), (2, .int y41_2)] → fX1_readDate_J41 N I0_j41 M0_j41 I1_j41 M1_j41 y41_2 z41_0 z41_1 = some R → W p l e (headSpec wsX1_readDate { frames := 3, cells := 0, slots := 0, locals := 65 }).room s m [.ref (a0 0), .ref (a1 0)].toArray below meth c H locs 0 0 (MQ below (va_Qi (fun r (_ : Unit) => r = R.1) (fun _ t => wb_post D [(cB, .byte), (cI, .int), (cZ, .boolean)] A ((wWX1 cB cI cZ a0 R.2.1 R.2.2.1) ++ (wWX9 cB cI cZ a1 R.2.2.2.1 R.2.2.2.2)) t) A) [.ref (a0 0), .ref (a1 0)].toArray s 0 0 A) (F0 m 41 ls [.int z41_0, .int z41_1, .ref (a1 0)]) := by
    intro I0_j41 M0_j41 I1_j41 M1_j41 y41_2 z41_0 z41_1 H locs hP hD hS ls hl hf
    unfold fX1_readDate_J41 at hf
    obtain ⟨r1, hr1, hf⟩ := wb_b hf
    have hPc := hP.sub (ws' := (wWX9 cB cI cZ a1 I1_j41 M1_j41)) [3, 4] rfl
    have hDc := hD.sub (ws' := (wWX9 cB cI cZ a1 I1_j41 M1_j41)) [3, 4] (by decide) rfl
    have hFc := va_free (wc := (wWX9 cB cI cZ a1 I1_j41 M1_j41)) hD hS hA [3, 4] rfl
    refine va_calli (va_runV (As := [.int z41_1, .int z41_0]) (rest := []) ⟨hx, hb, hml, hown, hts⟩ (cn_X9_takeNumber l D cB cI cZ N a1 I1_j41 M1_j41 z41_1 z41_0 H.size r1 hr1) (cwV 2 hts gX1_readDate_X9_takeNumber rfl rfl rfl cdX9_takeNumber ⟨Nat.le_of_ble_eq_true rfl, Nat.le_of_ble_eq_true rfl⟩) (wb_preDV hPc hK hDc (wr_9 hK hP (q0 := 3) rfl)) rfl rfl hl.1 rfl (lv_room (Nat.le_of_ble_eq_true rfl)) dX1_readDate_41 ⟨Nat.le_of_ble_eq_true rfl, Nat.le_of_ble_eq_true rfl⟩) hS (fun q _ h => hFc q h) hFc (fun r9 u t H locs ht hvm hw hB hz1 hk1 hS => ?_)
    obtain ⟨hP, hD⟩ := wj_s (wc := (wWX9 cB cI cZ a1 I1_j41 M1_j41)) (w1 := (wWX9 cB cI cZ a1 r1.2.1 r1.2.2)) (wf := ((wWX1 cB cI cZ a0 I0_j41 M0_j41) ++ (wWX9 cB cI cZ a1 r1.2.1 r1.2.2))) 3 5 hP hD rfl rfl hk1 hFc ht hB
    rw [hw]
    refine lv_if_ne (tgt := 49) hx hb dX1_readDate_44 (by decide) (fun hc => ?_) (fun hc => ?_)
    · replace hf := wb_f hc hf
      refine lv_aload_n hx hb dX1_readDate_49 rfl (lv_at hl 0 rfl) ?_
      refine va_get (D := D) (ci := 1) (v := .ref (a0 2)) (C := RX1) (T := TX1) (N := 2) hx hb hts hinX1 hown hK hP 0 rfl rfl 1 (by decide) (hts (.fieldLink RX1 15 "WheelBook$Books" "draft" "[I") (List.mem_of_getElem? (i := 2) rfl)) (fun _ h9 => h9) rfl dX1_readDate_50 ?_
      refine lv_bipush (v := (21 : Int32)) hx hb dX1_readDate_53 (by decide) ?_
      refine lv_bipush (v := (30 : Int32)) hx hb dX1_readDate_55 (by decide) ?_
      refine lv_iload_n hx hb dX1_readDate_57 rfl (lv_at hl 2 rfl) ?_
      refine lv_imul hx hb dX1_readDate_58 ?_
      refine lv_aload_n hx hb dX1_readDate_59 rfl (lv_at hl 1 rfl) ?_
      refine va_get (D := D) (ci := 9) (v := .int (r1.2.1 6)) (C := RX9) (T := TX9) (N := 10) hx hb hts hinX9 hown hK hP 3 rfl rfl 7 (by decide) (hts (.fieldLink RX1 53 "WheelBook$Text" "number" "I") (List.mem_of_getElem? (i := 1) rfl)) (fun _ h9 => h9) rfl dX1_readDate_60 ?_
      refine lv_iadd hx hb dX1_readDate_63 ?_
      obtain ⟨hin, hf⟩ := wb_n hf
      refine va_iast hx hb hK hP hD hS 2 1 rfl rfl hin dX1_readDate_64 (fun H locs hP hD hS => ?_)
      have hP : va_P D vwCl ((wWX1 cB cI cZ a0 I0_j41 (wb_um M0_j41 1 ((21 : Int32)).toNatClampNeg (((30 : Int32) * y41_2) + (r1.2.1 6)))) ++ (wWX9 cB cI cZ a1 r1.2.1 r1.2.2)) H := hP
      have hD : va_D A ((wWX1 cB cI cZ a0 I0_j41 (wb_um M0_j41 1 ((21 : Int32)).toNatClampNeg (((30 : Int32) * y41_2) + (r1.2.1 6)))) ++ (wWX9 cB cI cZ a1 r1.2.1 r1.2.2)) := hD
      obtain ⟨M0_2, eM0_2, hf⟩ := wb_v hf
      rw [← eM0_2] at hP hD
      refine lv_aload_n hx hb dX1_readDate_65 rfl (lv_at hl 1 rfl) ?_
      obtain ⟨r3, hr3, hf⟩ := wb_b hf
      have hPc := hP.sub (ws' := (wWX9 cB cI cZ a1 r1.2.1 r1.2.2)) [3, 4] rfl
      have hDc := hD.sub (ws' := (wWX9 cB cI cZ a1 r1.2.1 r1.2.2)) [3, 4] (by decide) rfl
      have hFc := va_free (wc := (wWX9 cB cI cZ a1 r1.2.1 r1.2.2)) hD hS hA [3, 4] rfl
      refine va_calli (va_runV (As := []) (rest := []) ⟨hx, hb, hml, hown, hts⟩ (cn_X9_takeStop l D cB cI cZ N a1 r1.2.1 r1.2.2 H.size r3 hr3) (cwV 0 hts gX1_readDate_X9_takeStop rfl rfl rfl cdX9_takeStop ⟨Nat.le_of_ble_eq_true rfl, Nat.le_of_ble_eq_true rfl⟩) (wb_preDV hPc hK hDc (wr_9 hK hP (q0 := 3) rfl)) rfl rfl hl.1 rfl (lv_room (Nat.le_of_ble_eq_true rfl)) dX1_readDate_66 ⟨Nat.le_of_ble_eq_true rfl, Nat.le_of_ble_eq_true rfl⟩) hS (fun q _ h => hFc q h) hFc (fun r9 u t H locs ht hvm hw hB hz1 hk1 hS => ?_)
      obtain ⟨hP, hD⟩ := wj_s (wc := (wWX9 cB cI cZ a1 r1.2.1 r1.2.2)) (w1 := (wWX9 cB cI cZ a1 r3.2.1 r3.2.2)) (wf := ((wWX1 cB cI cZ a0 I0_j41 M0_2) ++ (wWX9 cB cI cZ a1 r3.2.1 r3.2.2))) 3 5 hP hD rfl rfl hk1 hFc ht hB
      rw [hw]
      obtain ⟨hz, hf⟩ := wb_y hf
      exact W.zret (v := r3.1) hx hb hr (congrArg Value.int hz) (fun t ht hW => by rw [← Option.some.inj hf]; exact ⟨⟨r3.1, (), rfl, rfl, by rw [ht]; exact hP, va_K.moved hW.alike hK, hD⟩, hS.F ht⟩) hS.2.2 dX1_readDate_69
    · replace hf := wb_t hc hf
      refine lv_iconst (v := (0 : Int32)) hx hb dX1_readDate_47 (by decide) ?_
      exact W.zret (v := (0 : Int32)) hx hb hr (by decide) (fun t ht hW => by rw [← Option.some.inj hf]; exact ⟨⟨(0 : Int32), (), rfl, rfl, by rw [ht]; exact hP, va_K.moved hW.alike hK, hD⟩, hS.F ht⟩) hS.2.2 dX1_readDate_48
  refine lv_aload_n hx hb dX1_readDate_0 rfl (lv_at hl 0 rfl) ?_
  refine lv_aload_n hx hb dX1_readDate_1 rfl (lv_at hl 1 rfl) ?_
  refine lv_bipush (v := (21 : Int32)) hx hb dX1_readDate_2 (by decide) ?_
  obtain ⟨r4, hr4, hf⟩ := wb_b hf
  have hPc := hP
  have hDc := hD
  have hFc := wj_F hDc hS hA
  refine va_calli (va_runV (As := [.ref (a1 0), .int (21 : Int32)]) (rest := []) ⟨hx, hb, hml, hown, hts⟩ (cn_X1_isNew l D cB cI cZ N a0 I0 M0 a1 I1 M1 (21 : Int32) H.size r4 hr4) (cwV 2 hts gX1_readDate_X1_isNew rfl rfl rfl cdX1_isNew ⟨Nat.le_of_ble_eq_true rfl, Nat.le_of_ble_eq_true rfl⟩) (wb_preDV hPc hK hDc (wr_1 hK hP (q0 := 0) rfl)) rfl rfl hl.1 rfl (lv_room (Nat.le_of_ble_eq_true rfl)) dX1_readDate_4 ⟨Nat.le_of_ble_eq_true rfl, Nat.le_of_ble_eq_true rfl⟩) hS (fun q _ h => hFc q h) hFc (fun r9 u t H locs ht hvm hw hB hz1 hk1 hS => ?_)
  obtain ⟨hP, hD⟩ := wj_0 hFc ht hB
  rw [hw]
  refine lv_if_eq (tgt := 20) hx hb dX1_readDate_7 (by decide) (fun hc => ?_) (fun hc => ?_)
  · replace hf := wb_t hc hf
    refine lv_iconst (v := (0 : Int32)) hx hb dX1_readDate_20 (by decide) ?_
    exact W.zret (v := (0 : Int32)) hx hb hr (by decide) (fun t ht hW => by rw [← Option.some.inj hf]; exact ⟨⟨(0 : Int32), (), rfl, rfl, by rw [ht]; exact hP, va_K.moved hW.alike hK, hD⟩, hS.F ht⟩) hS.2.2 dX1_readDate_21
  · replace hf := wb_f hc hf
    refine lv_aload_n hx hb dX1_readDate_10 rfl (lv_at hl 1 rfl) ?_
    refine lv_iconst (v := (0 : Int32)) hx hb dX1_readDate_11 (by decide) ?_
    refine lv_bipush (v := (12 : Int32)) hx hb dX1_readDate_12 (by decide) ?_
    obtain ⟨r5, hr5, hf⟩ := wb_b hf
    have hPc := hP.sub (ws' := (wWX9 cB cI cZ a1 r4.2.1 r4.2.2)) [3, 4] rfl
    have hDc := hD.sub (ws' := (wWX9 cB cI cZ a1 r4.2.1 r4.2.2)) [3, 4] (by decide) rfl
    have hFc := va_free (wc := (wWX9 cB cI cZ a1 r4.2.1 r4.2.2)) hD hS hA [3, 4] rfl
    refine va_calli (va_runV (As := [.int (0 : Int32), .int (12 : Int32)]) (rest := []) ⟨hx, hb, hml, hown, hts⟩ (cn_X9_takeNumber l D cB cI cZ N a1 r4.2.1 r4.2.2 (0 : Int32) (12 : Int32) H.size r5 hr5) (cwV 2 hts gX1_readDate_X9_takeNumber rfl rfl rfl cdX9_takeNumber ⟨Nat.le_of_ble_eq_true rfl, Nat.le_of_ble_eq_true rfl⟩) (wb_preDV hPc hK hDc (wr_9 hK hP (q0 := 3) rfl)) rfl rfl hl.1 rfl (lv_room (Nat.le_of_ble_eq_true rfl)) dX1_readDate_14 ⟨Nat.le_of_ble_eq_true rfl, Nat.le_of_ble_eq_true rfl⟩) hS (fun q _ h => hFc q h) hFc (fun r9 u t H locs ht hvm hw hB hz1 hk1 hS => ?_)
    obtain ⟨hP, hD⟩ := wj_s (wc := (wWX9 cB cI cZ a1 r4.2.1 r4.2.2)) (w1 := (wWX9 cB cI cZ a1 r5.2.1 r5.2.2)) (wf := ((wWX1 cB cI cZ a0 I0 M0) ++ (wWX9 cB cI cZ a1 r5.2.1 r5.2.2))) 3 5 hP hD rfl rfl hk1 hFc ht hB
    rw [hw]
    refine lv_if_ne (tgt := 22) hx hb dX1_readDate_17 (by decide) (fun hc => ?_) (fun hc => ?_)
    · replace hf := wb_f hc hf
      refine lv_aload_n hx hb dX1_readDate_22 rfl (lv_at hl 1 rfl) ?_
      refine va_get (D := D) (ci := 9) (v := .int (r5.2.1 6)) (C := RX9) (T := TX9) (N := 10) hx hb hts hinX9 hown hK hP 3 rfl rfl 7 (by decide) (hts (.fieldLink RX1 53 "WheelBook$Text" "number" "I") (List.mem_of_getElem? (i := 1) rfl)) (fun _ h9 => h9) rfl dX1_readDate_23 ?_
      obtain ⟨v6, ev6, hf⟩ := wb_v hf
      refine wb_topi ev6 ?_
      refine lv_istore_n (lv' := [(2, .int v6), (0, .ref (a0 0)), (1, .ref (a1 0))]) hx hb dX1_readDate_26 rfl hl (by decide) rfl (fun ls hl => ?_)
      refine lv_aload_n hx hb dX1_readDate_27 rfl (lv_at hl 2 rfl) ?_
      refine lv_iconst (v := (0 : Int32)) hx hb dX1_readDate_28 (by decide) ?_
      refine lv_iload_n hx hb dX1_readDate_29 rfl (lv_at hl 0 rfl) ?_
      refine lv_bipush (v := (12 : Int32)) hx hb dX1_readDate_30 (by decide) ?_
      refine lv_icmp_ne (tgt := 39) hx hb dX1_readDate_32 (by decide) (fun hc => ?_) (fun hc => ?_)
      · replace hf := wb_f hc hf
        refine lv_bipush (v := (29 : Int32)) hx hb dX1_readDate_39 (by decide) ?_
        exact J41 I0 M0 r5.2.1 r5.2.2 v6 (29 : Int32) (0 : Int32) H locs hP hD hS ls (lv_sub hl [1, 2, 0] rfl) hf
      · replace hf := wb_t hc hf
        refine lv_iconst (v := (4 : Int32)) hx hb dX1_readDate_35 (by decide) ?_
        refine lv_goto (tgt := 41) hx hb dX1_readDate_36 (by decide) ?_
        exact J41 I0 M0 r5.2.1 r5.2.2 v6 (4 : Int32) (0 : Int32) H locs hP hD hS ls (lv_sub hl [1, 2, 0] rfl) hf
    · replace hf := wb_t hc hf
      refine lv_iconst (v := (0 : Int32)) hx hb dX1_readDate_20 (by decide) ?_
      exact W.zret (v := (0 : Int32)) hx hb hr (by decide) (fun t ht hW => by rw [← Option.some.inj hf]; exact ⟨⟨(0 : Int32), (), rfl, rfl, by rw [ht]; exact hP, va_K.moved hW.alike hK, hD⟩, hS.F ht⟩) hS.2.2 dX1_readDate_21

set_option maxHeartbeats 4000000 in
set_option maxRecDepth 100000 in
theorem cn_X1_readEntry (l : Launch) (D : va_G) (cB cI cZ : ClassId) (N : Nat) (aK aV : Nat → Nat) (a0 : Nat → Nat) (I0 : Nat → Int32) (M0 : Nat → Nat → Int32) (a1 : Nat → Nat) (I1 : Nat → Int32) (M1 : Nat → Nat → Int32) (sz : Nat) (R : Int32 × (Nat → Int32) × (Nat → Nat → Int32) × (Nat → Int32) × (Nat → Nat → Int32)) (hf : fX1_readEntry N I0 M0 I1 M1 = some R) : Met l yX1_readEntry wsX1_readEntry ({ frames := 6, cells := 0, slots := 0, locals := 165 }) (va_Pc [.ref (a0 0), .ref (a1 0)] (wb_preDE D [(cB, .byte), (cI, .int), (cZ, .boolean)] ((wWX1 cB cI cZ a0 I0 M0) ++ (wWX9 cB cI cZ a1 I1 M1)) sz aK aV)) (va_Qi (fun r (_ : Unit) => r = R.1) (fun _ t => wb_post D [(cB, .byte), (cI, .int), (cZ, .boolean)] (va_A ((wWX1 cB cI cZ a0 I0 M0) ++ (wWX9 cB cI cZ a1 I1 M1)) sz) ((wWX1 cB cI cZ a0 R.2.1 R.2.2.1) ++ (wWX9 cB cI cZ a1 R.2.2.2.1 R.2.2.2.2)) t) (va_A ((wWX1 cB cI cZ a0 I0 M0) ++ (wWX9 cB cI cZ a1 I1 M1)) sz)) 0 0 (va_A ((wWX1 cB cI cZ a0 I0 M0) ++ (wWX9 cB cI cZ a1 I1 M1)) sz) := by
  refine Met.ofW (cc := cX1_readEntry) (maxL := 3) (ret := (some .boolean)) pn_X1 rfl ?_
  intro p e s m args below meth c s₁ B hml hv
  obtain ⟨rfl, ⟨hsz, hP, hK, hD0⟩, hZ⟩ := hv
  have hx := B.exec
  have hb := B.bytes
  have hr := B.returns
  have hts := atoms_spec (ws := wsX1_readEntry) B.pre
  have hown : s.vm.findClass RX1 = some m.cls := (findClass_of_methodNamed B.named :)
  have hlocks := B.notSynchronized
  have hinX9 : ∀ w ∈ u_ws RX9 TX9 10, w ∈ wsX1_readEntry := fun w h => List.mem_cons_of_mem _ (List.mem_append_left _ (List.mem_append_right _ h))
  subst hsz
  have hD := hD0.self (sz := s.heap.size)
  generalize hAe : va_A ((wWX1 cB cI cZ a0 I0 M0) ++ (wWX9 cB cI cZ a1 I1 M1)) s.heap.size = A at hD hZ ⊢
  have hA : ∀ q : Nat, s.heap.size ≤ q → A q := fun q h => by rw [← hAe]; exact Or.inr h
  have hS : va_S A s.heap s.heap [] := va_S.rf
  have hl := lv_entry ([.ref (a0 0), .ref (a1 0)]) (n := 3) (Nat.le_of_ble_eq_true rfl)
  rw [lg_entry_eq]
  generalize (lg_sl ([.ref (a0 0), .ref (a1 0)]) ++ List.replicate (3 - (lg_sl ([.ref (a0 0), .ref (a1 0)])).length) Slot.unset).toArray = ls at hl ⊢
  have hl : lv_has ls 3 [(0, .ref (a0 0)), (1, .ref (a1 0))] := hl
  unfold fX1_readEntry at hf
  obtain ⟨H, hHe⟩ : ∃ H : Heap, H = s.heap := ⟨_, rfl⟩
  obtain ⟨locs, hle⟩ : ∃ locs : List Loc, locs = [] := ⟨_, rfl⟩
  refine wb_start (H := H) (locs := locs) hHe hle ?_
  rw [← hHe] at hP
  have hS : va_S A s.heap H locs := by rw [hHe, hle]; exact va_S.rf
  refine lv_aload_n hx hb dX1_readEntry_0 rfl (lv_at hl 1 rfl) ?_
  refine va_ldcS hx hb hown (hZ.2.1 0 (RX1, 40, "house") rfl) dX1_readEntry_1 ?_
  obtain ⟨r1, hr1, hf⟩ := wb_b hf
  refine vp_callSi (W.runV (As := [.ref (aK 0)]) (rest := []) ⟨hx, hb, hml, hown, hts⟩ (cn_X9_isWord l D cB cI cZ N aK aV a1 I1 M1 0 (by decide) r1 hr1) (cwV 1 hts gX1_readEntry_X9_isWord rfl rfl rfl cdX9_isWord ⟨Nat.le_of_ble_eq_true rfl, Nat.le_of_ble_eq_true rfl⟩) (wb_preEV (hP.sub (ws' := (wWX9 cB cI cZ a1 I1 M1)) [3, 4] rfl) hK (wr_9 hK hP (q0 := 3) rfl) hZ hS) rfl rfl hl.1 rfl (lv_room (Nat.le_of_ble_eq_true rfl)) dX1_readEntry_3 ⟨Nat.le_of_ble_eq_true rfl, Nat.le_of_ble_eq_true rfl⟩) (fun r9 e9 => ?_)
  rw [e9]
  refine lv_if_eq (tgt := 44) hx hb dX1_readEntry_6 (by decide) (fun hc => ?_) (fun hc => ?_)
  · replace hf := wb_t hc hf
    refine lv_aload_n hx hb dX1_readEntry_44 rfl (lv_at hl 1 rfl) ?_
    refine va_ldcS hx hb hown (hZ.2.1 1 (RX1, 61, "date") rfl) dX1_readEntry_45 ?_
    obtain ⟨r2, hr2, hf⟩ := wb_b hf
    refine vp_callSi (W.runV (As := [.ref (aK 1)]) (rest := []) ⟨hx, hb, hml, hown, hts⟩ (cn_X9_isWord l D cB cI cZ N aK aV a1 I1 M1 1 (by decide) r2 hr2) (cwV 1 hts gX1_readEntry_X9_isWord rfl rfl rfl cdX9_isWord ⟨Nat.le_of_ble_eq_true rfl, Nat.le_of_ble_eq_true rfl⟩) (wb_preEV (hP.sub (ws' := (wWX9 cB cI cZ a1 I1 M1)) [3, 4] rfl) hK (wr_9 hK hP (q0 := 3) rfl) hZ hS) rfl rfl hl.1 rfl (lv_room (Nat.le_of_ble_eq_true rfl)) dX1_readEntry_47 ⟨Nat.le_of_ble_eq_true rfl, Nat.le_of_ble_eq_true rfl⟩) (fun r9 e9 => ?_)
    rw [e9]
    refine lv_if_eq (tgt := 59) hx hb dX1_readEntry_50 (by decide) (fun hc => ?_) (fun hc => ?_)
    · replace hf := wb_t hc hf
      refine lv_aload_n hx hb dX1_readEntry_59 rfl (lv_at hl 1 rfl) ?_
      refine lv_bipush (v := (9 : Int32)) hx hb dX1_readEntry_60 (by decide) ?_
      obtain ⟨r3, hr3, hf⟩ := wb_b hf
      refine vp_callSi (W.runV (As := [.int (9 : Int32)]) (rest := []) ⟨hx, hb, hml, hown, hts⟩ (cn_X9_namedOf l D cB cI cZ N aK aV a1 I1 M1 (9 : Int32) r3 hr3) (cwV 1 hts gX1_readEntry_X9_namedOf rfl rfl rfl cdX9_namedOf ⟨Nat.le_of_ble_eq_true rfl, Nat.le_of_ble_eq_true rfl⟩) (wb_preEV (hP.sub (ws' := (wWX9 cB cI cZ a1 I1 M1)) [3, 4] rfl) hK (wr_9 hK hP (q0 := 3) rfl) hZ hS) rfl rfl hl.1 rfl (lv_room (Nat.le_of_ble_eq_true rfl)) dX1_readEntry_62 ⟨Nat.le_of_ble_eq_true rfl, Nat.le_of_ble_eq_true rfl⟩) (fun r9 e9 => ?_)
      rw [e9]
      refine lv_istore_n (lv' := [(2, .int r3), (0, .ref (a0 0)), (1, .ref (a1 0))]) hx hb dX1_readEntry_65 rfl hl (by decide) rfl (fun ls hl => ?_)
      refine lv_iload_n hx hb dX1_readEntry_66 rfl (lv_at hl 0 rfl) ?_
      refine lv_iconst (v := (-1 : Int32)) hx hb dX1_readEntry_67 (by decide) ?_
      refine lv_icmp_ne (tgt := 79) hx hb dX1_readEntry_68 (by decide) (fun hc => ?_) (fun hc => ?_)
      · replace hf := wb_f hc hf
        refine lv_aload_n hx hb dX1_readEntry_79 rfl (lv_at hl 1 rfl) ?_
        refine lv_aload_n hx hb dX1_readEntry_80 rfl (lv_at hl 2 rfl) ?_
        refine lv_iload_n hx hb dX1_readEntry_81 rfl (lv_at hl 0 rfl) ?_
        obtain ⟨r4, hr4, hf⟩ := wb_b hf
        have hPc := hP
        have hDc := hD
        have hFc := wj_F hDc hS hA
        refine va_calli (va_runV (As := [.ref (a1 0), .int r3]) (rest := []) ⟨hx, hb, hml, hown, hts⟩ (cn_X1_readDegree l D cB cI cZ N a0 I0 M0 a1 I1 M1 r3 H.size r4 hr4) (cwV 2 hts gX1_readEntry_X1_readDegree rfl rfl rfl cdX1_readDegree ⟨Nat.le_of_ble_eq_true rfl, Nat.le_of_ble_eq_true rfl⟩) (wb_preDV hPc hK hDc (wr_1 hK hP (q0 := 0) rfl)) rfl rfl hl.1 rfl (lv_room (Nat.le_of_ble_eq_true rfl)) dX1_readEntry_82 ⟨Nat.le_of_ble_eq_true rfl, Nat.le_of_ble_eq_true rfl⟩) hS (fun q _ h => hFc q h) hFc (fun r9 u t H locs ht hvm hw hB hz1 hk1 hS => ?_)
        obtain ⟨hP, hD⟩ := wj_0 hFc ht hB
        rw [hw]
        obtain ⟨hz, hf⟩ := wb_y hf
        exact W.zret (v := r4.1) hx hb hr (congrArg Value.int hz) (fun t ht hW => by rw [← Option.some.inj hf]; exact ⟨⟨r4.1, (), rfl, rfl, by rw [ht]; exact hP, va_K.moved hW.alike hK, hD⟩, hS.F ht⟩) hS.2.2 dX1_readEntry_85
      · replace hf := wb_t hc hf
        refine lv_aload_n hx hb dX1_readEntry_71 rfl (lv_at hl 2 rfl) ?_
        refine lv_iconst (v := (1 : Int32)) hx hb dX1_readEntry_72 (by decide) ?_
        obtain ⟨r5, hr5, hf⟩ := wb_b hf
        have hPc := hP.sub (ws' := (wWX9 cB cI cZ a1 I1 M1)) [3, 4] rfl
        have hDc := hD.sub (ws' := (wWX9 cB cI cZ a1 I1 M1)) [3, 4] (by decide) rfl
        have hFc := va_free (wc := (wWX9 cB cI cZ a1 I1 M1)) hD hS hA [3, 4] rfl
        refine va_calli (va_runV (As := [.int (1 : Int32)]) (rest := []) ⟨hx, hb, hml, hown, hts⟩ (cn_X9_refuse l D cB cI cZ N a1 I1 M1 (1 : Int32) H.size r5 hr5) (cwV 1 hts gX1_readEntry_X9_refuse rfl rfl rfl cdX9_refuse ⟨Nat.le_of_ble_eq_true rfl, Nat.le_of_ble_eq_true rfl⟩) (wb_preDV hPc hK hDc (wr_9 hK hP (q0 := 3) rfl)) rfl rfl hl.1 rfl (lv_room (Nat.le_of_ble_eq_true rfl)) dX1_readEntry_73 ⟨Nat.le_of_ble_eq_true rfl, Nat.le_of_ble_eq_true rfl⟩) hS (fun q _ h => hFc q h) hFc (fun r9 u t H locs ht hvm hw hB hz1 hk1 hS => ?_)
        obtain ⟨hP, hD⟩ := wj_s (wc := (wWX9 cB cI cZ a1 I1 M1)) (w1 := (wWX9 cB cI cZ a1 r5.2.1 r5.2.2)) (wf := ((wWX1 cB cI cZ a0 I0 M0) ++ (wWX9 cB cI cZ a1 r5.2.1 r5.2.2))) 3 5 hP hD rfl rfl hk1 hFc ht hB
        rw [hw]
        refine lv_goto (tgt := 85) hx hb dX1_readEntry_76 (by decide) ?_
        obtain ⟨hz, hf⟩ := wb_y hf
        exact W.zret (v := r5.1) hx hb hr (congrArg Value.int hz) (fun t ht hW => by rw [← Option.some.inj hf]; exact ⟨⟨r5.1, (), rfl, rfl, by rw [ht]; exact hP, va_K.moved hW.alike hK, hD⟩, hS.F ht⟩) hS.2.2 dX1_readEntry_85
    · replace hf := wb_f hc hf
      refine lv_aload_n hx hb dX1_readEntry_53 rfl (lv_at hl 0 rfl) ?_
      refine lv_aload_n hx hb dX1_readEntry_54 rfl (lv_at hl 1 rfl) ?_
      obtain ⟨r6, hr6, hf⟩ := wb_b hf
      have hPc := hP
      have hDc := hD
      have hFc := wj_F hDc hS hA
      refine va_calli (va_runV (As := [.ref (a1 0)]) (rest := []) ⟨hx, hb, hml, hown, hts⟩ (cn_X1_readDate l D cB cI cZ N a0 I0 M0 a1 I1 M1 H.size r6 hr6) (cwV 1 hts gX1_readEntry_X1_readDate rfl rfl rfl cdX1_readDate ⟨Nat.le_of_ble_eq_true rfl, Nat.le_of_ble_eq_true rfl⟩) (wb_preDV hPc hK hDc (wr_1 hK hP (q0 := 0) rfl)) rfl rfl hl.1 rfl (lv_room (Nat.le_of_ble_eq_true rfl)) dX1_readEntry_55 ⟨Nat.le_of_ble_eq_true rfl, Nat.le_of_ble_eq_true rfl⟩) hS (fun q _ h => hFc q h) hFc (fun r9 u t H locs ht hvm hw hB hz1 hk1 hS => ?_)
      obtain ⟨hP, hD⟩ := wj_0 hFc ht hB
      rw [hw]
      obtain ⟨hz, hf⟩ := wb_y hf
      exact W.zret (v := r6.1) hx hb hr (congrArg Value.int hz) (fun t ht hW => by rw [← Option.some.inj hf]; exact ⟨⟨r6.1, (), rfl, rfl, by rw [ht]; exact hP, va_K.moved hW.alike hK, hD⟩, hS.F ht⟩) hS.2.2 dX1_readEntry_58
  · replace hf := wb_f hc hf
    refine lv_aload_n hx hb dX1_readEntry_9 rfl (lv_at hl 1 rfl) ?_
    obtain ⟨r7, hr7, hf⟩ := wb_b hf
    have hPc := hP.sub (ws' := (wWX9 cB cI cZ a1 I1 M1)) [3, 4] rfl
    have hDc := hD.sub (ws' := (wWX9 cB cI cZ a1 I1 M1)) [3, 4] (by decide) rfl
    have hFc := va_free (wc := (wWX9 cB cI cZ a1 I1 M1)) hD hS hA [3, 4] rfl
    refine va_callv (va_runV (As := []) (rest := []) ⟨hx, hb, hml, hown, hts⟩ (cn_X9_step l D cB cI cZ N a1 I1 M1 H.size r7 hr7) (cwV 0 hts gX1_readEntry_X9_step rfl rfl rfl cdX9_step ⟨Nat.le_of_ble_eq_true rfl, Nat.le_of_ble_eq_true rfl⟩) (wb_preDV hPc hK hDc (wr_9 hK hP (q0 := 3) rfl)) rfl rfl hl.1 rfl (lv_room (Nat.le_of_ble_eq_true rfl)) dX1_readEntry_10 ⟨Nat.le_of_ble_eq_true rfl, Nat.le_of_ble_eq_true rfl⟩) hS (fun q _ h => hFc q h) hFc (fun u t H locs ht hvm hw hB hz1 hk1 hS => ?_)
    obtain ⟨hP, hD⟩ := wj_s (wc := (wWX9 cB cI cZ a1 I1 M1)) (w1 := (wWX9 cB cI cZ a1 r7.1 r7.2)) (wf := ((wWX1 cB cI cZ a0 I0 M0) ++ (wWX9 cB cI cZ a1 r7.1 r7.2))) 3 5 hP hD rfl rfl hk1 hFc ht hB
    refine lv_aload_n hx hb dX1_readEntry_13 rfl (lv_at hl 1 rfl) ?_
    refine lv_iconst (v := (1 : Int32)) hx hb dX1_readEntry_14 (by decide) ?_
    refine lv_bipush (v := (12 : Int32)) hx hb dX1_readEntry_15 (by decide) ?_
    obtain ⟨r8, hr8, hf⟩ := wb_b hf
    have hPc := hP.sub (ws' := (wWX9 cB cI cZ a1 r7.1 r7.2)) [3, 4] rfl
    have hDc := hD.sub (ws' := (wWX9 cB cI cZ a1 r7.1 r7.2)) [3, 4] (by decide) rfl
    have hFc := va_free (wc := (wWX9 cB cI cZ a1 r7.1 r7.2)) hD hS hA [3, 4] rfl
    refine va_calli (va_runV (As := [.int (1 : Int32), .int (12 : Int32)]) (rest := []) ⟨hx, hb, hml, hown, hts⟩ (cn_X9_holdsNumber l D cB cI cZ N a1 r7.1 r7.2 (1 : Int32) (12 : Int32) H.size r8 hr8) (cwV 2 hts gX1_readEntry_X9_holdsNumber rfl rfl rfl cdX9_holdsNumber ⟨Nat.le_of_ble_eq_true rfl, Nat.le_of_ble_eq_true rfl⟩) (wb_preDV hPc hK hDc (wr_9 hK hP (q0 := 3) rfl)) rfl rfl hl.1 rfl (lv_room (Nat.le_of_ble_eq_true rfl)) dX1_readEntry_17 ⟨Nat.le_of_ble_eq_true rfl, Nat.le_of_ble_eq_true rfl⟩) hS (fun q _ h => hFc q h) hFc (fun r9 u t H locs ht hvm hw hB hz1 hk1 hS => ?_)
    obtain ⟨hP, hD⟩ := wj_s (wc := (wWX9 cB cI cZ a1 r7.1 r7.2)) (w1 := (wWX9 cB cI cZ a1 r8.2.1 r8.2.2)) (wf := ((wWX1 cB cI cZ a0 I0 M0) ++ (wWX9 cB cI cZ a1 r8.2.1 r8.2.2))) 3 5 hP hD rfl rfl hk1 hFc ht hB
    rw [hw]
    refine lv_if_eq (tgt := 42) hx hb dX1_readEntry_20 (by decide) (fun hc => ?_) (fun hc => ?_)
    · replace hf := wb_t hc hf
      refine lv_iconst (v := (0 : Int32)) hx hb dX1_readEntry_42 (by decide) ?_
      exact W.zret (v := (0 : Int32)) hx hb hr (by decide) (fun t ht hW => by rw [← Option.some.inj hf]; exact ⟨⟨(0 : Int32), (), rfl, rfl, by rw [ht]; exact hP, va_K.moved hW.alike hK, hD⟩, hS.F ht⟩) hS.2.2 dX1_readEntry_43
    · replace hf := wb_f hc hf
      refine lv_aload_n hx hb dX1_readEntry_23 rfl (lv_at hl 0 rfl) ?_
      refine lv_aload_n hx hb dX1_readEntry_24 rfl (lv_at hl 1 rfl) ?_
      refine lv_bipush (v := (8 : Int32)) hx hb dX1_readEntry_25 (by decide) ?_
      refine lv_aload_n hx hb dX1_readEntry_27 rfl (lv_at hl 1 rfl) ?_
      refine va_get (D := D) (ci := 9) (v := .int (r8.2.1 6)) (C := RX9) (T := TX9) (N := 10) hx hb hts hinX9 hown hK hP 3 rfl rfl 7 (by decide) (hts (.fieldLink RX1 53 "WheelBook$Text" "number" "I") (List.mem_of_getElem? (i := 1) rfl)) (fun _ h9 => h9) rfl dX1_readEntry_28 ?_
      refine lv_iadd hx hb dX1_readEntry_31 ?_
      obtain ⟨r9b, hr9b, hf⟩ := wb_b hf
      have hPc := hP
      have hDc := hD
      have hFc := wj_F hDc hS hA
      refine va_calli (va_runV (As := [.ref (a1 0), .int ((8 : Int32) + (r8.2.1 6))]) (rest := []) ⟨hx, hb, hml, hown, hts⟩ (cn_X1_readDegree l D cB cI cZ N a0 I0 M0 a1 r8.2.1 r8.2.2 ((8 : Int32) + (r8.2.1 6)) H.size r9b hr9b) (cwV 2 hts gX1_readEntry_X1_readDegree rfl rfl rfl cdX1_readDegree ⟨Nat.le_of_ble_eq_true rfl, Nat.le_of_ble_eq_true rfl⟩) (wb_preDV hPc hK hDc (wr_1 hK hP (q0 := 0) rfl)) rfl rfl hl.1 rfl (lv_room (Nat.le_of_ble_eq_true rfl)) dX1_readEntry_32 ⟨Nat.le_of_ble_eq_true rfl, Nat.le_of_ble_eq_true rfl⟩) hS (fun q _ h => hFc q h) hFc (fun r9 u t H locs ht hvm hw hB hz1 hk1 hS => ?_)
      obtain ⟨hP, hD⟩ := wj_0 hFc ht hB
      rw [hw]
      refine lv_if_eq (tgt := 42) hx hb dX1_readEntry_35 (by decide) (fun hc => ?_) (fun hc => ?_)
      · replace hf := wb_t hc hf
        refine lv_iconst (v := (0 : Int32)) hx hb dX1_readEntry_42 (by decide) ?_
        exact W.zret (v := (0 : Int32)) hx hb hr (by decide) (fun t ht hW => by rw [← Option.some.inj hf]; exact ⟨⟨(0 : Int32), (), rfl, rfl, by rw [ht]; exact hP, va_K.moved hW.alike hK, hD⟩, hS.F ht⟩) hS.2.2 dX1_readEntry_43
      · replace hf := wb_f hc hf
        refine lv_iconst (v := (1 : Int32)) hx hb dX1_readEntry_38 (by decide) ?_
        refine lv_goto (tgt := 43) hx hb dX1_readEntry_39 (by decide) ?_
        exact W.zret (v := (1 : Int32)) hx hb hr (by decide) (fun t ht hW => by rw [← Option.some.inj hf]; exact ⟨⟨(1 : Int32), (), rfl, rfl, by rw [ht]; exact hP, va_K.moved hW.alike hK, hD⟩, hS.F ht⟩) hS.2.2 dX1_readEntry_43

set_option maxHeartbeats 4000000 in
set_option maxRecDepth 100000 in
theorem cn_X1_readEntries (l : Launch) (D : va_G) (cB cI cZ : ClassId) (N : Nat) (aK aV : Nat → Nat) (a0 : Nat → Nat) (I0 : Nat → Int32) (M0 : Nat → Nat → Int32) (a1 : Nat → Nat) (I1 : Nat → Int32) (M1 : Nat → Nat → Int32) (sz : Nat) (R : Int32 × (Nat → Int32) × (Nat → Nat → Int32) × (Nat → Int32) × (Nat → Nat → Int32)) (hf : fX1_readEntries N I0 M0 I1 M1 = some R) : Met l yX1_readEntries wsX1_readEntries ({ frames := 7, cells := 0, slots := 0, locals := 187 }) (va_Pc [.ref (a0 0), .ref (a1 0)] (wb_preDE D [(cB, .byte), (cI, .int), (cZ, .boolean)] ((wWX1 cB cI cZ a0 I0 M0) ++ (wWX9 cB cI cZ a1 I1 M1)) sz aK aV)) (va_Qi (fun r (_ : Unit) => r = R.1) (fun _ t => wb_post D [(cB, .byte), (cI, .int), (cZ, .boolean)] (va_A ((wWX1 cB cI cZ a0 I0 M0) ++ (wWX9 cB cI cZ a1 I1 M1)) sz) ((wWX1 cB cI cZ a0 R.2.1 R.2.2.1) ++ (wWX9 cB cI cZ a1 R.2.2.2.1 R.2.2.2.2)) t) (va_A ((wWX1 cB cI cZ a0 I0 M0) ++ (wWX9 cB cI cZ a1 I1 M1)) sz)) 0 0 (va_A ((wWX1 cB cI cZ a0 I0 M0) ++ (wWX9 cB cI cZ a1 I1 M1)) sz) := by
  refine Met.ofW (cc := cX1_readEntries) (maxL := 3) (ret := (some .boolean)) pn_X1 rfl ?_
  intro p e s m args below meth c s₁ B hml hv
  obtain ⟨rfl, ⟨hsz, hP, hK, hD0⟩, hZ⟩ := hv
  have hx := B.exec
  have hb := B.bytes
  have hr := B.returns
  have hts := atoms_spec (ws := wsX1_readEntries) B.pre
  have hown : s.vm.findClass RX1 = some m.cls := (findClass_of_methodNamed B.named :)
  have hlocks := B.notSynchronized
  have hinX1 : ∀ w ∈ u_ws RX1 TX1 2, w ∈ wsX1_readEntries := fun w h => List.mem_cons_of_mem _ (List.mem_append_left _ (List.mem_append_right _ h))
  subst hsz
  have hD := hD0.self (sz := s.heap.size)
  generalize hAe : va_A ((wWX1 cB cI cZ a0 I0 M0) ++ (wWX9 cB cI cZ a1 I1 M1)) s.heap.size = A at hD hZ ⊢
  have hA : ∀ q : Nat, s.heap.size ≤ q → A q := fun q h => by rw [← hAe]; exact Or.inr h
  have hS : va_S A s.heap s.heap [] := va_S.rf
  have hl := lv_entry ([.ref (a0 0), .ref (a1 0)]) (n := 3) (Nat.le_of_ble_eq_true rfl)
  rw [lg_entry_eq]
  generalize (lg_sl ([.ref (a0 0), .ref (a1 0)]) ++ List.replicate (3 - (lg_sl ([.ref (a0 0), .ref (a1 0)])).length) Slot.unset).toArray = ls at hl ⊢
  have hl : lv_has ls 3 [(0, .ref (a0 0)), (1, .ref (a1 0))] := hl
  unfold fX1_readEntries at hf
  obtain ⟨H, hHe⟩ : ∃ H : Heap, H = s.heap := ⟨_, rfl⟩
  obtain ⟨locs, hle⟩ : ∃ locs : List Loc, locs = [] := ⟨_, rfl⟩
  refine wb_start (H := H) (locs := locs) hHe hle ?_
  rw [← hHe] at hP
  have hS : va_S A s.heap H locs := by rw [hHe, hle]; exact va_S.rf
  refine lv_aload_n hx hb dX1_readEntries_0 rfl (lv_at hl 0 rfl) ?_
  refine va_get (D := D) (ci := 1) (v := .ref (a0 2)) (C := RX1) (T := TX1) (N := 2) hx hb hts hinX1 hown hK hP 0 rfl rfl 1 (by decide) (hts (.fieldLink RX1 15 "WheelBook$Books" "draft" "[I") (List.mem_of_getElem? (i := 1) rfl)) (fun _ h9 => h9) rfl dX1_readEntries_1 ?_
  refine lv_iconst (v := (-1 : Int32)) hx hb dX1_readEntries_4 (by decide) ?_
  obtain ⟨r1, hr1, hf⟩ := wb_b hf
  have hPc := hP.sub (ws' := ([(((a0 2), .inl (cI, 22, .inl (M0 1))) : Nat × va_E)] : va_W)) [2] rfl
  have hDc := hD.sub (ws' := ([(((a0 2), .inl (cI, 22, .inl (M0 1))) : Nat × va_E)] : va_W)) [2] (by decide) rfl
  have hFc := va_free (wc := ([(((a0 2), .inl (cI, 22, .inl (M0 1))) : Nat × va_E)] : va_W)) hD hS hA [2] rfl
  refine va_callv (va_runS (As := [.ref (a0 2), .int (-1 : Int32)]) (rest := []) ⟨hx, hb, hml, hown, hts⟩ (cn_J7_fill_53178 l D cB cI cZ N (a0 2) 22 (M0 1) (-1 : Int32) H.size r1 hr1) (va_cwS 2 hts gX1_readEntries_J7_fill_53178 rfl rfl rfl csJ7_fill_53178 ⟨Nat.le_of_ble_eq_true rfl, Nat.le_of_ble_eq_true rfl⟩) (wb_preDS hPc hK hDc) rfl rfl hl.1 rfl (lv_room (Nat.le_of_ble_eq_true rfl)) dX1_readEntries_5 ⟨Nat.le_of_ble_eq_true rfl, Nat.le_of_ble_eq_true rfl⟩) hS (fun q _ h => hFc q h) hFc (fun u t H locs ht hvm hw hB hz1 hk1 hS => ?_)
  obtain ⟨hP, hD⟩ := wj_s (wc := ([(((a0 2), .inl (cI, 22, .inl (M0 1))) : Nat × va_E)] : va_W)) (w1 := ([(((a0 2), .inl (cI, 22, .inl r1)) : Nat × va_E)] : va_W)) (wf := ((wWX1 cB cI cZ a0 I0 (wb_mm M0 1 r1)) ++ (wWX9 cB cI cZ a1 I1 M1))) 2 3 hP hD rfl rfl hk1 hFc ht hB
  obtain ⟨M0_2, eM0_2, hf⟩ := wb_v hf
  rw [← eM0_2] at hP hD
  refine lv_iconst (v := (0 : Int32)) hx hb dX1_readEntries_8 (by decide) ?_
  refine lv_istore_n (lv' := [(2, .int (0 : Int32)), (0, .ref (a0 0)), (1, .ref (a1 0))]) hx hb dX1_readEntries_9 rfl hl (by decide) rfl (fun ls hl => ?_)
  have L10 : ∀ (fu10 : Nat) (I0_l10 : Nat → Int32) (M0_l10 : Nat → Nat → Int32) (I1_l10 : Nat → Int32) (M1_l10 : Nat → Nat → Int32) (y10_2 : Int32) (H : Heap) (locs : List Loc), va_P D vwCl ((wWX1 cB cI cZ a0 I0_l10 M0_l10) ++ (wWX9 cB cI cZ a1 I1_l10 M1_l10)) H → va_D A ((wWX1 cB cI cZ a0 I0_l10 M0_l10) ++ (wWX9 cB cI cZ a1 I1_l10 M1_l10)) → va_S A s.heap H locs → ∀ (ls : Array Slot), lv_has ls 3 [(0, .ref (a0 0)), (1, .ref (a1 0)), (2, .int y10_2)] → fX1_readEntries_L10 N fu10 I0_l10 M0_l10 I1_l10 M1_l10 y10_2 = some R → W p l e (headSpec wsX1_readEntries { frames := 7, cells := 0, slots := 0, locals := 187 }).room s m [.ref (a0 0), .ref (a1 0)].toArray below meth c H locs 0 0 (MQ below (va_Qi (fun r (_ : Unit) => r = R.1) (fun _ t => wb_post D [(cB, .byte), (cI, .int), (cZ, .boolean)] A ((wWX1 cB cI cZ a0 R.2.1 R.2.2.1) ++ (wWX9 cB cI cZ a1 R.2.2.2.1 R.2.2.2.2)) t) A) [.ref (a0 0), .ref (a1 0)].toArray s 0 0 A) (F0 m 10 ls []) := by
    intro fu10
    induction fu10 with
    | zero =>
      intro I0_l10 M0_l10 I1_l10 M1_l10 y10_2 H locs hP hD hS ls hl hf
      exact absurd hf (by rw [fX1_readEntries_L10.eq_1]; exact fun h => nomatch h)
    | succ fu10 ih10 =>
      intro I0_l10 M0_l10 I1_l10 M1_l10 y10_2 H locs hP hD hS ls hl hf
      rw [fX1_readEntries_L10.eq_2] at hf
      refine lv_iload_n hx hb dX1_readEntries_10 rfl (lv_at hl 2 rfl) ?_
      refine lv_sipush (v := (600 : Int32)) hx hb dX1_readEntries_11 (by decide) ?_
      refine lv_icmp_ge (tgt := 40) hx hb dX1_readEntries_14 (by decide) (fun hc => ?_) (fun hc => ?_)
      · replace hf := wb_t hc hf
        refine lv_iconst (v := (1 : Int32)) hx hb dX1_readEntries_40 (by decide) ?_
        exact W.zret (v := (1 : Int32)) hx hb hr (by decide) (fun t ht hW => by rw [← Option.some.inj hf]; exact ⟨⟨(1 : Int32), (), rfl, rfl, by rw [ht]; exact hP, va_K.moved hW.alike hK, hD⟩, hS.F ht⟩) hS.2.2 dX1_readEntries_41
      · replace hf := wb_f hc hf
        refine lv_aload_n hx hb dX1_readEntries_17 rfl (lv_at hl 1 rfl) ?_
        obtain ⟨r3, hr3, hf⟩ := wb_b hf
        refine vp_callSi (W.runV (As := []) (rest := []) ⟨hx, hb, hml, hown, hts⟩ (cn_X9_isAtEnd l D cB cI cZ N a1 I1_l10 M1_l10 r3 hr3) (cwV 0 hts gX1_readEntries_X9_isAtEnd rfl rfl rfl cdX9_isAtEnd ⟨Nat.le_of_ble_eq_true rfl, Nat.le_of_ble_eq_true rfl⟩) (wb_preV (hP.sub (ws' := (wWX9 cB cI cZ a1 I1_l10 M1_l10)) [3, 4] rfl) hK (wr_9 hK hP (q0 := 3) rfl)) rfl rfl hl.1 rfl (lv_room (Nat.le_of_ble_eq_true rfl)) dX1_readEntries_18 ⟨Nat.le_of_ble_eq_true rfl, Nat.le_of_ble_eq_true rfl⟩) (fun r9 e9 => ?_)
        rw [e9]
        refine lv_if_ne (tgt := 40) hx hb dX1_readEntries_21 (by decide) (fun hc => ?_) (fun hc => ?_)
        · replace hf := wb_f hc hf
          refine lv_iconst (v := (1 : Int32)) hx hb dX1_readEntries_40 (by decide) ?_
          exact W.zret (v := (1 : Int32)) hx hb hr (by decide) (fun t ht hW => by rw [← Option.some.inj hf]; exact ⟨⟨(1 : Int32), (), rfl, rfl, by rw [ht]; exact hP, va_K.moved hW.alike hK, hD⟩, hS.F ht⟩) hS.2.2 dX1_readEntries_41
        · replace hf := wb_t hc hf
          refine lv_aload_n hx hb dX1_readEntries_24 rfl (lv_at hl 0 rfl) ?_
          refine lv_aload_n hx hb dX1_readEntries_25 rfl (lv_at hl 1 rfl) ?_
          obtain ⟨r4, hr4, hf⟩ := wb_b hf
          have hPc := hP
          have hDc := hD
          have hFc := wj_F hDc hS hA
          refine va_calli (va_runV (As := [.ref (a1 0)]) (rest := []) ⟨hx, hb, hml, hown, hts⟩ (cn_X1_readEntry l D cB cI cZ N aK aV a0 I0_l10 M0_l10 a1 I1_l10 M1_l10 H.size r4 hr4) (cwV 1 hts gX1_readEntries_X1_readEntry rfl rfl rfl cdX1_readEntry ⟨Nat.le_of_ble_eq_true rfl, Nat.le_of_ble_eq_true rfl⟩) (wb_preDEV hPc hK hDc (wr_1 hK hP (q0 := 0) rfl) hZ hS hFc) rfl rfl hl.1 rfl (lv_room (Nat.le_of_ble_eq_true rfl)) dX1_readEntries_26 ⟨Nat.le_of_ble_eq_true rfl, Nat.le_of_ble_eq_true rfl⟩) hS (fun q _ h => hFc q h) hFc (fun r9 u t H locs ht hvm hw hB hz1 hk1 hS => ?_)
          obtain ⟨hP, hD⟩ := wj_0 hFc ht hB
          rw [hw]
          refine lv_if_ne (tgt := 34) hx hb dX1_readEntries_29 (by decide) (fun hc => ?_) (fun hc => ?_)
          · replace hf := wb_f hc hf
            obtain ⟨v5, ev5, hf⟩ := wb_v hf
            refine lv_iinc (v := v5) (lv' := [(2, .int v5), (0, .ref (a0 0)), (1, .ref (a1 0))]) hx hb dX1_readEntries_34 hl (k := 2) rfl (by rw [ev5]; rfl) (by decide) rfl (fun ls hl => ?_)
            refine lv_goto (tgt := 10) hx hb dX1_readEntries_37 (by decide) ?_
            exact ih10 r4.2.1 r4.2.2.1 r4.2.2.2.1 r4.2.2.2.2 v5 H locs hP hD hS ls (lv_sub hl [1, 2, 0] rfl) hf
          · replace hf := wb_t hc hf
            refine lv_iconst (v := (0 : Int32)) hx hb dX1_readEntries_32 (by decide) ?_
            exact W.zret (v := (0 : Int32)) hx hb hr (by decide) (fun t ht hW => by rw [← Option.some.inj hf]; exact ⟨⟨(0 : Int32), (), rfl, rfl, by rw [ht]; exact hP, va_K.moved hW.alike hK, hD⟩, hS.F ht⟩) hS.2.2 dX1_readEntries_33
  exact L10 N I0 M0_2 I1 M1 (0 : Int32) H locs hP hD hS ls (lv_sub hl [1, 2, 0] rfl) hf

set_option maxHeartbeats 4000000 in
set_option maxRecDepth 100000 in
theorem cn_X1_howManyTell (l : Launch) (D : va_G) (cB cI cZ : ClassId) (N : Nat) (a0 : Nat → Nat) (I0 : Nat → Int32) (M0 : Nat → Nat → Int32) (R : Int32) (hf : fX1_howManyTell N I0 M0 = some R) : Met l yX1_howManyTell wsX1_howManyTell ({ frames := 2, cells := 0, slots := 0, locals := 44 }) (va_Pc [.ref (a0 0)] (wb_pre D [(cB, .byte), (cI, .int), (cZ, .boolean)] (wWX1 cB cI cZ a0 I0 M0))) (vp_Si (fun r => r = R)) 0 0 (fun _ => False) := by
  refine Met.ofW (cc := cX1_howManyTell) (maxL := 3) (ret := (some .int)) pn_X1 rfl ?_
  intro p e s m args below meth c s₁ B hml hv
  obtain ⟨rfl, hP, hK⟩ := hv
  have hx := B.exec
  have hb := B.bytes
  have hr := B.returns
  have hts := atoms_spec (ws := wsX1_howManyTell) B.pre
  have hown : s.vm.findClass RX1 = some m.cls := (findClass_of_methodNamed B.named :)
  have hlocks := B.notSynchronized
  have hl := lv_entry ([.ref (a0 0)]) (n := 3) (Nat.le_of_ble_eq_true rfl)
  rw [lg_entry_eq]
  generalize (lg_sl ([.ref (a0 0)]) ++ List.replicate (3 - (lg_sl ([.ref (a0 0)])).length) Slot.unset).toArray = ls at hl ⊢
  have hl : lv_has ls 3 [(0, .ref (a0 0))] := hl
  unfold fX1_howManyTell at hf
  refine lv_iconst (v := (0 : Int32)) hx hb dX1_howManyTell_0 (by decide) ?_
  refine lv_istore_n (lv' := [(1, .int (0 : Int32)), (0, .ref (a0 0))]) hx hb dX1_howManyTell_1 rfl hl (by decide) rfl (fun ls hl => ?_)
  refine lv_iconst (v := (0 : Int32)) hx hb dX1_howManyTell_2 (by decide) ?_
  refine lv_istore_n (lv' := [(2, .int (0 : Int32)), (1, .int (0 : Int32)), (0, .ref (a0 0))]) hx hb dX1_howManyTell_3 rfl hl (by decide) rfl (fun ls hl => ?_)
  have L4 : ∀ (fu4 : Nat) (y4_1 : Int32) (y4_2 : Int32), ∀ (ls : Array Slot), lv_has ls 3 [(0, .ref (a0 0)), (1, .int y4_1), (2, .int y4_2)] → fX1_howManyTell_L4 N I0 M0 fu4 y4_1 y4_2 = some R → W p l e (headSpec wsX1_howManyTell { frames := 2, cells := 0, slots := 0, locals := 44 }).room s m [.ref (a0 0)].toArray below meth c s.heap [] 0 0 (MQ below (vp_Si (fun r => r = R)) [.ref (a0 0)].toArray s 0 0 (fun _ => False)) (F0 m 4 ls []) := by
    intro fu4
    induction fu4 with
    | zero =>
      intro y4_1 y4_2 ls hl hf
      exact absurd hf (by rw [fX1_howManyTell_L4.eq_1]; exact fun h => nomatch h)
    | succ fu4 ih4 =>
      intro y4_1 y4_2 ls hl hf
      rw [fX1_howManyTell_L4.eq_2] at hf
      refine lv_iload_n hx hb dX1_howManyTell_4 rfl (lv_at hl 2 rfl) ?_
      refine lv_bipush (v := (120 : Int32)) hx hb dX1_howManyTell_5 (by decide) ?_
      refine lv_icmp_ge (tgt := 27) hx hb dX1_howManyTell_7 (by decide) (fun hc => ?_) (fun hc => ?_)
      · replace hf := wb_t hc hf
        refine lv_iload_n hx hb dX1_howManyTell_27 rfl (lv_at hl 1 rfl) ?_
        exact W.iret (v := y4_1) hx hb hr (fun t ht hW => ⟨_, rfl, Option.some.inj hf, ht⟩) (fun _ h => nomatch h) dX1_howManyTell_28
      · replace hf := wb_f hc hf
        refine lv_aload_n hx hb dX1_howManyTell_10 rfl (lv_at hl 0 rfl) ?_
        refine lv_iload_n hx hb dX1_howManyTell_11 rfl (lv_at hl 2 rfl) ?_
        obtain ⟨r1, hr1, hf⟩ := wb_b hf
        refine vp_callSi (W.runV (As := [.int y4_2]) (rest := []) ⟨hx, hb, hml, hown, hts⟩ (cn_X1_tellsSomething l D cB cI cZ N a0 I0 M0 y4_2 r1 hr1) (cwV 1 hts gX1_howManyTell_X1_tellsSomething rfl rfl rfl cdX1_tellsSomething ⟨Nat.le_of_ble_eq_true rfl, Nat.le_of_ble_eq_true rfl⟩) (wb_preV hP hK (wr_1 hK hP (q0 := 0) rfl)) rfl rfl hl.1 rfl (lv_room (Nat.le_of_ble_eq_true rfl)) dX1_howManyTell_12 ⟨Nat.le_of_ble_eq_true rfl, Nat.le_of_ble_eq_true rfl⟩) (fun r9 e9 => ?_)
        rw [e9]
        refine lv_if_eq (tgt := 21) hx hb dX1_howManyTell_15 (by decide) (fun hc => ?_) (fun hc => ?_)
        · replace hf := wb_t hc hf
          obtain ⟨v2, ev2, hf⟩ := wb_v hf
          refine lv_iinc (v := v2) (lv' := [(2, .int v2), (0, .ref (a0 0)), (1, .int y4_1)]) hx hb dX1_howManyTell_21 hl (k := 2) rfl (by rw [ev2]; rfl) (by decide) rfl (fun ls hl => ?_)
          refine lv_goto (tgt := 4) hx hb dX1_howManyTell_24 (by decide) ?_
          exact ih4 y4_1 v2 ls (lv_sub hl [1, 2, 0] rfl) hf
        · replace hf := wb_f hc hf
          obtain ⟨v3, ev3, hf⟩ := wb_v hf
          refine lv_iinc (v := v3) (lv' := [(1, .int v3), (0, .ref (a0 0)), (2, .int y4_2)]) hx hb dX1_howManyTell_18 hl (k := 1) rfl (by rw [ev3]; rfl) (by decide) rfl (fun ls hl => ?_)
          obtain ⟨v4, ev4, hf⟩ := wb_v hf
          refine lv_iinc (v := v4) (lv' := [(2, .int v4), (1, .int v3), (0, .ref (a0 0))]) hx hb dX1_howManyTell_21 hl (k := 2) rfl (by rw [ev4]; rfl) (by decide) rfl (fun ls hl => ?_)
          refine lv_goto (tgt := 4) hx hb dX1_howManyTell_24 (by decide) ?_
          exact ih4 v3 v4 ls (lv_sub hl [2, 1, 0] rfl) hf
  exact L4 N (0 : Int32) (0 : Int32) ls (lv_sub hl [2, 1, 0] rfl) hf

set_option maxHeartbeats 4000000 in
set_option maxRecDepth 100000 in
theorem cn_X1_bookTells (l : Launch) (D : va_G) (cB cI cZ : ClassId) (N : Nat) (a0 : Nat → Nat) (I0 : Nat → Int32) (M0 : Nat → Nat → Int32) (x1 : Int32) (R : Int32) (hf : fX1_bookTells N I0 M0 x1 = some R) : Met l yX1_bookTells wsX1_bookTells ({ frames := 2, cells := 0, slots := 0, locals := 44 }) (va_Pc [.ref (a0 0), .int x1] (wb_pre D [(cB, .byte), (cI, .int), (cZ, .boolean)] (wWX1 cB cI cZ a0 I0 M0))) (vp_Si (fun r => r = R)) 0 0 (fun _ => False) := by
  refine Met.ofW (cc := cX1_bookTells) (maxL := 3) (ret := (some .boolean)) pn_X1 rfl ?_
  intro p e s m args below meth c s₁ B hml hv
  obtain ⟨rfl, hP, hK⟩ := hv
  have hx := B.exec
  have hb := B.bytes
  have hr := B.returns
  have hts := atoms_spec (ws := wsX1_bookTells) B.pre
  have hown : s.vm.findClass RX1 = some m.cls := (findClass_of_methodNamed B.named :)
  have hlocks := B.notSynchronized
  have hl := lv_entry ([.ref (a0 0), .int x1]) (n := 3) (Nat.le_of_ble_eq_true rfl)
  rw [lg_entry_eq]
  generalize (lg_sl ([.ref (a0 0), .int x1]) ++ List.replicate (3 - (lg_sl ([.ref (a0 0), .int x1])).length) Slot.unset).toArray = ls at hl ⊢
  have hl : lv_has ls 3 [(0, .ref (a0 0)), (1, .int x1)] := hl
  unfold fX1_bookTells at hf
  refine lv_iconst (v := (0 : Int32)) hx hb dX1_bookTells_0 (by decide) ?_
  refine lv_istore_n (lv' := [(2, .int (0 : Int32)), (0, .ref (a0 0)), (1, .int x1)]) hx hb dX1_bookTells_1 rfl hl (by decide) rfl (fun ls hl => ?_)
  have L2 : ∀ (fu2 : Nat) (y2_2 : Int32), ∀ (ls : Array Slot), lv_has ls 3 [(0, .ref (a0 0)), (1, .int x1), (2, .int y2_2)] → fX1_bookTells_L2 N I0 M0 x1 fu2 y2_2 = some R → W p l e (headSpec wsX1_bookTells { frames := 2, cells := 0, slots := 0, locals := 44 }).room s m [.ref (a0 0), .int x1].toArray below meth c s.heap [] 0 0 (MQ below (vp_Si (fun r => r = R)) [.ref (a0 0), .int x1].toArray s 0 0 (fun _ => False)) (F0 m 2 ls []) := by
    intro fu2
    induction fu2 with
    | zero =>
      intro y2_2 ls hl hf
      exact absurd hf (by rw [fX1_bookTells_L2.eq_1]; exact fun h => nomatch h)
    | succ fu2 ih2 =>
      intro y2_2 ls hl hf
      rw [fX1_bookTells_L2.eq_2] at hf
      refine lv_iload_n hx hb dX1_bookTells_2 rfl (lv_at hl 2 rfl) ?_
      refine lv_bipush (v := (20 : Int32)) hx hb dX1_bookTells_3 (by decide) ?_
      refine lv_icmp_ge (tgt := 29) hx hb dX1_bookTells_5 (by decide) (fun hc => ?_) (fun hc => ?_)
      · replace hf := wb_t hc hf
        refine lv_iconst (v := (0 : Int32)) hx hb dX1_bookTells_29 (by decide) ?_
        exact W.zret (v := (0 : Int32)) hx hb hr (by decide) (fun t ht hW => ⟨_, rfl, Option.some.inj hf, ht⟩) (fun _ h => nomatch h) dX1_bookTells_30
      · replace hf := wb_f hc hf
        refine lv_aload_n hx hb dX1_bookTells_8 rfl (lv_at hl 0 rfl) ?_
        refine lv_bipush (v := (20 : Int32)) hx hb dX1_bookTells_9 (by decide) ?_
        refine lv_iload_n hx hb dX1_bookTells_11 rfl (lv_at hl 1 rfl) ?_
        refine lv_imul hx hb dX1_bookTells_12 ?_
        refine lv_iload_n hx hb dX1_bookTells_13 rfl (lv_at hl 2 rfl) ?_
        refine lv_iadd hx hb dX1_bookTells_14 ?_
        obtain ⟨r1, hr1, hf⟩ := wb_b hf
        refine vp_callSi (W.runV (As := [.int (((20 : Int32) * x1) + y2_2)]) (rest := []) ⟨hx, hb, hml, hown, hts⟩ (cn_X1_tellsSomething l D cB cI cZ N a0 I0 M0 (((20 : Int32) * x1) + y2_2) r1 hr1) (cwV 1 hts gX1_bookTells_X1_tellsSomething rfl rfl rfl cdX1_tellsSomething ⟨Nat.le_of_ble_eq_true rfl, Nat.le_of_ble_eq_true rfl⟩) (wb_preV hP hK (wr_1 hK hP (q0 := 0) rfl)) rfl rfl hl.1 rfl (lv_room (Nat.le_of_ble_eq_true rfl)) dX1_bookTells_15 ⟨Nat.le_of_ble_eq_true rfl, Nat.le_of_ble_eq_true rfl⟩) (fun r9 e9 => ?_)
        rw [e9]
        refine lv_if_eq (tgt := 23) hx hb dX1_bookTells_18 (by decide) (fun hc => ?_) (fun hc => ?_)
        · replace hf := wb_t hc hf
          obtain ⟨v2, ev2, hf⟩ := wb_v hf
          refine lv_iinc (v := v2) (lv' := [(2, .int v2), (0, .ref (a0 0)), (1, .int x1)]) hx hb dX1_bookTells_23 hl (k := 2) rfl (by rw [ev2]; rfl) (by decide) rfl (fun ls hl => ?_)
          refine lv_goto (tgt := 2) hx hb dX1_bookTells_26 (by decide) ?_
          exact ih2 v2 ls (lv_sub hl [1, 2, 0] rfl) hf
        · replace hf := wb_f hc hf
          refine lv_iconst (v := (1 : Int32)) hx hb dX1_bookTells_21 (by decide) ?_
          exact W.zret (v := (1 : Int32)) hx hb hr (by decide) (fun t ht hW => ⟨_, rfl, Option.some.inj hf, ht⟩) (fun _ h => nomatch h) dX1_bookTells_22
  exact L2 N (0 : Int32) ls (lv_sub hl [1, 2, 0] rfl) hf

set_option maxHeartbeats 4000000 in
set_option maxRecDepth 100000 in
theorem cn_X1_howManyHouses (l : Launch) (D : va_G) (cB cI cZ : ClassId) (N : Nat) (a0 : Nat → Nat) (I0 : Nat → Int32) (M0 : Nat → Nat → Int32) (x1 : Int32) (R : Int32) (hf : fX1_howManyHouses N I0 M0 x1 = some R) : Met l yX1_howManyHouses wsX1_howManyHouses ({ frames := 1, cells := 0, slots := 0, locals := 22 }) (va_Pc [.ref (a0 0), .int x1] (wb_pre D [(cB, .byte), (cI, .int), (cZ, .boolean)] (wWX1 cB cI cZ a0 I0 M0))) (vp_Si (fun r => r = R)) 0 0 (fun _ => False) := by
  refine Met.ofW (cc := cX1_howManyHouses) (maxL := 4) (ret := (some .int)) pn_X1 rfl ?_
  intro p e s m args below meth c s₁ B hml hv
  obtain ⟨rfl, hP, hK⟩ := hv
  have hx := B.exec
  have hb := B.bytes
  have hr := B.returns
  have hts := atoms_spec (ws := wsX1_howManyHouses) B.pre
  have hown : s.vm.findClass RX1 = some m.cls := (findClass_of_methodNamed B.named :)
  have hlocks := B.notSynchronized
  have hl := lv_entry ([.ref (a0 0), .int x1]) (n := 4) (Nat.le_of_ble_eq_true rfl)
  rw [lg_entry_eq]
  generalize (lg_sl ([.ref (a0 0), .int x1]) ++ List.replicate (4 - (lg_sl ([.ref (a0 0), .int x1])).length) Slot.unset).toArray = ls at hl ⊢
  have hl : lv_has ls 4 [(0, .ref (a0 0)), (1, .int x1)] := hl
  unfold fX1_howManyHouses at hf
  refine lv_iconst (v := (0 : Int32)) hx hb dX1_howManyHouses_0 (by decide) ?_
  refine lv_istore_n (lv' := [(2, .int (0 : Int32)), (0, .ref (a0 0)), (1, .int x1)]) hx hb dX1_howManyHouses_1 rfl hl (by decide) rfl (fun ls hl => ?_)
  refine lv_iconst (v := (1 : Int32)) hx hb dX1_howManyHouses_2 (by decide) ?_
  refine lv_istore_n (lv' := [(3, .int (1 : Int32)), (2, .int (0 : Int32)), (0, .ref (a0 0)), (1, .int x1)]) hx hb dX1_howManyHouses_3 rfl hl (by decide) rfl (fun ls hl => ?_)
  have L4 : ∀ (fu4 : Nat) (y4_2 : Int32) (y4_3 : Int32), ∀ (ls : Array Slot), lv_has ls 4 [(0, .ref (a0 0)), (1, .int x1), (2, .int y4_2), (3, .int y4_3)] → fX1_howManyHouses_L4 N I0 M0 x1 fu4 y4_2 y4_3 = some R → W p l e (headSpec wsX1_howManyHouses { frames := 1, cells := 0, slots := 0, locals := 22 }).room s m [.ref (a0 0), .int x1].toArray below meth c s.heap [] 0 0 (MQ below (vp_Si (fun r => r = R)) [.ref (a0 0), .int x1].toArray s 0 0 (fun _ => False)) (F0 m 4 ls []) := by
    intro fu4
    induction fu4 with
    | zero =>
      intro y4_2 y4_3 ls hl hf
      exact absurd hf (by rw [fX1_howManyHouses_L4.eq_1]; exact fun h => nomatch h)
    | succ fu4 ih4 =>
      intro y4_2 y4_3 ls hl hf
      rw [fX1_howManyHouses_L4.eq_2] at hf
      refine lv_iload_n hx hb dX1_howManyHouses_4 rfl (lv_at hl 3 rfl) ?_
      refine lv_bipush (v := (12 : Int32)) hx hb dX1_howManyHouses_5 (by decide) ?_
      refine lv_icmp_gt (tgt := 32) hx hb dX1_howManyHouses_7 (by decide) (fun hc => ?_) (fun hc => ?_)
      · replace hf := wb_t hc hf
        refine lv_iload_n hx hb dX1_howManyHouses_32 rfl (lv_at hl 2 rfl) ?_
        exact W.iret (v := y4_2) hx hb hr (fun t ht hW => ⟨_, rfl, Option.some.inj hf, ht⟩) (fun _ h => nomatch h) dX1_howManyHouses_33
      · replace hf := wb_f hc hf
        refine lv_aload_n hx hb dX1_howManyHouses_10 rfl (lv_at hl 0 rfl) ?_
        refine lv_iload_n hx hb dX1_howManyHouses_11 rfl (lv_at hl 1 rfl) ?_
        refine lv_bipush (v := (8 : Int32)) hx hb dX1_howManyHouses_12 (by decide) ?_
        refine lv_iload_n hx hb dX1_howManyHouses_14 rfl (lv_at hl 3 rfl) ?_
        refine lv_iadd hx hb dX1_howManyHouses_15 ?_
        obtain ⟨r1, hr1, hf⟩ := wb_b hf
        refine vp_callSi (W.runV (As := [.int x1, .int ((8 : Int32) + y4_3)]) (rest := []) ⟨hx, hb, hml, hown, hts⟩ (cn_X1_degreeOf l D cB cI cZ N a0 I0 M0 x1 ((8 : Int32) + y4_3) r1 hr1) (cwV 2 hts gX1_howManyHouses_X1_degreeOf rfl rfl rfl cdX1_degreeOf ⟨Nat.le_of_ble_eq_true rfl, Nat.le_of_ble_eq_true rfl⟩) (wb_preV hP hK (wr_1 hK hP (q0 := 0) rfl)) rfl rfl hl.1 rfl (lv_room (Nat.le_of_ble_eq_true rfl)) dX1_howManyHouses_16 ⟨Nat.le_of_ble_eq_true rfl, Nat.le_of_ble_eq_true rfl⟩) (fun r9 e9 => ?_)
        rw [e9]
        refine lv_iconst (v := (-1 : Int32)) hx hb dX1_howManyHouses_19 (by decide) ?_
        refine lv_icmp_eq (tgt := 26) hx hb dX1_howManyHouses_20 (by decide) (fun hc => ?_) (fun hc => ?_)
        · replace hf := wb_t hc hf
          obtain ⟨v2, ev2, hf⟩ := wb_v hf
          refine lv_iinc (v := v2) (lv' := [(3, .int v2), (0, .ref (a0 0)), (1, .int x1), (2, .int y4_2)]) hx hb dX1_howManyHouses_26 hl (k := 3) rfl (by rw [ev2]; rfl) (by decide) rfl (fun ls hl => ?_)
          refine lv_goto (tgt := 4) hx hb dX1_howManyHouses_29 (by decide) ?_
          exact ih4 y4_2 v2 ls (lv_sub hl [1, 2, 3, 0] rfl) hf
        · replace hf := wb_f hc hf
          obtain ⟨v3, ev3, hf⟩ := wb_v hf
          refine lv_iinc (v := v3) (lv' := [(2, .int v3), (0, .ref (a0 0)), (1, .int x1), (3, .int y4_3)]) hx hb dX1_howManyHouses_23 hl (k := 2) rfl (by rw [ev3]; rfl) (by decide) rfl (fun ls hl => ?_)
          obtain ⟨v4, ev4, hf⟩ := wb_v hf
          refine lv_iinc (v := v4) (lv' := [(3, .int v4), (2, .int v3), (0, .ref (a0 0)), (1, .int x1)]) hx hb dX1_howManyHouses_26 hl (k := 3) rfl (by rw [ev4]; rfl) (by decide) rfl (fun ls hl => ?_)
          refine lv_goto (tgt := 4) hx hb dX1_howManyHouses_29 (by decide) ?_
          exact ih4 v3 v4 ls (lv_sub hl [2, 3, 1, 0] rfl) hf
  exact L4 N (0 : Int32) (1 : Int32) ls (lv_sub hl [2, 3, 1, 0] rfl) hf

set_option maxHeartbeats 4000000 in
set_option maxRecDepth 100000 in
theorem cn_X2_climbOf (l : Launch) (D : va_G) (cB cI cZ : ClassId) (N : Nat) (a0 : Nat → Nat) (I0 : Nat → Int32) (M0 : Nat → Nat → Int32) (x1 : Int32) (x2 : Int32) (R : Int32) (hf : fX2_climbOf N I0 M0 x1 x2 = some R) : Met l yX2_climbOf wsX2_climbOf ({ frames := 0, cells := 0, slots := 0, locals := 0 }) (va_Pc [.ref (a0 0), .int x1, .int x2] (wb_pre D [(cB, .byte), (cI, .int), (cZ, .boolean)] (wWX2 cB cI cZ a0 I0 M0))) (vp_Si (fun r => r = R)) 0 0 (fun _ => False) := by
  refine Met.ofW (cc := cX2_climbOf) (maxL := 6) (ret := (some .int)) pn_X2 rfl ?_
  intro p e s m args below meth c s₁ B hml hv
  obtain ⟨rfl, hP, hK⟩ := hv
  have hx := B.exec
  have hb := B.bytes
  have hr := B.returns
  have hts := atoms_spec (ws := wsX2_climbOf) B.pre
  have hown : s.vm.findClass RX2 = some m.cls := (findClass_of_methodNamed B.named :)
  have hlocks := B.notSynchronized
  have hinX2 : ∀ w ∈ u_ws RX2 TX2 2, w ∈ wsX2_climbOf := fun w h => List.mem_cons_of_mem _ (List.mem_append_right _ h)
  have hl := lv_entry ([.ref (a0 0), .int x1, .int x2]) (n := 6) (Nat.le_of_ble_eq_true rfl)
  rw [lg_entry_eq]
  generalize (lg_sl ([.ref (a0 0), .int x1, .int x2]) ++ List.replicate (6 - (lg_sl ([.ref (a0 0), .int x1, .int x2])).length) Slot.unset).toArray = ls at hl ⊢
  have hl : lv_has ls 6 [(0, .ref (a0 0)), (1, .int x1), (2, .int x2)] := hl
  unfold fX2_climbOf at hf
  refine lv_iload_n hx hb dX2_climbOf_0 rfl (lv_at hl 2 rfl) ?_
  refine lv_sipush (v := (1800 : Int32)) hx hb dX2_climbOf_1 (by decide) ?_
  refine lv_idiv hx hb dX2_climbOf_4 (by decide) ?_
  obtain ⟨v1, ev1, hf⟩ := wb_v hf
  refine wb_topi ev1 ?_
  refine lv_istore_n (lv' := [(3, .int v1), (0, .ref (a0 0)), (1, .int x1), (2, .int x2)]) hx hb dX2_climbOf_5 rfl hl (by decide) rfl (fun ls hl => ?_)
  refine lv_aload_n hx hb dX2_climbOf_6 rfl (lv_at hl 1 rfl) ?_
  refine va_get (D := D) (ci := 2) (v := .ref (a0 1)) (C := RX2) (T := TX2) (N := 2) hx hb hts hinX2 hown hK hP 0 rfl rfl 0 (by decide) (hts (.fieldLink RX2 11 "WheelBook$Climates" "ahead" "[I") (List.mem_of_getElem? (i := 1) rfl)) (fun _ h9 => h9) rfl dX2_climbOf_7 ?_
  refine lv_bipush (v := (13 : Int32)) hx hb dX2_climbOf_10 (by decide) ?_
  refine lv_iload_n hx hb dX2_climbOf_12 rfl (lv_at hl 2 rfl) ?_
  refine lv_imul hx hb dX2_climbOf_13 ?_
  refine lv_iload_n hx hb dX2_climbOf_14 rfl (lv_at hl 0 rfl) ?_
  refine lv_iadd hx hb dX2_climbOf_15 ?_
  obtain ⟨hin, hf⟩ := wb_n hf
  refine va_iald hx hb hK hP 1 1 rfl rfl hin dX2_climbOf_16 ?_
  obtain ⟨v2, ev2, hf⟩ := wb_v hf
  refine wb_topi ev2 ?_
  refine lv_istore (lv' := [(4, .int v2), (3, .int v1), (0, .ref (a0 0)), (1, .int x1), (2, .int x2)]) hx hb dX2_climbOf_17 hl (by decide) rfl (fun ls hl => ?_)
  refine lv_aload_n hx hb dX2_climbOf_19 rfl (lv_at hl 2 rfl) ?_
  refine va_get (D := D) (ci := 2) (v := .ref (a0 1)) (C := RX2) (T := TX2) (N := 2) hx hb hts hinX2 hown hK hP 0 rfl rfl 0 (by decide) (hts (.fieldLink RX2 11 "WheelBook$Climates" "ahead" "[I") (List.mem_of_getElem? (i := 1) rfl)) (fun _ h9 => h9) rfl dX2_climbOf_20 ?_
  refine lv_bipush (v := (13 : Int32)) hx hb dX2_climbOf_23 (by decide) ?_
  refine lv_iload_n hx hb dX2_climbOf_25 rfl (lv_at hl 3 rfl) ?_
  refine lv_imul hx hb dX2_climbOf_26 ?_
  refine lv_iload_n hx hb dX2_climbOf_27 rfl (lv_at hl 1 rfl) ?_
  refine lv_iadd hx hb dX2_climbOf_28 ?_
  refine lv_iconst (v := (1 : Int32)) hx hb dX2_climbOf_29 (by decide) ?_
  refine lv_iadd hx hb dX2_climbOf_30 ?_
  obtain ⟨hin, hf⟩ := wb_n hf
  refine va_iald hx hb hK hP 1 1 rfl rfl hin dX2_climbOf_31 ?_
  refine lv_iload hx hb dX2_climbOf_32 (lv_at hl 0 rfl) ?_
  refine lv_isub hx hb dX2_climbOf_34 ?_
  obtain ⟨v3, ev3, hf⟩ := wb_v hf
  refine wb_topi ev3 ?_
  refine lv_istore (lv' := [(5, .int v3), (4, .int v2), (3, .int v1), (0, .ref (a0 0)), (1, .int x1), (2, .int x2)]) hx hb dX2_climbOf_35 hl (by decide) rfl (fun ls hl => ?_)
  refine lv_sipush (v := (1800 : Int32)) hx hb dX2_climbOf_37 (by decide) ?_
  refine lv_iload hx hb dX2_climbOf_40 (lv_at hl 1 rfl) ?_
  refine lv_imul hx hb dX2_climbOf_42 ?_
  refine lv_iload hx hb dX2_climbOf_43 (lv_at hl 0 rfl) ?_
  refine lv_iload_n hx hb dX2_climbOf_45 rfl (lv_at hl 5 rfl) ?_
  refine lv_sipush (v := (1800 : Int32)) hx hb dX2_climbOf_46 (by decide) ?_
  refine lv_irem hx hb dX2_climbOf_49 (by decide) ?_
  refine lv_imul hx hb dX2_climbOf_50 ?_
  refine lv_iadd hx hb dX2_climbOf_51 ?_
  exact W.iret (v := (((1800 : Int32) * v2) + (v3 * (x2 - x2 / (1800 : Int32) * (1800 : Int32))))) hx hb hr (fun t ht hW => ⟨_, rfl, Option.some.inj hf, ht⟩) (fun _ h => nomatch h) dX2_climbOf_52

set_option maxHeartbeats 4000000 in
set_option maxRecDepth 100000 in
theorem cn_J9_floorMod_7cf53 (l : Launch) (D : va_G) (cB cI cZ : ClassId) (N : Nat) (x0 : Int32) (x1 : Int32) (R : Int32) (hf : fJ9_floorMod_7cf53 N x0 x1 = some R) : Met l yJ9_floorMod_7cf53 wsJ9_floorMod_7cf53 ({ frames := 0, cells := 0, slots := 0, locals := 0 }) (va_Pc [.int x0, .int x1] (wb_pre D [(cB, .byte), (cI, .int), (cZ, .boolean)] ([] : va_W))) (vp_Si (fun r => r = R)) 0 0 (fun _ => False) := by
  refine va_MetF (cc := cJ9_floorMod_7cf53) (maxL := 3) (ret := (some .int)) (pf_of (by decide +kernel)) rfl ?_
  intro p e s m args below meth c s₁ B hml hv
  obtain ⟨rfl, hP, hK⟩ := hv
  have hx := B.exec
  have hb := B.bytes
  have hr := B.returns
  have hts := atoms_spec (ws := wsJ9_floorMod_7cf53) B.pre
  have hown : s.vm.findClass RJ9 = some m.cls := (findClass_of_methodNamed B.named :)
  have hlocks := B.notSynchronized
  have hl := lv_entry ([.int x0, .int x1]) (n := 3) (Nat.le_of_ble_eq_true rfl)
  rw [lg_entry_eq]
  generalize (lg_sl ([.int x0, .int x1]) ++ List.replicate (3 - (lg_sl ([.int x0, .int x1])).length) Slot.unset).toArray = ls at hl ⊢
  have hl : lv_has ls 3 [(0, .int x0), (1, .int x1)] := hl
  unfold fJ9_floorMod_7cf53 at hf
  refine lv_iload_n hx hb dJ9_floorMod_7cf53_0 rfl (lv_at hl 0 rfl) ?_
  refine lv_iload_n hx hb dJ9_floorMod_7cf53_1 rfl (lv_at hl 1 rfl) ?_
  obtain ⟨hz, hf⟩ := wb_n hf
  refine lv_irem hx hb dJ9_floorMod_7cf53_2 hz ?_
  obtain ⟨v1, ev1, hf⟩ := wb_v hf
  refine wb_topi ev1 ?_
  refine lv_istore_n (lv' := [(2, .int v1), (0, .int x0), (1, .int x1)]) hx hb dJ9_floorMod_7cf53_3 rfl hl (by decide) rfl (fun ls hl => ?_)
  refine lv_iload_n hx hb dJ9_floorMod_7cf53_4 rfl (lv_at hl 1 rfl) ?_
  refine lv_iload_n hx hb dJ9_floorMod_7cf53_5 rfl (lv_at hl 2 rfl) ?_
  refine lv_ixor hx hb dJ9_floorMod_7cf53_6 ?_
  refine lv_if_ge (tgt := 18) hx hb dJ9_floorMod_7cf53_7 (by decide) (fun hc => ?_) (fun hc => ?_)
  · replace hf := wb_t hc hf
    refine lv_iload_n hx hb dJ9_floorMod_7cf53_18 rfl (lv_at hl 0 rfl) ?_
    exact W.iret (v := v1) hx hb hr (fun t ht hW => ⟨_, rfl, Option.some.inj hf, ht⟩) (fun _ h => nomatch h) dJ9_floorMod_7cf53_19
  · replace hf := wb_f hc hf
    refine lv_iload_n hx hb dJ9_floorMod_7cf53_10 rfl (lv_at hl 0 rfl) ?_
    refine lv_if_eq (tgt := 18) hx hb dJ9_floorMod_7cf53_11 (by decide) (fun hc => ?_) (fun hc => ?_)
    · replace hf := wb_t hc hf
      refine lv_iload_n hx hb dJ9_floorMod_7cf53_18 rfl (lv_at hl 0 rfl) ?_
      exact W.iret (v := v1) hx hb hr (fun t ht hW => ⟨_, rfl, Option.some.inj hf, ht⟩) (fun _ h => nomatch h) dJ9_floorMod_7cf53_19
    · replace hf := wb_f hc hf
      refine lv_iload_n hx hb dJ9_floorMod_7cf53_14 rfl (lv_at hl 0 rfl) ?_
      refine lv_iload_n hx hb dJ9_floorMod_7cf53_15 rfl (lv_at hl 2 rfl) ?_
      refine lv_iadd hx hb dJ9_floorMod_7cf53_16 ?_
      exact W.iret (v := (v1 + x1)) hx hb hr (fun t ht hW => ⟨_, rfl, Option.some.inj hf, ht⟩) (fun _ h => nomatch h) dJ9_floorMod_7cf53_17

set_option maxHeartbeats 4000000 in
set_option maxRecDepth 100000 in
theorem cn_X2_placeOf (l : Launch) (D : va_G) (cB cI cZ : ClassId) (N : Nat) (a0 : Nat → Nat) (I0 : Nat → Int32) (M0 : Nat → Nat → Int32) (x1 : Int32) (x2 : Int32) (R : Int32) (hf : fX2_placeOf N I0 M0 x1 x2 = some R) : Met l yX2_placeOf wsX2_placeOf ({ frames := 0, cells := 0, slots := 0, locals := 0 }) (va_Pc [.ref (a0 0), .int x1, .int x2] (wb_pre D [(cB, .byte), (cI, .int), (cZ, .boolean)] (wWX2 cB cI cZ a0 I0 M0))) (vp_Si (fun r => r = R)) 0 0 (fun _ => False) := by
  refine Met.ofW (cc := cX2_placeOf) (maxL := 6) (ret := (some .int)) pn_X2 rfl ?_
  intro p e s m args below meth c s₁ B hml hv
  obtain ⟨rfl, hP, hK⟩ := hv
  have hx := B.exec
  have hb := B.bytes
  have hr := B.returns
  have hts := atoms_spec (ws := wsX2_placeOf) B.pre
  have hown : s.vm.findClass RX2 = some m.cls := (findClass_of_methodNamed B.named :)
  have hlocks := B.notSynchronized
  have hinX2 : ∀ w ∈ u_ws RX2 TX2 2, w ∈ wsX2_placeOf := fun w h => List.mem_cons_of_mem _ (List.mem_append_right _ h)
  have hl := lv_entry ([.ref (a0 0), .int x1, .int x2]) (n := 6) (Nat.le_of_ble_eq_true rfl)
  rw [lg_entry_eq]
  generalize (lg_sl ([.ref (a0 0), .int x1, .int x2]) ++ List.replicate (6 - (lg_sl ([.ref (a0 0), .int x1, .int x2])).length) Slot.unset).toArray = ls at hl ⊢
  have hl : lv_has ls 6 [(0, .ref (a0 0)), (1, .int x1), (2, .int x2)] := hl
  unfold fX2_placeOf at hf
  have J41 : ∀ (y41_3 : Int32), ∀ (ls : Array Slot), lv_has ls 6 [(0, .ref (a0 0)), (1, .int x1), (2, .int x2), (3, .int y41_3)] → fX2_placeOf_J41 N I0 M0 x1 x2 y41_3 = some R → W p l e (headSpec wsX2_placeOf { frames := 0, cells := 0, slots := 0, locals := 0 }).room s m [.ref (a0 0), .int x1, .int x2].toArray below meth c s.heap [] 0 0 (MQ below (vp_Si (fun r => r = R)) [.ref (a0 0), .int x1, .int x2].toArray s 0 0 (fun _ => False)) (F0 m 41 ls []) := by
    intro y41_3 ls hl hf
    unfold fX2_placeOf_J41 at hf
    refine lv_aload_n hx hb dX2_placeOf_41 rfl (lv_at hl 0 rfl) ?_
    refine va_get (D := D) (ci := 2) (v := .ref (a0 1)) (C := RX2) (T := TX2) (N := 2) hx hb hts hinX2 hown hK hP 0 rfl rfl 0 (by decide) (hts (.fieldLink RX2 11 "WheelBook$Climates" "ahead" "[I") (List.mem_of_getElem? (i := 1) rfl)) (fun _ h9 => h9) rfl dX2_placeOf_42 ?_
    refine lv_bipush (v := (13 : Int32)) hx hb dX2_placeOf_45 (by decide) ?_
    refine lv_iload_n hx hb dX2_placeOf_47 rfl (lv_at hl 1 rfl) ?_
    refine lv_imul hx hb dX2_placeOf_48 ?_
    refine lv_iload_n hx hb dX2_placeOf_49 rfl (lv_at hl 3 rfl) ?_
    refine lv_iadd hx hb dX2_placeOf_50 ?_
    obtain ⟨hin, hf⟩ := wb_n hf
    refine va_iald hx hb hK hP 1 1 rfl rfl hin dX2_placeOf_51 ?_
    obtain ⟨v1, ev1, hf⟩ := wb_v hf
    refine wb_topi ev1 ?_
    refine lv_istore (lv' := [(4, .int v1), (0, .ref (a0 0)), (1, .int x1), (2, .int x2), (3, .int y41_3)]) hx hb dX2_placeOf_52 hl (by decide) rfl (fun ls hl => ?_)
    refine lv_aload_n hx hb dX2_placeOf_54 rfl (lv_at hl 1 rfl) ?_
    refine va_get (D := D) (ci := 2) (v := .ref (a0 1)) (C := RX2) (T := TX2) (N := 2) hx hb hts hinX2 hown hK hP 0 rfl rfl 0 (by decide) (hts (.fieldLink RX2 11 "WheelBook$Climates" "ahead" "[I") (List.mem_of_getElem? (i := 1) rfl)) (fun _ h9 => h9) rfl dX2_placeOf_55 ?_
    refine lv_bipush (v := (13 : Int32)) hx hb dX2_placeOf_58 (by decide) ?_
    refine lv_iload_n hx hb dX2_placeOf_60 rfl (lv_at hl 2 rfl) ?_
    refine lv_imul hx hb dX2_placeOf_61 ?_
    refine lv_iload_n hx hb dX2_placeOf_62 rfl (lv_at hl 4 rfl) ?_
    refine lv_iadd hx hb dX2_placeOf_63 ?_
    refine lv_iconst (v := (1 : Int32)) hx hb dX2_placeOf_64 (by decide) ?_
    refine lv_iadd hx hb dX2_placeOf_65 ?_
    obtain ⟨hin, hf⟩ := wb_n hf
    refine va_iald hx hb hK hP 1 1 rfl rfl hin dX2_placeOf_66 ?_
    refine lv_iload hx hb dX2_placeOf_67 (lv_at hl 0 rfl) ?_
    refine lv_isub hx hb dX2_placeOf_69 ?_
    obtain ⟨v2, ev2, hf⟩ := wb_v hf
    refine wb_topi ev2 ?_
    refine lv_istore (lv' := [(5, .int v2), (4, .int v1), (0, .ref (a0 0)), (1, .int x1), (2, .int x2), (3, .int y41_3)]) hx hb dX2_placeOf_70 hl (by decide) rfl (fun ls hl => ?_)
    refine lv_iload hx hb dX2_placeOf_72 (lv_at hl 0 rfl) ?_
    refine lv_iconst (v := (1 : Int32)) hx hb dX2_placeOf_74 (by decide) ?_
    refine lv_icmp_ge (tgt := 80) hx hb dX2_placeOf_75 (by decide) (fun hc => ?_) (fun hc => ?_)
    · replace hf := wb_t hc hf
      refine lv_sipush (v := (1800 : Int32)) hx hb dX2_placeOf_80 (by decide) ?_
      refine lv_iload_n hx hb dX2_placeOf_83 rfl (lv_at hl 5 rfl) ?_
      refine lv_imul hx hb dX2_placeOf_84 ?_
      refine lv_iload_n hx hb dX2_placeOf_85 rfl (lv_at hl 4 rfl) ?_
      refine lv_sipush (v := (1800 : Int32)) hx hb dX2_placeOf_86 (by decide) ?_
      refine lv_iload hx hb dX2_placeOf_89 (lv_at hl 1 rfl) ?_
      refine lv_imul hx hb dX2_placeOf_91 ?_
      refine lv_isub hx hb dX2_placeOf_92 ?_
      refine lv_iload hx hb dX2_placeOf_93 (lv_at hl 0 rfl) ?_
      obtain ⟨hz, hf⟩ := wb_n hf
      refine lv_idiv hx hb dX2_placeOf_95 hz ?_
      refine lv_iadd hx hb dX2_placeOf_96 ?_
      exact W.iret (v := (((1800 : Int32) * y41_3) + ((x2 - ((1800 : Int32) * v1)) / v2))) hx hb hr (fun t ht hW => ⟨_, rfl, Option.some.inj hf, ht⟩) (fun _ h => nomatch h) dX2_placeOf_97
    · replace hf := wb_f hc hf
      refine lv_iconst (v := (0 : Int32)) hx hb dX2_placeOf_78 (by decide) ?_
      exact W.iret (v := (0 : Int32)) hx hb hr (fun t ht hW => ⟨_, rfl, Option.some.inj hf, ht⟩) (fun _ h => nomatch h) dX2_placeOf_79
  refine lv_iconst (v := (0 : Int32)) hx hb dX2_placeOf_0 (by decide) ?_
  refine lv_istore_n (lv' := [(3, .int (0 : Int32)), (0, .ref (a0 0)), (1, .int x1), (2, .int x2)]) hx hb dX2_placeOf_1 rfl hl (by decide) rfl (fun ls hl => ?_)
  refine lv_iconst (v := (1 : Int32)) hx hb dX2_placeOf_2 (by decide) ?_
  refine lv_istore (lv' := [(4, .int (1 : Int32)), (3, .int (0 : Int32)), (0, .ref (a0 0)), (1, .int x1), (2, .int x2)]) hx hb dX2_placeOf_3 hl (by decide) rfl (fun ls hl => ?_)
  have L5 : ∀ (fu5 : Nat) (y5_3 : Int32) (y5_4 : Int32), ∀ (ls : Array Slot), lv_has ls 6 [(0, .ref (a0 0)), (1, .int x1), (2, .int x2), (3, .int y5_3), (4, .int y5_4)] → fX2_placeOf_L5 N I0 M0 x1 x2 fu5 y5_3 y5_4 = some R → W p l e (headSpec wsX2_placeOf { frames := 0, cells := 0, slots := 0, locals := 0 }).room s m [.ref (a0 0), .int x1, .int x2].toArray below meth c s.heap [] 0 0 (MQ below (vp_Si (fun r => r = R)) [.ref (a0 0), .int x1, .int x2].toArray s 0 0 (fun _ => False)) (F0 m 5 ls []) := by
    intro fu5
    induction fu5 with
    | zero =>
      intro y5_3 y5_4 ls hl hf
      exact absurd hf (by rw [fX2_placeOf_L5.eq_1]; exact fun h => nomatch h)
    | succ fu5 ih5 =>
      intro y5_3 y5_4 ls hl hf
      rw [fX2_placeOf_L5.eq_2] at hf
      refine lv_iload hx hb dX2_placeOf_5 (lv_at hl 4 rfl) ?_
      refine lv_bipush (v := (12 : Int32)) hx hb dX2_placeOf_7 (by decide) ?_
      refine lv_icmp_ge (tgt := 41) hx hb dX2_placeOf_9 (by decide) (fun hc => ?_) (fun hc => ?_)
      · replace hf := wb_t hc hf
        exact J41 y5_3 ls (lv_sub hl [0, 1, 2, 3] rfl) hf
      · replace hf := wb_f hc hf
        refine lv_sipush (v := (1800 : Int32)) hx hb dX2_placeOf_12 (by decide) ?_
        refine lv_aload_n hx hb dX2_placeOf_15 rfl (lv_at hl 0 rfl) ?_
        refine va_get (D := D) (ci := 2) (v := .ref (a0 1)) (C := RX2) (T := TX2) (N := 2) hx hb hts hinX2 hown hK hP 0 rfl rfl 0 (by decide) (hts (.fieldLink RX2 11 "WheelBook$Climates" "ahead" "[I") (List.mem_of_getElem? (i := 1) rfl)) (fun _ h9 => h9) rfl dX2_placeOf_16 ?_
        refine lv_bipush (v := (13 : Int32)) hx hb dX2_placeOf_19 (by decide) ?_
        refine lv_iload_n hx hb dX2_placeOf_21 rfl (lv_at hl 1 rfl) ?_
        refine lv_imul hx hb dX2_placeOf_22 ?_
        refine lv_iload hx hb dX2_placeOf_23 (lv_at hl 4 rfl) ?_
        refine lv_iadd hx hb dX2_placeOf_25 ?_
        obtain ⟨hin, hf⟩ := wb_n hf
        refine va_iald hx hb hK hP 1 1 rfl rfl hin dX2_placeOf_26 ?_
        refine lv_imul hx hb dX2_placeOf_27 ?_
        refine lv_iload_n hx hb dX2_placeOf_28 rfl (lv_at hl 2 rfl) ?_
        refine lv_icmp_gt (tgt := 41) hx hb dX2_placeOf_29 (by decide) (fun hc => ?_) (fun hc => ?_)
        · replace hf := wb_t hc hf
          exact J41 y5_3 ls (lv_sub hl [0, 1, 2, 3] rfl) hf
        · replace hf := wb_f hc hf
          refine lv_iload hx hb dX2_placeOf_32 (lv_at hl 4 rfl) ?_
          refine lv_istore_n (lv' := [(3, .int y5_4), (0, .ref (a0 0)), (1, .int x1), (2, .int x2), (4, .int y5_4)]) hx hb dX2_placeOf_34 rfl hl (by decide) rfl (fun ls hl => ?_)
          obtain ⟨v3, ev3, hf⟩ := wb_v hf
          refine lv_iinc (v := v3) (lv' := [(4, .int v3), (3, .int y5_4), (0, .ref (a0 0)), (1, .int x1), (2, .int x2)]) hx hb dX2_placeOf_35 hl (k := 4) rfl (by rw [ev3]; rfl) (by decide) rfl (fun ls hl => ?_)
          refine lv_goto (tgt := 5) hx hb dX2_placeOf_38 (by decide) ?_
          exact ih5 y5_4 v3 ls (lv_sub hl [2, 3, 4, 1, 0] rfl) hf
  exact L5 N (0 : Int32) (1 : Int32) ls (lv_sub hl [2, 3, 4, 1, 0] rfl) hf

set_option maxHeartbeats 4000000 in
set_option maxRecDepth 100000 in
theorem cn_X2_middleOf (l : Launch) (D : va_G) (cB cI cZ : ClassId) (N : Nat) (a0 : Nat → Nat) (I0 : Nat → Int32) (M0 : Nat → Nat → Int32) (x1 : Int32) (x2 : Int32) (R : Int32) (hf : fX2_middleOf N I0 M0 x1 x2 = some R) : Met l yX2_middleOf wsX2_middleOf ({ frames := 1, cells := 0, slots := 0, locals := 25 }) (va_Pc [.ref (a0 0), .int x1, .int x2] (wb_pre D [(cB, .byte), (cI, .int), (cZ, .boolean)] (wWX2 cB cI cZ a0 I0 M0))) (vp_Si (fun r => r = R)) 0 0 (fun _ => False) := by
  refine Met.ofW (cc := cX2_middleOf) (maxL := 3) (ret := (some .int)) pn_X2 rfl ?_
  intro p e s m args below meth c s₁ B hml hv
  obtain ⟨rfl, hP, hK⟩ := hv
  have hx := B.exec
  have hb := B.bytes
  have hr := B.returns
  have hts := atoms_spec (ws := wsX2_middleOf) B.pre
  have hown : s.vm.findClass RX2 = some m.cls := (findClass_of_methodNamed B.named :)
  have hlocks := B.notSynchronized
  have hl := lv_entry ([.ref (a0 0), .int x1, .int x2]) (n := 3) (Nat.le_of_ble_eq_true rfl)
  rw [lg_entry_eq]
  generalize (lg_sl ([.ref (a0 0), .int x1, .int x2]) ++ List.replicate (3 - (lg_sl ([.ref (a0 0), .int x1, .int x2])).length) Slot.unset).toArray = ls at hl ⊢
  have hl : lv_has ls 3 [(0, .ref (a0 0)), (1, .int x1), (2, .int x2)] := hl
  unfold fX2_middleOf at hf
  refine lv_aload_n hx hb dX2_middleOf_0 rfl (lv_at hl 0 rfl) ?_
  refine lv_iconst (v := (0 : Int32)) hx hb dX2_middleOf_1 (by decide) ?_
  refine lv_aload_n hx hb dX2_middleOf_2 rfl (lv_at hl 0 rfl) ?_
  refine lv_iload_n hx hb dX2_middleOf_3 rfl (lv_at hl 1 rfl) ?_
  refine lv_iload_n hx hb dX2_middleOf_4 rfl (lv_at hl 2 rfl) ?_
  obtain ⟨r1, hr1, hf⟩ := wb_b hf
  refine vp_callSi (W.runV (As := [.int x1, .int x2]) (rest := [.int (0 : Int32), .ref (a0 0)]) ⟨hx, hb, hml, hown, hts⟩ (cn_X2_climbOf l D cB cI cZ N a0 I0 M0 x1 x2 r1 hr1) (cwV 2 hts gX2_middleOf_X2_climbOf rfl rfl rfl cdX2_climbOf ⟨Nat.le_of_ble_eq_true rfl, Nat.le_of_ble_eq_true rfl⟩) (wb_preV hP hK (wr_2 hK hP (q0 := 0) rfl)) rfl rfl hl.1 rfl (lv_room (Nat.le_of_ble_eq_true rfl)) dX2_middleOf_5 ⟨Nat.le_of_ble_eq_true rfl, Nat.le_of_ble_eq_true rfl⟩) (fun r9 e9 => ?_)
  rw [e9]
  refine lv_ldc (v := (1620000 : Int32)) hx hb hown (hts (.constant RX2 63 (1620000)) (List.mem_of_getElem? (i := 1) rfl)) dX2_middleOf_8 ?_
  refine lv_isub hx hb dX2_middleOf_10 ?_
  refine lv_ldc (v := (6480000 : Int32)) hx hb hown (hts (.constant RX2 59 (6480000)) (List.mem_of_getElem? (i := 2) rfl)) dX2_middleOf_11 ?_
  obtain ⟨r2, hr2, hf⟩ := wb_b hf
  refine vp_callSi (W.runS (As := [.int (r1 - (1620000 : Int32)), .int (6480000 : Int32)]) (rest := [.int (0 : Int32), .ref (a0 0)]) ⟨hx, hb, hml, hown, hts⟩ (cn_J9_floorMod_7cf53 l D cB cI cZ N (r1 - (1620000 : Int32)) (6480000 : Int32) r2 hr2) (va_cwS 2 hts gX2_middleOf_J9_floorMod_7cf53 rfl rfl rfl csJ9_floorMod_7cf53 ⟨Nat.le_of_ble_eq_true rfl, Nat.le_of_ble_eq_true rfl⟩) (wb_preS (hP.sub (ws' := ([] : va_W)) [] rfl) hK) rfl rfl hl.1 rfl (lv_room (Nat.le_of_ble_eq_true rfl)) dX2_middleOf_13 ⟨Nat.le_of_ble_eq_true rfl, Nat.le_of_ble_eq_true rfl⟩) (fun r9 e9 => ?_)
  rw [e9]
  obtain ⟨r3, hr3, hf⟩ := wb_b hf
  refine vp_callSi (W.runV (As := [.int (0 : Int32), .int r2]) (rest := []) ⟨hx, hb, hml, hown, hts⟩ (cn_X2_placeOf l D cB cI cZ N a0 I0 M0 (0 : Int32) r2 r3 hr3) (cwV 2 hts gX2_middleOf_X2_placeOf rfl rfl rfl cdX2_placeOf ⟨Nat.le_of_ble_eq_true rfl, Nat.le_of_ble_eq_true rfl⟩) (wb_preV hP hK (wr_2 hK hP (q0 := 0) rfl)) rfl rfl hl.1 rfl (lv_room (Nat.le_of_ble_eq_true rfl)) dX2_middleOf_16 ⟨Nat.le_of_ble_eq_true rfl, Nat.le_of_ble_eq_true rfl⟩) (fun r9 e9 => ?_)
  rw [e9]
  exact W.iret (v := r3) hx hb hr (fun t ht hW => ⟨_, rfl, Option.some.inj hf, ht⟩) (fun _ h => nomatch h) dX2_middleOf_19

set_option maxHeartbeats 4000000 in
set_option maxRecDepth 100000 in
theorem cn_X2_houseByMiddle (l : Launch) (D : va_G) (cB cI cZ : ClassId) (N : Nat) (a0 : Nat → Nat) (I0 : Nat → Int32) (M0 : Nat → Nat → Int32) (x1 : Int32) (x2 : Int32) (x3 : Int32) (R : Int32) (hf : fX2_houseByMiddle N I0 M0 x1 x2 x3 = some R) : Met l yX2_houseByMiddle wsX2_houseByMiddle ({ frames := 2, cells := 0, slots := 0, locals := 47 }) (va_Pc [.ref (a0 0), .int x1, .int x2, .int x3] (wb_pre D [(cB, .byte), (cI, .int), (cZ, .boolean)] (wWX2 cB cI cZ a0 I0 M0))) (vp_Si (fun r => r = R)) 0 0 (fun _ => False) := by
  refine Met.ofW (cc := cX2_houseByMiddle) (maxL := 8) (ret := (some .int)) pn_X2 rfl ?_
  intro p e s m args below meth c s₁ B hml hv
  obtain ⟨rfl, hP, hK⟩ := hv
  have hx := B.exec
  have hb := B.bytes
  have hr := B.returns
  have hts := atoms_spec (ws := wsX2_houseByMiddle) B.pre
  have hown : s.vm.findClass RX2 = some m.cls := (findClass_of_methodNamed B.named :)
  have hlocks := B.notSynchronized
  have hl := lv_entry ([.ref (a0 0), .int x1, .int x2, .int x3]) (n := 8) (Nat.le_of_ble_eq_true rfl)
  rw [lg_entry_eq]
  generalize (lg_sl ([.ref (a0 0), .int x1, .int x2, .int x3]) ++ List.replicate (8 - (lg_sl ([.ref (a0 0), .int x1, .int x2, .int x3])).length) Slot.unset).toArray = ls at hl ⊢
  have hl : lv_has ls 8 [(0, .ref (a0 0)), (1, .int x1), (2, .int x2), (3, .int x3)] := hl
  unfold fX2_houseByMiddle at hf
  have J118 : ∀ (y118_4 : Int32) (y118_7 : Int32), ∀ (ls : Array Slot), lv_has ls 8 [(4, .int y118_4), (7, .int y118_7)] → fX2_houseByMiddle_J118 N I0 M0 x1 x2 x3 y118_4 y118_7 = some R → W p l e (headSpec wsX2_houseByMiddle { frames := 2, cells := 0, slots := 0, locals := 47 }).room s m [.ref (a0 0), .int x1, .int x2, .int x3].toArray below meth c s.heap [] 0 0 (MQ below (vp_Si (fun r => r = R)) [.ref (a0 0), .int x1, .int x2, .int x3].toArray s 0 0 (fun _ => False)) (F0 m 118 ls []) := by
    intro y118_4 y118_7 ls hl hf
    unfold fX2_houseByMiddle_J118 at hf
    refine lv_iload hx hb dX2_houseByMiddle_118 (lv_at hl 0 rfl) ?_
    refine lv_if_eq (tgt := 132) hx hb dX2_houseByMiddle_120 (by decide) (fun hc => ?_) (fun hc => ?_)
    · replace hf := wb_t hc hf
      refine lv_iload hx hb dX2_houseByMiddle_132 (lv_at hl 1 rfl) ?_
      refine lv_sipush (v := (360 : Int32)) hx hb dX2_houseByMiddle_134 (by decide) ?_
      refine lv_irem hx hb dX2_houseByMiddle_137 (by decide) ?_
      exact W.iret (v := (y118_7 - y118_7 / (360 : Int32) * (360 : Int32))) hx hb hr (fun t ht hW => ⟨_, rfl, Option.some.inj hf, ht⟩) (fun _ h => nomatch h) dX2_houseByMiddle_138
    · replace hf := wb_f hc hf
      refine lv_iload hx hb dX2_houseByMiddle_123 (lv_at hl 1 rfl) ?_
      refine lv_sipush (v := (180 : Int32)) hx hb dX2_houseByMiddle_125 (by decide) ?_
      refine lv_iadd hx hb dX2_houseByMiddle_128 ?_
      refine lv_goto (tgt := 134) hx hb dX2_houseByMiddle_129 (by decide) ?_
      refine lv_sipush (v := (360 : Int32)) hx hb dX2_houseByMiddle_134 (by decide) ?_
      refine lv_irem hx hb dX2_houseByMiddle_137 (by decide) ?_
      exact W.iret (v := ((y118_7 + (180 : Int32)) - (y118_7 + (180 : Int32)) / (360 : Int32) * (360 : Int32))) hx hb hr (fun t ht hW => ⟨_, rfl, Option.some.inj hf, ht⟩) (fun _ h => nomatch h) dX2_houseByMiddle_138
  have J44 : ∀ (y44_4 : Int32) (z44_0 : Int32), ∀ (ls : Array Slot), lv_has ls 8 [(0, .ref (a0 0)), (1, .int x1), (2, .int x2), (4, .int y44_4)] → fX2_houseByMiddle_J44 N I0 M0 x1 x2 x3 y44_4 z44_0 = some R → W p l e (headSpec wsX2_houseByMiddle { frames := 2, cells := 0, slots := 0, locals := 47 }).room s m [.ref (a0 0), .int x1, .int x2, .int x3].toArray below meth c s.heap [] 0 0 (MQ below (vp_Si (fun r => r = R)) [.ref (a0 0), .int x1, .int x2, .int x3].toArray s 0 0 (fun _ => False)) (F0 m 44 ls [.int z44_0]) := by
    intro y44_4 z44_0 ls hl hf
    unfold fX2_houseByMiddle_J44 at hf
    refine lv_istore (lv' := [(5, .int z44_0), (0, .ref (a0 0)), (1, .int x1), (2, .int x2), (4, .int y44_4)]) hx hb dX2_houseByMiddle_44 hl (by decide) rfl (fun ls hl => ?_)
    refine lv_aload_n hx hb dX2_houseByMiddle_46 rfl (lv_at hl 1 rfl) ?_
    refine lv_iload_n hx hb dX2_houseByMiddle_47 rfl (lv_at hl 3 rfl) ?_
    refine lv_bipush (v := (60 : Int32)) hx hb dX2_houseByMiddle_48 (by decide) ?_
    refine lv_iload_n hx hb dX2_houseByMiddle_50 rfl (lv_at hl 2 rfl) ?_
    refine lv_imul hx hb dX2_houseByMiddle_51 ?_
    obtain ⟨r1, hr1, hf⟩ := wb_b hf
    refine vp_callSi (W.runV (As := [.int x2, .int ((60 : Int32) * x1)]) (rest := []) ⟨hx, hb, hml, hown, hts⟩ (cn_X2_middleOf l D cB cI cZ N a0 I0 M0 x2 ((60 : Int32) * x1) r1 hr1) (cwV 2 hts gX2_houseByMiddle_X2_middleOf rfl rfl rfl cdX2_middleOf ⟨Nat.le_of_ble_eq_true rfl, Nat.le_of_ble_eq_true rfl⟩) (wb_preV hP hK (wr_2 hK hP (q0 := 0) rfl)) rfl rfl hl.1 rfl (lv_room (Nat.le_of_ble_eq_true rfl)) dX2_houseByMiddle_52 ⟨Nat.le_of_ble_eq_true rfl, Nat.le_of_ble_eq_true rfl⟩) (fun r9 e9 => ?_)
    rw [e9]
    refine lv_bipush (v := (60 : Int32)) hx hb dX2_houseByMiddle_55 (by decide) ?_
    refine lv_idiv hx hb dX2_houseByMiddle_57 (by decide) ?_
    obtain ⟨v2, ev2, hf⟩ := wb_v hf
    refine wb_topi ev2 ?_
    refine lv_istore (lv' := [(6, .int v2), (5, .int z44_0), (0, .ref (a0 0)), (1, .int x1), (2, .int x2), (4, .int y44_4)]) hx hb dX2_houseByMiddle_58 hl (by decide) rfl (fun ls hl => ?_)
    refine lv_iload hx hb dX2_houseByMiddle_60 (lv_at hl 1 rfl) ?_
    refine lv_bipush (v := (10 : Int32)) hx hb dX2_houseByMiddle_62 (by decide) ?_
    refine lv_icmp_lt (tgt := 93) hx hb dX2_houseByMiddle_64 (by decide) (fun hc => ?_) (fun hc => ?_)
    · replace hf := wb_t hc hf
      refine lv_iload_n hx hb dX2_houseByMiddle_93 rfl (lv_at hl 3 rfl) ?_
      refine lv_iload hx hb dX2_houseByMiddle_94 (lv_at hl 1 rfl) ?_
      refine lv_iconst (v := (1 : Int32)) hx hb dX2_houseByMiddle_96 (by decide) ?_
      refine lv_isub hx hb dX2_houseByMiddle_97 ?_
      refine lv_iload hx hb dX2_houseByMiddle_98 (lv_at hl 0 rfl) ?_
      refine lv_sipush (v := (180 : Int32)) hx hb dX2_houseByMiddle_100 (by decide) ?_
      refine lv_iadd hx hb dX2_houseByMiddle_103 ?_
      refine lv_iload_n hx hb dX2_houseByMiddle_104 rfl (lv_at hl 3 rfl) ?_
      refine lv_isub hx hb dX2_houseByMiddle_105 ?_
      refine lv_sipush (v := (360 : Int32)) hx hb dX2_houseByMiddle_106 (by decide) ?_
      obtain ⟨r3, hr3, hf⟩ := wb_b hf
      refine vp_callSi (W.runS (As := [.int ((v2 + (180 : Int32)) - x1), .int (360 : Int32)]) (rest := [.int (z44_0 - (1 : Int32)), .int x1]) ⟨hx, hb, hml, hown, hts⟩ (cn_J9_floorMod_7cf53 l D cB cI cZ N ((v2 + (180 : Int32)) - x1) (360 : Int32) r3 hr3) (va_cwS 2 hts gX2_houseByMiddle_J9_floorMod_7cf53 rfl rfl rfl csJ9_floorMod_7cf53 ⟨Nat.le_of_ble_eq_true rfl, Nat.le_of_ble_eq_true rfl⟩) (wb_preS (hP.sub (ws' := ([] : va_W)) [] rfl) hK) rfl rfl hl.1 rfl (lv_room (Nat.le_of_ble_eq_true rfl)) dX2_houseByMiddle_109 ⟨Nat.le_of_ble_eq_true rfl, Nat.le_of_ble_eq_true rfl⟩) (fun r9 e9 => ?_)
      rw [e9]
      refine lv_imul hx hb dX2_houseByMiddle_112 ?_
      refine lv_iconst (v := (3 : Int32)) hx hb dX2_houseByMiddle_113 (by decide) ?_
      refine lv_idiv hx hb dX2_houseByMiddle_114 (by decide) ?_
      refine lv_iadd hx hb dX2_houseByMiddle_115 ?_
      obtain ⟨v4, ev4, hf⟩ := wb_v hf
      refine wb_topi ev4 ?_
      refine lv_istore (lv' := [(7, .int v4), (6, .int v2), (5, .int z44_0), (0, .ref (a0 0)), (1, .int x1), (2, .int x2), (4, .int y44_4)]) hx hb dX2_houseByMiddle_116 hl (by decide) rfl (fun ls hl => ?_)
      exact J118 y44_4 v4 ls (lv_sub hl [6, 0] rfl) hf
    · replace hf := wb_f hc hf
      refine lv_iload hx hb dX2_houseByMiddle_67 (lv_at hl 0 rfl) ?_
      refine lv_iload hx hb dX2_houseByMiddle_69 (lv_at hl 1 rfl) ?_
      refine lv_bipush (v := (10 : Int32)) hx hb dX2_houseByMiddle_71 (by decide) ?_
      refine lv_isub hx hb dX2_houseByMiddle_73 ?_
      refine lv_iload_n hx hb dX2_houseByMiddle_74 rfl (lv_at hl 3 rfl) ?_
      refine lv_iload hx hb dX2_houseByMiddle_75 (lv_at hl 0 rfl) ?_
      refine lv_isub hx hb dX2_houseByMiddle_77 ?_
      refine lv_sipush (v := (360 : Int32)) hx hb dX2_houseByMiddle_78 (by decide) ?_
      obtain ⟨r5, hr5, hf⟩ := wb_b hf
      refine vp_callSi (W.runS (As := [.int (x1 - v2), .int (360 : Int32)]) (rest := [.int (z44_0 - (10 : Int32)), .int v2]) ⟨hx, hb, hml, hown, hts⟩ (cn_J9_floorMod_7cf53 l D cB cI cZ N (x1 - v2) (360 : Int32) r5 hr5) (va_cwS 2 hts gX2_houseByMiddle_J9_floorMod_7cf53 rfl rfl rfl csJ9_floorMod_7cf53 ⟨Nat.le_of_ble_eq_true rfl, Nat.le_of_ble_eq_true rfl⟩) (wb_preS (hP.sub (ws' := ([] : va_W)) [] rfl) hK) rfl rfl hl.1 rfl (lv_room (Nat.le_of_ble_eq_true rfl)) dX2_houseByMiddle_81 ⟨Nat.le_of_ble_eq_true rfl, Nat.le_of_ble_eq_true rfl⟩) (fun r9 e9 => ?_)
      rw [e9]
      refine lv_imul hx hb dX2_houseByMiddle_84 ?_
      refine lv_iconst (v := (3 : Int32)) hx hb dX2_houseByMiddle_85 (by decide) ?_
      refine lv_idiv hx hb dX2_houseByMiddle_86 (by decide) ?_
      refine lv_iadd hx hb dX2_houseByMiddle_87 ?_
      obtain ⟨v6, ev6, hf⟩ := wb_v hf
      refine wb_topi ev6 ?_
      refine lv_istore (lv' := [(7, .int v6), (6, .int v2), (5, .int z44_0), (0, .ref (a0 0)), (1, .int x1), (2, .int x2), (4, .int y44_4)]) hx hb dX2_houseByMiddle_88 hl (by decide) rfl (fun ls hl => ?_)
      refine lv_goto (tgt := 118) hx hb dX2_houseByMiddle_90 (by decide) ?_
      exact J118 y44_4 v6 ls (lv_sub hl [6, 0] rfl) hf
  have J16 : ∀ (z16_0 : Int32), ∀ (ls : Array Slot), lv_has ls 8 [(0, .ref (a0 0)), (1, .int x1), (2, .int x2), (3, .int x3)] → fX2_houseByMiddle_J16 N I0 M0 x1 x2 x3 z16_0 = some R → W p l e (headSpec wsX2_houseByMiddle { frames := 2, cells := 0, slots := 0, locals := 47 }).room s m [.ref (a0 0), .int x1, .int x2, .int x3].toArray below meth c s.heap [] 0 0 (MQ below (vp_Si (fun r => r = R)) [.ref (a0 0), .int x1, .int x2, .int x3].toArray s 0 0 (fun _ => False)) (F0 m 16 ls [.int z16_0]) := by
    intro z16_0 ls hl hf
    unfold fX2_houseByMiddle_J16 at hf
    refine lv_istore (lv' := [(4, .int z16_0), (0, .ref (a0 0)), (1, .int x1), (2, .int x2), (3, .int x3)]) hx hb dX2_houseByMiddle_16 hl (by decide) rfl (fun ls hl => ?_)
    refine lv_iload hx hb dX2_houseByMiddle_18 (lv_at hl 0 rfl) ?_
    refine lv_if_ne (tgt := 27) hx hb dX2_houseByMiddle_20 (by decide) (fun hc => ?_) (fun hc => ?_)
    · replace hf := wb_f hc hf
      refine lv_iload_n hx hb dX2_houseByMiddle_27 rfl (lv_at hl 4 rfl) ?_
      refine lv_bipush (v := (7 : Int32)) hx hb dX2_houseByMiddle_28 (by decide) ?_
      refine lv_icmp_ge (tgt := 40) hx hb dX2_houseByMiddle_30 (by decide) (fun hc => ?_) (fun hc => ?_)
      · replace hf := wb_t hc hf
        refine lv_iload_n hx hb dX2_houseByMiddle_40 rfl (lv_at hl 4 rfl) ?_
        refine lv_bipush (v := (6 : Int32)) hx hb dX2_houseByMiddle_41 (by decide) ?_
        refine lv_isub hx hb dX2_houseByMiddle_43 ?_
        exact J44 z16_0 (x3 - (6 : Int32)) ls (lv_sub hl [1, 2, 3, 0] rfl) hf
      · replace hf := wb_f hc hf
        refine lv_iload_n hx hb dX2_houseByMiddle_33 rfl (lv_at hl 4 rfl) ?_
        refine lv_bipush (v := (6 : Int32)) hx hb dX2_houseByMiddle_34 (by decide) ?_
        refine lv_iadd hx hb dX2_houseByMiddle_36 ?_
        refine lv_goto (tgt := 44) hx hb dX2_houseByMiddle_37 (by decide) ?_
        exact J44 z16_0 (x3 + (6 : Int32)) ls (lv_sub hl [1, 2, 3, 0] rfl) hf
    · replace hf := wb_t hc hf
      refine lv_iload_n hx hb dX2_houseByMiddle_23 rfl (lv_at hl 4 rfl) ?_
      refine lv_goto (tgt := 44) hx hb dX2_houseByMiddle_24 (by decide) ?_
      exact J44 z16_0 x3 ls (lv_sub hl [1, 2, 3, 0] rfl) hf
  have J15 : ∀ (ls : Array Slot), lv_has ls 8 [(0, .ref (a0 0)), (1, .int x1), (2, .int x2), (3, .int x3)] → fX2_houseByMiddle_J15 N I0 M0 x1 x2 x3 = some R → W p l e (headSpec wsX2_houseByMiddle { frames := 2, cells := 0, slots := 0, locals := 47 }).room s m [.ref (a0 0), .int x1, .int x2, .int x3].toArray below meth c s.heap [] 0 0 (MQ below (vp_Si (fun r => r = R)) [.ref (a0 0), .int x1, .int x2, .int x3].toArray s 0 0 (fun _ => False)) (F0 m 15 ls []) := by
    intro ls hl hf
    unfold fX2_houseByMiddle_J15 at hf
    refine lv_iconst (v := (0 : Int32)) hx hb dX2_houseByMiddle_15 (by decide) ?_
    exact J16 (0 : Int32) ls (lv_sub hl [0, 1, 2, 3] rfl) hf
  refine lv_iload_n hx hb dX2_houseByMiddle_0 rfl (lv_at hl 3 rfl) ?_
  refine lv_iconst (v := (4 : Int32)) hx hb dX2_houseByMiddle_1 (by decide) ?_
  refine lv_icmp_lt (tgt := 15) hx hb dX2_houseByMiddle_2 (by decide) (fun hc => ?_) (fun hc => ?_)
  · replace hf := wb_t hc hf
    exact J15 ls (lv_sub hl [0, 1, 2, 3] rfl) hf
  · replace hf := wb_f hc hf
    refine lv_iload_n hx hb dX2_houseByMiddle_5 rfl (lv_at hl 3 rfl) ?_
    refine lv_bipush (v := (9 : Int32)) hx hb dX2_houseByMiddle_6 (by decide) ?_
    refine lv_icmp_gt (tgt := 15) hx hb dX2_houseByMiddle_8 (by decide) (fun hc => ?_) (fun hc => ?_)
    · replace hf := wb_t hc hf
      exact J15 ls (lv_sub hl [0, 1, 2, 3] rfl) hf
    · replace hf := wb_f hc hf
      refine lv_iconst (v := (1 : Int32)) hx hb dX2_houseByMiddle_11 (by decide) ?_
      refine lv_goto (tgt := 16) hx hb dX2_houseByMiddle_12 (by decide) ?_
      exact J16 (1 : Int32) ls (lv_sub hl [0, 1, 2, 3] rfl) hf

set_option maxHeartbeats 4000000 in
set_option maxRecDepth 100000 in
theorem cn_X2_houseDegree (l : Launch) (D : va_G) (cB cI cZ : ClassId) (N : Nat) (a0 : Nat → Nat) (I0 : Nat → Int32) (M0 : Nat → Nat → Int32) (x1 : Int32) (x2 : Int32) (x3 : Int32) (x4 : Int32) (R : Int32) (hf : fX2_houseDegree N I0 M0 x1 x2 x3 x4 = some R) : Met l yX2_houseDegree wsX2_houseDegree ({ frames := 3, cells := 0, slots := 0, locals := 74 }) (va_Pc [.ref (a0 0), .int x1, .int x2, .int x3, .int x4] (wb_pre D [(cB, .byte), (cI, .int), (cZ, .boolean)] (wWX2 cB cI cZ a0 I0 M0))) (vp_Si (fun r => r = R)) 0 0 (fun _ => False) := by
  refine Met.ofW (cc := cX2_houseDegree) (maxL := 5) (ret := (some .int)) pn_X2 rfl ?_
  intro p e s m args below meth c s₁ B hml hv
  obtain ⟨rfl, hP, hK⟩ := hv
  have hx := B.exec
  have hb := B.bytes
  have hr := B.returns
  have hts := atoms_spec (ws := wsX2_houseDegree) B.pre
  have hown : s.vm.findClass RX2 = some m.cls := (findClass_of_methodNamed B.named :)
  have hlocks := B.notSynchronized
  have hl := lv_entry ([.ref (a0 0), .int x1, .int x2, .int x3, .int x4]) (n := 5) (Nat.le_of_ble_eq_true rfl)
  rw [lg_entry_eq]
  generalize (lg_sl ([.ref (a0 0), .int x1, .int x2, .int x3, .int x4]) ++ List.replicate (5 - (lg_sl ([.ref (a0 0), .int x1, .int x2, .int x3, .int x4])).length) Slot.unset).toArray = ls at hl ⊢
  have hl : lv_has ls 5 [(0, .ref (a0 0)), (1, .int x1), (2, .int x2), (3, .int x3), (4, .int x4)] := hl
  unfold fX2_houseDegree at hf
  refine lv_iload_n hx hb dX2_houseDegree_0 rfl (lv_at hl 2 rfl) ?_
  refine lv_if_ne (tgt := 20) hx hb dX2_houseDegree_1 (by decide) (fun hc => ?_) (fun hc => ?_)
  · replace hf := wb_f hc hf
    refine lv_iload_n hx hb dX2_houseDegree_20 rfl (lv_at hl 2 rfl) ?_
    refine lv_iconst (v := (1 : Int32)) hx hb dX2_houseDegree_21 (by decide) ?_
    refine lv_icmp_ne (tgt := 39) hx hb dX2_houseDegree_22 (by decide) (fun hc => ?_) (fun hc => ?_)
    · replace hf := wb_f hc hf
      refine lv_aload_n hx hb dX2_houseDegree_39 rfl (lv_at hl 0 rfl) ?_
      refine lv_iload_n hx hb dX2_houseDegree_40 rfl (lv_at hl 1 rfl) ?_
      refine lv_iload_n hx hb dX2_houseDegree_41 rfl (lv_at hl 3 rfl) ?_
      refine lv_iload hx hb dX2_houseDegree_42 (lv_at hl 4 rfl) ?_
      obtain ⟨r1, hr1, hf⟩ := wb_b hf
      refine vp_callSi (W.runV (As := [.int x1, .int x3, .int x4]) (rest := []) ⟨hx, hb, hml, hown, hts⟩ (cn_X2_houseByMiddle l D cB cI cZ N a0 I0 M0 x1 x3 x4 r1 hr1) (cwV 3 hts gX2_houseDegree_X2_houseByMiddle rfl rfl rfl cdX2_houseByMiddle ⟨Nat.le_of_ble_eq_true rfl, Nat.le_of_ble_eq_true rfl⟩) (wb_preV hP hK (wr_2 hK hP (q0 := 0) rfl)) rfl rfl hl.1 rfl (lv_room (Nat.le_of_ble_eq_true rfl)) dX2_houseDegree_44 ⟨Nat.le_of_ble_eq_true rfl, Nat.le_of_ble_eq_true rfl⟩) (fun r9 e9 => ?_)
      rw [e9]
      exact W.iret (v := r1) hx hb hr (fun t ht hW => ⟨_, rfl, Option.some.inj hf, ht⟩) (fun _ h => nomatch h) dX2_houseDegree_47
    · replace hf := wb_t hc hf
      refine lv_iload_n hx hb dX2_houseDegree_25 rfl (lv_at hl 1 rfl) ?_
      refine lv_bipush (v := (30 : Int32)) hx hb dX2_houseDegree_26 (by decide) ?_
      refine lv_iload hx hb dX2_houseDegree_28 (lv_at hl 4 rfl) ?_
      refine lv_iconst (v := (1 : Int32)) hx hb dX2_houseDegree_30 (by decide) ?_
      refine lv_isub hx hb dX2_houseDegree_31 ?_
      refine lv_imul hx hb dX2_houseDegree_32 ?_
      refine lv_iadd hx hb dX2_houseDegree_33 ?_
      refine lv_sipush (v := (360 : Int32)) hx hb dX2_houseDegree_34 (by decide) ?_
      refine lv_irem hx hb dX2_houseDegree_37 (by decide) ?_
      exact W.iret (v := ((x1 + ((30 : Int32) * (x4 - (1 : Int32)))) - (x1 + ((30 : Int32) * (x4 - (1 : Int32)))) / (360 : Int32) * (360 : Int32))) hx hb hr (fun t ht hW => ⟨_, rfl, Option.some.inj hf, ht⟩) (fun _ h => nomatch h) dX2_houseDegree_38
  · replace hf := wb_t hc hf
    refine lv_iload_n hx hb dX2_houseDegree_4 rfl (lv_at hl 1 rfl) ?_
    refine lv_bipush (v := (30 : Int32)) hx hb dX2_houseDegree_5 (by decide) ?_
    refine lv_idiv hx hb dX2_houseDegree_7 (by decide) ?_
    refine lv_iload hx hb dX2_houseDegree_8 (lv_at hl 4 rfl) ?_
    refine lv_iadd hx hb dX2_houseDegree_10 ?_
    refine lv_iconst (v := (1 : Int32)) hx hb dX2_houseDegree_11 (by decide) ?_
    refine lv_isub hx hb dX2_houseDegree_12 ?_
    refine lv_bipush (v := (12 : Int32)) hx hb dX2_houseDegree_13 (by decide) ?_
    refine lv_irem hx hb dX2_houseDegree_15 (by decide) ?_
    refine lv_bipush (v := (30 : Int32)) hx hb dX2_houseDegree_16 (by decide) ?_
    refine lv_imul hx hb dX2_houseDegree_18 ?_
    exact W.iret (v := (((((x1 / (30 : Int32)) + x4) - (1 : Int32)) - (((x1 / (30 : Int32)) + x4) - (1 : Int32)) / (12 : Int32) * (12 : Int32)) * (30 : Int32))) hx hb hr (fun t ht hW => ⟨_, rfl, Option.some.inj hf, ht⟩) (fun _ h => nomatch h) dX2_houseDegree_19

set_option maxHeartbeats 4000000 in
set_option maxRecDepth 100000 in
theorem cn_X1_howManyDiffer (l : Launch) (D : va_G) (cB cI cZ : ClassId) (N : Nat) (a0 : Nat → Nat) (I0 : Nat → Int32) (M0 : Nat → Nat → Int32) (a1 : Nat → Nat) (I1 : Nat → Int32) (M1 : Nat → Nat → Int32) (x2 : Int32) (x3 : Int32) (x4 : Int32) (R : Int32) (hf : fX1_howManyDiffer N I0 M0 I1 M1 x2 x3 x4 = some R) : Met l yX1_howManyDiffer wsX1_howManyDiffer ({ frames := 4, cells := 0, slots := 0, locals := 98 }) (va_Pc [.ref (a0 0), .ref (a1 0), .int x2, .int x3, .int x4] (wb_pre D [(cB, .byte), (cI, .int), (cZ, .boolean)] ((wWX1 cB cI cZ a0 I0 M0) ++ (wWX2 cB cI cZ a1 I1 M1)))) (vp_Si (fun r => r = R)) 0 0 (fun _ => False) := by
  refine Met.ofW (cc := cX1_howManyDiffer) (maxL := 9) (ret := (some .int)) pn_X1 rfl ?_
  intro p e s m args below meth c s₁ B hml hv
  obtain ⟨rfl, hP, hK⟩ := hv
  have hx := B.exec
  have hb := B.bytes
  have hr := B.returns
  have hts := atoms_spec (ws := wsX1_howManyDiffer) B.pre
  have hown : s.vm.findClass RX1 = some m.cls := (findClass_of_methodNamed B.named :)
  have hlocks := B.notSynchronized
  have hl := lv_entry ([.ref (a0 0), .ref (a1 0), .int x2, .int x3, .int x4]) (n := 9) (Nat.le_of_ble_eq_true rfl)
  rw [lg_entry_eq]
  generalize (lg_sl ([.ref (a0 0), .ref (a1 0), .int x2, .int x3, .int x4]) ++ List.replicate (9 - (lg_sl ([.ref (a0 0), .ref (a1 0), .int x2, .int x3, .int x4])).length) Slot.unset).toArray = ls at hl ⊢
  have hl : lv_has ls 9 [(0, .ref (a0 0)), (1, .ref (a1 0)), (2, .int x2), (3, .int x3), (4, .int x4)] := hl
  unfold fX1_howManyDiffer at hf
  refine lv_aload_n hx hb dX1_howManyDiffer_0 rfl (lv_at hl 0 rfl) ?_
  refine lv_iload_n hx hb dX1_howManyDiffer_1 rfl (lv_at hl 2 rfl) ?_
  refine lv_bipush (v := (7 : Int32)) hx hb dX1_howManyDiffer_2 (by decide) ?_
  obtain ⟨r1, hr1, hf⟩ := wb_b hf
  refine vp_callSi (W.runV (As := [.int x2, .int (7 : Int32)]) (rest := []) ⟨hx, hb, hml, hown, hts⟩ (cn_X1_degreeOf l D cB cI cZ N a0 I0 M0 x2 (7 : Int32) r1 hr1) (cwV 2 hts gX1_howManyDiffer_X1_degreeOf rfl rfl rfl cdX1_degreeOf ⟨Nat.le_of_ble_eq_true rfl, Nat.le_of_ble_eq_true rfl⟩) (wb_preV (hP.sub (ws' := (wWX1 cB cI cZ a0 I0 M0)) [0, 1, 2] rfl) hK (wr_1 hK hP (q0 := 0) rfl)) rfl rfl hl.1 rfl (lv_room (Nat.le_of_ble_eq_true rfl)) dX1_howManyDiffer_4 ⟨Nat.le_of_ble_eq_true rfl, Nat.le_of_ble_eq_true rfl⟩) (fun r9 e9 => ?_)
  rw [e9]
  refine lv_istore (lv' := [(5, .int r1), (0, .ref (a0 0)), (1, .ref (a1 0)), (2, .int x2), (3, .int x3), (4, .int x4)]) hx hb dX1_howManyDiffer_7 hl (by decide) rfl (fun ls hl => ?_)
  refine lv_iconst (v := (0 : Int32)) hx hb dX1_howManyDiffer_9 (by decide) ?_
  refine lv_istore (lv' := [(6, .int (0 : Int32)), (5, .int r1), (0, .ref (a0 0)), (1, .ref (a1 0)), (2, .int x2), (3, .int x3), (4, .int x4)]) hx hb dX1_howManyDiffer_10 hl (by decide) rfl (fun ls hl => ?_)
  refine lv_iconst (v := (1 : Int32)) hx hb dX1_howManyDiffer_12 (by decide) ?_
  refine lv_istore (lv' := [(7, .int (1 : Int32)), (6, .int (0 : Int32)), (5, .int r1), (0, .ref (a0 0)), (1, .ref (a1 0)), (2, .int x2), (3, .int x3), (4, .int x4)]) hx hb dX1_howManyDiffer_13 hl (by decide) rfl (fun ls hl => ?_)
  have L15 : ∀ (fu15 : Nat) (y15_6 : Int32) (y15_7 : Int32), ∀ (ls : Array Slot), lv_has ls 9 [(0, .ref (a0 0)), (1, .ref (a1 0)), (2, .int x2), (3, .int x3), (4, .int x4), (5, .int r1), (6, .int y15_6), (7, .int y15_7)] → fX1_howManyDiffer_L15 N I0 M0 I1 M1 x2 x3 x4 r1 fu15 y15_6 y15_7 = some R → W p l e (headSpec wsX1_howManyDiffer { frames := 4, cells := 0, slots := 0, locals := 98 }).room s m [.ref (a0 0), .ref (a1 0), .int x2, .int x3, .int x4].toArray below meth c s.heap [] 0 0 (MQ below (vp_Si (fun r => r = R)) [.ref (a0 0), .ref (a1 0), .int x2, .int x3, .int x4].toArray s 0 0 (fun _ => False)) (F0 m 15 ls []) := by
    intro fu15
    induction fu15 with
    | zero =>
      intro y15_6 y15_7 ls hl hf
      exact absurd hf (by rw [fX1_howManyDiffer_L15.eq_1]; exact fun h => nomatch h)
    | succ fu15 ih15 =>
      intro y15_6 y15_7 ls hl hf
      rw [fX1_howManyDiffer_L15.eq_2] at hf
      refine lv_iload hx hb dX1_howManyDiffer_15 (lv_at hl 7 rfl) ?_
      refine lv_bipush (v := (12 : Int32)) hx hb dX1_howManyDiffer_17 (by decide) ?_
      refine lv_icmp_gt (tgt := 65) hx hb dX1_howManyDiffer_19 (by decide) (fun hc => ?_) (fun hc => ?_)
      · replace hf := wb_t hc hf
        refine lv_iload hx hb dX1_howManyDiffer_65 (lv_at hl 6 rfl) ?_
        exact W.iret (v := y15_6) hx hb hr (fun t ht hW => ⟨_, rfl, Option.some.inj hf, ht⟩) (fun _ h => nomatch h) dX1_howManyDiffer_67
      · replace hf := wb_f hc hf
        refine lv_aload_n hx hb dX1_howManyDiffer_22 rfl (lv_at hl 0 rfl) ?_
        refine lv_iload_n hx hb dX1_howManyDiffer_23 rfl (lv_at hl 2 rfl) ?_
        refine lv_bipush (v := (8 : Int32)) hx hb dX1_howManyDiffer_24 (by decide) ?_
        refine lv_iload hx hb dX1_howManyDiffer_26 (lv_at hl 7 rfl) ?_
        refine lv_iadd hx hb dX1_howManyDiffer_28 ?_
        obtain ⟨r2, hr2, hf⟩ := wb_b hf
        refine vp_callSi (W.runV (As := [.int x2, .int ((8 : Int32) + y15_7)]) (rest := []) ⟨hx, hb, hml, hown, hts⟩ (cn_X1_degreeOf l D cB cI cZ N a0 I0 M0 x2 ((8 : Int32) + y15_7) r2 hr2) (cwV 2 hts gX1_howManyDiffer_X1_degreeOf rfl rfl rfl cdX1_degreeOf ⟨Nat.le_of_ble_eq_true rfl, Nat.le_of_ble_eq_true rfl⟩) (wb_preV (hP.sub (ws' := (wWX1 cB cI cZ a0 I0 M0)) [0, 1, 2] rfl) hK (wr_1 hK hP (q0 := 0) rfl)) rfl rfl hl.1 rfl (lv_room (Nat.le_of_ble_eq_true rfl)) dX1_howManyDiffer_29 ⟨Nat.le_of_ble_eq_true rfl, Nat.le_of_ble_eq_true rfl⟩) (fun r9 e9 => ?_)
        rw [e9]
        refine lv_istore (lv' := [(8, .int r2), (0, .ref (a0 0)), (1, .ref (a1 0)), (2, .int x2), (3, .int x3), (4, .int x4), (5, .int r1), (6, .int y15_6), (7, .int y15_7)]) hx hb dX1_howManyDiffer_32 hl (by decide) rfl (fun ls hl => ?_)
        refine lv_iload hx hb dX1_howManyDiffer_34 (lv_at hl 0 rfl) ?_
        refine lv_iconst (v := (-1 : Int32)) hx hb dX1_howManyDiffer_36 (by decide) ?_
        refine lv_icmp_eq (tgt := 59) hx hb dX1_howManyDiffer_37 (by decide) (fun hc => ?_) (fun hc => ?_)
        · replace hf := wb_t hc hf
          obtain ⟨v3, ev3, hf⟩ := wb_v hf
          refine lv_iinc (v := v3) (lv' := [(7, .int v3), (8, .int r2), (0, .ref (a0 0)), (1, .ref (a1 0)), (2, .int x2), (3, .int x3), (4, .int x4), (5, .int r1), (6, .int y15_6)]) hx hb dX1_howManyDiffer_59 hl (k := 8) rfl (by rw [ev3]; rfl) (by decide) rfl (fun ls hl => ?_)
          refine lv_goto (tgt := 15) hx hb dX1_howManyDiffer_62 (by decide) ?_
          exact ih15 y15_6 v3 ls (lv_sub hl [2, 3, 4, 5, 6, 7, 8, 0] rfl) hf
        · replace hf := wb_f hc hf
          refine lv_iload hx hb dX1_howManyDiffer_40 (lv_at hl 0 rfl) ?_
          refine lv_aload_n hx hb dX1_howManyDiffer_42 rfl (lv_at hl 2 rfl) ?_
          refine lv_iload hx hb dX1_howManyDiffer_43 (lv_at hl 6 rfl) ?_
          refine lv_iload_n hx hb dX1_howManyDiffer_45 rfl (lv_at hl 4 rfl) ?_
          refine lv_iload hx hb dX1_howManyDiffer_46 (lv_at hl 5 rfl) ?_
          refine lv_iload hx hb dX1_howManyDiffer_48 (lv_at hl 8 rfl) ?_
          obtain ⟨r4, hr4, hf⟩ := wb_b hf
          refine vp_callSi (W.runV (As := [.int r1, .int x3, .int x4, .int y15_7]) (rest := [.int r2]) ⟨hx, hb, hml, hown, hts⟩ (cn_X2_houseDegree l D cB cI cZ N a1 I1 M1 r1 x3 x4 y15_7 r4 hr4) (cwV 4 hts gX1_howManyDiffer_X2_houseDegree rfl rfl rfl cdX2_houseDegree ⟨Nat.le_of_ble_eq_true rfl, Nat.le_of_ble_eq_true rfl⟩) (wb_preV (hP.sub (ws' := (wWX2 cB cI cZ a1 I1 M1)) [3, 4] rfl) hK (wr_2 hK hP (q0 := 3) rfl)) rfl rfl hl.1 rfl (lv_room (Nat.le_of_ble_eq_true rfl)) dX1_howManyDiffer_50 ⟨Nat.le_of_ble_eq_true rfl, Nat.le_of_ble_eq_true rfl⟩) (fun r9 e9 => ?_)
          rw [e9]
          refine lv_icmp_eq (tgt := 59) hx hb dX1_howManyDiffer_53 (by decide) (fun hc => ?_) (fun hc => ?_)
          · replace hf := wb_t hc hf
            obtain ⟨v5, ev5, hf⟩ := wb_v hf
            refine lv_iinc (v := v5) (lv' := [(7, .int v5), (8, .int r2), (0, .ref (a0 0)), (1, .ref (a1 0)), (2, .int x2), (3, .int x3), (4, .int x4), (5, .int r1), (6, .int y15_6)]) hx hb dX1_howManyDiffer_59 hl (k := 8) rfl (by rw [ev5]; rfl) (by decide) rfl (fun ls hl => ?_)
            refine lv_goto (tgt := 15) hx hb dX1_howManyDiffer_62 (by decide) ?_
            exact ih15 y15_6 v5 ls (lv_sub hl [2, 3, 4, 5, 6, 7, 8, 0] rfl) hf
          · replace hf := wb_f hc hf
            obtain ⟨v6, ev6, hf⟩ := wb_v hf
            refine lv_iinc (v := v6) (lv' := [(6, .int v6), (8, .int r2), (0, .ref (a0 0)), (1, .ref (a1 0)), (2, .int x2), (3, .int x3), (4, .int x4), (5, .int r1), (7, .int y15_7)]) hx hb dX1_howManyDiffer_56 hl (k := 7) rfl (by rw [ev6]; rfl) (by decide) rfl (fun ls hl => ?_)
            obtain ⟨v7, ev7, hf⟩ := wb_v hf
            refine lv_iinc (v := v7) (lv' := [(7, .int v7), (6, .int v6), (8, .int r2), (0, .ref (a0 0)), (1, .ref (a1 0)), (2, .int x2), (3, .int x3), (4, .int x4), (5, .int r1)]) hx hb dX1_howManyDiffer_59 hl (k := 8) rfl (by rw [ev7]; rfl) (by decide) rfl (fun ls hl => ?_)
            refine lv_goto (tgt := 15) hx hb dX1_howManyDiffer_62 (by decide) ?_
            exact ih15 v6 v7 ls (lv_sub hl [3, 4, 5, 6, 7, 8, 1, 0] rfl) hf
  exact L15 N (0 : Int32) (1 : Int32) ls (lv_sub hl [3, 4, 5, 6, 7, 2, 1, 0] rfl) hf

set_option maxHeartbeats 4000000 in
set_option maxRecDepth 100000 in
theorem cn_X1_lotOf (l : Launch) (D : va_G) (cB cI cZ : ClassId) (N : Nat) (a0 : Nat → Nat) (I0 : Nat → Int32) (M0 : Nat → Nat → Int32) (x1 : Int32) (R : Int32) (hf : fX1_lotOf N I0 M0 x1 = some R) : Met l yX1_lotOf wsX1_lotOf ({ frames := 1, cells := 0, slots := 0, locals := 22 }) (va_Pc [.ref (a0 0), .int x1] (wb_pre D [(cB, .byte), (cI, .int), (cZ, .boolean)] (wWX1 cB cI cZ a0 I0 M0))) (vp_Si (fun r => r = R)) 0 0 (fun _ => False) := by
  refine Met.ofW (cc := cX1_lotOf) (maxL := 6) (ret := (some .int)) pn_X1 rfl ?_
  intro p e s m args below meth c s₁ B hml hv
  obtain ⟨rfl, hP, hK⟩ := hv
  have hx := B.exec
  have hb := B.bytes
  have hr := B.returns
  have hts := atoms_spec (ws := wsX1_lotOf) B.pre
  have hown : s.vm.findClass RX1 = some m.cls := (findClass_of_methodNamed B.named :)
  have hlocks := B.notSynchronized
  have hl := lv_entry ([.ref (a0 0), .int x1]) (n := 6) (Nat.le_of_ble_eq_true rfl)
  rw [lg_entry_eq]
  generalize (lg_sl ([.ref (a0 0), .int x1]) ++ List.replicate (6 - (lg_sl ([.ref (a0 0), .int x1])).length) Slot.unset).toArray = ls at hl ⊢
  have hl : lv_has ls 6 [(0, .ref (a0 0)), (1, .int x1)] := hl
  unfold fX1_lotOf at hf
  have J62 : ∀ (y62_2 : Int32) (y62_3 : Int32) (y62_4 : Int32) (z62_0 : Int32), ∀ (ls : Array Slot), lv_has ls 6 [(2, .int y62_2), (3, .int y62_3), (4, .int y62_4)] → fX1_lotOf_J62 N I0 M0 x1 y62_2 y62_3 y62_4 z62_0 = some R → W p l e (headSpec wsX1_lotOf { frames := 1, cells := 0, slots := 0, locals := 22 }).room s m [.ref (a0 0), .int x1].toArray below meth c s.heap [] 0 0 (MQ below (vp_Si (fun r => r = R)) [.ref (a0 0), .int x1].toArray s 0 0 (fun _ => False)) (F0 m 62 ls [.int z62_0]) := by
    intro y62_2 y62_3 y62_4 z62_0 ls hl hf
    unfold fX1_lotOf_J62 at hf
    refine lv_istore (lv' := [(5, .int z62_0), (2, .int y62_2), (3, .int y62_3), (4, .int y62_4)]) hx hb dX1_lotOf_62 hl (by decide) rfl (fun ls hl => ?_)
    refine lv_iload hx hb dX1_lotOf_64 (lv_at hl 0 rfl) ?_
    refine lv_if_eq (tgt := 78) hx hb dX1_lotOf_66 (by decide) (fun hc => ?_) (fun hc => ?_)
    · replace hf := wb_t hc hf
      refine lv_iload hx hb dX1_lotOf_78 (lv_at hl 3 rfl) ?_
      refine lv_iload_n hx hb dX1_lotOf_80 rfl (lv_at hl 1 rfl) ?_
      refine lv_iadd hx hb dX1_lotOf_81 ?_
      refine lv_iload_n hx hb dX1_lotOf_82 rfl (lv_at hl 2 rfl) ?_
      refine lv_isub hx hb dX1_lotOf_83 ?_
      refine lv_sipush (v := (360 : Int32)) hx hb dX1_lotOf_84 (by decide) ?_
      obtain ⟨r1, hr1, hf⟩ := wb_b hf
      refine vp_callSi (W.runS (As := [.int ((y62_4 + y62_2) - y62_3), .int (360 : Int32)]) (rest := []) ⟨hx, hb, hml, hown, hts⟩ (cn_J9_floorMod_7cf53 l D cB cI cZ N ((y62_4 + y62_2) - y62_3) (360 : Int32) r1 hr1) (va_cwS 2 hts gX1_lotOf_J9_floorMod_7cf53 rfl rfl rfl csJ9_floorMod_7cf53 ⟨Nat.le_of_ble_eq_true rfl, Nat.le_of_ble_eq_true rfl⟩) (wb_preS (hP.sub (ws' := ([] : va_W)) [] rfl) hK) rfl rfl hl.1 rfl (lv_room (Nat.le_of_ble_eq_true rfl)) dX1_lotOf_87 ⟨Nat.le_of_ble_eq_true rfl, Nat.le_of_ble_eq_true rfl⟩) (fun r9 e9 => ?_)
      rw [e9]
      exact W.iret (v := r1) hx hb hr (fun t ht hW => ⟨_, rfl, Option.some.inj hf, ht⟩) (fun _ h => nomatch h) dX1_lotOf_90
    · replace hf := wb_f hc hf
      refine lv_iload hx hb dX1_lotOf_69 (lv_at hl 3 rfl) ?_
      refine lv_iload_n hx hb dX1_lotOf_71 rfl (lv_at hl 2 rfl) ?_
      refine lv_iadd hx hb dX1_lotOf_72 ?_
      refine lv_iload_n hx hb dX1_lotOf_73 rfl (lv_at hl 1 rfl) ?_
      refine lv_isub hx hb dX1_lotOf_74 ?_
      refine lv_goto (tgt := 84) hx hb dX1_lotOf_75 (by decide) ?_
      refine lv_sipush (v := (360 : Int32)) hx hb dX1_lotOf_84 (by decide) ?_
      obtain ⟨r2, hr2, hf⟩ := wb_b hf
      refine vp_callSi (W.runS (As := [.int ((y62_4 + y62_3) - y62_2), .int (360 : Int32)]) (rest := []) ⟨hx, hb, hml, hown, hts⟩ (cn_J9_floorMod_7cf53 l D cB cI cZ N ((y62_4 + y62_3) - y62_2) (360 : Int32) r2 hr2) (va_cwS 2 hts gX1_lotOf_J9_floorMod_7cf53 rfl rfl rfl csJ9_floorMod_7cf53 ⟨Nat.le_of_ble_eq_true rfl, Nat.le_of_ble_eq_true rfl⟩) (wb_preS (hP.sub (ws' := ([] : va_W)) [] rfl) hK) rfl rfl hl.1 rfl (lv_room (Nat.le_of_ble_eq_true rfl)) dX1_lotOf_87 ⟨Nat.le_of_ble_eq_true rfl, Nat.le_of_ble_eq_true rfl⟩) (fun r9 e9 => ?_)
      rw [e9]
      exact W.iret (v := r2) hx hb hr (fun t ht hW => ⟨_, rfl, Option.some.inj hf, ht⟩) (fun _ h => nomatch h) dX1_lotOf_90
  refine lv_aload_n hx hb dX1_lotOf_0 rfl (lv_at hl 0 rfl) ?_
  refine lv_iload_n hx hb dX1_lotOf_1 rfl (lv_at hl 1 rfl) ?_
  refine lv_iconst (v := (0 : Int32)) hx hb dX1_lotOf_2 (by decide) ?_
  obtain ⟨r3, hr3, hf⟩ := wb_b hf
  refine vp_callSi (W.runV (As := [.int x1, .int (0 : Int32)]) (rest := []) ⟨hx, hb, hml, hown, hts⟩ (cn_X1_degreeOf l D cB cI cZ N a0 I0 M0 x1 (0 : Int32) r3 hr3) (cwV 2 hts gX1_lotOf_X1_degreeOf rfl rfl rfl cdX1_degreeOf ⟨Nat.le_of_ble_eq_true rfl, Nat.le_of_ble_eq_true rfl⟩) (wb_preV hP hK (wr_1 hK hP (q0 := 0) rfl)) rfl rfl hl.1 rfl (lv_room (Nat.le_of_ble_eq_true rfl)) dX1_lotOf_3 ⟨Nat.le_of_ble_eq_true rfl, Nat.le_of_ble_eq_true rfl⟩) (fun r9 e9 => ?_)
  rw [e9]
  refine lv_istore_n (lv' := [(2, .int r3), (0, .ref (a0 0)), (1, .int x1)]) hx hb dX1_lotOf_6 rfl hl (by decide) rfl (fun ls hl => ?_)
  refine lv_aload_n hx hb dX1_lotOf_7 rfl (lv_at hl 1 rfl) ?_
  refine lv_iload_n hx hb dX1_lotOf_8 rfl (lv_at hl 2 rfl) ?_
  refine lv_iconst (v := (1 : Int32)) hx hb dX1_lotOf_9 (by decide) ?_
  obtain ⟨r4, hr4, hf⟩ := wb_b hf
  refine vp_callSi (W.runV (As := [.int x1, .int (1 : Int32)]) (rest := []) ⟨hx, hb, hml, hown, hts⟩ (cn_X1_degreeOf l D cB cI cZ N a0 I0 M0 x1 (1 : Int32) r4 hr4) (cwV 2 hts gX1_lotOf_X1_degreeOf rfl rfl rfl cdX1_degreeOf ⟨Nat.le_of_ble_eq_true rfl, Nat.le_of_ble_eq_true rfl⟩) (wb_preV hP hK (wr_1 hK hP (q0 := 0) rfl)) rfl rfl hl.1 rfl (lv_room (Nat.le_of_ble_eq_true rfl)) dX1_lotOf_10 ⟨Nat.le_of_ble_eq_true rfl, Nat.le_of_ble_eq_true rfl⟩) (fun r9 e9 => ?_)
  rw [e9]
  refine lv_istore_n (lv' := [(3, .int r4), (2, .int r3), (0, .ref (a0 0)), (1, .int x1)]) hx hb dX1_lotOf_13 rfl hl (by decide) rfl (fun ls hl => ?_)
  refine lv_aload_n hx hb dX1_lotOf_14 rfl (lv_at hl 2 rfl) ?_
  refine lv_iload_n hx hb dX1_lotOf_15 rfl (lv_at hl 3 rfl) ?_
  refine lv_bipush (v := (7 : Int32)) hx hb dX1_lotOf_16 (by decide) ?_
  obtain ⟨r5, hr5, hf⟩ := wb_b hf
  refine vp_callSi (W.runV (As := [.int x1, .int (7 : Int32)]) (rest := []) ⟨hx, hb, hml, hown, hts⟩ (cn_X1_degreeOf l D cB cI cZ N a0 I0 M0 x1 (7 : Int32) r5 hr5) (cwV 2 hts gX1_lotOf_X1_degreeOf rfl rfl rfl cdX1_degreeOf ⟨Nat.le_of_ble_eq_true rfl, Nat.le_of_ble_eq_true rfl⟩) (wb_preV hP hK (wr_1 hK hP (q0 := 0) rfl)) rfl rfl hl.1 rfl (lv_room (Nat.le_of_ble_eq_true rfl)) dX1_lotOf_18 ⟨Nat.le_of_ble_eq_true rfl, Nat.le_of_ble_eq_true rfl⟩) (fun r9 e9 => ?_)
  rw [e9]
  refine lv_istore (lv' := [(4, .int r5), (3, .int r4), (2, .int r3), (0, .ref (a0 0)), (1, .int x1)]) hx hb dX1_lotOf_21 hl (by decide) rfl (fun ls hl => ?_)
  refine lv_iload_n hx hb dX1_lotOf_23 rfl (lv_at hl 2 rfl) ?_
  refine lv_iconst (v := (-1 : Int32)) hx hb dX1_lotOf_24 (by decide) ?_
  refine lv_icmp_eq (tgt := 39) hx hb dX1_lotOf_25 (by decide) (fun hc => ?_) (fun hc => ?_)
  · replace hf := wb_t hc hf
    refine lv_iconst (v := (-1 : Int32)) hx hb dX1_lotOf_39 (by decide) ?_
    exact W.iret (v := (-1 : Int32)) hx hb hr (fun t ht hW => ⟨_, rfl, Option.some.inj hf, ht⟩) (fun _ h => nomatch h) dX1_lotOf_40
  · replace hf := wb_f hc hf
    refine lv_iload_n hx hb dX1_lotOf_28 rfl (lv_at hl 1 rfl) ?_
    refine lv_iconst (v := (-1 : Int32)) hx hb dX1_lotOf_29 (by decide) ?_
    refine lv_icmp_eq (tgt := 39) hx hb dX1_lotOf_30 (by decide) (fun hc => ?_) (fun hc => ?_)
    · replace hf := wb_t hc hf
      refine lv_iconst (v := (-1 : Int32)) hx hb dX1_lotOf_39 (by decide) ?_
      exact W.iret (v := (-1 : Int32)) hx hb hr (fun t ht hW => ⟨_, rfl, Option.some.inj hf, ht⟩) (fun _ h => nomatch h) dX1_lotOf_40
    · replace hf := wb_f hc hf
      refine lv_iload hx hb dX1_lotOf_33 (lv_at hl 0 rfl) ?_
      refine lv_iconst (v := (-1 : Int32)) hx hb dX1_lotOf_35 (by decide) ?_
      refine lv_icmp_ne (tgt := 41) hx hb dX1_lotOf_36 (by decide) (fun hc => ?_) (fun hc => ?_)
      · replace hf := wb_f hc hf
        refine lv_iload hx hb dX1_lotOf_41 (lv_at hl 0 rfl) ?_
        refine lv_iload_n hx hb dX1_lotOf_43 rfl (lv_at hl 2 rfl) ?_
        refine lv_isub hx hb dX1_lotOf_44 ?_
        refine lv_sipush (v := (360 : Int32)) hx hb dX1_lotOf_45 (by decide) ?_
        obtain ⟨r6, hr6, hf⟩ := wb_b hf
        refine vp_callSi (W.runS (As := [.int (r5 - r3), .int (360 : Int32)]) (rest := []) ⟨hx, hb, hml, hown, hts⟩ (cn_J9_floorMod_7cf53 l D cB cI cZ N (r5 - r3) (360 : Int32) r6 hr6) (va_cwS 2 hts gX1_lotOf_J9_floorMod_7cf53 rfl rfl rfl csJ9_floorMod_7cf53 ⟨Nat.le_of_ble_eq_true rfl, Nat.le_of_ble_eq_true rfl⟩) (wb_preS (hP.sub (ws' := ([] : va_W)) [] rfl) hK) rfl rfl hl.1 rfl (lv_room (Nat.le_of_ble_eq_true rfl)) dX1_lotOf_48 ⟨Nat.le_of_ble_eq_true rfl, Nat.le_of_ble_eq_true rfl⟩) (fun r9 e9 => ?_)
        rw [e9]
        refine lv_sipush (v := (180 : Int32)) hx hb dX1_lotOf_51 (by decide) ?_
        refine lv_icmp_ge (tgt := 61) hx hb dX1_lotOf_54 (by decide) (fun hc => ?_) (fun hc => ?_)
        · replace hf := wb_t hc hf
          refine lv_iconst (v := (0 : Int32)) hx hb dX1_lotOf_61 (by decide) ?_
          exact J62 r3 r4 r5 (0 : Int32) ls (lv_sub hl [2, 1, 0] rfl) hf
        · replace hf := wb_f hc hf
          refine lv_iconst (v := (1 : Int32)) hx hb dX1_lotOf_57 (by decide) ?_
          refine lv_goto (tgt := 62) hx hb dX1_lotOf_58 (by decide) ?_
          exact J62 r3 r4 r5 (1 : Int32) ls (lv_sub hl [2, 1, 0] rfl) hf
      · replace hf := wb_t hc hf
        refine lv_iconst (v := (-1 : Int32)) hx hb dX1_lotOf_39 (by decide) ?_
        exact W.iret (v := (-1 : Int32)) hx hb hr (fun t ht hW => ⟨_, rfl, Option.some.inj hf, ht⟩) (fun _ h => nomatch h) dX1_lotOf_40
